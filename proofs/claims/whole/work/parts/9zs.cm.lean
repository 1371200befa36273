/-! a machine for the constructors whose memory is a list of writes -/
def cn_fN {α : Type} (n : Nat) (k : Nat → α) : α := match n with | 0 => k 0 | Nat.succ m => k (Nat.succ m)
theorem cn_fN_e {α : Type} (n : Nat) (k : Nat → α) : cn_fN n k = k n := by cases n <;> rfl
def cn_fI {α : Type} (x : Int) (k : Int → α) : α := match x with | .ofNat n => cn_fN n fun m => k (.ofNat m) | .negSucc n => cn_fN n fun m => k (.negSucc m)
theorem cn_fI_e {α : Type} (x : Int) (k : Int → α) : cn_fI x k = k x := by cases x <;> simp only [cn_fI, cn_fN_e]
def cn_fV {α : Type} (l : List am_V) (k : List am_V → α) : α := match l with
  | [] => k []
  | v :: r => cn_fN v.1 fun t => cn_fI v.2 fun x => cn_fV r fun r' => k ((t, x) :: r')
theorem cn_fV_e {α : Type} (l : List am_V) : ∀ k : List am_V → α, cn_fV l k = k l := by
  induction l with
  | nil => intro k; rfl
  | cons v r ih => intro k; simp only [cn_fV, cn_fN_e, cn_fI_e, ih]
def cn_fH {α : Type} (l : am_H) (k : am_H → α) : α := match l with
  | [] => k []
  | v :: r => cn_fN v.1 fun t => cn_fN v.2 fun x => cn_fH r fun r' => k ((t, x) :: r')
theorem cn_fH_e {α : Type} (l : am_H) : ∀ k : am_H → α, cn_fH l k = k l := by
  induction l with
  | nil => intro k; rfl
  | cons v r ih => intro k; simp only [cn_fH, cn_fN_e, ih]
theorem cn_bf {a b : Nat} (h : ¬ a = b) : Nat.beq a b = false := by
  cases e : Nat.beq a b with
  | false => rfl
  | true => exact absurd (Nat.eq_of_beq_eq_true e) h
abbrev cn_N : Type := Nat × Nat × Nat × Int
abbrev cn_S : Type := am_H × List cn_N
abbrev cn_K : Type := Nat × List am_V × List am_V × cn_S
abbrev cn_O : Type := cn_K ⊕ ((am_V × cn_S) ⊕ (Nat × List am_V × cn_K))
def cn_d (l : List cn_N) : am_F := match l with
  | [] => fun _ _ => 0
  | q :: r => if q.1 = 0 then am_up (cn_d r) (q.2.1 : Int) (q.2.2.1 : Int) q.2.2.2 else fun a k => if a = (q.2.1 : Int) then am_dfl (am_et q.2.2.1 k.toNat) else cn_d r a k
def cn_s (s : cn_S) : am_S := (s.1, cn_d s.2)
def cn_k (c : cn_K) : am_K := (c.1, c.2.1, c.2.2.1, cn_s c.2.2.2)
def cn_o (o : cn_O) : am_O := match o with
  | .inl c => .inl (cn_k c)
  | .inr (.inl r) => .inr (.inl (r.1, cn_s r.2))
  | .inr (.inr r) => .inr (.inr (r.1, r.2.1, cn_k r.2.2))
def cn_nx (pc : Nat) (ls st : List am_V) (s : cn_S) : Option cn_O := some (.inl (pc, ls, st, s))
def cn_new {α : Type} (s : cn_S) (c n : Nat) (k : cn_S → α) : α := cn_fN s.1.length fun a => cn_fN c fun c => cn_fN n fun n => cn_fH (s.1 ++ [(c, n)]) fun h => k (h, (1, a, c, 0) :: s.2)
def cn_up {α : Type} (s : cn_S) (a j v : Int) (k : cn_S → α) : α := cn_fN a.toNat fun a => cn_fN j.toNat fun j => cn_fI v fun v => k (s.1, (0, a, j, v) :: s.2)
def cn_st (i : am_I) (ls st : List am_V) (s : cn_S) : Option cn_O := match i with
  | (op, n, xs) => match op with
    | 0 => cn_nx n ls ((0, xs.getD 0 0) :: st) s
    | 1 => cn_nx n ls ((1, xs.getD 0 0) :: st) s
    | 2 => match ls[(xs.getD 1 0).toNat]? with
      | some v => if am_kd (xs.getD 0 0).toNat v = true then cn_nx n ls (v :: st) s else none
      | none => none
    | 3 => am_pv st fun v r => if am_kd (xs.getD 0 0).toNat v = true ∧ (xs.getD 1 0).toNat + (if v.1 = 1 then 1 else 0) < ls.length then (if v.1 = 1 then cn_nx n (am_set2 (xs.getD 1 0).toNat v ls) r s else cn_nx n (am_set1 (xs.getD 1 0).toNat v ls) r s) else none
    | 4 => match ls[(xs.getD 0 0).toNat]? with
      | some (0, v) => cn_nx n (am_set1 (xs.getD 0 0).toNat (0, am_wI (v + xs.getD 1 0)) ls) st s
      | _ => none
    | 9 => am_pv st fun v r => if v.1 = 1 then none else match (xs.getD 0 0).toNat with
      | 0 => cn_nx n ls r s
      | 1 => cn_nx n ls (v :: v :: r) s
      | _ => none
    | 10 => cn_nx (xs.getD 0 0).toNat ls st s
    | 11 => am_p0 st fun b r => am_p0 r fun a r => if am_cmp (xs.getD 0 0).toNat a b = true then cn_nx (xs.getD 1 0).toNat ls r s else cn_nx n ls r s
    | 20 => am_pr (xs.getD 0 0).toNat st fun a r => cn_nx n ls (((xs.getD 2 0).toNat, cn_d s.2 a (xs.getD 1 0)) :: r) s
    | 21 => am_pv st fun v r => am_pr (xs.getD 0 0).toNat r fun a r => if (v.1 = (xs.getD 2 0).toNat ∧ (xs.getD 3 0 = 1 → v.2 = 0 ∨ v.2 = 1) ∧ (20 ≤ v.1 → 0 ≤ v.2)) ∧ 0 ≤ xs.getD 1 0 then cn_up s a (xs.getD 1 0) v.2 fun s => cn_nx n ls r s else none
    | 23 => am_pv st fun v r => am_p0 r fun j r => am_pr (xs.getD 0 0).toNat r fun a r => if v.1 = (xs.getD 1 0).toNat ∧ am_fitE (xs.getD 0 0).toNat v.2 = true ∧ (20 ≤ v.1 → 0 ≤ v.2) ∧ 0 ≤ j ∧ j < am_len s.1 a then cn_up s a j v.2 fun s => cn_nx n ls r s else none
    | 25 => cn_new s (xs.getD 0 0).toNat (xs.getD 1 0).toNat fun s' => cn_nx n ls (((xs.getD 0 0).toNat, (s.1.length : Int)) :: st) s'
    | 26 => am_p0 st fun k r => if 0 ≤ k ∧ k ≤ 10000 then cn_new s (xs.getD 0 0).toNat k.toNat fun s' => cn_nx n ls (((xs.getD 0 0).toNat, (s.1.length : Int)) :: r) s' else none
    | 27 => am_p0 st fun k r => if 0 ≤ k ∧ k ≤ 10000 then cn_new s 24 k.toNat fun s' => cn_nx n ls ((24, (s.1.length : Int)) :: r) s' else none
    | 28 => if (am_pt (xs.getD 1 0).toNat).length ≤ st.length ∧ ((st.take (am_pt (xs.getD 1 0).toNat).length).reverse.map Prod.fst) = am_pt (xs.getD 1 0).toNat ∧ (xs.getD 0 0 = 0 ∨ 0 ≤ ((st.take (am_pt (xs.getD 1 0).toNat).length).reverse.getD 0 (0, -1)).2) ∧ am_cs (st.drop (am_pt (xs.getD 1 0).toNat).length) ≤ 8 then some (.inr (.inr ((xs.getD 1 0).toNat, (st.take (am_pt (xs.getD 1 0).toNat).length).reverse, n, ls, st.drop (am_pt (xs.getD 1 0).toNat).length, s))) else none
    | 29 => match (xs.getD 0 0).toNat, st with
      | 3, [] => some (.inr (.inl ((3, 0), s)))
      | _, _ => none
    | 34 => am_pv st fun v r => if 20 ≤ v.1 ∧ ¬ v.1 = 30 ∧ 0 ≤ v.2 ∧ am_cs r ≤ 8 then cn_nx n ls r s else none
    | _ => none
def cn_lk (pc : Nat) (l : List (Nat × am_I)) : Option am_I := match l with
  | [] => none
  | q :: r => match Nat.beq pc q.1 with | true => some q.2 | false => cn_lk pc r
theorem cn_lk_e (pc : Nat) (l : List (Nat × am_I)) : cn_lk pc l = l.lookup pc := by
  induction l with
  | nil => rfl
  | cons q r ih =>
    unfold cn_lk
    rw [show (q :: r).lookup pc = (match pc == q.1 with | true => some q.2 | false => r.lookup pc) from rfl, ih]
    by_cases e : pc = q.1
    · rw [show (pc == q.1) = true from by simpa using e, e, Nat.beq_refl]
    · rw [show (pc == q.1) = false from by simpa using e, cn_bf e]
def cn_stp (mi : Nat) (c : cn_K) : Option cn_O := cn_fN c.1 fun pc => cn_fV c.2.1 fun ls => cn_fV c.2.2.1 fun st => match cn_lk pc ((am_C[mi]?).getD []) with
  | some i => cn_st i ls st c.2.2.2
  | none => none
def cn_run : Nat → Nat → Nat → cn_K → Option (am_V × cn_S)
  | 0, _, _, _ => none
  | n + 1, d, mi, c => match cn_stp mi c with
    | none => none
    | some (.inl c') => cn_run n d mi c'
    | some (.inr (.inl r)) => some r
    | some (.inr (.inr (m', as, pc, ls, st, s))) => match d with
      | 0 => none
      | d' + 1 => match cn_run n d' m' (0, am_en (am_ml m') as, [], s) with
        | none => none
        | some (v, s') => cn_run n (d' + 1) mi (pc, ls, if v.1 = 3 then st else v :: st, s')
/-! it does what the abstract machine does -/
theorem cn_p0 {α β : Type} {st : List am_V} {k : Int → List am_V → Option α} {k' : Int → List am_V → Option β} {o : α} {o' : β} (h : am_p0 st k = some o) (g : ∀ v r, k v r = some o → k' v r = some o') : am_p0 st k' = some o' := by
  match st, h with
  | (0, v) :: r, h => exact g v r h
theorem cn_pv {α β : Type} {st : List am_V} {k : am_V → List am_V → Option α} {k' : am_V → List am_V → Option β} {o : α} {o' : β} (h : am_pv st k = some o) (g : ∀ v r, k v r = some o → k' v r = some o') : am_pv st k' = some o' := by
  match st, h with
  | v :: r, h => exact g v r h
theorem cn_pr {α β : Type} {t : Nat} {st : List am_V} {k : Int → List am_V → Option α} {k' : Int → List am_V → Option β} {o : α} {o' : β} (h : am_pr t st k = some o) (g : ∀ v r, 0 ≤ v → k v r = some o → k' v r = some o') : am_pr t st k' = some o' := by
  match st, h with
  | (u, a) :: r, h =>
    change (if u = t ∧ 0 ≤ a then k a r else none) = some o at h
    change (if u = t ∧ 0 ≤ a then k' a r else none) = some o'
    by_cases hc : u = t ∧ 0 ≤ a
    · rw [if_pos hc] at h ⊢; exact g a r hc.2 h
    · rw [if_neg hc] at h; exact absurd h (by simp)
theorem cn_if {α β : Type} {p : Prop} [Decidable p] {x : Option α} {y : Option β} {o : α} {o' : β} (h : (if p then x else none) = some o) (g : p → x = some o → y = some o') : (if p then y else none) = some o' := by
  by_cases hc : p
  · rw [if_pos hc] at h ⊢; exact g hc h
  · rw [if_neg hc] at h; exact absurd h (by simp)
theorem cn_nx_e {n : Nat} {ls st : List am_V} {s : cn_S} {o : cn_O} (h : cn_nx n ls st s = some o) : am_nx n ls st (cn_s s) = some (cn_o o) := by
  cases h; rfl
theorem cn_up_e (s : cn_S) {a j v : Int} (ha : 0 ≤ a) (hj : 0 ≤ j) {o : cn_O} {n : Nat} {ls st : List am_V} (h : (cn_up s a j v fun s => cn_nx n ls st s) = some o) : am_nx n ls st ((cn_s s).1, am_up (cn_s s).2 a j v) = some (cn_o o) := by
  simp only [cn_up, cn_fN_e, cn_fI_e] at h
  have e := cn_nx_e h
  rw [← e]
  simp only [cn_s, cn_d, if_true, Int.toNat_of_nonneg ha, Int.toNat_of_nonneg hj]
theorem cn_new_e (s : cn_S) (c k : Nat) {o : cn_O} {n : Nat} {ls st : List am_V} (h : (cn_new s c k fun s' => cn_nx n ls st s') = some o) : am_nx n ls st (am_new (cn_s s) c k) = some (cn_o o) := by
  simp only [cn_new, cn_fN_e, cn_fH_e] at h
  have e := cn_nx_e h
  rw [← e]
  rfl
theorem cn_st_e {i : am_I} {ls st : List am_V} {s : cn_S} {o : cn_O} (h : cn_st i ls st s = some o) : am_st i ls st (cn_s s) = some (cn_o o) := by
  obtain ⟨op, n, xs⟩ := i
  unfold cn_st at h
  simp only at h
  split at h
  · exact cn_nx_e h
  · exact cn_nx_e h
  · change (match ls[(xs.getD 1 0).toNat]? with | some v => if am_kd (xs.getD 0 0).toNat v = true then am_nx n ls (v :: st) (cn_s s) else none | none => none) = some (cn_o o)
    revert h
    cases ls[(xs.getD 1 0).toNat]? with
    | none => intro h; cases h
    | some v => intro h; exact cn_if h fun _ h => cn_nx_e h
  · refine cn_pv h fun v r h => cn_if h fun _ h => ?_
    by_cases hv : v.1 = 1
    · rw [if_pos hv] at h ⊢; exact cn_nx_e h
    · rw [if_neg hv] at h ⊢; exact cn_nx_e h
  · change (match ls[(xs.getD 0 0).toNat]? with | some (0, v) => am_nx n (am_set1 (xs.getD 0 0).toNat (0, am_wI (v + xs.getD 1 0)) ls) st (cn_s s) | _ => none) = some (cn_o o)
    revert h
    cases ls[(xs.getD 0 0).toNat]? with
    | none => intro h; cases h
    | some v =>
      obtain ⟨t, v⟩ := v
      cases t with
      | zero => intro h; exact cn_nx_e h
      | succ t => intro h; cases h
  · refine cn_pv h fun v r h => ?_
    by_cases hv : v.1 = 1
    · rw [if_pos hv] at h; cases h
    · rw [if_neg hv] at h ⊢
      revert h
      match (xs.getD 0 0).toNat with
      | 0 => intro h; exact cn_nx_e h
      | 1 => intro h; exact cn_nx_e h
      | k + 2 => intro h; cases h
  · exact cn_nx_e h
  · refine cn_p0 h fun b r h => cn_p0 h fun a r h => ?_
    by_cases hv : am_cmp (xs.getD 0 0).toNat a b = true
    · rw [if_pos hv] at h ⊢; exact cn_nx_e h
    · rw [if_neg hv] at h ⊢; exact cn_nx_e h
  · exact cn_pr h fun a r _ h => cn_nx_e h
  · refine cn_pv h fun v r h => cn_pr h fun a r ha h => ?_
    by_cases hc : (v.1 = (xs.getD 2 0).toNat ∧ (xs.getD 3 0 = 1 → v.2 = 0 ∨ v.2 = 1) ∧ (20 ≤ v.1 → 0 ≤ v.2)) ∧ 0 ≤ xs.getD 1 0
    · rw [if_pos hc] at h
      rw [if_pos hc.1]
      exact cn_up_e s ha hc.2 h
    · rw [if_neg hc] at h; cases h
  · exact cn_pv h fun v r h => cn_p0 h fun j r h => cn_pr h fun a r ha h => cn_if h fun hc h => cn_up_e s ha hc.2.2.2.1 h
  · exact cn_new_e s _ _ h
  · exact cn_p0 h fun k r h => cn_if h fun _ h => cn_new_e s _ _ h
  · exact cn_p0 h fun k r h => cn_if h fun _ h => cn_new_e s _ _ h
  · exact cn_if h fun _ h => by cases h; rfl
  · split at h
    · rename_i hx
      cases h
      change (match (xs.getD 0 0).toNat, ([] : List am_V) with
        | 0, [(0, v)] => some (.inr (.inl ((0, v), cn_s s)))
        | 4, [(0, v)] => if v = 0 ∨ v = 1 then some (.inr (.inl ((0, v), cn_s s))) else none
        | 1, [(1, v)] => some (.inr (.inl ((1, v), cn_s s)))
        | 3, [] => some (.inr (.inl ((3, 0), cn_s s)))
        | _, _ => none) = some (cn_o _)
      rw [hx]
      rfl
    · cases h
  · exact cn_pv h fun v r h => cn_if h fun _ h => cn_nx_e h
  · cases h
theorem cn_stp_e {mi : Nat} {c : cn_K} {o : cn_O} (h : cn_stp mi c = some o) : am_stp mi (cn_k c) = some (cn_o o) := by
  simp only [cn_stp, cn_fN_e, cn_fV_e, cn_lk_e] at h
  unfold am_stp am_ins
  change (match ((am_C[mi]?).getD []).lookup c.1 with | some i => am_st i c.2.1 c.2.2.1 (cn_s c.2.2.2) | none => none) = _
  revert h
  cases ((am_C[mi]?).getD []).lookup c.1 with
  | none => intro h; cases h
  | some i => intro h; exact cn_st_e h
theorem cn_run_e : ∀ (n d mi : Nat) (c : cn_K) (v : am_V) (s : cn_S), cn_run n d mi c = some (v, s) → am_run n d mi (cn_k c) = some (v, cn_s s) := by
  intro n
  induction n with
  | zero => intro d mi c v s h; cases h
  | succ n ih =>
    intro d mi c v s h
    unfold cn_run at h
    unfold am_run
    cases ho : cn_stp mi c with
    | none => rw [ho] at h; cases h
    | some o =>
      rw [ho] at h
      rw [cn_stp_e ho]
      match o, h with
      | .inl c', h => exact ih d mi c' v s h
      | .inr (.inl r), h => cases h; rfl
      | .inr (.inr (m', as, pc, ls, st, s1)), h =>
        cases d with
        | zero => cases h
        | succ d' =>
          change (match am_run n d' m' (cn_k (0, am_en (am_ml m') as, [], s1)) with | none => none | some (v, s') => am_run n (d' + 1) mi (pc, ls, if v.1 = 3 then st else v :: st, s')) = _
          cases hr : cn_run n d' m' (0, am_en (am_ml m') as, [], s1) with
          | none => simp only [hr] at h; cases h
          | some q =>
            obtain ⟨w, s2⟩ := q
            simp only [hr] at h
            rw [ih d' m' _ w s2 hr]
            exact ih (d' + 1) mi _ v s h
/-! its cells, quickly -/
def cn_q (l : List cn_N) (b j : Nat) : Int := match l with
  | [] => 0
  | (t, a, k, v) :: r => match Nat.beq b a with
    | true => (match Nat.beq t 0 with
      | true => (match Nat.beq j k with | true => v | false => cn_q r b j)
      | false => am_dfl (am_et k j))
    | false => cn_q r b j
theorem cn_q_e (l : List cn_N) (b j : Nat) : cn_q l b j = cn_d l (b : Int) (j : Int) := by
  induction l with
  | nil => rfl
  | cons q r ih =>
    obtain ⟨t, a, k, v⟩ := q
    unfold cn_q cn_d
    simp only
    by_cases hb : b = a
    · subst hb
      rw [Nat.beq_refl]
      by_cases ht : t = 0
      · subst ht
        rw [if_pos rfl]
        unfold am_up
        by_cases hj : j = k
        · subst hj
          rw [if_pos ⟨rfl, rfl⟩]
          simp
        · rw [if_neg (by omega), show Nat.beq j k = false from cn_bf hj]
          simpa using ih
      · rw [if_neg ht, show Nat.beq t 0 = false from cn_bf ht]
        simp
    · rw [show Nat.beq b a = false from cn_bf hb]
      by_cases ht : t = 0
      · subst ht
        rw [if_pos rfl]
        unfold am_up
        rw [if_neg (by omega)]
        exact ih
      · rw [if_neg ht, if_neg (by omega)]
        exact ih
def cn_f (l : List cn_N) : am_F := fun a j => match a, j with
  | .ofNat b, .ofNat i => cn_q l b i
  | _, _ => cn_d l a j
theorem cn_f_e (l : List cn_N) : cn_f l = cn_d l := by
  funext a j
  cases a with
  | ofNat b => cases j with
    | ofNat i => exact cn_q_e l b i
    | negSucc i => rfl
  | negSucc b => rfl
/-- a row that was never written holds 0 -/
def cn_r (l : List cn_N) (b : Nat) : Bool := match l with
  | [] => false
  | (t, a, k, _) :: r => match Nat.beq b a with
    | true => !(Nat.beq t 0) && Nat.beq k 20
    | false => cn_r r b
theorem cn_r_e (l : List cn_N) (b : Nat) (h : cn_r l b = true) (j : Int) : cn_d l (b : Int) j = 0 := by
  induction l with
  | nil => rfl
  | cons q r ih =>
    obtain ⟨t, a, k, v⟩ := q
    unfold cn_r at h
    unfold cn_d
    by_cases hb : b = a
    · subst hb
      rw [Nat.beq_refl] at h
      simp only [Bool.and_eq_true, Bool.not_eq_true'] at h
      have ht : ¬ t = 0 := fun e => by subst e; exact absurd h.1 (by simp)
      have hk : k = 20 := Nat.eq_of_beq_eq_true h.2
      subst hk
      simp only [if_neg ht, if_true]
      rfl
    · rw [show Nat.beq b a = false from cn_bf hb] at h
      by_cases ht : t = 0
      · subst ht
        simp only [if_true]
        unfold am_up
        rw [if_neg (by omega)]
        exact ih h
      · simp only [if_neg ht]
        rw [if_neg (by omega)]
        exact ih h
/-! equal lists, quickly -/
def cn_eH (l m : am_H) : Bool := match l, m with
  | [], [] => true
  | a :: r, b :: s => Nat.beq a.1 b.1 && Nat.beq a.2 b.2 && cn_eH r s
  | _, _ => false
theorem cn_eH_e : ∀ l m : am_H, cn_eH l m = true → l = m := by
  intro l
  induction l with
  | nil => intro m h; cases m with
    | nil => rfl
    | cons b s => cases h
  | cons a r ih => intro m h; cases m with
    | nil => cases h
    | cons b s =>
      unfold cn_eH at h
      simp only [Bool.and_eq_true] at h
      obtain ⟨⟨h1, h2⟩, h3⟩ := h
      rw [ih s h3, show a = b from Prod.ext (Nat.eq_of_beq_eq_true h1) (Nat.eq_of_beq_eq_true h2)]
def cn_eM (l m : List cn_N) : Bool := match l, m with
  | [], [] => true
  | a :: r, b :: s => Nat.beq a.1 b.1 && Nat.beq a.2.1 b.2.1 && Nat.beq a.2.2.1 b.2.2.1 && decide (a.2.2.2 = b.2.2.2) && cn_eM r s
  | _, _ => false
theorem cn_eM_e : ∀ l m : List cn_N, cn_eM l m = true → l = m := by
  intro l
  induction l with
  | nil => intro m h; cases m with
    | nil => rfl
    | cons b s => cases h
  | cons a r ih => intro m h; cases m with
    | nil => cases h
    | cons b s =>
      unfold cn_eM at h
      simp only [Bool.and_eq_true, decide_eq_true_eq] at h
      obtain ⟨⟨⟨⟨h1, h2⟩, h3⟩, h4⟩, h5⟩ := h
      rw [ih s h5, show a = b from Prod.ext (Nat.eq_of_beq_eq_true h1) (Prod.ext (Nat.eq_of_beq_eq_true h2) (Prod.ext (Nat.eq_of_beq_eq_true h3) h4))]
def cn_D (x : Option (am_V × cn_S)) (h : am_H) (m : List cn_N) : Bool := match x with
  | some z => Nat.beq z.1.1 3 && decide (z.1.2 = 0) && cn_eH z.2.1 h && cn_eM z.2.2 m
  | none => false
theorem cn_D_e {x : Option (am_V × cn_S)} {h : am_H} {m : List cn_N} (e : cn_D x h m = true) : x = some ((3, 0), h, m) := by
  cases x with
  | none => cases e
  | some z =>
    unfold cn_D at e
    simp only [Bool.and_eq_true, decide_eq_true_eq] at e
    obtain ⟨⟨⟨e1, e2⟩, e3⟩, e4⟩ := e
    rw [show z = ((3, 0), h, m) from Prod.ext (Prod.ext (Nat.eq_of_beq_eq_true e1) e2) (Prod.ext (cn_eH_e _ _ e3) (cn_eM_e _ _ e4))]
/-! a method that goes straight on -/
def cn_sl (l : List (Nat × am_I)) (c : cn_K) : Option (am_V × cn_S) := match l with
  | [] => none
  | q :: r => match Nat.beq c.1 q.1 with
    | true => (cn_fV c.2.1 fun ls => cn_fV c.2.2.1 fun st => match cn_st q.2 ls st c.2.2.2 with
      | some (.inl c') => cn_sl r c'
      | some (.inr (.inl v)) => some v
      | _ => none)
    | false => none
def cn_so (b : Nat) (l : List (Nat × am_I)) : Bool := match l with
  | [] => true
  | q :: r => Nat.ble b q.1 && cn_so (Nat.succ q.1) r
theorem cn_lkP (k : Nat) (i : am_I) (r : List (Nat × am_I)) : ∀ P : List (Nat × am_I), (∀ p ∈ P, p.1 < k) → (P ++ (k, i) :: r).lookup k = some i := by
  intro P
  induction P with
  | nil => intro _; simp [List.lookup]
  | cons p P ih =>
    intro h
    have hp : ¬ k = p.1 := by have := h p (by simp); omega
    rw [show (p :: P ++ (k, i) :: r).lookup k = (match k == p.1 with | true => some p.2 | false => (P ++ (k, i) :: r).lookup k) from rfl, show (k == p.1) = false from by simpa using hp]
    exact ih fun q hq => h q (by simp [hq])
theorem cn_sl_e (d mi : Nat) : ∀ (l P : List (Nat × am_I)) (b : Nat) (c : cn_K) (v : am_V) (s : cn_S), (am_C[mi]?).getD [] = P ++ l → (∀ p ∈ P, p.1 < b) → cn_so b l = true → cn_sl l c = some (v, s) → am_run l.length d mi (cn_k c) = some (v, cn_s s) := by
  intro l
  induction l with
  | nil => intro P b c v s _ _ _ h; cases h
  | cons q r ih =>
    intro P b c v s hC hP hs h
    unfold cn_so at hs
    simp only [Bool.and_eq_true] at hs
    have hb : b ≤ q.1 := Nat.le_of_ble_eq_true hs.1
    unfold cn_sl at h
    cases he : Nat.beq c.1 q.1 with
    | false => rw [he] at h; cases h
    | true =>
      rw [he] at h
      simp only [cn_fV_e] at h
      have hq : c.1 = q.1 := Nat.eq_of_beq_eq_true he
      have hl : am_ins mi c.1 = some q.2 := by
        unfold am_ins
        rw [hC, hq]
        exact cn_lkP q.1 q.2 r P fun p hp => Nat.lt_of_lt_of_le (hP p hp) hb
      cases ho : cn_st q.2 c.2.1 c.2.2.1 c.2.2.2 with
      | none => rw [ho] at h; cases h
      | some o =>
        rw [ho] at h
        have e : am_stp mi (cn_k c) = some (cn_o o) := by
          unfold am_stp
          rw [show (cn_k c).1 = c.1 from rfl, hl]
          exact cn_st_e ho
        rw [show (q :: r).length = r.length + 1 from rfl]
        unfold am_run
        rw [e]
        match o, h with
        | .inl c', h => exact ih (P ++ [q]) (Nat.succ q.1) c' v s (by rw [hC]; simp) (by
            intro p hp
            simp only [List.mem_append, List.mem_singleton] at hp
            rcases hp with hp | hp
            · exact Nat.lt_succ_of_le (Nat.le_of_lt (Nat.lt_of_lt_of_le (hP p hp) hb))
            · subst hp; exact Nat.lt_succ_self _) hs.2 h
        | .inr (.inl v'), h => cases h; rfl
        | .inr (.inr v'), h => cases h
