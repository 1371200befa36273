/-! the codes of tests and sums: what they mean -/
def clp (v : Int) : Int := if 1000000 < v then 1000000 else if v < -1000000 then -1000000 else v
def fl (a b : Int) : Int := if b = 0 then 0 else if 0 < b then a / b else (-a) / (-b)
def jn (c a b : Int) : Int := if c = 1 then clp (a + b) else if c = 2 then clp (a - b) else if c = 3 then clp (a * b) else if c = 4 then fl a b else if c = 5 then (if a < b then a else b) else if c = 6 then (if b < a then a else b) else if c = 7 then (if a < b then 1 else 0) else if c = 8 then (if b < a then 1 else 0) else if c = 9 then (if a = b then 1 else 0) else if c = 10 then a * b else (if 0 < a + b then 1 else 0)
/-- one code over a stack of numbers, the top first -/
def e1 (pt og : Int → Int) (c : Int) (s : List Int) : List Int :=
  if 1000 ≤ c then (c - 1000) :: s
  else if 60 ≤ c then (match s with | x :: r => og x :: r | [] => [])
  else if 40 ≤ c then pt (c - 40) :: s
  else if c = 13 then 1 :: s
  else if c = 12 then (match s with | x :: r => (1 - x) :: r | [] => [])
  else (match s with | b :: a :: r => jn c a b :: r | _ => [])
def er (pt og : Int → Int) : List Int → List Int → List Int
  | [], s => s
  | c :: cs, s => er pt og cs (e1 pt og c s)
def vl (pt og : Int → Int) (cs : List Int) : Int := (er pt og cs []).headD 0
/-- one code over a stack of kinds: true a test, false a sum -/
def t1 (sk q : Bool) (c : Int) (ts : List Bool) : Option (List Bool) :=
  if 1000 ≤ c then (if c ≤ 10999 ∧ ts.length < 100 then some (false :: ts) else none)
  else if 60 ≤ c then (match ts with | false :: r => (if c = 60 ∧ q = true then some (false :: r) else none) | _ => none)
  else if 40 ≤ c then (if c ≤ 49 ∧ (c = 47 → sk = true) ∧ ts.length < 100 then some (false :: ts) else none)
  else if c = 13 then (if ts.length < 100 then some (true :: ts) else none)
  else if c = 12 then (match ts with | true :: r => some (true :: r) | _ => none)
  else if c = 10 ∨ c = 11 then (match ts with | true :: true :: r => some (true :: r) | _ => none)
  else if 7 ≤ c ∧ c ≤ 9 then (match ts with | false :: false :: r => some (true :: r) | _ => none)
  else if 1 ≤ c ∧ c ≤ 6 then (match ts with | false :: false :: r => some (false :: r) | _ => none)
  else none
def tr (sk q : Bool) : List Int → List Bool → Option (List Bool)
  | [], ts => some ts
  | c :: cs, ts => (t1 sk q c ts).bind (tr sk q cs)
def okv (t : Bool) (v : Int) : Prop := if t = true then v = 0 ∨ v = 1 else -1000000 ≤ v ∧ v ≤ 1000000
def okS : List Bool → List Int → Prop
  | [], [] => True
  | t :: ts, v :: s => okv t v ∧ okS ts s
  | _, _ => False
theorem okS_len : ∀ (ts : List Bool) (s : List Int), okS ts s → s.length = ts.length
  | [], [], _ => rfl
  | t :: ts, v :: s, h => by
    have := okS_len ts s h.2
    simp [this]
theorem clp_b (v : Int) : -1000000 ≤ clp v ∧ clp v ≤ 1000000 := by unfold clp; split <;> (try split) <;> omega
theorem dv_b {a b : Int} (hb : 0 < b) (h1 : -1000000 ≤ a) (h2 : a ≤ 1000000) : -1000000 ≤ a / b ∧ a / b ≤ 1000000 := by
  constructor
  · apply Int.le_ediv_of_mul_le hb; omega
  · apply Int.ediv_le_of_le_mul hb; omega
theorem fl_b {a b : Int} (h1 : -1000000 ≤ a) (h2 : a ≤ 1000000) : -1000000 ≤ fl a b ∧ fl a b ≤ 1000000 := by
  unfold fl
  split
  · omega
  · split
    · exact dv_b (by omega) h1 h2
    · exact dv_b (by omega) (by omega) (by omega)
theorem jn_b {c a b : Int} (h1 : -1000000 ≤ a) (h2 : a ≤ 1000000) (h3 : -1000000 ≤ b) (h4 : b ≤ 1000000) (hc : 1 ≤ c ∧ c ≤ 6) : -1000000 ≤ jn c a b ∧ jn c a b ≤ 1000000 := by
  unfold jn
  split
  · exact clp_b _
  split
  · exact clp_b _
  split
  · exact clp_b _
  split
  · exact fl_b h1 h2
  split
  · split <;> omega
  split
  · split <;> omega
  omega
theorem jn_t {c a b : Int} (hc : 7 ≤ c ∧ c ≤ 9) : jn c a b = 0 ∨ jn c a b = 1 := by
  unfold jn
  repeat (first | omega | split)
theorem jn_l {c a b : Int} (hc : c = 10 ∨ c = 11) (ha : a = 0 ∨ a = 1) (hb : b = 0 ∨ b = 1) : jn c a b = 0 ∨ jn c a b = 1 := by
  rcases ha with rfl | rfl <;> rcases hb with rfl | rfl <;> rcases hc with rfl | rfl <;> decide
/-- a typed code keeps a stack in its kinds -/
theorem e1_ok {sk q : Bool} {pt og : Int → Int} (hp : ∀ k, 0 ≤ k → k ≤ 9 → (k = 7 → sk = true) → -1000000 ≤ pt k ∧ pt k ≤ 1000000) (ho : ∀ x, -1000000 ≤ og x ∧ og x ≤ 1000000) {c : Int} {ts us : List Bool} {s : List Int} (ht : t1 sk q c ts = some us) (hs : okS ts s) : okS us (e1 pt og c s) := by
  unfold t1 at ht
  unfold e1
  by_cases c1 : 1000 ≤ c
  · rw [if_pos c1] at ht ⊢
    split at ht
    · cases ht
      refine ⟨?_, hs⟩
      simp [okv]; omega
    · cases ht
  rw [if_neg c1] at ht ⊢
  by_cases c2 : 60 ≤ c
  · rw [if_pos c2] at ht ⊢
    match ts, s, hs, ht with
    | false :: r, x :: s, hs, ht =>
      dsimp only at ht ⊢
      split at ht
      · cases ht
        exact ⟨by simpa [okv] using ho x, hs.2⟩
      · cases ht
    | true :: r, x :: s, hs, ht => cases ht
    | [], [], hs, ht => cases ht
  rw [if_neg c2] at ht ⊢
  by_cases c3 : 40 ≤ c
  · rw [if_pos c3] at ht ⊢
    split at ht
    · rename_i hh
      cases ht
      exact ⟨by simpa [okv] using hp (c - 40) (by omega) (by omega) (fun h => hh.2.1 (by omega)), hs⟩
    · cases ht
  rw [if_neg c3] at ht ⊢
  by_cases c4 : c = 13
  · rw [if_pos c4] at ht ⊢
    split at ht
    · cases ht
      exact ⟨by simp [okv], hs⟩
    · cases ht
  rw [if_neg c4] at ht ⊢
  by_cases c5 : c = 12
  · rw [if_pos c5] at ht ⊢
    match ts, s, hs, ht with
    | true :: r, x :: s, hs, ht =>
      cases ht
      refine ⟨?_, hs.2⟩
      have := hs.1
      simp [okv] at this ⊢
      omega
    | false :: r, x :: s, hs, ht => cases ht
    | [], [], hs, ht => cases ht
  rw [if_neg c5] at ht ⊢
  by_cases c6 : c = 10 ∨ c = 11
  · rw [if_pos c6] at ht
    match ts, s, hs, ht with
    | true :: true :: r, b :: a :: s, hs, ht =>
      cases ht
      refine ⟨?_, hs.2.2⟩
      have h1 := hs.1
      have h2 := hs.2.1
      simp [okv] at h1 h2
      simpa [okv] using jn_l c6 h2 h1
    | true :: false :: r, b :: a :: s, hs, ht => cases ht
    | false :: _, b :: _, hs, ht => cases ht
    | [true], [_], hs, ht => cases ht
    | [], [], hs, ht => cases ht
  rw [if_neg c6] at ht
  by_cases c7 : 7 ≤ c ∧ c ≤ 9
  · rw [if_pos c7] at ht
    match ts, s, hs, ht with
    | false :: false :: r, b :: a :: s, hs, ht =>
      cases ht
      exact ⟨by simpa [okv] using jn_t c7, hs.2.2⟩
    | false :: true :: r, b :: a :: s, hs, ht => cases ht
    | true :: _, b :: _, hs, ht => cases ht
    | [false], [_], hs, ht => cases ht
    | [], [], hs, ht => cases ht
  rw [if_neg c7] at ht
  by_cases c8 : 1 ≤ c ∧ c ≤ 6
  · rw [if_pos c8] at ht
    match ts, s, hs, ht with
    | false :: false :: r, b :: a :: s, hs, ht =>
      cases ht
      refine ⟨?_, hs.2.2⟩
      have h1 := hs.1
      have h2 := hs.2.1
      simp [okv] at h1 h2
      simpa [okv] using jn_b h2.1 h2.2 h1.1 h1.2 c8
    | false :: true :: r, b :: a :: s, hs, ht => cases ht
    | true :: _, b :: _, hs, ht => cases ht
    | [false], [_], hs, ht => cases ht
    | [], [], hs, ht => cases ht
  rw [if_neg c8] at ht
  cases ht
theorem er_ok {sk q : Bool} {pt og : Int → Int} (hp : ∀ k, 0 ≤ k → k ≤ 9 → (k = 7 → sk = true) → -1000000 ≤ pt k ∧ pt k ≤ 1000000) (ho : ∀ x, -1000000 ≤ og x ∧ og x ≤ 1000000) : ∀ (cs : List Int) (ts us : List Bool) (s : List Int), tr sk q cs ts = some us → okS ts s → okS us (er pt og cs s)
  | [], ts, us, s, ht, hs => by cases ht; exact hs
  | c :: cs, ts, us, s, ht, hs => by
    unfold tr at ht
    cases h1 : t1 sk q c ts with
    | none => rw [h1] at ht; cases ht
    | some vs =>
      rw [h1] at ht
      exact er_ok hp ho cs vs us _ ht (e1_ok hp ho h1 hs)
/-- a row of memory that holds a stack -/
def pl (f : am_F) (b : Int) : List Int → Prop
  | [] => True
  | v :: s => f b (s.length : Int) = v ∧ pl f b s
theorem pl_fr {f g : am_F} {b : Int} : ∀ (s : List Int), (∀ j : Int, 0 ≤ j → j < s.length → g b j = f b j) → pl f b s → pl g b s
  | [], _, _ => trivial
  | v :: s, h, hp => by
    refine ⟨?_, pl_fr s (fun j h0 h1 => h j h0 (by simp; omega)) hp.2⟩
    rw [h _ (by omega) (by simp; omega)]
    exact hp.1
/-- codes along a row -/
def al (f : am_F) (b : Int) (g : Int → Int) : Int → List Int → Prop
  | _, [] => True
  | k, c :: cs => f b k = g c ∧ al f b g (k + 1) cs
theorem al_fr {f h : am_F} {b : Int} {g : Int → Int} : ∀ (cs : List Int) (k : Int), (∀ j : Int, k ≤ j → j < k + cs.length → h b j = f b j) → al f b g k cs → al h b g k cs
  | [], _, _, _ => trivial
  | c :: cs, k, hh, hp => by
    refine ⟨?_, al_fr cs (k + 1) (fun j h0 h1 => hh j (by omega) (by simp; omega)) hp.2⟩
    rw [hh k (by omega) (by simp; omega)]
    exact hp.1
