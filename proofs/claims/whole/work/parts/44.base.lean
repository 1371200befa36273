/-! reading behind a write; bits; sets of bits; counts -/
theorem am_ue {f : am_F} {a k v : Int} : am_up f a k v a k = v := by simp [am_up]
theorem am_un {f : am_F} {a k v b j : Int} (h : ¬ (b = a ∧ j = k)) : am_up f a k v b j = f b j := if_neg h
theorem am_ur {f : am_F} {a k v b : Int} (h : ¬ b = a) : am_up f a k v b = f b := by funext j; simp [am_up, h]
theorem am_ui {f : am_F} {a k : Int} : am_up f a k (f a k) = f := by
  funext b j
  unfold am_up
  split
  · rename_i h; rw [h.1, h.2]
  · rfl
theorem am_uu {f : am_F} {a k v w : Int} : am_up (am_up f a k v) a k w = am_up f a k w := by
  funext b j
  unfold am_up
  split <;> rfl
theorem aw_imp {d mi : Nat} {as : List am_V} {f : am_F} {Q R : am_V → am_F → Prop} (h : aw_cl d mi as f Q) (hq : ∀ v f1, Q v f1 → R v f1) : aw_cl d mi as f R := by
  obtain ⟨n, v, f1, h1, h2⟩ := h
  exact ⟨n, v, f1, h1, hq v f1 h2⟩
theorem aw_imw {d mi pc : Nat} {ls st : List am_V} {f : am_F} {Q R : am_V → am_F → Prop} (h : aw_wp d mi pc ls st f Q) (hq : ∀ v f1, Q v f1 → R v f1) : aw_wp d mi pc ls st f R := by
  obtain ⟨n, v, f1, h1, h2⟩ := h
  exact ⟨n, v, f1, h1, hq v f1 h2⟩
theorem wI_n {n : Nat} (h : n < 2147483648) : am_wI (n : Int) = n := am_wid2 (by omega) (by omega)
theorem i32_n (n : Nat) : (Int32.ofInt (n : Int)).toBitVec = BitVec.ofNat 32 n := BitVec.ofInt_natCast 32 n
theorem an_n {a b : Nat} (ha : a < 2147483648) (hb : b < 2147483648) : am_and a b = ((a &&& b : Nat) : Int) := by
  have e : Int32.ofInt (a : Int) &&& Int32.ofInt (b : Int) = Int32.ofInt ((a &&& b : Nat) : Int) := by
    apply Int32.toBitVec_inj.1
    rw [Int32.toBitVec_and, i32_n, i32_n, i32_n, BitVec.ofNat_and]
  have hl : a &&& b ≤ a := Nat.and_le_left
  unfold am_and
  rw [e]
  exact wI_n (by omega)
theorem or_n {a b : Nat} (ha : a < 2147483648) (hb : b < 2147483648) : am_or a b = ((a ||| b : Nat) : Int) := by
  have e : Int32.ofInt (a : Int) ||| Int32.ofInt (b : Int) = Int32.ofInt ((a ||| b : Nat) : Int) := by
    apply Int32.toBitVec_inj.1
    rw [Int32.toBitVec_or, i32_n, i32_n, i32_n, BitVec.ofNat_or]
  have hl : a ||| b < 2 ^ 31 := Nat.or_lt_two_pow ha hb
  unfold am_or
  rw [e]
  exact wI_n hl
theorem xo_n {a b : Nat} (ha : a < 2147483648) (hb : b < 2147483648) : am_xor a b = ((a ^^^ b : Nat) : Int) := by
  have e : Int32.ofInt (a : Int) ^^^ Int32.ofInt (b : Int) = Int32.ofInt ((a ^^^ b : Nat) : Int) := by
    apply Int32.toBitVec_inj.1
    rw [Int32.toBitVec_xor, i32_n, i32_n, i32_n, BitVec.ofNat_xor]
  have hl : a ^^^ b < 2 ^ 31 := Nat.xor_lt_two_pow ha hb
  unfold am_xor
  rw [e]
  exact wI_n hl
theorem sh_l : ∀ n : Fin 32, ((Int32.ofInt (n.val : Int) &&& 31).toBitVec.smod 32).toNat = n.val := by decide +kernel
theorem shr_i {x : Int} {t : Nat} (h0 : -2147483648 ≤ x) (h1 : x < 2147483648) (ht : t < 32) : am_shr x t = x / 2 ^ t := by
  unfold am_shr
  show (Int32.ofInt x >>> (Int32.ofInt (t : Int) &&& 31)).toBitVec.toInt = _
  rw [Int32.toBitVec_shiftRight]
  show ((Int32.ofInt x).toBitVec.sshiftRight ((Int32.ofInt (t : Int) &&& 31).toBitVec.smod 32).toNat).toInt = _
  rw [sh_l ⟨t, ht⟩, BitVec.toInt_sshiftRight]
  have : (Int32.ofInt x).toBitVec.toInt = x := am_wid2 h0 h1
  rw [this]
  exact Int.shiftRight_eq_div_pow x t
theorem shr_n {a t : Nat} (h1 : a < 2147483648) (ht : t < 32) : am_shr (a : Int) (t : Int) = ((a / 2 ^ t : Nat) : Int) := by
  rw [shr_i (by omega) (by omega) ht]
  norm_cast
theorem shl_1 : ∀ t : Fin 31, am_shl 1 (t.val : Int) = ((2 ^ t.val : Nat) : Int) := by decide +kernel
theorem shl_n {t : Nat} (h : t < 31) : am_shl 1 (t : Int) = ((2 ^ t : Nat) : Int) := shl_1 ⟨t, h⟩
theorem bit_n {a t : Nat} (h1 : a < 2147483648) (ht : t < 32) : am_and (am_shr (a : Int) (t : Int)) 1 = if a.testBit t then 1 else 0 := by
  rw [shr_n h1 ht]
  have h2 : a / 2 ^ t ≤ a := Nat.div_le_self _ _
  rw [show (1 : Int) = ((1 : Nat) : Int) from rfl, an_n (by omega) (by omega), Nat.and_one_is_mod, Nat.testBit_eq_decide_div_mod_eq]
  by_cases h : a / 2 ^ t % 2 = 1
  · simp [h]
  · have : a / 2 ^ t % 2 = 0 := by omega
    simp [this]
/-- the set of those below n -/
def bm (p : Nat → Bool) : Nat → Nat
  | 0 => 0
  | n + 1 => bm p n + if p n then 2 ^ n else 0
theorem bm_lt {p : Nat → Bool} : ∀ n, bm p n < 2 ^ n
  | 0 => by simp [bm]
  | n + 1 => by
    have := bm_lt (p := p) n
    rw [bm, Nat.pow_succ]
    split <;> omega
theorem bm_or {p : Nat → Bool} {n : Nat} : bm p n ||| 2 ^ n = bm p n + 2 ^ n := by
  have := Nat.two_pow_add_eq_or_of_lt (bm_lt (p := p) n) 1
  rw [Nat.mul_one] at this
  rw [Nat.or_comm, ← this, Nat.add_comm]
theorem bm_bit {p : Nat → Bool} : ∀ n i, (bm p n).testBit i = (decide (i < n) && p i)
  | 0, i => by simp [bm]
  | n + 1, i => by
    have ih := bm_bit (p := p) n i
    rw [bm]
    by_cases hp : p n = true
    · rw [if_pos hp, ← bm_or, Nat.testBit_or, ih, Nat.testBit_two_pow]
      by_cases h : n = i
      · subst h; simp [hp]
      · have : (i < n + 1) ↔ i < n := by omega
        simp [h, this]
    · rw [if_neg hp, Nat.add_zero, ih]
      by_cases h : n = i
      · subst h; simp at hp; simp [hp]
      · have : (i < n + 1) ↔ i < n := by omega
        simp [this]
theorem bm_ext {p q : Nat → Bool} : ∀ n, (∀ i, i < n → p i = q i) → bm p n = bm q n
  | 0, _ => rfl
  | n + 1, h => by rw [bm, bm, bm_ext n (fun i hi => h i (by omega)), h n (by omega)]
theorem bm_31 {p : Nat → Bool} {n : Nat} (h : n ≤ 31) : bm p n < 2147483648 := by
  have h1 := bm_lt (p := p) n
  have h2 : 2 ^ n ≤ 2 ^ 31 := Nat.pow_le_pow_right (by omega) h
  omega
theorem bm_8 {p : Nat → Bool} {n : Nat} (h : n ≤ 8) : bm p n < 256 := by
  have h1 := bm_lt (p := p) n
  have h2 : 2 ^ n ≤ 2 ^ 8 := Nat.pow_le_pow_right (by omega) h
  omega
theorem bm_set {p : Nat → Bool} {n : Nat} (h : n ≤ 30) : am_or (bm p n : Int) (am_shl 1 (n : Int)) = ((bm p n + 2 ^ n : Nat) : Int) := by
  have h2 : 2 ^ n ≤ 2 ^ 30 := Nat.pow_le_pow_right (by omega) h
  rw [shl_n (by omega), or_n (bm_31 (by omega)) (by omega), bm_or]
theorem bm_or0 {p : Nat → Bool} {n : Nat} (h : n ≤ 30) : am_or (bm p n : Int) 0 = (bm p n : Int) := by
  rw [show (0 : Int) = ((0 : Nat) : Int) from rfl, or_n (bm_31 (by omega)) (by omega), Nat.or_zero]
theorem bm_tst {p : Nat → Bool} {n t : Nat} (h : n ≤ 31) (ht : t < n) : am_and (am_shr (bm p n : Int) (t : Int)) 1 = if p t then 1 else 0 := by
  rw [bit_n (bm_31 h) (by omega), bm_bit]
  simp [ht]
/-- how many below n -/
def ct (p : Nat → Bool) : Nat → Nat
  | 0 => 0
  | n + 1 => ct p n + if p n then 1 else 0
theorem ct_le {p : Nat → Bool} : ∀ n, ct p n ≤ n
  | 0 => Nat.le_refl 0
  | n + 1 => by
    have := ct_le (p := p) n
    rw [ct]
    split <;> omega
theorem ct_ext {p q : Nat → Bool} : ∀ n, (∀ i, i < n → p i = q i) → ct p n = ct q n
  | 0, _ => rfl
  | n + 1, h => by rw [ct, ct, ct_ext n (fun i hi => h i (by omega)), h n (by omega)]
theorem ct_cut {p : Nat → Bool} {n : Nat} : ∀ m, n ≤ m → ct (fun i => decide (i < n) && p i) m = ct p n
  | 0, h => by obtain rfl : n = 0 := by omega
               rfl
  | m + 1, h => by
    by_cases hm : n = m + 1
    · subst hm
      exact ct_ext _ (fun i hi => by simp [hi])
    · rw [ct, ct_cut m (by omega)]
      have : ¬ m < n := by omega
      simp [this]
def pop (s : Nat) : Nat := ct (fun i => s.testBit i) 8
theorem pop_bm {p : Nat → Bool} {n : Nat} (h : n ≤ 8) : pop (bm p n) = ct p n := by
  unfold pop
  rw [ct_ext 8 (q := fun i => decide (i < n) && p i) (fun i _ => bm_bit n i)]
  exact ct_cut 8 h
theorem pop_le {s : Nat} : pop s ≤ 8 := ct_le 8
/-- a run has one end -/
theorem aw_det {d mi : Nat} {as : List am_V} {f f0 : am_F} {v0 : am_V} (h : aw_cl d mi as f (fun v f1 => v = v0 ∧ f1 = f0)) {Q : am_V → am_F → Prop} : aw_cl d mi as f Q = Q v0 f0 := by
  obtain ⟨n, v, f1, h1, rfl, rfl⟩ := h
  apply propext
  constructor
  · rintro ⟨m, w, g, h2, hq⟩
    have e1 := aw_mono n d mi _ _ m h1
    have e2 := aw_mono m d mi _ _ n h2
    rw [Nat.add_comm m n, e1] at e2
    cases e2
    exact hq
  · intro hq
    exact ⟨n, v, f1, h1, hq⟩
