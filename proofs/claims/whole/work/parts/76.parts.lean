/-! parts -/
theorem andn_n {a b : Nat} (ha : a < 256) (hb : b < 256) : am_and (a : Int) (am_xor (b : Int) (-1)) = ((bm (fun i => a.testBit i && !(b.testBit i)) 8 : Nat) : Int) := by
  have e0 : am_xor (b : Int) (-1) = (Int32.ofInt (b : Int) ^^^ Int32.ofInt (-1)).toInt := rfl
  have e : Int32.ofInt (a : Int) &&& Int32.ofInt (am_xor (b : Int) (-1)) = Int32.ofInt ((bm (fun i => a.testBit i && !(b.testBit i)) 8 : Nat) : Int) := by
    rw [e0, Int32.ofInt_toInt]
    apply Int32.toBitVec_inj.1
    rw [Int32.toBitVec_and, Int32.toBitVec_xor, i32_n, i32_n, i32_n]
    have e1 : (Int32.ofInt (-1)).toBitVec = BitVec.allOnes 32 := by decide
    rw [e1]
    apply BitVec.eq_of_getLsbD_eq
    intro i hi
    rw [BitVec.getLsbD_and, BitVec.getLsbD_xor, BitVec.getLsbD_ofNat, BitVec.getLsbD_ofNat, BitVec.getLsbD_ofNat, BitVec.getLsbD_allOnes, bm_bit]
    by_cases h8 : i < 8
    · simp [hi, h8]
    · have : a.testBit i = false := Nat.testBit_lt_two_pow (by have : 2 ^ 8 ≤ 2 ^ i := Nat.pow_le_pow_right (by omega) (by omega); omega)
      simp [h8, this]
  unfold am_and
  rw [e]
  exact wI_n (by have := bm_8 (p := fun i => a.testBit i && !(b.testBit i)) (n := 8) (by omega); omega)
theorem bit2_n {F H a b : Nat} (h1 : F < 256) (h2 : H < 256) (h3 : a < 32) (h4 : b < 32) : am_and (am_and (am_shr (F : Int) (a : Int)) (am_shr (H : Int) (b : Int))) 1 = if (F.testBit a && H.testBit b) = true then 1 else 0 := by
  rw [shr_n (by omega) h3, shr_n (by omega) h4]
  have q1 : F / 2 ^ a ≤ F := Nat.div_le_self _ _
  have q2 : H / 2 ^ b ≤ H := Nat.div_le_self _ _
  rw [an_n (by omega) (by omega)]
  have q3 : (F / 2 ^ a) &&& (H / 2 ^ b) ≤ F / 2 ^ a := Nat.and_le_left
  have e0 : am_and (((F / 2 ^ a) &&& (H / 2 ^ b) : Nat) : Int) 1 = (((F / 2 ^ a) &&& (H / 2 ^ b)) &&& 1 : Nat) := an_n (b := 1) (by omega) (by omega)
  have e3 : ∀ x y : Nat, ((x &&& y) &&& 1) = if (x.testBit 0 && y.testBit 0) = true then 1 else 0 := by
    intro x y
    rw [Nat.and_one_is_mod, ← Nat.testBit_and, Nat.testBit_zero]
    by_cases q : (x &&& y) % 2 = 1
    · simp [q]
    · have : (x &&& y) % 2 = 0 := by omega
      simp [this]
  rw [e0, e3, Nat.testBit_div_two_pow, Nat.testBit_div_two_pow, Nat.zero_add, Nat.zero_add]
  split <;> rfl
section
variable {d n m r : Nat} {f L z : am_F} {ρ : Int → List Int} {τ : Int → Bool} {l : Int} {Z : Int → am_F} {Q : am_V → am_F → Prop}
def mk (L : am_F) (ρ : Int → List Int) (z : am_F) (r : Nat) (t : Int) : Nat := bm (fun k => aP L ρ z t (k : Int)) r
def dfs (L : am_F) (ρ : Int → List Int) (z : am_F) (r : Nat) (s : Nat) (a b : Int) : Bool := decide (¬ ((mk L ρ z r a ^^^ mk L ρ z r b) &&& s) = 0)
def prs (L : am_F) (ρ : Int → List Int) (z : am_F) (r : Nat) (s : Nat) (a b : Int) : Bool := !(decide (z 5 a = 1) && (decide (z 1 b = 2) && !(decide (z 5 b = 1)))) || dfs L ρ z r s a b
def pts (L : am_F) (ρ : Int → List Int) (z : am_F) (n r : Nat) (s : Nat) : Bool := ag (fun a => ag (fun b => prs L ρ z r s a b) n 0) n 0
def orl (L : am_F) (ρ : Int → List Int) (z : am_F) (s : Nat) (a b : Int) : Nat → Bool
  | 0 => false
  | k + 1 => orl L ρ z s a b k || (s.testBit k && !(aP L ρ z a (k : Int) == aP L ρ z b (k : Int)))
theorem orl_iff {s : Nat} {a b : Int} : ∀ r, orl L ρ z s a b r = true ↔ ∃ k : Nat, k < r ∧ s.testBit k = true ∧ ¬ aP L ρ z a (k : Int) = aP L ρ z b (k : Int)
  | 0 => by simp [orl]
  | r + 1 => by
    rw [orl, Bool.or_eq_true, orl_iff r]
    constructor
    · rintro (⟨k, h1, h2⟩ | h)
      · exact ⟨k, by omega, h2⟩
      · simp at h
        exact ⟨r, by omega, h.1, by simp [h.2]⟩
    · rintro ⟨k, h1, h2, h3⟩
      by_cases hk : k = r
      · subst hk
        right
        simp [h2, h3]
      · exact Or.inl ⟨k, by omega, h2, h3⟩
theorem orl_dfs {s : Nat} {a b : Int} : orl L ρ z s a b r = dfs L ρ z r s a b := by
  apply Bool.eq_iff_iff.mpr
  unfold dfs mk
  rw [orl_iff, decide_eq_true_eq]
  constructor
  · rintro ⟨k, h1, h2, h3⟩ e
    have := congrArg (fun x => x.testBit k) e
    simp only [Nat.testBit_and, Nat.testBit_xor, bm_bit, h2, h1, Nat.zero_testBit] at this
    simp at this
    exact h3 this
  · intro hne
    obtain ⟨k, hk⟩ := Nat.exists_testBit_of_ne_zero hne
    simp only [Nat.testBit_and, Nat.testBit_xor, bm_bit] at hk
    by_cases hkr : k < r
    · simp [hkr] at hk
      exact ⟨k, hkr, hk.2, hk.1⟩
    · simp [hkr] at hk
theorem c_partsF {s : Nat} (h : CB f 46 l n m r L ρ z) (hx : f 40 3 = 43) (hm : ∀ t : Int, 0 ≤ t → t < n → f 43 t = (mk L ρ z r t : Int)) (hs : s < 32) : aw_cl (d + 1) 121 [(103, 40), (107, 46), (0, (s : Int))] f Q = Q (0, if pts L ρ z n r s = true then 1 else 0) f := by
  suffices key : ∀ Q : am_V → am_F → Prop, Q (0, if pts L ρ z n r s = true then 1 else 0) f → aw_cl (d + 1) 121 [(103, 40), (107, 46), (0, (s : Int))] f Q by exact aw_det (key _ ⟨rfl, rfl⟩)
  intro Q hQ
  have hn := h.2.2.2.1.1
  have hr := h.2.2.2.1.2.2.1
  have hl := h.2.1.2.1
  have hl0 : 0 ≤ l := by omega
  have e9 : f 46 9 = l := h.2.2.1.2.2.1
  have en : f l 9 = n := h.2.1.2.2.1.1
  have b1 : bm (fun t => decide (z 5 (t : Int) = 1)) n < 256 := bm_8 hn
  have b2 : bm (fun t => decide (z 1 (t : Int) = 2)) n < 256 := bm_8 hn
  have eh := andn_n b2 b1
  have eh2 : bm (fun i => (bm (fun t => decide (z 1 (t : Int) = 2)) n).testBit i && !((bm (fun t => decide (z 5 (t : Int) = 1)) n).testBit i)) 8 < 256 := bm_8 (by omega)
  have mb : ∀ t : Int, mk L ρ z r t < 32 := fun t => by
    have h1 := bm_lt (p := fun k => aP L ρ z t (k : Int)) r
    have h2 : 2 ^ r ≤ 2 ^ 5 := Nat.pow_le_pow_right (by omega) hr
    unfold mk
    omega
  have bits : ∀ a b : Nat, a < n → b < n → (am_and (am_and (am_shr (bm (fun t => decide (z 5 (t : Int) = 1)) n : Int) (a : Int)) (am_shr (bm (fun i => (bm (fun t => decide (z 1 (t : Int) = 2)) n).testBit i && !((bm (fun t => decide (z 5 (t : Int) = 1)) n).testBit i)) 8 : Int) (b : Int))) 1 = if (decide (z 5 (a : Int) = 1) && (decide (z 1 (b : Int) = 2) && !(decide (z 5 (b : Int) = 1)))) = true then 1 else 0) := by
    intro a b ha hb
    have e1 : (bm (fun t => decide (z 5 (t : Int) = 1)) n).testBit a = decide (z 5 (a : Int) = 1) := by rw [bm_bit]; simp [ha]
    have e2 : (bm (fun i => (bm (fun t => decide (z 1 (t : Int) = 2)) n).testBit i && !((bm (fun t => decide (z 5 (t : Int) = 1)) n).testBit i)) 8).testBit b = (decide (z 1 (b : Int) = 2) && !(decide (z 5 (b : Int) = 1))) := by rw [bm_bit, bm_bit, bm_bit]; simp [hb, show b < 8 by omega]
    rw [bit2_n b1 eh2 (by omega) (by omega), e1, e2]
  generalize hF : bm (fun t => decide (z 5 (t : Int) = 1)) n = F at *
  generalize hH : bm (fun i => (bm (fun t => decide (z 1 (t : Int) = 2)) n).testBit i && !(F.testBit i)) 8 = H at *
  have inner : ∀ (a : Nat), a < n → ∀ (j b : Nat), b + j = n → (ag (fun b => prs L ρ z r s a b) j b = true → aw_wp (d + 1) 121 90 [(103, 40), (107, 46), (0, (s : Int)), (0, (F : Int)), (0, (H : Int)), (0, (a : Int)), (0, (n : Int))] [] f Q) → (ag (fun b => prs L ρ z r s a b) j b = false → Q (0, 0) f) → aw_wp (d + 1) 121 34 [(103, 40), (107, 46), (0, (s : Int)), (0, (F : Int)), (0, (H : Int)), (0, (a : Int)), (0, (b : Int))] [] f Q := by
    intro a ha j
    induction j with
    | zero =>
      intro b hb h1 h2
      obtain rfl : b = n := by omega
      have := h1 rfl
      rw [r121_34]
      simpa (disch := omega) [r121_36, r121_37, r121_40, r121_43, e9, en, hl0] using this
    | succ j ih =>
      intro b hb h1 h2
      have bt := bits a b ha (by omega)
      have ma := hm a (by omega) (by omega)
      have mb' := hm b (by omega) (by omega)
      have ex : am_and (am_xor (mk L ρ z r a : Int) (mk L ρ z r b : Int)) (s : Int) = (((mk L ρ z r a ^^^ mk L ρ z r b) &&& s : Nat) : Int) := by
        have i1 := mb a
        have i2 := mb b
        rw [xo_n (by omega) (by omega), an_n (by have := Nat.xor_lt_two_pow (n := 5) i1 i2; omega) (by omega)]
      have c1 : ¬ n ≤ b := by omega
      have eag : ag (fun b => prs L ρ z r s a b) (j + 1) b = if prs L ρ z r s a b = true then ag (fun b => prs L ρ z r s a b) j ((b : Int) + 1) else false := rfl
      rw [eag] at h1 h2
      rw [r121_34]
      by_cases hc : (decide (z 5 (a : Int) = 1) && (decide (z 1 (b : Int) = 2) && !(decide (z 5 (b : Int) = 1)))) = true
      · rw [if_pos hc] at bt
        by_cases hd : ((mk L ρ z r a ^^^ mk L ρ z r b) &&& s) = 0
        · have hp : prs L ρ z r s a b = false := by unfold prs dfs; rw [hc]; simp [hd]
          rw [hp] at h2
          have := h2 rfl
          rw [hd] at ex
          simpa (disch := omega) [q121, r121_0, r121_1, r121_4, r121_5, r121_6, r121_7, r121_10, r121_11, r121_12, r121_13, r121_14, r121_16, r121_17, r121_21, r121_22, r121_25, r121_28, r121_31, r121_32, r121_36, r121_37, r121_40, r121_43, r121_46, r121_47, r121_49, r121_50, r121_52, r121_54, r121_55, r121_56, r121_57, r121_58, r121_59, r121_62, r121_63, r121_66, r121_68, r121_69, r121_70, r121_73, r121_75, r121_76, r121_77, r121_78, r121_79, r121_82, r121_83, r121_84, r121_87, r121_90, r121_93, r121_96, r121_97, cs_nil, cs_cons, lc_lt, lc_ge, lc_gt, lc_le, lc_eq, e9, en, hl0, hx, ln_43, ma, mb', bt, ex, c1, le_T, lt_T, le_F, lt_F] using this
        · have hp : prs L ρ z r s a b = true := by unfold prs dfs; rw [hc]; simp [hd]
          rw [if_pos hp] at h1 h2
          have := ih (b + 1) (by omega) h1 h2
          rw [Int.natCast_add b] at this
          have hd' : ¬ (((mk L ρ z r a ^^^ mk L ρ z r b) &&& s : Nat) : Int) = 0 := by omega
          generalize hv : (((mk L ρ z r a ^^^ mk L ρ z r b) &&& s : Nat) : Int) = v at ex hd'
          simpa (disch := omega) [q121, r121_0, r121_1, r121_4, r121_5, r121_6, r121_7, r121_10, r121_11, r121_12, r121_13, r121_14, r121_16, r121_17, r121_21, r121_22, r121_25, r121_28, r121_31, r121_32, r121_36, r121_37, r121_40, r121_43, r121_46, r121_47, r121_49, r121_50, r121_52, r121_54, r121_55, r121_56, r121_57, r121_58, r121_59, r121_62, r121_63, r121_66, r121_68, r121_69, r121_70, r121_73, r121_75, r121_76, r121_77, r121_78, r121_79, r121_82, r121_83, r121_84, r121_87, r121_90, r121_93, r121_96, r121_97, cs_nil, cs_cons, lc_lt, lc_ge, lc_gt, lc_le, lc_eq, e9, en, hl0, hx, ln_43, ma, mb', bt, ex, hd', c1, am_wid2, le_T, lt_T, le_F, lt_F] using this
      · rw [if_neg hc] at bt
        have hp : prs L ρ z r s a b = true := by unfold prs; rw [Bool.eq_false_iff.mpr hc]; rfl
        rw [if_pos hp] at h1 h2
        have := ih (b + 1) (by omega) h1 h2
        rw [Int.natCast_add b] at this
        simpa (disch := omega) [q121, r121_0, r121_1, r121_4, r121_5, r121_6, r121_7, r121_10, r121_11, r121_12, r121_13, r121_14, r121_16, r121_17, r121_21, r121_22, r121_25, r121_28, r121_31, r121_32, r121_36, r121_37, r121_40, r121_43, r121_46, r121_47, r121_49, r121_50, r121_52, r121_54, r121_55, r121_56, r121_57, r121_58, r121_59, r121_62, r121_63, r121_66, r121_68, r121_69, r121_70, r121_73, r121_75, r121_76, r121_77, r121_78, r121_79, r121_82, r121_83, r121_84, r121_87, r121_90, r121_93, r121_96, r121_97, cs_nil, cs_cons, lc_lt, lc_ge, lc_gt, lc_le, lc_eq, e9, en, hl0, bt, c1, am_wid2, le_T, lt_T, le_F, lt_F] using this
  have outer : ∀ (j a : Nat) (x : am_V), a + j = n → Q (0, if ag (fun a => ag (fun b => prs L ρ z r s a b) n 0) j a = true then 1 else 0) f → aw_wp (d + 1) 121 19 [(103, 40), (107, 46), (0, (s : Int)), (0, (F : Int)), (0, (H : Int)), (0, (a : Int)), x] [] f Q := by
    intro j
    induction j with
    | zero =>
      intro a x ha hq
      obtain ⟨tx, vx⟩ := x
      obtain rfl : a = n := by omega
      rw [r121_19]
      simpa (disch := omega) [q121, r121_0, r121_1, r121_4, r121_5, r121_6, r121_7, r121_10, r121_11, r121_12, r121_13, r121_14, r121_16, r121_17, r121_21, r121_22, r121_25, r121_28, r121_31, r121_32, r121_36, r121_37, r121_40, r121_43, r121_46, r121_47, r121_49, r121_50, r121_52, r121_54, r121_55, r121_56, r121_57, r121_58, r121_59, r121_62, r121_63, r121_66, r121_68, r121_69, r121_70, r121_73, r121_75, r121_76, r121_77, r121_78, r121_79, r121_82, r121_83, r121_84, r121_87, r121_90, r121_93, r121_96, r121_97, cs_nil, cs_cons, lc_lt, lc_ge, lc_gt, lc_le, lc_eq, e9, en, hl0, ag] using hq
    | succ j ih =>
      intro a x ha hq
      obtain ⟨tx, vx⟩ := x
      have c1 : ¬ n ≤ a := by omega
      have eag : ag (fun a => ag (fun b => prs L ρ z r s a b) n 0) (j + 1) a = if ag (fun b => prs L ρ z r s a b) n 0 = true then ag (fun a => ag (fun b => prs L ρ z r s a b) n 0) j ((a : Int) + 1) else false := rfl
      rw [eag] at hq
      have go := inner a (by omega) n 0 (by omega) (fun q => by
        have q : ag (fun b => prs L ρ z r s a b) n 0 = true := q
        rw [if_pos q] at hq
        have := ih (a + 1) (0, (n : Int)) (by omega) hq
        rw [Int.natCast_add a] at this
        simpa (disch := omega) [q121, r121_0, r121_1, r121_4, r121_5, r121_6, r121_7, r121_10, r121_11, r121_12, r121_13, r121_14, r121_16, r121_17, r121_21, r121_22, r121_25, r121_28, r121_31, r121_32, r121_36, r121_37, r121_40, r121_43, r121_46, r121_47, r121_49, r121_50, r121_52, r121_54, r121_55, r121_56, r121_57, r121_58, r121_59, r121_62, r121_63, r121_66, r121_68, r121_69, r121_70, r121_73, r121_75, r121_76, r121_77, r121_78, r121_79, r121_82, r121_83, r121_84, r121_87, r121_90, r121_93, r121_96, r121_97, cs_nil, cs_cons, lc_lt, lc_ge, lc_gt, lc_le, lc_eq, am_wid2] using this) (fun q => by
        have q : ag (fun b => prs L ρ z r s a b) n 0 = false := q
        rw [q] at hq
        simpa using hq)
      rw [r121_19]
      simpa (disch := omega) [q121, r121_0, r121_1, r121_4, r121_5, r121_6, r121_7, r121_10, r121_11, r121_12, r121_13, r121_14, r121_16, r121_17, r121_21, r121_22, r121_25, r121_28, r121_31, r121_32, r121_36, r121_37, r121_40, r121_43, r121_46, r121_47, r121_49, r121_50, r121_52, r121_54, r121_55, r121_56, r121_57, r121_58, r121_59, r121_62, r121_63, r121_66, r121_68, r121_69, r121_70, r121_73, r121_75, r121_76, r121_77, r121_78, r121_79, r121_82, r121_83, r121_84, r121_87, r121_90, r121_93, r121_96, r121_97, cs_nil, cs_cons, lc_lt, lc_ge, lc_gt, lc_le, lc_eq, e9, en, hl0, c1] using go
  have fin := outer n 0 (2, 0) (by omega) hQ
  have cf := fun (dd : Nat) (QQ : am_V → am_F → Prop) => c_forged (d := dd) (Q := QQ) h
  rw [hF] at cf
  simpa (disch := omega) [q121, r121_0, r121_1, r121_4, r121_5, r121_6, r121_7, r121_10, r121_11, r121_12, r121_13, r121_14, r121_16, r121_17, r121_21, r121_22, r121_25, r121_28, r121_31, r121_32, r121_36, r121_37, r121_40, r121_43, r121_46, r121_47, r121_49, r121_50, r121_52, r121_54, r121_55, r121_56, r121_57, r121_58, r121_59, r121_62, r121_63, r121_66, r121_68, r121_69, r121_70, r121_73, r121_75, r121_76, r121_77, r121_78, r121_79, r121_82, r121_83, r121_84, r121_87, r121_90, r121_93, r121_96, r121_97, cs_nil, cs_cons, lc_lt, lc_ge, lc_gt, lc_le, lc_eq, cf, c_areZ h, eh] using fin
theorem c_marks (h : CB f 46 l n m r L ρ z) (hx : f 40 3 = 43 ∧ f 40 0 = 36) (hQ : ∀ g, (∀ t : Int, 0 ≤ t → t < n → g 43 t = (mk L ρ z r t : Int)) → (∀ c j : Int, ¬ (c = 35 ∨ c = 43) → g c j = f c j) → aw_wp (d + 5) 120 34 [(103, 40), (107, 46), (0, (n : Int)), (2, 0)] [] g Q) : aw_cl (d + 5) 120 [(103, 40), (107, 46)] f Q := by
  have hn := h.2.2.2.1.1
  have hl := h.2.1.2.1
  have hl0 : 0 ≤ l := by omega
  have key : ∀ (j t : Nat) (g : am_F), t + j = n → (∀ u : Int, 0 ≤ u → u < t → g 43 u = (mk L ρ z r u : Int)) → (∀ c j : Int, ¬ (c = 35 ∨ c = 43) → g c j = f c j) → aw_wp (d + 5) 120 2 [(103, 40), (107, 46), (0, (t : Int)), (2, 0)] [] g Q := by
    intro j
    induction j with
    | zero =>
      intro t g h1 h2 h3
      obtain rfl : t = n := by omega
      have := hQ g h2 h3
      have e9 : g 46 9 = l := (h3 _ _ (by omega)).trans h.2.2.1.2.2.1
      have en : g l 9 = t := (h3 _ _ (by omega)).trans h.2.1.2.2.1.1
      rw [r120_2]
      simpa (disch := omega) [r120_3, r120_4, r120_7, r120_10, e9, en, hl0] using this
    | succ j ih =>
      intro t g h1 h2 h3
      have e9 : g 46 9 = l := (h3 _ _ (by omega)).trans h.2.2.1.2.2.1
      have en : g l 9 = n := (h3 _ _ (by omega)).trans h.2.1.2.2.1.1
      have e3 : g 40 3 = 43 := (h3 _ _ (by omega)).trans hx.1
      have e0 : g 40 0 = 36 := (h3 _ _ (by omega)).trans hx.2
      have c1 : ¬ n ≤ t := by omega
      rw [r120_2]
      simp (disch := omega) [q120, r120_0, r120_1, r120_3, r120_4, r120_7, r120_10, r120_13, r120_14, r120_17, r120_18, r120_19, r120_22, r120_23, r120_24, r120_27, r120_28, r120_31, r120_34, r120_35, r120_36, r120_37, r120_39, r120_40, r120_41, r120_44, r120_47, r120_48, r120_51, r120_52, r120_53, r120_54, r120_57, r120_60, r120_61, r120_62, r120_65, r120_66, r120_69, r120_70, r120_73, r120_76, r120_77, r120_78, r120_81, r120_84, r120_85, cs_nil, cs_cons, lc_lt, lc_ge, lc_gt, lc_le, lc_eq, e9, en, e3, e0, hl0, c1]
      refine c_passed (CB_fr h (fun c j hc => h3 _ _ (by omega))) (t := (t : Int)) (by omega) (by omega) ?_
      intro g1 hg
      have ih' := ih (t + 1) (am_up g1 43 t (mk L ρ z r t : Int)) (by omega) (fun u a b => by
        by_cases hu : u = t
        · subst hu; exact am_ue
        · rw [am_un (by omega), hg _ _ (by omega)]; exact h2 u a (by omega)) (fun c j hc => by rw [am_un (by omega), hg _ _ (by omega), h3 _ _ hc])
      rw [Int.natCast_add t] at ih'
      have em : (bm (fun k => aP L ρ z (t : Int) (k : Int)) r : Int) = (mk L ρ z r t : Int) := rfl
      rw [em]
      simpa (disch := omega) [q120, r120_0, r120_1, r120_3, r120_4, r120_7, r120_10, r120_13, r120_14, r120_17, r120_18, r120_19, r120_22, r120_23, r120_24, r120_27, r120_28, r120_31, r120_34, r120_35, r120_36, r120_37, r120_39, r120_40, r120_41, r120_44, r120_47, r120_48, r120_51, r120_52, r120_53, r120_54, r120_57, r120_60, r120_61, r120_62, r120_65, r120_66, r120_69, r120_70, r120_73, r120_76, r120_77, r120_78, r120_81, r120_84, r120_85, cs_nil, cs_cons, lc_lt, lc_ge, lc_gt, lc_le, lc_eq, ln_43, am_wid2, am_fitE, le_T, lt_T] using ih'
  have := key n 0 f (by omega) (fun u a b => by omega) (fun _ _ _ => rfl)
  simpa [q120, r120_0, r120_1, r120_3, r120_4, r120_7, r120_10, r120_13, r120_14, r120_17, r120_18, r120_19, r120_22, r120_23, r120_24, r120_27, r120_28, r120_31, r120_34, r120_35, r120_36, r120_37, r120_39, r120_40, r120_41, r120_44, r120_47, r120_48, r120_51, r120_52, r120_53, r120_54, r120_57, r120_60, r120_61, r120_62, r120_65, r120_66, r120_69, r120_70, r120_73, r120_76, r120_77, r120_78, r120_81, r120_84, r120_85, cs_nil, cs_cons, lc_lt, lc_ge, lc_gt, lc_le, lc_eq] using this
def fws (P : Nat → Bool) : Nat → Nat → Int → Int
  | 0, _, b => b
  | j + 1, s, b => fws P j (s + 1) (if P s = true ∧ (b = -1 ∨ pop s < pop b.toNat) then (s : Int) else b)
theorem c_fewest (h : CB f 46 l n m r L ρ z) (hx : f 40 3 = 43 ∧ f 40 0 = 36) (hQ : ∀ g, (∀ c j : Int, ¬ (c = 35 ∨ c = 43) → g c j = f c j) → Q (0, fws (pts L ρ z n r) (2 ^ r) 0 (-1)) g) : aw_cl (d + 5) 120 [(103, 40), (107, 46)] f Q := by
  have hr := h.2.2.2.1.2.2.1
  have hl := h.2.1.2.1
  have hl0 : 0 ≤ l := by omega
  have h32 : 2 ^ r ≤ 2 ^ 5 := Nat.pow_le_pow_right (by omega) hr
  refine c_marks h hx ?_
  intro g h2 h3
  have hC : CB g 46 l n m r L ρ z := CB_fr h (fun c j hc => h3 _ _ (by omega))
  have e9 : g 46 9 = l := hC.2.2.1.2.2.1
  have er : g l 11 = r := hC.2.1.2.2.1.2.2.1
  have e3 : g 40 3 = 43 := (h3 _ _ (by omega)).trans hx.1
  have esh := shl_n (t := r) (by omega)
  have key : ∀ (j s : Nat) (b : Int), s + j = 2 ^ r → (b = -1 ∨ (0 ≤ b ∧ b < s)) → Q (0, fws (pts L ρ z n r) j s b) g → aw_wp (d + 5) 120 38 [(103, 40), (107, 46), (0, b), (0, (s : Int))] [] g Q := by
    intro j
    induction j with
    | zero =>
      intro s b h1 hb hq
      have c1 : ((2 ^ r : Nat) : Int) ≤ s := by omega
      generalize ((2 ^ r : Nat) : Int) = W at esh c1
      rw [r120_38]
      simpa (disch := omega) [q120, r120_0, r120_1, r120_3, r120_4, r120_7, r120_10, r120_13, r120_14, r120_17, r120_18, r120_19, r120_22, r120_23, r120_24, r120_27, r120_28, r120_31, r120_34, r120_35, r120_36, r120_37, r120_39, r120_40, r120_41, r120_44, r120_47, r120_48, r120_51, r120_52, r120_53, r120_54, r120_57, r120_60, r120_61, r120_62, r120_65, r120_66, r120_69, r120_70, r120_73, r120_76, r120_77, r120_78, r120_81, r120_84, r120_85, cs_nil, cs_cons, lc_lt, lc_ge, lc_gt, lc_le, lc_eq, e9, er, hl0, esh, c1, fws] using hq
    | succ j ih =>
      intro s b h1 hb hq
      have c1 : ¬ ((2 ^ r : Nat) : Int) ≤ s := by omega
      have hpf := fun (dd : Nat) (QQ : am_V → am_F → Prop) => c_partsF (d := dd) (Q := QQ) (s := s) hC e3 h2 (by omega)
      have cs := fun (dd : Nat) (QQ : am_V → am_F → Prop) => c_bits (d := dd) (f := g) (Q := QQ) (s := s) (by omega)
      have efw : fws (pts L ρ z n r) (j + 1) s b = fws (pts L ρ z n r) j (s + 1) (if pts L ρ z n r s = true ∧ (b = -1 ∨ pop s < pop b.toNat) then (s : Int) else b) := rfl
      rw [efw] at hq
      have step : ∀ b', b' = (if pts L ρ z n r s = true ∧ (b = -1 ∨ pop s < pop b.toNat) then (s : Int) else b) → aw_wp (d + 5) 120 38 [(103, 40), (107, 46), (0, b'), (0, (s : Int) + 1)] [] g Q := by
        intro b' hb'
        have := ih (s + 1) b' (by omega) (by rw [hb']; split <;> omega) (by rw [hb']; exact hq)
        rw [Int.natCast_add s] at this
        exact this
      generalize ((2 ^ r : Nat) : Int) = W at esh c1
      rw [r120_38]
      by_cases hp : pts L ρ z n r s = true
      · by_cases hb1 : b = -1
        · have := step s (by rw [if_pos ⟨hp, Or.inl hb1⟩])
          simpa (disch := omega) [q120, r120_0, r120_1, r120_3, r120_4, r120_7, r120_10, r120_13, r120_14, r120_17, r120_18, r120_19, r120_22, r120_23, r120_24, r120_27, r120_28, r120_31, r120_34, r120_35, r120_36, r120_37, r120_39, r120_40, r120_41, r120_44, r120_47, r120_48, r120_51, r120_52, r120_53, r120_54, r120_57, r120_60, r120_61, r120_62, r120_65, r120_66, r120_69, r120_70, r120_73, r120_76, r120_77, r120_78, r120_81, r120_84, r120_85, cs_nil, cs_cons, lc_lt, lc_ge, lc_gt, lc_le, lc_eq, e9, er, hl0, esh, c1, hpf, hp, hb1, am_wid2] using this
        · obtain ⟨b', rfl⟩ : ∃ b' : Nat, b = b' := ⟨b.toNat, by omega⟩
          have cb := fun (dd : Nat) (QQ : am_V → am_F → Prop) => c_bits (d := dd) (f := g) (Q := QQ) (s := b') (by omega)
          have hb1' : ¬ (b' : Int) = -1 := by omega
          by_cases hlt : pop s < pop b'
          · have := step s (by rw [if_pos ⟨hp, Or.inr (by rw [Int.toNat_natCast]; exact hlt)⟩])
            have hlt' : (pop s : Int) < pop b' := by omega
            simpa (disch := omega) [q120, r120_0, r120_1, r120_3, r120_4, r120_7, r120_10, r120_13, r120_14, r120_17, r120_18, r120_19, r120_22, r120_23, r120_24, r120_27, r120_28, r120_31, r120_34, r120_35, r120_36, r120_37, r120_39, r120_40, r120_41, r120_44, r120_47, r120_48, r120_51, r120_52, r120_53, r120_54, r120_57, r120_60, r120_61, r120_62, r120_65, r120_66, r120_69, r120_70, r120_73, r120_76, r120_77, r120_78, r120_81, r120_84, r120_85, cs_nil, cs_cons, lc_lt, lc_ge, lc_gt, lc_le, lc_eq, e9, er, hl0, esh, c1, hpf, hp, hb1', cs, cb, am_wid2, le_T, lt_T, le_F, lt_F] using this
          · have := step b' (by rw [if_neg (fun q => q.2.elim hb1' (fun q => hlt (by rwa [Int.toNat_natCast] at q)))])
            have hlt' : ¬ (pop s : Int) < pop b' := by omega
            simpa (disch := omega) [q120, r120_0, r120_1, r120_3, r120_4, r120_7, r120_10, r120_13, r120_14, r120_17, r120_18, r120_19, r120_22, r120_23, r120_24, r120_27, r120_28, r120_31, r120_34, r120_35, r120_36, r120_37, r120_39, r120_40, r120_41, r120_44, r120_47, r120_48, r120_51, r120_52, r120_53, r120_54, r120_57, r120_60, r120_61, r120_62, r120_65, r120_66, r120_69, r120_70, r120_73, r120_76, r120_77, r120_78, r120_81, r120_84, r120_85, cs_nil, cs_cons, lc_lt, lc_ge, lc_gt, lc_le, lc_eq, e9, er, hl0, esh, c1, hpf, hp, hb1', cs, cb, am_wid2, le_T, lt_T, le_F, lt_F] using this
      · have := step b (by rw [if_neg (fun q => hp q.1)])
        simpa (disch := omega) [q120, r120_0, r120_1, r120_3, r120_4, r120_7, r120_10, r120_13, r120_14, r120_17, r120_18, r120_19, r120_22, r120_23, r120_24, r120_27, r120_28, r120_31, r120_34, r120_35, r120_36, r120_37, r120_39, r120_40, r120_41, r120_44, r120_47, r120_48, r120_51, r120_52, r120_53, r120_54, r120_57, r120_60, r120_61, r120_62, r120_65, r120_66, r120_69, r120_70, r120_73, r120_76, r120_77, r120_78, r120_81, r120_84, r120_85, cs_nil, cs_cons, lc_lt, lc_ge, lc_gt, lc_le, lc_eq, e9, er, hl0, esh, c1, hpf, hp, am_wid2] using this
  have := key (2 ^ r) 0 (-1) (by omega) (Or.inl rfl) (hQ g h3)
  simpa [q120, r120_0, r120_1, r120_3, r120_4, r120_7, r120_10, r120_13, r120_14, r120_17, r120_18, r120_19, r120_22, r120_23, r120_24, r120_27, r120_28, r120_31, r120_34, r120_35, r120_36, r120_37, r120_39, r120_40, r120_41, r120_44, r120_47, r120_48, r120_51, r120_52, r120_53, r120_54, r120_57, r120_60, r120_61, r120_62, r120_65, r120_66, r120_69, r120_70, r120_73, r120_76, r120_77, r120_78, r120_81, r120_84, r120_85, cs_nil, cs_cons, lc_lt, lc_ge, lc_gt, lc_le, lc_eq] using this
end
