/-! words, numbers and signs of a text -/
def srt (b : Int) : Int := if b = 10 ∨ b = 32 then 0 else if 97 ≤ b ∧ b ≤ 122 then 1 else if 48 ≤ b ∧ b ≤ 57 then 2 else 3
def eoF (B : Int → Int) (s : Int) : Nat → Int → Int
  | 0, p => p
  | j + 1, p => if srt (B p) = s then eoF B s j (p + 1) else p
def eo (B : Int → Int) (N s p : Int) : Int := eoF B s (N - p).toNat p
theorem eoF_b {B : Int → Int} {s : Int} : ∀ (j : Nat) (p : Int), p ≤ eoF B s j p ∧ eoF B s j p ≤ p + j ∧ (∀ q, p ≤ q → q < eoF B s j p → srt (B q) = s) ∧ (eoF B s j p < p + j → ¬ srt (B (eoF B s j p)) = s)
  | 0, p => ⟨by rw [eoF]; omega, by rw [eoF]; omega, fun q a b => by rw [eoF] at b; omega, fun h => by rw [eoF] at h; omega⟩
  | j + 1, p => by
    unfold eoF
    split
    · rename_i hp
      have ih := eoF_b (B := B) (s := s) j (p + 1)
      refine ⟨by omega, by omega, fun q a b => ?_, fun h => ih.2.2.2 (by omega)⟩
      by_cases hq : q = p
      · rw [hq]; exact hp
      · exact ih.2.2.1 q (by omega) b
    · rename_i hp
      exact ⟨by omega, by omega, fun q a b => by omega, fun _ => hp⟩
theorem eo_b {B : Int → Int} {N s p : Int} (h : p ≤ N) : p ≤ eo B N s p ∧ eo B N s p ≤ N ∧ (∀ q, p ≤ q → q < eo B N s p → srt (B q) = s) ∧ (eo B N s p < N → ¬ srt (B (eo B N s p)) = s) := by
  have := eoF_b (B := B) (s := s) (N - p).toNat p
  unfold eo
  refine ⟨this.1, by omega, this.2.2.1, fun q => this.2.2.2 (by omega)⟩
theorem eo_1 {B : Int → Int} {N s p : Int} (h : p < N) (hs : srt (B p) = s) : eo B N s p = eo B N s (p + 1) := by
  unfold eo
  rw [show (N - p).toNat = (N - (p + 1)).toNat + 1 by omega, eoF, if_pos hs]
theorem eo_0 {B : Int → Int} {N s p : Int} (hs : ¬ srt (B p) = s) : eo B N s p = p := by
  unfold eo
  cases h : (N - p).toNat with
  | zero => rw [eoF]
  | succ j => rw [eoF, if_neg hs]
theorem eo_N {B : Int → Int} {N s p : Int} (h : N ≤ p) : eo B N s p = p := by
  unfold eo
  rw [show (N - p).toNat = 0 by omega, eoF]
/-- does the stretch from s to e read as that word -/
def mtF (B : Int → Int) : List Int → Int → Bool
  | [], _ => true
  | c :: w, q => decide (B q = c) && mtF B w (q + 1)
def mt (B : Int → Int) (s e : Int) (w : List Int) : Bool := decide (s + w.length = e) && mtF B w s
def fdW (B : Int → Int) (s e : Int) : List (List Int) → Int → Int
  | [], _ => -1
  | w :: ws, k => if mt B s e w = true then k else fdW B s e ws (k + 1)
def WL : List (List Int) := [[116, 104, 105, 110, 103], [119, 111, 114, 116, 104], [117, 115, 101], [102, 114, 97, 105, 108], [109, 101, 110, 100, 101, 114], [115, 107, 105, 108, 108], [104, 111, 117, 114, 115], [116, 114, 105, 97, 108], [105, 115], [115, 116, 97, 110, 100, 115], [102, 97, 108, 108, 115], [116, 97, 107, 101, 115], [102, 105, 110, 101], [102, 105, 114, 115, 116], [99, 97, 116], [98, 114, 101, 97, 107, 115], [109, 101, 110, 100, 115], [100, 97, 121], [103, 108, 117, 101], [110, 117, 109, 98, 101, 114], [102, 111, 114, 103, 101, 100], [108, 97, 115, 116], [111, 114], [97, 110, 100], [110, 111, 116], [97, 108, 108], [109, 105, 110], [109, 97, 120], [111, 102, 116, 101, 110], [116, 111, 116, 97, 108], [109, 111, 115, 116], [108, 101, 97, 115, 116]]
def nvF (B : Int → Int) (s e : Int) : Nat → Int → Int → Int
  | 0, _, v => v
  | j + 1, q, v => if q < e ∧ q < s + 4 then nvF B s e j (q + 1) (10 * v + B q - 48) else v
def tS (B : Int → Int) (N p : Int) : Int := eo B N 0 p
def wn (s : Int) : Prop := s = 1 ∨ s = 2
def tq (B : Int → Int) (N p : Int) : Bool := decide (0 < tS B N p) && (decide (tS B N p = p) && (decide (srt (B (tS B N p)) = 1 ∨ srt (B (tS B N p)) = 2) && decide (srt (B (tS B N p - 1)) = 1 ∨ srt (B (tS B N p - 1)) = 2)))
def tK (B : Int → Int) (N p : Int) : Int := if N ≤ tS B N p then 0 else if tq B N p = true then 4 else srt (B (tS B N p))
def tE (B : Int → Int) (N p : Int) : Int := if N ≤ tS B N p then tS B N p else if srt (B (tS B N p)) = 1 ∨ srt (B (tS B N p)) = 2 then eo B N (srt (B (tS B N p))) (tS B N p) else tS B N p + 1
def tW (B : Int → Int) (N p : Int) : Int := if tK B N p = 1 then fdW B (tS B N p) (tE B N p) WL 0 else -1
def tV (B : Int → Int) (N p : Int) : Int := if tK B N p = 0 ∨ tK B N p = 1 then 0 else if tK B N p = 2 then nvF B (tS B N p) (tE B N p) 4 (tS B N p) 0 else B (tS B N p)
/-- the class reads the text B of N bytes -/
def CT (f : am_F) (B : Int → Int) (N : Int) : Prop := f 33 0 = 14 ∧ f 14 0 = 15 ∧ f 14 1 = N ∧ ∀ j, f 15 j = B j
/-- the class stands at what begins at p -/
def CK (f : am_F) (B : Int → Int) (N p : Int) : Prop := f 33 4 = tK B N p ∧ f 33 5 = tS B N p ∧ f 33 6 = tE B N p ∧ f 33 7 = tW B N p ∧ f 33 8 = tV B N p
section
variable {d : Nat} {f : am_F} {B : Int → Int} {N p : Int} {Q : am_V → am_F → Prop}
theorem c_srt {b : Int} : aw_cl d 22 [(0, b)] f Q = Q (0, srt b) f := by
  apply aw_det
  unfold srt
  by_cases h1 : b = 10
  · simp [q22, r22_0, r22_1, r22_3, r22_6, r22_7, r22_9, r22_12, r22_13, r22_14, r22_15, r22_17, r22_20, r22_21, r22_23, r22_26, r22_27, r22_28, r22_29, r22_31, r22_34, r22_35, r22_37, r22_40, r22_41, r22_44, r22_45, cs_nil, cs_cons, lc_lt, lc_ge, lc_gt, lc_le, lc_eq, h1]
  by_cases h2 : b = 32
  · simp [q22, r22_0, r22_1, r22_3, r22_6, r22_7, r22_9, r22_12, r22_13, r22_14, r22_15, r22_17, r22_20, r22_21, r22_23, r22_26, r22_27, r22_28, r22_29, r22_31, r22_34, r22_35, r22_37, r22_40, r22_41, r22_44, r22_45, cs_nil, cs_cons, lc_lt, lc_ge, lc_gt, lc_le, lc_eq, h2]
  by_cases h3 : 97 ≤ b ∧ b ≤ 122
  · simp (disch := omega) [q22, r22_0, r22_1, r22_3, r22_6, r22_7, r22_9, r22_12, r22_13, r22_14, r22_15, r22_17, r22_20, r22_21, r22_23, r22_26, r22_27, r22_28, r22_29, r22_31, r22_34, r22_35, r22_37, r22_40, r22_41, r22_44, r22_45, cs_nil, cs_cons, lc_lt, lc_ge, lc_gt, lc_le, lc_eq, h1, h2, le_T, lt_T, le_F, lt_F]
  · by_cases h4 : 48 ≤ b ∧ b ≤ 57
    · simp (disch := omega) [q22, r22_0, r22_1, r22_3, r22_6, r22_7, r22_9, r22_12, r22_13, r22_14, r22_15, r22_17, r22_20, r22_21, r22_23, r22_26, r22_27, r22_28, r22_29, r22_31, r22_34, r22_35, r22_37, r22_40, r22_41, r22_44, r22_45, cs_nil, cs_cons, lc_lt, lc_ge, lc_gt, lc_le, lc_eq, h1, h2, le_T, lt_T, le_F, lt_F]
    · rcases (show b < 48 ∨ (57 < b ∧ b < 97) ∨ 122 < b by omega) with q | q | q
      · simp (disch := omega) [q22, r22_0, r22_1, r22_3, r22_6, r22_7, r22_9, r22_12, r22_13, r22_14, r22_15, r22_17, r22_20, r22_21, r22_23, r22_26, r22_27, r22_28, r22_29, r22_31, r22_34, r22_35, r22_37, r22_40, r22_41, r22_44, r22_45, cs_nil, cs_cons, lc_lt, lc_ge, lc_gt, lc_le, lc_eq, h1, h2, le_T, lt_T, le_F, lt_F]
      · simp (disch := omega) [q22, r22_0, r22_1, r22_3, r22_6, r22_7, r22_9, r22_12, r22_13, r22_14, r22_15, r22_17, r22_20, r22_21, r22_23, r22_26, r22_27, r22_28, r22_29, r22_31, r22_34, r22_35, r22_37, r22_40, r22_41, r22_44, r22_45, cs_nil, cs_cons, lc_lt, lc_ge, lc_gt, lc_le, lc_eq, h1, h2, le_T, lt_T, le_F, lt_F]
      · simp (disch := omega) [q22, r22_0, r22_1, r22_3, r22_6, r22_7, r22_9, r22_12, r22_13, r22_14, r22_15, r22_17, r22_20, r22_21, r22_23, r22_26, r22_27, r22_28, r22_29, r22_31, r22_34, r22_35, r22_37, r22_40, r22_41, r22_44, r22_45, cs_nil, cs_cons, lc_lt, lc_ge, lc_gt, lc_le, lc_eq, h1, h2, le_T, lt_T, le_F, lt_F]
theorem c_wn {s : Int} : aw_cl d 23 [(0, s)] f Q = Q (0, if s = 1 ∨ s = 2 then 1 else 0) f := by
  apply aw_det
  by_cases h1 : s = 1
  · simp [q23, r23_0, r23_1, r23_2, r23_5, r23_6, r23_7, r23_10, r23_11, r23_14, r23_15, cs_nil, cs_cons, lc_lt, lc_ge, lc_gt, lc_le, lc_eq, h1]
  by_cases h2 : s = 2
  · simp [q23, r23_0, r23_1, r23_2, r23_5, r23_6, r23_7, r23_10, r23_11, r23_14, r23_15, cs_nil, cs_cons, lc_lt, lc_ge, lc_gt, lc_le, lc_eq, h2]
  · simp [q23, r23_0, r23_1, r23_2, r23_5, r23_6, r23_7, r23_10, r23_11, r23_14, r23_15, cs_nil, cs_cons, lc_lt, lc_ge, lc_gt, lc_le, lc_eq, h1, h2]
theorem c_eo (h : CT f B N) (hN : N ≤ 1600) (h0 : 0 ≤ p) (h1 : p ≤ N) {s : Int} : aw_cl (d + 1) 21 [(104, 33), (0, p), (0, s)] f Q = Q (0, eo B N s p) f := by
  obtain ⟨a1, a2, a3, a4⟩ := h
  have key : ∀ (j : Nat) (q : Int), q + j = N → 0 ≤ q → aw_wp (d + 1) 21 2 [(104, 33), (0, p), (0, s), (0, q)] [] f (fun v f1 => v = (0, eoF B s j q) ∧ f1 = f) := by
    intro j
    induction j with
    | zero =>
      intro q hq q0
      rw [r21_2]
      simp (disch := omega) [q21, r21_0, r21_1, r21_3, r21_4, r21_7, r21_10, r21_13, r21_14, r21_17, r21_20, r21_21, r21_22, r21_25, r21_26, r21_29, r21_30, r21_31, r21_34, r21_37, r21_38, r21_41, r21_44, cs_nil, cs_cons, lc_lt, lc_ge, lc_gt, lc_le, lc_eq, a1, a2, a3, le_T, lt_T, le_F, lt_F, eoF]
      omega
    | succ j ih =>
      intro q hq q0
      have ih' := ih (q + 1) (by omega) (by omega)
      rw [r21_2]
      by_cases hs : srt (B q) = s
      · simpa (disch := omega) [q21, r21_0, r21_1, r21_3, r21_4, r21_7, r21_10, r21_13, r21_14, r21_17, r21_20, r21_21, r21_22, r21_25, r21_26, r21_29, r21_30, r21_31, r21_34, r21_37, r21_38, r21_41, r21_44, cs_nil, cs_cons, lc_lt, lc_ge, lc_gt, lc_le, lc_eq, a1, a2, a3, a4, ln_15, c_srt, hs, am_wid2, le_T, lt_T, le_F, lt_F, eoF] using ih'
      · simp (disch := omega) [q21, r21_0, r21_1, r21_3, r21_4, r21_7, r21_10, r21_13, r21_14, r21_17, r21_20, r21_21, r21_22, r21_25, r21_26, r21_29, r21_30, r21_31, r21_34, r21_37, r21_38, r21_41, r21_44, cs_nil, cs_cons, lc_lt, lc_ge, lc_gt, lc_le, lc_eq, a1, a2, a3, a4, ln_15, c_srt, hs, am_wid2, le_T, lt_T, le_F, lt_F, eoF]
  apply aw_det
  have := key (N - p).toNat p (by omega) h0
  simpa [q21, r21_0, r21_1, r21_3, r21_4, r21_7, r21_10, r21_13, r21_14, r21_17, r21_20, r21_21, r21_22, r21_25, r21_26, r21_29, r21_30, r21_31, r21_34, r21_37, r21_38, r21_41, r21_44, cs_nil, cs_cons, lc_lt, lc_ge, lc_gt, lc_le, lc_eq, eo] using this
end
