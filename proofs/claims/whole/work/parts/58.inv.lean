/-! what holds between the class's cells and the model's ahead of every call -/
def nv : List Int → Int
  | [] => 0
  | x :: r => 27 * nv r + x
def nmR (a b : Int) : Prop := ∃ rs : List Int, 1 ≤ rs.length ∧ rs.length ≤ 6 ∧ (∀ x ∈ rs, 1 ≤ x ∧ x ≤ 26) ∧ b = nv rs ∧ a = nv (List.replicate (6 - rs.length) 0 ++ rs)
def TP (f : am_F) : Prop := f 270 1 = f 14 1 ∧ (0 ≤ f 14 1 ∧ f 14 1 ≤ 1600) ∧ ∀ j, f 271 j = f 15 j ∧ 0 ≤ f 15 j ∧ f 15 j ≤ 255
def RF (f : am_F) : Prop := ∀ j, f 272 j = f 269 j
def PC (f : am_F) : Prop := f 270 102 = f 0 12 ∧ (0 ≤ f 0 12 ∧ f 0 12 ≤ 43) ∧ ∀ j, 0 ≤ j → j < f 0 12 → f 343 j = f 268 j
def FS (f : am_F) : Prop := (f 270 7 = f 0 14 ∧ f 270 8 = f 0 15) ∧ f 270 67 = f 0 13 ∧ 0 ≤ f 0 13 ∧ f 0 13 < 2147483648
def NR (f : am_F) (l : Int) (n m r : Nat) : Prop := (∀ k : Int, 0 ≤ k → k < n → nmR (f (l + 1) k) (f 302 (24 + k))) ∧ (∀ k : Int, 0 ≤ k → k < m → nmR (f (l + 5) k) (f 302 (32 + k))) ∧ (∀ k : Int, 0 ≤ k → k < r → nmR (f (l + 8) k) (f 302 (40 + k)))
def MK (f : am_F) (b : Int) (n : Nat) (z : am_F) : Prop := f 316 b = z 0 0 ∧ (∀ i t : Int, 1 ≤ i → i ≤ 5 → 0 ≤ t → t < n → f 316 (b + (i + 5 * t)) = z i t) ∧ f 316 (b + 41) = z 10 0 ∧ (0 ≤ z 10 0 ∧ z 10 0 ≤ 50) ∧ ∀ i k : Int, 7 ≤ i → i ≤ 9 → 0 ≤ k → k < z 10 0 → f 316 (b + (35 + i + 3 * k)) = z i k
def FR (f : am_F) (n : Nat) (z : am_F) : Prop := ∀ t : Int, 0 ≤ t → t < n → z 6 t = f 303 (26 + 3 * t)
def pc1 (x i : Int) : Int := 68 + 10 * ((x + 19 - i) % 20)
def pm1 (x i : Int) : Int := 192 * ((x + 20 - i) % 20)
def PA (f : am_F) (l : Int) (n : Nat) (Z : Int → am_F) : Prop := (0 ≤ f 66 2 ∧ f 66 2 ≤ 20) ∧ (0 ≤ f 66 1 ∧ f 66 1 < 20) ∧ ∀ i : Int, 0 ≤ i → i < f 66 2 → CZ f (pc1 (f 66 1) i) l n (Z i) ∧ CN f (pc1 (f 66 1) i) (Z i)
def PB (f : am_F) (n : Nat) (Z : Int → am_F) : Prop := (0 ≤ f 270 65 ∧ f 270 65 ≤ 20) ∧ (0 ≤ f 270 66 ∧ f 270 66 < 20) ∧ ∀ i : Int, 0 ≤ i → i < f 270 65 → MK f (pm1 (f 270 66) i) n (Z i) ∧ OZ n (Z i) ∧ FR f n (Z i)
def PS (f : am_F) (l : Int) (n : Nat) (Z : Int → am_F) : Prop := f 270 65 = f 66 2 ∧ PA f l n Z ∧ PB f n Z
def au_wd0 : List (Int × Int × Int) := [(273, 0, 116), (273, 1, 104), (273, 2, 105), (273, 3, 110), (273, 4, 103), (274, 0, 119), (274, 1, 111), (274, 2, 114), (274, 3, 116), (274, 4, 104), (275, 0, 117), (275, 1, 115), (275, 2, 101), (276, 0, 102), (276, 1, 114), (276, 2, 97), (276, 3, 105), (276, 4, 108), (277, 0, 109), (277, 1, 101), (277, 2, 110), (277, 3, 100), (277, 4, 101), (277, 5, 114), (278, 0, 115), (278, 1, 107), (278, 2, 105), (278, 3, 108), (278, 4, 108), (279, 0, 104), (279, 1, 111), (279, 2, 117), (279, 3, 114), (279, 4, 115), (280, 0, 116), (280, 1, 114), (280, 2, 105), (280, 3, 97), (280, 4, 108), (281, 0, 105), (281, 1, 115), (282, 0, 115), (282, 1, 116), (282, 2, 97), (282, 3, 110), (282, 4, 100), (282, 5, 115), (283, 0, 102), (283, 1, 97), (283, 2, 108), (283, 3, 108), (283, 4, 115), (284, 0, 116), (284, 1, 97), (284, 2, 107), (284, 3, 101), (284, 4, 115), (285, 0, 102), (285, 1, 105), (285, 2, 110), (285, 3, 101), (286, 0, 102), (286, 1, 105), (286, 2, 114), (286, 3, 115), (286, 4, 116), (287, 0, 99), (287, 1, 97), (287, 2, 116), (288, 0, 98), (288, 1, 114), (288, 2, 101), (288, 3, 97), (288, 4, 107), (288, 5, 115), (289, 0, 109), (289, 1, 101), (289, 2, 110), (289, 3, 100), (289, 4, 115), (290, 0, 100), (290, 1, 97), (290, 2, 121), (291, 0, 103), (291, 1, 108), (291, 2, 117), (291, 3, 101), (292, 0, 110), (292, 1, 117), (292, 2, 109), (292, 3, 98), (292, 4, 101), (292, 5, 114), (293, 0, 102), (293, 1, 111), (293, 2, 114), (293, 3, 103), (293, 4, 101), (293, 5, 100), (294, 0, 108)]
def au_wd1 : List (Int × Int × Int) := [(294, 1, 97), (294, 2, 115), (294, 3, 116), (295, 0, 111), (295, 1, 114), (296, 0, 97), (296, 1, 110), (296, 2, 100), (297, 0, 110), (297, 1, 111), (297, 2, 116), (298, 0, 97), (298, 1, 108), (298, 2, 108), (299, 0, 109), (299, 1, 105), (299, 2, 110), (300, 0, 109), (300, 1, 97), (300, 2, 120), (317, 0, 102), (317, 1, 105), (317, 2, 114), (317, 3, 115), (317, 4, 116), (318, 0, 108), (318, 1, 97), (318, 2, 115), (318, 3, 116), (319, 0, 111), (319, 1, 102), (319, 2, 116), (319, 3, 101), (319, 4, 110), (320, 0, 116), (320, 1, 111), (320, 2, 116), (320, 3, 97), (320, 4, 108), (321, 0, 109), (321, 1, 111), (321, 2, 115), (321, 3, 116), (322, 0, 108), (322, 1, 101), (322, 2, 97), (322, 3, 115), (322, 4, 116), (323, 0, 110), (323, 1, 111), (323, 2, 116), (324, 0, 97), (324, 1, 110), (324, 2, 100), (325, 0, 111), (325, 1, 114), (326, 0, 97), (326, 1, 108), (326, 2, 108), (327, 0, 109), (327, 1, 105), (327, 2, 110), (328, 0, 109), (328, 1, 97), (328, 2, 120), (329, 0, 119), (329, 1, 111), (329, 2, 114), (329, 3, 116), (329, 4, 104), (330, 0, 117), (330, 1, 115), (330, 2, 101), (331, 0, 102), (331, 1, 114), (331, 2, 97), (331, 3, 105), (331, 4, 108), (332, 0, 98), (332, 1, 114), (332, 2, 101), (332, 3, 97), (332, 4, 107), (332, 5, 115), (333, 0, 109), (333, 1, 101), (333, 2, 110), (333, 3, 100), (333, 4, 115), (334, 0, 100), (334, 1, 97), (334, 2, 121), (335, 0, 103), (335, 1, 108), (335, 2, 117), (335, 3, 101), (336, 0, 115), (336, 1, 107), (336, 2, 105), (336, 3, 108)]
def au_wd2 : List (Int × Int × Int) := [(336, 4, 108), (337, 0, 110), (337, 1, 117), (337, 2, 109), (337, 3, 98), (337, 4, 101), (337, 5, 114), (338, 0, 102), (338, 1, 111), (338, 2, 114), (338, 3, 103), (338, 4, 101), (338, 5, 100), (339, 0, 105), (339, 1, 115)]
def au_wd : List (Int × Int × Int) := au_wd0 ++ au_wd1 ++ au_wd2
def aw_wd (f : am_F) : Prop := ∀ q ∈ au_wd, f q.1 q.2.1 = q.2.2
def IW (f : am_F) (n m r : Nat) (L : am_F) (ρ : Int → List Int) (τ : Int → Bool) (z : am_F) (l : Int) (Z : Int → am_F) : Prop := (aw_fx f ∧ aw_wd f ∧ (l = 1 ∨ l = 20) ∧ f 0 11 = 21 - l ∧ f 270 57 = 0 ∧ f 270 53 = -1) ∧ (CB f 46 l n m r L ρ z ∧ CN f 46 z) ∧ (MB f n m r L ρ τ z ∧ NM f z) ∧ TP f ∧ RF f ∧ PC f ∧ FS f ∧ NR f l n m r ∧ PS f l n Z
def IV (f : am_F) : Prop := ∃ n m r L ρ τ z l Z, IW f n m r L ρ τ z l Z
/-- cells that no later call looks at -/
def SC (l c j : Int) : Prop := (c = 16 ∧ j = 3) ∨ (17 ≤ c ∧ c ≤ 19) ∨ (c = 33 ∧ 1 ≤ j) ∨ c = 35 ∨ (37 ≤ c ∧ c ≤ 39) ∨ (c = 40 ∧ 6 ≤ j) ∨ (41 ≤ c ∧ c ≤ 45) ∨ (c = 56 ∧ (9 ≤ j ∨ j < 0)) ∨ (c = 308 ∧ j < 0) ∨ (57 ≤ c ∧ c ≤ 65) ∨ (22 - l ≤ c ∧ c ≤ 29 - l) ∨ (31 - l ≤ c ∧ c ≤ 33 - l) ∨ (c = 21 - l ∧ 9 ≤ j) ∨ (c = 30 - l ∧ j = 3) ∨ (309 ≤ c ∧ c ≤ 315) ∨ (340 ≤ c ∧ c ≤ 342) ∨ (c = 301 ∧ j < 3) ∨ (c = 302 ∧ j < 24) ∨ (c = 303 ∧ j < 24) ∨ (c = 304 ∧ j < 8) ∨ (c = 305 ∧ j < 10) ∨ (c = 306 ∧ j < 10) ∨ (c = 307 ∧ j < 1600) ∨ (c = 270 ∧ ((2 ≤ j ∧ j ≤ 6) ∨ j = 38 ∨ j = 43 ∨ (48 ≤ j ∧ j ≤ 50) ∨ j = 54 ∨ j = 55 ∨ j = 58 ∨ j = 92 ∨ (94 ≤ j ∧ j ≤ 96) ∨ (98 ≤ j ∧ j ≤ 100)))
/-- cells that calls change for later ones -/
def XC (c j : Int) : Prop := (c = 0 ∧ 12 ≤ j) ∨ (c = 14 ∧ j = 1) ∨ c = 15 ∨ (c = 46 ∧ (9 ≤ j ∨ j < 0)) ∨ (47 ≤ c ∧ c ≤ 55) ∨ (c = 66 ∧ 1 ≤ j) ∨ (68 ≤ c ∧ c ≤ 267 ∧ ((c - 68) % 10 = 0 → 9 ≤ j)) ∨ c = 268 ∨ c = 269 ∨ c = 271 ∨ c = 272 ∨ c = 308 ∨ c = 316 ∨ c = 343 ∨ (c = 270 ∧ (j = 1 ∨ j = 7 ∨ j = 8 ∨ (65 ≤ j ∧ j ≤ 67) ∨ j = 102))
def scb (l c j : Int) : Bool := decide (c = 16 ∧ j = 3) || decide (17 ≤ c ∧ c ≤ 19) || decide (c = 33 ∧ 1 ≤ j) || decide (c = 35) || decide (37 ≤ c ∧ c ≤ 39) || decide (c = 40 ∧ 6 ≤ j) || decide (41 ≤ c ∧ c ≤ 45) || decide (c = 56 ∧ (9 ≤ j ∨ j < 0)) || decide (c = 308 ∧ j < 0) || decide (57 ≤ c ∧ c ≤ 65) || decide (22 - l ≤ c ∧ c ≤ 29 - l) || decide (31 - l ≤ c ∧ c ≤ 33 - l) || decide (c = 21 - l ∧ 9 ≤ j) || decide (c = 30 - l ∧ j = 3) || decide (309 ≤ c ∧ c ≤ 315) || decide (340 ≤ c ∧ c ≤ 342) || decide (c = 301 ∧ j < 3) || decide (c = 302 ∧ j < 24) || decide (c = 303 ∧ j < 24) || decide (c = 304 ∧ j < 8) || decide (c = 305 ∧ j < 10) || decide (c = 306 ∧ j < 10) || decide (c = 307 ∧ j < 1600) || decide (c = 270 ∧ ((2 ≤ j ∧ j ≤ 6) ∨ j = 38 ∨ j = 43 ∨ (48 ≤ j ∧ j ≤ 50) ∨ j = 54 ∨ j = 55 ∨ j = 58 ∨ j = 92 ∨ (94 ≤ j ∧ j ≤ 96) ∨ (98 ≤ j ∧ j ≤ 100)))
def xcb (c j : Int) : Bool := decide (c = 0 ∧ 12 ≤ j) || decide (c = 14 ∧ j = 1) || decide (c = 15) || decide (c = 46 ∧ (9 ≤ j ∨ j < 0)) || decide (47 ≤ c ∧ c ≤ 55) || decide (c = 66 ∧ 1 ≤ j) || decide (c = 268) || decide (c = 269) || decide (c = 271) || decide (c = 272) || decide (c = 308) || decide (c = 316) || decide (c = 343) || decide (c = 270 ∧ (j = 1 ∨ j = 7 ∨ j = 8 ∨ (65 ≤ j ∧ j ≤ 67) ∨ j = 102)) || (decide (68 ≤ c) && (decide (c ≤ 267) && (!(decide ((c - 68) % 10 = 0)) || decide (9 ≤ j))))
theorem scb_of {l c j : Int} (q : SC l c j) : scb l c j = true := by
  unfold scb
  rcases q with q | q | q | q | q | q | q | q | q | q | q | q | q | q | q | q | q | q | q | q | q | q | q | q <;> simp [q]
theorem xcb_of {c j : Int} (q : XC c j) : xcb c j = true := by
  unfold xcb
  rcases q with q | q | q | q | q | q | q | q | q | q | q | q | q | q | q
  · simp [q]
  · simp [q]
  · simp [q]
  · simp [q]
  · simp [q]
  · simp [q]
  · by_cases h : (c - 68) % 10 = 0
    · simp [q.1, q.2.1, q.2.2 h]
    · simp [q.1, q.2.1, h]
  · simp [q]
  · simp [q]
  · simp [q]
  · simp [q]
  · simp [q]
  · simp [q]
  · simp [q]
  · simp [q]
set_option maxRecDepth 100000 in
theorem fx_b : (au_fix.all fun q => !(scb 1 q.1 q.2.1) && !(scb 20 q.1 q.2.1) && !(xcb q.1 q.2.1)) = true := by decide +kernel
set_option maxRecDepth 100000 in
theorem wd_b : (au_wd.all fun q => !(scb 1 q.1 q.2.1) && !(scb 20 q.1 q.2.1) && !(xcb q.1 q.2.1)) = true := by decide +kernel
theorem fx_n {l : Int} (hl : l = 1 ∨ l = 20) {q : Int × Int × Int} (hq : q ∈ au_fix) : ¬ SC l q.1 q.2.1 ∧ ¬ XC q.1 q.2.1 := by
  have h := List.all_eq_true.mp fx_b q hq
  simp only [Bool.and_eq_true, Bool.not_eq_true'] at h
  obtain ⟨⟨h1, h2⟩, h3⟩ := h
  refine ⟨fun x => ?_, fun x => ?_⟩
  · rcases hl with rfl | rfl
    · rw [scb_of x] at h1; cases h1
    · rw [scb_of x] at h2; cases h2
  · rw [xcb_of x] at h3; cases h3
theorem wd_n {l : Int} (hl : l = 1 ∨ l = 20) {q : Int × Int × Int} (hq : q ∈ au_wd) : ¬ SC l q.1 q.2.1 ∧ ¬ XC q.1 q.2.1 := by
  have h := List.all_eq_true.mp wd_b q hq
  simp only [Bool.and_eq_true, Bool.not_eq_true'] at h
  obtain ⟨⟨h1, h2⟩, h3⟩ := h
  refine ⟨fun x => ?_, fun x => ?_⟩
  · rcases hl with rfl | rfl
    · rw [scb_of x] at h1; cases h1
    · rw [scb_of x] at h2; cases h2
  · rw [xcb_of x] at h3; cases h3
theorem ML_fr2 {f g L : am_F} {n m r : Nat} {ρ : Int → List Int} {τ : Int → Bool} (h : ML f n m r L ρ τ) (hg : ∀ c j : Int, (c = 301 ∧ 3 ≤ j) ∨ (c = 303 ∧ 24 ≤ j) ∨ (c = 304 ∧ 8 ≤ j) ∨ (c = 305 ∧ 10 ≤ j) ∨ (c = 306 ∧ 10 ≤ j) ∨ (c = 307 ∧ 1600 ≤ j) → g c j = f c j) (h2 : ∀ j : Int, (j = 0 ∨ j = 9 ∨ (39 ≤ j ∧ j ≤ 42) ∨ (45 ≤ j ∧ j ≤ 47) ∨ j = 51 ∨ j = 52 ∨ j = 56 ∨ (59 ≤ j ∧ j ≤ 64) ∨ j = 91 ∨ j = 93 ∨ j = 97 ∨ j = 101 ∨ j = 44) → g 270 j = f 270 j) : ML g n m r L ρ τ := by
  obtain ⟨h1, h3, h4, h5, h6⟩ := h
  refine ⟨mfx_fr h1 (fun j hj => h2 j (by omega)), ?_, ?_, ?_, ?_⟩
  · rw [hg _ _ (by omega), hg _ _ (by omega), hg _ _ (by omega), h2 44 (by omega)]
    exact h3
  · intro t a b
    rw [hg _ _ (by omega), hg _ _ (by omega)]
    exact h4 t a b
  · intro t a b
    rw [hg _ _ (by omega), hg _ _ (by omega)]
    exact h5 t a b
  · intro w a b
    rw [hg _ _ (by omega), hg _ _ (by omega)]
    rcases h6 w a b with ⟨e0, k0, e1, e2, e3, e4, e5⟩ | e
    · exact Or.inl ⟨e0, k0, e1, e2, e3, e4, al_fr _ _ (fun j _ _ => hg _ _ (by omega)) e5⟩
    · exact Or.inr e
theorem MZ_fr2 {f g z : am_F} {n : Nat} (h : MZ f n z) (hn : n ≤ 8) (hg : ∀ j : Int, 0 ≤ j → j ≤ 40 → g 308 j = f 308 j) (h3 : ∀ j : Int, 24 ≤ j → g 303 j = f 303 j) (h4 : g 270 53 = f 270 53) (h5 : f 270 53 = -1) : MZ g n z := by
  obtain ⟨e1, e2, e3⟩ := h
  refine ⟨?_, ?_, ?_⟩
  · rw [hg _ (by omega) (by omega)]; exact e1
  · intro i t a1 a2 a3 a4
    rw [hg _ (by omega) (by omega)]
    exact e2 i t a1 a2 a3 a4
  · intro t a b
    have := e3 t a b
    rw [h5, if_neg (by omega)] at this
    rw [h4, h5, if_neg (by omega), h3 _ (by omega)]
    exact this
theorem MK_fr {f g z : am_F} {b : Int} {n : Nat} (h : MK f b n z) (hb : 0 ≤ b ∧ b ≤ 3648) (hn : n ≤ 8) (hg : ∀ j : Int, b ≤ j → j < b + 192 → g 316 j = f 316 j) : MK g b n z := by
  obtain ⟨h1, h2, h3, h4, h5⟩ := h
  refine ⟨?_, ?_, ?_, h4, ?_⟩
  · rw [hg _ (by omega) (by omega)]; exact h1
  · intro i t a1 a2 a3 a4
    rw [hg _ (by omega) (by omega)]; exact h2 i t a1 a2 a3 a4
  · rw [hg _ (by omega) (by omega)]; exact h3
  · intro i k a1 a2 a3 a4
    rw [hg _ (by omega) (by omega)]; exact h5 i k a1 a2 a3 a4
theorem pc1_b {x i : Int} : 68 ≤ pc1 x i ∧ pc1 x i ≤ 258 := by unfold pc1; omega
theorem pm1_b {x i : Int} : 0 ≤ pm1 x i ∧ pm1 x i ≤ 3648 := by unfold pm1; omega
theorem FR_fr {f g z : am_F} {n : Nat} (h : FR f n z) (hg : ∀ j : Int, 24 ≤ j → g 303 j = f 303 j) : FR g n z := fun t a b => (h t a b).trans (hg _ (by omega)).symm
theorem TP_fr {f g : am_F} (h : TP f) (h1 : g 270 1 = f 270 1) (h2 : g 14 1 = f 14 1) (h3 : ∀ j, g 15 j = f 15 j) (h4 : ∀ j, g 271 j = f 271 j) : TP g := by
  unfold TP
  rw [h1, h2]
  exact ⟨h.1, h.2.1, fun j => by rw [h3, h4]; exact h.2.2 j⟩
theorem RF_fr {f g : am_F} (h : RF f) (h1 : ∀ j, g 272 j = f 272 j) (h2 : ∀ j, g 269 j = f 269 j) : RF g := fun j => by rw [h1, h2]; exact h j
theorem PC_fr {f g : am_F} (h : PC f) (h1 : g 270 102 = f 270 102) (h2 : g 0 12 = f 0 12) (h3 : ∀ j, g 343 j = f 343 j) (h4 : ∀ j, g 268 j = f 268 j) : PC g := by
  unfold PC
  rw [h1, h2]
  exact ⟨h.1, h.2.1, fun j a b => by rw [h3, h4]; exact h.2.2 j a b⟩
theorem FS_fr {f g : am_F} (h : FS f) (h1 : ∀ j, j = 7 ∨ j = 8 ∨ j = 67 → g 270 j = f 270 j) (h2 : ∀ j, 13 ≤ j → g 0 j = f 0 j) : FS g := by
  unfold FS
  rw [h1 7 (by omega), h1 8 (by omega), h1 67 (by omega), h2 13 (by omega), h2 14 (by omega), h2 15 (by omega)]
  exact h
theorem NR_fr {f g : am_F} {l : Int} {n m r : Nat} (h : NR f l n m r) (h1 : ∀ c j : Int, c = l + 1 ∨ c = l + 5 ∨ c = l + 8 → g c j = f c j) (h2 : ∀ j : Int, 24 ≤ j → g 302 j = f 302 j) : NR g l n m r := by
  refine ⟨fun k a b => ?_, fun k a b => ?_, fun k a b => ?_⟩
  · rw [h1 _ _ (by omega), h2 _ (by omega)]; exact h.1 k a b
  · rw [h1 _ _ (by omega), h2 _ (by omega)]; exact h.2.1 k a b
  · rw [h1 _ _ (by omega), h2 _ (by omega)]; exact h.2.2 k a b
theorem PA_fr {f g : am_F} {l : Int} {n : Nat} {Z : Int → am_F} (h : PA f l n Z) (h2 : ∀ j : Int, j = 1 ∨ j = 2 → g 66 j = f 66 j) (h3 : ∀ c j : Int, 68 ≤ c → c ≤ 267 → g c j = f c j) : PA g l n Z := by
  obtain ⟨e2, e3, e5⟩ := h
  unfold PA
  rw [h2 1 (by omega), h2 2 (by omega)]
  refine ⟨e2, e3, fun i a b => ?_⟩
  obtain ⟨a1, a2⟩ := e5 i a b
  have q1 := pc1_b (x := f 66 1) (i := i)
  exact ⟨CZ_fr a1 (fun c j _ _ _ => h3 _ _ (by omega) (by omega)), CN_fr a2 (fun i k _ _ => h3 _ _ (by omega) (by omega)) (h3 _ _ (by omega) (by omega)) (fun _ _ _ => rfl)⟩
theorem PB_fr {f g : am_F} {n : Nat} {Z : Int → am_F} (h : PB f n Z) (hn : n ≤ 8) (h1 : ∀ j : Int, j = 65 ∨ j = 66 → g 270 j = f 270 j) (h4 : ∀ j, g 316 j = f 316 j) (h5 : ∀ j : Int, 24 ≤ j → g 303 j = f 303 j) : PB g n Z := by
  obtain ⟨e1, e4, e5⟩ := h
  unfold PB
  rw [h1 65 (by omega), h1 66 (by omega)]
  refine ⟨e1, e4, fun i a b => ?_⟩
  obtain ⟨a3, a4, a5⟩ := e5 i a b
  exact ⟨MK_fr a3 pm1_b hn (fun j _ _ => h4 j), a4, FR_fr a5 h5⟩
theorem PS_fr {f g : am_F} {l : Int} {n : Nat} {Z : Int → am_F} (h : PS f l n Z) (hn : n ≤ 8) (h1 : ∀ j : Int, j = 65 ∨ j = 66 → g 270 j = f 270 j) (h2 : ∀ j : Int, j = 1 ∨ j = 2 → g 66 j = f 66 j) (h3 : ∀ c j : Int, 68 ≤ c → c ≤ 267 → g c j = f c j) (h4 : ∀ j, g 316 j = f 316 j) (h5 : ∀ j : Int, 24 ≤ j → g 303 j = f 303 j) : PS g l n Z := by
  obtain ⟨e1, e2, e3⟩ := h
  exact ⟨by rw [h1 65 (by omega), h2 2 (by omega)]; exact e1, PA_fr e2 h2 h3, PB_fr e3 hn h1 h4 h5⟩
theorem IW_mk {f g L z y : am_F} {n m r : Nat} {ρ : Int → List Int} {τ : Int → Bool} {l : Int} {Z Y : Int → am_F} (h : IW f n m r L ρ τ z l Z) (hg : ∀ c j : Int, ¬ SC l c j → ¬ XC c j → g c j = f c j) (hz : CZ g 46 l n y) (hN : CN g 46 y) (mz : MZ g n y) (mN : NM g y) (ho : OZ n y) (tp : TP g) (rf : RF g) (pc : PC g) (fs : FS g) (ps : PS g l n Y) : IW g n m r L ρ τ y l Y := by
  obtain ⟨⟨a1, a2, a3, a4, a5, a6⟩, ⟨b1, b2⟩, ⟨c1, c2⟩, _, _, _, _, nr, _⟩ := h
  refine ⟨⟨?_, ?_, a3, ?_, ?_, ?_⟩, ⟨⟨?_, ?_, hz, b1.2.2.2.1, ho⟩, hN⟩, ⟨⟨?_, mz, c1.2.2.1, ho⟩, mN⟩, tp, rf, pc, fs, ?_, ps⟩
  · intro q hq
    rw [hg _ _ (fx_n a3 hq).1 (fx_n a3 hq).2]
    exact a1 q hq
  · intro q hq
    rw [hg _ _ (wd_n a3 hq).1 (wd_n a3 hq).2]
    exact a2 q hq
  · rw [hg 0 11 (by intro q; rcases q with q | q | q | q | q | q | q | q | q | q | q | q | q | q | q | q | q | q | q | q | q | q | q | q <;> omega) (by intro q; rcases q with q | q | q | q | q | q | q | q | q | q | q | q | q | q | q <;> omega)]; exact a4
  · rw [hg 270 57 (by intro q; rcases q with q | q | q | q | q | q | q | q | q | q | q | q | q | q | q | q | q | q | q | q | q | q | q | q <;> omega) (by intro q; rcases q with q | q | q | q | q | q | q | q | q | q | q | q | q | q | q <;> omega)]; exact a5
  · rw [hg 270 53 (by intro q; rcases q with q | q | q | q | q | q | q | q | q | q | q | q | q | q | q | q | q | q | q | q | q | q | q | q <;> omega) (by intro q; rcases q with q | q | q | q | q | q | q | q | q | q | q | q | q | q | q <;> omega)]; exact a6
  · rw [hg 34 0 (by intro q; rcases q with q | q | q | q | q | q | q | q | q | q | q | q | q | q | q | q | q | q | q | q | q | q | q | q <;> omega) (by intro q; rcases q with q | q | q | q | q | q | q | q | q | q | q | q | q | q | q <;> omega), hg 36 0 (by intro q; rcases q with q | q | q | q | q | q | q | q | q | q | q | q | q | q | q | q | q | q | q | q | q | q | q | q <;> omega) (by intro q; rcases q with q | q | q | q | q | q | q | q | q | q | q | q | q | q | q <;> omega), hg 36 1 (by intro q; rcases q with q | q | q | q | q | q | q | q | q | q | q | q | q | q | q | q | q | q | q | q | q | q | q | q <;> omega) (by intro q; rcases q with q | q | q | q | q | q | q | q | q | q | q | q | q | q | q <;> omega), hg 36 2 (by intro q; rcases q with q | q | q | q | q | q | q | q | q | q | q | q | q | q | q | q | q | q | q | q | q | q | q | q <;> omega) (by intro q; rcases q with q | q | q | q | q | q | q | q | q | q | q | q | q | q | q <;> omega), hg 36 3 (by intro q; rcases q with q | q | q | q | q | q | q | q | q | q | q | q | q | q | q | q | q | q | q | q | q | q | q | q <;> omega) (by intro q; rcases q with q | q | q | q | q | q | q | q | q | q | q | q | q | q | q <;> omega)]
    exact b1.1
  · exact CL_fr b1.2.1 b1.2.2.2.1 (fun c j q1 q2 => hg c j (by intro q; rcases q with q | q | q | q | q | q | q | q | q | q | q | q | q | q | q | q | q | q | q | q | q | q | q | q <;> omega) (by intro q; rcases q with q | q | q | q | q | q | q | q | q | q | q | q | q | q | q <;> omega))
  · exact ML_fr2 c1.1 (fun c j q1 => hg c j (by intro q; rcases q with q | q | q | q | q | q | q | q | q | q | q | q | q | q | q | q | q | q | q | q | q | q | q | q <;> omega) (by intro q; rcases q with q | q | q | q | q | q | q | q | q | q | q | q | q | q | q <;> omega)) (fun j q1 => hg 270 j (by intro q; rcases q with q | q | q | q | q | q | q | q | q | q | q | q | q | q | q | q | q | q | q | q | q | q | q | q <;> omega) (by intro q; rcases q with q | q | q | q | q | q | q | q | q | q | q | q | q | q | q <;> omega))
  · exact NR_fr nr (fun c j q1 => hg c j (by intro q; rcases q with q | q | q | q | q | q | q | q | q | q | q | q | q | q | q | q | q | q | q | q | q | q | q | q <;> omega) (by intro q; rcases q with q | q | q | q | q | q | q | q | q | q | q | q | q | q | q <;> omega)) (fun j q1 => hg 302 j (by intro q; rcases q with q | q | q | q | q | q | q | q | q | q | q | q | q | q | q | q | q | q | q | q | q | q | q | q <;> omega) (by intro q; rcases q with q | q | q | q | q | q | q | q | q | q | q | q | q | q | q <;> omega))
theorem SC_n {l c j : Int} (h : ¬ SC l c j) : ¬ (c = 35 ∨ (37 ≤ c ∧ c ≤ 39) ∨ (c = 40 ∧ 6 ≤ j) ∨ (41 ≤ c ∧ c ≤ 45) ∨ (c = 56 ∧ (9 ≤ j ∨ j < 0)) ∨ (57 ≤ c ∧ c ≤ 65) ∨ (c = 16 ∧ j = 3) ∨ (17 ≤ c ∧ c ≤ 19) ∨ (c = 33 ∧ 1 ≤ j)) ∧ ¬ ((c = 308 ∧ j < 0) ∨ (309 ≤ c ∧ c ≤ 315) ∨ (340 ≤ c ∧ c ≤ 342) ∨ (c = 270 ∧ ((2 ≤ j ∧ j ≤ 6) ∨ j = 38 ∨ j = 43 ∨ (48 ≤ j ∧ j ≤ 50) ∨ j = 54 ∨ j = 55 ∨ j = 58 ∨ j = 92 ∨ (94 ≤ j ∧ j ≤ 96) ∨ (98 ≤ j ∧ j ≤ 100)))) := by
  refine ⟨fun q => h ?_, fun q => h ?_⟩
  · rcases q with q | q | q | q | q | q | q | q | q
    · exact Or.inr (Or.inr (Or.inr (Or.inl q)))
    · exact Or.inr (Or.inr (Or.inr (Or.inr (Or.inl q))))
    · exact Or.inr (Or.inr (Or.inr (Or.inr (Or.inr (Or.inl q)))))
    · exact Or.inr (Or.inr (Or.inr (Or.inr (Or.inr (Or.inr (Or.inl q))))))
    · exact Or.inr (Or.inr (Or.inr (Or.inr (Or.inr (Or.inr (Or.inr (Or.inl q)))))))
    · exact Or.inr (Or.inr (Or.inr (Or.inr (Or.inr (Or.inr (Or.inr (Or.inr (Or.inr (Or.inl q)))))))))
    · exact Or.inl q
    · exact Or.inr (Or.inl q)
    · exact Or.inr (Or.inr (Or.inl q))
  · rcases q with q | q | q | q
    · exact Or.inr (Or.inr (Or.inr (Or.inr (Or.inr (Or.inr (Or.inr (Or.inr (Or.inl q))))))))
    · exact Or.inr (Or.inr (Or.inr (Or.inr (Or.inr (Or.inr (Or.inr (Or.inr (Or.inr (Or.inr (Or.inr (Or.inr (Or.inr (Or.inr (Or.inl q))))))))))))))
    · exact Or.inr (Or.inr (Or.inr (Or.inr (Or.inr (Or.inr (Or.inr (Or.inr (Or.inr (Or.inr (Or.inr (Or.inr (Or.inr (Or.inr (Or.inr (Or.inl q)))))))))))))))
    · exact Or.inr (Or.inr (Or.inr (Or.inr (Or.inr (Or.inr (Or.inr (Or.inr (Or.inr (Or.inr (Or.inr (Or.inr (Or.inr (Or.inr (Or.inr (Or.inr (Or.inr (Or.inr (Or.inr (Or.inr (Or.inr (Or.inr (Or.inr (q)))))))))))))))))))))))
/-- cells of the calls that leave the state as it is -/
abbrev OC (c j : Int) : Prop := (c = 0 ∧ 12 ≤ j) ∨ (c = 14 ∧ j = 1) ∨ c = 15 ∨ c = 268 ∨ c = 269 ∨ c = 271 ∨ c = 272 ∨ c = 343 ∨ (c = 270 ∧ (j = 1 ∨ j = 7 ∨ j = 8 ∨ j = 67 ∨ j = 102))
theorem OC_X {c j : Int} (q : OC c j) : XC c j := by
  rcases q with q | q | q | q | q | q | q | q | q
  · exact Or.inl q
  · exact Or.inr (Or.inl q)
  · exact Or.inr (Or.inr (Or.inl q))
  · exact Or.inr (Or.inr (Or.inr (Or.inr (Or.inr (Or.inr (Or.inr (Or.inl q)))))))
  · exact Or.inr (Or.inr (Or.inr (Or.inr (Or.inr (Or.inr (Or.inr (Or.inr (Or.inl q))))))))
  · exact Or.inr (Or.inr (Or.inr (Or.inr (Or.inr (Or.inr (Or.inr (Or.inr (Or.inr (Or.inl q)))))))))
  · exact Or.inr (Or.inr (Or.inr (Or.inr (Or.inr (Or.inr (Or.inr (Or.inr (Or.inr (Or.inr (Or.inl q))))))))))
  · exact Or.inr (Or.inr (Or.inr (Or.inr (Or.inr (Or.inr (Or.inr (Or.inr (Or.inr (Or.inr (Or.inr (Or.inr (Or.inr (Or.inl q)))))))))))))
  · exact Or.inr (Or.inr (Or.inr (Or.inr (Or.inr (Or.inr (Or.inr (Or.inr (Or.inr (Or.inr (Or.inr (Or.inr (Or.inr (Or.inr (⟨q.1, by omega⟩))))))))))))))
/-- cells that the class's acts change -/
abbrev CC (c j : Int) : Prop := c = 35 ∨ (37 ≤ c ∧ c ≤ 39) ∨ (46 ≤ c ∧ c ≤ 55) ∨ (c = 66 ∧ (j = 1 ∨ j = 2)) ∨ (68 ≤ c ∧ c ≤ 267 ∧ ((c - 68) % 10 = 0 → 9 ≤ j)) ∨ (c = 0 ∧ j = 13)
/-- cells that the model's acts change -/
abbrev MC (c j : Int) : Prop := c = 308 ∨ c = 316 ∨ (309 ≤ c ∧ c ≤ 315) ∨ (340 ≤ c ∧ c ≤ 342) ∨ (c = 270 ∧ (j = 50 ∨ j = 54 ∨ j = 55 ∨ j = 58 ∨ j = 98 ∨ (65 ≤ j ∧ j ≤ 67)))
theorem CC_n {l c j : Int} (h1 : ¬ SC l c j) (h2 : ¬ XC c j) (h3 : ¬ (c = 46 ∧ 0 ≤ j ∧ j ≤ 8)) : ¬ CC c j := by
  intro q
  rcases q with q | q | q | q | q | q
  · exact h1 (Or.inr (Or.inr (Or.inr (Or.inl q))))
  · exact h1 (Or.inr (Or.inr (Or.inr (Or.inr (Or.inl q)))))
  · by_cases h46 : c = 46
    · exact h2 (Or.inr (Or.inr (Or.inr (Or.inl ⟨h46, by omega⟩))))
    · exact h2 (Or.inr (Or.inr (Or.inr (Or.inr (Or.inl ⟨by omega, by omega⟩)))))
  · exact h2 (Or.inr (Or.inr (Or.inr (Or.inr (Or.inr (Or.inl ⟨q.1, by omega⟩))))))
  · exact h2 (Or.inr (Or.inr (Or.inr (Or.inr (Or.inr (Or.inr (Or.inl q)))))))
  · exact h2 (Or.inl ⟨q.1, by omega⟩)
theorem MC_n {l c j : Int} (h1 : ¬ SC l c j) (h2 : ¬ XC c j) : ¬ MC c j := by
  intro q
  rcases q with q | q | q | q | q
  · exact h2 (Or.inr (Or.inr (Or.inr (Or.inr (Or.inr (Or.inr (Or.inr (Or.inr (Or.inr (Or.inr (Or.inr (Or.inl q))))))))))))
  · exact h2 (Or.inr (Or.inr (Or.inr (Or.inr (Or.inr (Or.inr (Or.inr (Or.inr (Or.inr (Or.inr (Or.inr (Or.inr (Or.inl q)))))))))))))
  · exact h1 (Or.inr (Or.inr (Or.inr (Or.inr (Or.inr (Or.inr (Or.inr (Or.inr (Or.inr (Or.inr (Or.inr (Or.inr (Or.inr (Or.inr (Or.inl q)))))))))))))))
  · exact h1 (Or.inr (Or.inr (Or.inr (Or.inr (Or.inr (Or.inr (Or.inr (Or.inr (Or.inr (Or.inr (Or.inr (Or.inr (Or.inr (Or.inr (Or.inr (Or.inl q))))))))))))))))
  · by_cases h5 : 65 ≤ j ∧ j ≤ 67
    · exact h2 (Or.inr (Or.inr (Or.inr (Or.inr (Or.inr (Or.inr (Or.inr (Or.inr (Or.inr (Or.inr (Or.inr (Or.inr (Or.inr (Or.inr (⟨q.1, by omega⟩)))))))))))))))
    · exact h1 (Or.inr (Or.inr (Or.inr (Or.inr (Or.inr (Or.inr (Or.inr (Or.inr (Or.inr (Or.inr (Or.inr (Or.inr (Or.inr (Or.inr (Or.inr (Or.inr (Or.inr (Or.inr (Or.inr (Or.inr (Or.inr (Or.inr (Or.inr (⟨q.1, by omega⟩))))))))))))))))))))))))
theorem IW_o {f g L z : am_F} {n m r : Nat} {ρ : Int → List Int} {τ : Int → Bool} {l : Int} {Z : Int → am_F} (h : IW f n m r L ρ τ z l Z) (hg : ∀ c j : Int, ¬ SC l c j → ¬ OC c j → g c j = f c j) (tp : TP g) (rf : RF g) (pc : PC g) (fs : FS g) : IW g n m r L ρ τ z l Z := by
  have h' := h
  obtain ⟨⟨a1, a2, a3, a4, a5, a6⟩, ⟨b1, b2⟩, ⟨c1, c2⟩, _, _, _, _, nr, ps⟩ := h
  have hn := b1.2.2.2.1.1
  have k1 : ∀ c j : Int, 46 ≤ c → c ≤ 55 → g c j = f c j := fun c j q1 q2 => hg c j (by intro q; rcases q with q | q | q | q | q | q | q | q | q | q | q | q | q | q | q | q | q | q | q | q | q | q | q | q <;> omega) (by omega)
  have k2 : ∀ c j : Int, 66 ≤ c → c ≤ 267 → g c j = f c j := fun c j q1 q2 => hg c j (by intro q; rcases q with q | q | q | q | q | q | q | q | q | q | q | q | q | q | q | q | q | q | q | q | q | q | q | q <;> omega) (by omega)
  have k3 : ∀ j : Int, 24 ≤ j → g 303 j = f 303 j := fun j q1 => hg 303 j (by intro q; rcases q with q | q | q | q | q | q | q | q | q | q | q | q | q | q | q | q | q | q | q | q | q | q | q | q <;> omega) (by omega)
  have k4 : ∀ j : Int, 0 ≤ j → g 308 j = f 308 j := fun j q1 => hg 308 j (by intro q; rcases q with q | q | q | q | q | q | q | q | q | q | q | q | q | q | q | q | q | q | q | q | q | q | q | q <;> omega) (by omega)
  have k5 : ∀ j : Int, g 316 j = f 316 j := fun j => hg 316 j (by intro q; rcases q with q | q | q | q | q | q | q | q | q | q | q | q | q | q | q | q | q | q | q | q | q | q | q | q <;> omega) (by omega)
  have k6 : ∀ j : Int, j = 53 ∨ j = 65 ∨ j = 66 → g 270 j = f 270 j := fun j q1 => hg 270 j (by intro q; rcases q with q | q | q | q | q | q | q | q | q | q | q | q | q | q | q | q | q | q | q | q | q | q | q | q <;> omega) (by omega)
  exact IW_mk h' (fun c j q1 q2 => hg c j q1 (fun e => q2 (OC_X e))) (CZ_fr b1.2.2.1 (fun c j _ _ _ => k1 _ _ (by omega) (by omega))) (CN_fr b2 (fun i k _ _ => k1 _ _ (by omega) (by omega)) (k1 _ _ (by omega) (by omega)) (fun _ _ _ => rfl)) (MZ_fr2 c1.2.1 hn (fun j _ _ => k4 _ (by omega)) k3 (k6 _ (by omega)) a6) (NM_fr c2 (fun k _ => k4 _ (by omega)) (fun _ _ _ => rfl)) b1.2.2.2.2 tp rf pc fs (PS_fr ps hn (fun j _ => k6 _ (by omega)) (fun j _ => k2 _ _ (by omega) (by omega)) (fun c j _ _ => k2 _ _ (by omega) (by omega)) k5 k3)
/-- nothing but such cells was changed -/
theorem IW_fr {f g L z : am_F} {n m r : Nat} {ρ : Int → List Int} {τ : Int → Bool} {l : Int} {Z : Int → am_F} (h : IW f n m r L ρ τ z l Z) (hg : ∀ c j : Int, ¬ SC l c j → g c j = f c j) : IW g n m r L ρ τ z l Z := by
  have h' := h
  obtain ⟨⟨a1, a2, a3, a4, a5, a6⟩, ⟨b1, b2⟩, ⟨c1, c2⟩, tp, rf, pc, fs, nr, ps⟩ := h
  have k : ∀ c j : Int, OC c j → g c j = f c j := fun c j q0 => hg c j (by intro q; rcases q with q | q | q | q | q | q | q | q | q | q | q | q | q | q | q | q | q | q | q | q | q | q | q | q <;> omega)
  exact IW_o h' (fun c j q1 _ => hg c j q1) (TP_fr tp (k _ _ (by omega)) (k _ _ (by omega)) (fun j => k _ _ (by omega)) (fun j => k _ _ (by omega))) (RF_fr rf (fun j => k _ _ (by omega)) (fun j => k _ _ (by omega))) (PC_fr pc (k _ _ (by omega)) (k _ _ (by omega)) (fun j => k _ _ (by omega)) (fun j => k _ _ (by omega))) (FS_fr fs (fun j _ => k _ _ (by omega)) (fun j _ => k _ _ (by omega)))
theorem c_fx {f : am_F} (h : aw_fx f) : f 0 0 = 14 ∧ f 0 1 = 33 ∧ f 0 2 = 34 ∧ f 0 3 = 36 ∧ f 0 4 = 40 ∧ f 0 5 = 16 ∧ f 0 6 = 46 ∧ f 0 7 = 56 ∧ f 0 8 = 66 ∧ f 0 9 = 268 ∧ f 0 10 = 269 ∧ f 14 0 = 15 ∧ f 16 0 = 17 ∧ f 16 1 = 18 ∧ f 16 2 = 19 ∧ f 33 0 = 14 ∧ f 34 0 = 35 ∧ f 36 0 = 34 ∧ f 36 1 = 37 ∧ f 36 2 = 38 ∧ f 36 3 = 39 ∧ f 40 0 = 36 ∧ f 40 1 = 41 ∧ f 40 2 = 42 ∧ f 40 3 = 43 ∧ f 40 4 = 44 ∧ f 40 5 = 45 ∧ f 66 0 = 67 := ⟨fx_0_0 h, fx_0_1 h, fx_0_2 h, fx_0_3 h, fx_0_4 h, fx_0_5 h, fx_0_6 h, fx_0_7 h, fx_0_8 h, fx_0_9 h, fx_0_10 h, fx_14_0 h, fx_16_0 h, fx_16_1 h, fx_16_2 h, fx_33_0 h, fx_34_0 h, fx_36_0 h, fx_36_1 h, fx_36_2 h, fx_36_3 h, fx_40_0 h, fx_40_1 h, fx_40_2 h, fx_40_3 h, fx_40_4 h, fx_40_5 h, fx_66_0 h⟩
