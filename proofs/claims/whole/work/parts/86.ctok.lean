/-! the class goes from word to word -/
def wnF (B : Int → Int) (s e : Int) : List Int → Int → Int → Bool → Int
  | [], _, _, _ => -1
  | c :: r, n, q, al => if c = 32 then (if al = true ∧ q = e then n else wnF B s e r (n + 1) s true) else wnF B s e r n (q + 1) (al && (decide (q < e) && decide (B q = c)))
theorem wnF_w {B : Int → Int} {s e : Int} {r : List Int} {n : Int} : ∀ (w : List Int) (q : Int) (al : Bool), (∀ c ∈ w, ¬ c = 32) → wnF B s e (w ++ 32 :: r) n q al = if al = true ∧ q + w.length = e ∧ mtF B w q = true then n else wnF B s e r (n + 1) s true
  | [], q, al, _ => by
    show (if (32 : Int) = 32 then _ else _) = _
    rw [if_pos rfl]
    simp [mtF]
  | c :: w, q, al, h => by
    have hc : ¬ c = 32 := h c List.mem_cons_self
    have ih := wnF_w (B := B) (s := s) (e := e) (r := r) (n := n) w (q + 1) (al && (decide (q < e) && decide (B q = c))) (fun x hx => h x (List.mem_cons_of_mem _ hx))
    have e0 : wnF B s e (c :: w ++ 32 :: r) n q al = wnF B s e (w ++ 32 :: r) n (q + 1) (al && (decide (q < e) && decide (B q = c))) := if_neg hc
    rw [e0, ih]
    have e1 : ((al && (decide (q < e) && decide (B q = c))) = true ∧ q + 1 + (w.length : Int) = e ∧ mtF B w (q + 1) = true) = (al = true ∧ q + ((c :: w).length : Int) = e ∧ mtF B (c :: w) q = true) := by
      apply propext
      simp only [mtF, Bool.and_eq_true, decide_eq_true_eq, List.length_cons]
      constructor
      · rintro ⟨⟨a1, a2, a3⟩, a4, a5⟩
        exact ⟨a1, by omega, a3, a5⟩
      · rintro ⟨a1, a2, a3, a4⟩
        exact ⟨⟨a1, by omega, a3⟩, by omega, a4⟩
    simp only [e1]
def flt : List (List Int) → List Int
  | [] => []
  | w :: ws => w ++ 32 :: flt ws
theorem wnF_f {B : Int → Int} {s e : Int} : ∀ (ws : List (List Int)) (n : Int), (∀ w ∈ ws, ∀ c ∈ w, ¬ c = 32) → wnF B s e (flt ws) n s true = fdW B s e ws n
  | [], n, _ => rfl
  | w :: ws, n, h => by
    show wnF B s e (w ++ 32 :: flt ws) n s true = _
    rw [wnF_w w s true (h w List.mem_cons_self), wnF_f ws (n + 1) (fun x hx => h x (List.mem_cons_of_mem _ hx)), fdW]
    by_cases hm : mt B s e w = true
    · have := hm
      unfold mt at this
      simp only [Bool.and_eq_true, decide_eq_true_eq] at this
      rw [if_pos hm, if_pos ⟨rfl, this.1, this.2⟩]
    · rw [if_neg hm, if_neg]
      rintro ⟨_, a, b⟩
      apply hm
      unfold mt
      simp [a, b]
set_option maxRecDepth 100000 in
theorem txt_f : am_txt = flt WL := by decide +kernel
set_option maxRecDepth 100000 in
theorem WL_32 : ∀ w ∈ WL, ∀ c ∈ w, ¬ c = 32 := by decide +kernel
theorem txt_n : (am_txt.length : Int) = 171 := by decide +kernel
section
variable {d : Nat} {f : am_F} {B : Int → Int} {N p : Int} {Q : am_V → am_F → Prop}
theorem c_word (h : CT f B N) (hN : N ≤ 1600) {s e : Int} (hs : f 33 5 = s) (he : f 33 6 = e) (h0 : 0 ≤ s) (h1 : s ≤ 1600) (h2 : e ≤ N) : aw_cl d 24 [(104, 33)] f Q = Q (0, fdW B s e WL 0) f := by
  obtain ⟨a1, a2, a3, a4⟩ := h
  have key : ∀ (r : List Int) (k : Nat) (n q : Int) (al : Bool) (x : am_V), am_txt.drop k = r → k + r.length = 171 → 0 ≤ n → n ≤ k → s ≤ q → q ≤ s + k → aw_wp d 24 12 [(104, 33), (0, n), (0, q), (0, if al = true then 1 else 0), (0, (k : Int)), x] [] f (fun v f1 => v = (0, wnF B s e r n q al) ∧ f1 = f) := by
    intro r
    induction r with
    | nil =>
      intro k n q al x hd hk hn hnk hq hqk
      obtain ⟨tx, vx⟩ := x
      have k171 : k = 171 := by simpa using hk
      rw [r24_12]
      simp (disch := omega) [q24, r24_0, r24_1, r24_2, r24_3, r24_6, r24_7, r24_8, r24_9, r24_10, r24_14, r24_16, r24_19, r24_22, r24_24, r24_26, r24_29, r24_31, r24_33, r24_35, r24_38, r24_39, r24_42, r24_43, r24_44, r24_47, r24_50, r24_51, r24_54, r24_57, r24_58, r24_59, r24_61, r24_64, r24_65, r24_68, r24_69, r24_70, r24_73, r24_76, r24_77, r24_80, r24_81, r24_82, r24_85, r24_88, r24_89, r24_90, r24_93, r24_94, r24_97, r24_98, r24_99, r24_100, r24_103, r24_106, r24_107, cs_nil, cs_cons, lc_lt, lc_ge, lc_gt, lc_le, lc_eq, txt_n, k171, wnF]
    | cons c r ih =>
      intro k n q al x hd hk hn hnk hq hqk
      obtain ⟨tx, vx⟩ := x
      simp only [List.length_cons] at hk
      have hg : am_txt.getD k 0 = c := by
        have : am_txt[k]? = some c := by
          have := congrArg (fun l => l[0]?) hd
          simpa using this
        rw [List.getD_eq_getElem?_getD, this]; rfl
      have hd2 : am_txt.drop (k + 1) = r := by
        rw [← List.drop_drop, hd]; rfl
      have hg' : am_txt.getD ((k : Int)).toNat 0 = c := by rw [Int.toNat_natCast]; exact hg
      have ew : wnF B s e (c :: r) n q al = if c = 32 then (if al = true ∧ q = e then n else wnF B s e r (n + 1) s true) else wnF B s e r n (q + 1) (al && (decide (q < e) && decide (B q = c))) := rfl
      have hg2 : am_txt[k]?.getD 0 = c := by rw [← List.getD_eq_getElem?_getD]; exact hg
      have k1 : (k : Int) < 171 := by omega
      by_cases hc : c = 32
      · by_cases hal : al = true
        · by_cases hqe : q = e
          · rw [show wnF B s e (c :: r) n q al = n from by rw [ew, if_pos hc, if_pos ⟨hal, hqe⟩], r24_12]
            simp (disch := omega) [q24, r24_0, r24_1, r24_2, r24_3, r24_6, r24_7, r24_8, r24_9, r24_10, r24_14, r24_16, r24_19, r24_22, r24_24, r24_26, r24_29, r24_31, r24_33, r24_35, r24_38, r24_39, r24_42, r24_43, r24_44, r24_47, r24_50, r24_51, r24_54, r24_57, r24_58, r24_59, r24_61, r24_64, r24_65, r24_68, r24_69, r24_70, r24_73, r24_76, r24_77, r24_80, r24_81, r24_82, r24_85, r24_88, r24_89, r24_90, r24_93, r24_94, r24_97, r24_98, r24_99, r24_100, r24_103, r24_106, r24_107, cs_nil, cs_cons, lc_lt, lc_ge, lc_gt, lc_le, lc_eq, txt_n, k1, hg2, hc, hal, he, hs, a1, a2, a4, ln_15, am_wid2, le_T, lt_T, le_F, lt_F, hqe]
          · rw [show wnF B s e (c :: r) n q al = wnF B s e r (n + 1) s true from by rw [ew, if_pos hc, if_neg (fun w => hqe w.2)], r24_12]
            have ih' := ih (k + 1) (n + 1) s true (0, c) hd2 (by omega) (by omega) (by omega) (by omega) (by omega)
            rw [Int.natCast_add k] at ih'
            simpa (disch := omega) [q24, r24_0, r24_1, r24_2, r24_3, r24_6, r24_7, r24_8, r24_9, r24_10, r24_14, r24_16, r24_19, r24_22, r24_24, r24_26, r24_29, r24_31, r24_33, r24_35, r24_38, r24_39, r24_42, r24_43, r24_44, r24_47, r24_50, r24_51, r24_54, r24_57, r24_58, r24_59, r24_61, r24_64, r24_65, r24_68, r24_69, r24_70, r24_73, r24_76, r24_77, r24_80, r24_81, r24_82, r24_85, r24_88, r24_89, r24_90, r24_93, r24_94, r24_97, r24_98, r24_99, r24_100, r24_103, r24_106, r24_107, cs_nil, cs_cons, lc_lt, lc_ge, lc_gt, lc_le, lc_eq, txt_n, k1, hg2, hc, hal, he, hs, a1, a2, a4, ln_15, am_wid2, le_T, lt_T, le_F, lt_F, hqe] using ih'
        · rw [show wnF B s e (c :: r) n q al = wnF B s e r (n + 1) s true from by rw [ew, if_pos hc, if_neg (fun w => hal w.1)], r24_12]
          have ih' := ih (k + 1) (n + 1) s true (0, c) hd2 (by omega) (by omega) (by omega) (by omega) (by omega)
          rw [Int.natCast_add k] at ih'
          simpa (disch := omega) [q24, r24_0, r24_1, r24_2, r24_3, r24_6, r24_7, r24_8, r24_9, r24_10, r24_14, r24_16, r24_19, r24_22, r24_24, r24_26, r24_29, r24_31, r24_33, r24_35, r24_38, r24_39, r24_42, r24_43, r24_44, r24_47, r24_50, r24_51, r24_54, r24_57, r24_58, r24_59, r24_61, r24_64, r24_65, r24_68, r24_69, r24_70, r24_73, r24_76, r24_77, r24_80, r24_81, r24_82, r24_85, r24_88, r24_89, r24_90, r24_93, r24_94, r24_97, r24_98, r24_99, r24_100, r24_103, r24_106, r24_107, cs_nil, cs_cons, lc_lt, lc_ge, lc_gt, lc_le, lc_eq, txt_n, k1, hg2, hc, hal, he, hs, a1, a2, a4, ln_15, am_wid2, le_T, lt_T, le_F, lt_F, h0] using ih'
      · by_cases hal : al = true
        · by_cases hqe : q < e
          · by_cases hb : B q = c
            · rw [show wnF B s e (c :: r) n q al = wnF B s e r n (q + 1) true from by rw [ew, if_neg hc, hal]; simp [hqe, hb], r24_12]
              have ih' := ih (k + 1) n (q + 1) true (0, c) hd2 (by omega) (by omega) (by omega) (by omega) (by omega)
              rw [Int.natCast_add k] at ih'
              simpa (disch := omega) [q24, r24_0, r24_1, r24_2, r24_3, r24_6, r24_7, r24_8, r24_9, r24_10, r24_14, r24_16, r24_19, r24_22, r24_24, r24_26, r24_29, r24_31, r24_33, r24_35, r24_38, r24_39, r24_42, r24_43, r24_44, r24_47, r24_50, r24_51, r24_54, r24_57, r24_58, r24_59, r24_61, r24_64, r24_65, r24_68, r24_69, r24_70, r24_73, r24_76, r24_77, r24_80, r24_81, r24_82, r24_85, r24_88, r24_89, r24_90, r24_93, r24_94, r24_97, r24_98, r24_99, r24_100, r24_103, r24_106, r24_107, cs_nil, cs_cons, lc_lt, lc_ge, lc_gt, lc_le, lc_eq, txt_n, k1, hg2, hc, hal, he, hs, a1, a2, a4, ln_15, am_wid2, le_T, lt_T, le_F, lt_F, hqe, hb] using ih'
            · rw [show wnF B s e (c :: r) n q al = wnF B s e r n (q + 1) false from by rw [ew, if_neg hc, hal]; simp [hb], r24_12]
              have ih' := ih (k + 1) n (q + 1) false (0, c) hd2 (by omega) (by omega) (by omega) (by omega) (by omega)
              rw [Int.natCast_add k] at ih'
              simpa (disch := omega) [q24, r24_0, r24_1, r24_2, r24_3, r24_6, r24_7, r24_8, r24_9, r24_10, r24_14, r24_16, r24_19, r24_22, r24_24, r24_26, r24_29, r24_31, r24_33, r24_35, r24_38, r24_39, r24_42, r24_43, r24_44, r24_47, r24_50, r24_51, r24_54, r24_57, r24_58, r24_59, r24_61, r24_64, r24_65, r24_68, r24_69, r24_70, r24_73, r24_76, r24_77, r24_80, r24_81, r24_82, r24_85, r24_88, r24_89, r24_90, r24_93, r24_94, r24_97, r24_98, r24_99, r24_100, r24_103, r24_106, r24_107, cs_nil, cs_cons, lc_lt, lc_ge, lc_gt, lc_le, lc_eq, txt_n, k1, hg2, hc, hal, he, hs, a1, a2, a4, ln_15, am_wid2, le_T, lt_T, le_F, lt_F, hqe, hb] using ih'
          · rw [show wnF B s e (c :: r) n q al = wnF B s e r n (q + 1) false from by rw [ew, if_neg hc, hal]; simp [hqe], r24_12]
            have ih' := ih (k + 1) n (q + 1) false (0, c) hd2 (by omega) (by omega) (by omega) (by omega) (by omega)
            rw [Int.natCast_add k] at ih'
            simpa (disch := omega) [q24, r24_0, r24_1, r24_2, r24_3, r24_6, r24_7, r24_8, r24_9, r24_10, r24_14, r24_16, r24_19, r24_22, r24_24, r24_26, r24_29, r24_31, r24_33, r24_35, r24_38, r24_39, r24_42, r24_43, r24_44, r24_47, r24_50, r24_51, r24_54, r24_57, r24_58, r24_59, r24_61, r24_64, r24_65, r24_68, r24_69, r24_70, r24_73, r24_76, r24_77, r24_80, r24_81, r24_82, r24_85, r24_88, r24_89, r24_90, r24_93, r24_94, r24_97, r24_98, r24_99, r24_100, r24_103, r24_106, r24_107, cs_nil, cs_cons, lc_lt, lc_ge, lc_gt, lc_le, lc_eq, txt_n, k1, hg2, hc, hal, he, hs, a1, a2, a4, ln_15, am_wid2, le_T, lt_T, le_F, lt_F, hqe] using ih'
        · rw [show wnF B s e (c :: r) n q al = wnF B s e r n (q + 1) false from by rw [ew, if_neg hc, Bool.eq_false_iff.mpr hal, Bool.false_and], r24_12]
          have ih' := ih (k + 1) n (q + 1) false (0, c) hd2 (by omega) (by omega) (by omega) (by omega) (by omega)
          rw [Int.natCast_add k] at ih'
          simpa (disch := omega) [q24, r24_0, r24_1, r24_2, r24_3, r24_6, r24_7, r24_8, r24_9, r24_10, r24_14, r24_16, r24_19, r24_22, r24_24, r24_26, r24_29, r24_31, r24_33, r24_35, r24_38, r24_39, r24_42, r24_43, r24_44, r24_47, r24_50, r24_51, r24_54, r24_57, r24_58, r24_59, r24_61, r24_64, r24_65, r24_68, r24_69, r24_70, r24_73, r24_76, r24_77, r24_80, r24_81, r24_82, r24_85, r24_88, r24_89, r24_90, r24_93, r24_94, r24_97, r24_98, r24_99, r24_100, r24_103, r24_106, r24_107, cs_nil, cs_cons, lc_lt, lc_ge, lc_gt, lc_le, lc_eq, txt_n, k1, hg2, hc, hal, he, hs, a1, a2, a4, ln_15, am_wid2, le_T, lt_T, le_F, lt_F, h0] using ih'
  apply aw_det
  have := key am_txt 0 0 s true (2, 0) rfl (by have := txt_n; omega) (by omega) (by omega) (by omega) (by omega)
  rw [show wnF B s e am_txt 0 s true = fdW B s e WL 0 by rw [txt_f]; exact wnF_f WL 0 WL_32] at this
  simpa [q24, r24_0, r24_1, r24_2, r24_3, r24_6, r24_7, r24_8, r24_9, r24_10, r24_14, r24_16, r24_19, r24_22, r24_24, r24_26, r24_29, r24_31, r24_33, r24_35, r24_38, r24_39, r24_42, r24_43, r24_44, r24_47, r24_50, r24_51, r24_54, r24_57, r24_58, r24_59, r24_61, r24_64, r24_65, r24_68, r24_69, r24_70, r24_73, r24_76, r24_77, r24_80, r24_81, r24_82, r24_85, r24_88, r24_89, r24_90, r24_93, r24_94, r24_97, r24_98, r24_99, r24_100, r24_103, r24_106, r24_107, cs_nil, cs_cons, lc_lt, lc_ge, lc_gt, lc_le, lc_eq, hs] using this
theorem nvF_b {s e : Int} (hb : ∀ q, s ≤ q → q < e → 48 ≤ B q ∧ B q ≤ 57) : ∀ (j : Nat) (q v : Int), s ≤ q → j ≤ 4 → 0 ≤ v → v * 10 ^ j ≤ 9999 - (10 ^ j - 1) → 0 ≤ nvF B s e j q v ∧ nvF B s e j q v ≤ 9999
  | 0, q, v, _, _, h1, h2 => by simp at h2; rw [nvF]; omega
  | 1, q, v, hq, _, h1, h2 => by
    simp only [nvF]
    split
    · rename_i hh; have := hb q hq hh.1; simp at h2; omega
    · simp at h2; omega
  | 2, q, v, hq, _, h1, h2 => by
    simp only [nvF]
    split
    · rename_i hh; have := hb q hq hh.1
      split
      · rename_i hh2; have := hb (q + 1) (by omega) hh2.1; simp at h2; omega
      · simp at h2; omega
    · simp at h2; omega
  | 3, q, v, hq, _, h1, h2 => by
    simp only [nvF]
    split
    · rename_i hh; have := hb q hq hh.1
      split
      · rename_i hh2; have := hb (q + 1) (by omega) hh2.1
        split
        · rename_i hh3; have := hb (q + 1 + 1) (by omega) hh3.1; simp at h2; omega
        · simp at h2; omega
      · simp at h2; omega
    · simp at h2; omega
  | 4, q, v, hq, _, h1, h2 => by
    simp only [nvF]
    split
    · rename_i hh; have := hb q hq hh.1
      split
      · rename_i hh2; have := hb (q + 1) (by omega) hh2.1
        split
        · rename_i hh3; have := hb (q + 1 + 1) (by omega) hh3.1
          split
          · rename_i hh4; have := hb (q + 1 + 1 + 1) (by omega) hh4.1; simp at h2; omega
          · simp at h2; omega
        · simp at h2; omega
      · simp at h2; omega
    · simp at h2; omega
  | j + 5, _, _, _, h, _, _ => by omega
theorem c_num (h : CT f B N) (hN : N ≤ 1600) (hB : ∀ j, 0 ≤ B j ∧ B j ≤ 255) {s e : Int} (hs : f 33 5 = s) (he : f 33 6 = e) (h0 : 0 ≤ s) (h1 : s ≤ 1600) (h2 : e ≤ N) : aw_cl d 25 [(104, 33)] f Q = Q (0, nvF B s e 4 s 0) f := by
  obtain ⟨a1, a2, a3, a4⟩ := h
  have key : ∀ (j : Nat) (q v M : Int), q + j = s + 4 → s ≤ q → -M ≤ v → v ≤ M → (j = 4 → M = 0) → (j = 3 → M = 300) → (j = 2 → M = 4000) → (j = 1 → M = 50000) → (j = 0 → M = 600000) → j ≤ 4 → aw_wp d 25 7 [(104, 33), (0, v), (0, q)] [] f (fun w f1 => w = (0, nvF B s e j q v) ∧ f1 = f) := by
    intro j
    induction j with
    | zero =>
      intro q v M hq hsq b1 b2 m4 m3 m2 m1 m0 _
      rw [r25_7]
      by_cases hqe : q < e
      · simp (disch := omega) [q25, r25_0, r25_1, r25_2, r25_3, r25_6, r25_8, r25_9, r25_12, r25_15, r25_16, r25_17, r25_20, r25_21, r25_22, r25_25, r25_27, r25_28, r25_29, r25_30, r25_33, r25_36, r25_37, r25_38, r25_39, r25_41, r25_42, r25_43, r25_46, r25_49, r25_50, cs_nil, cs_cons, lc_lt, lc_ge, lc_gt, lc_le, lc_eq, hs, he, am_wid2, le_T, lt_T, le_F, lt_F, nvF]
      · simp (disch := omega) [q25, r25_0, r25_1, r25_2, r25_3, r25_6, r25_8, r25_9, r25_12, r25_15, r25_16, r25_17, r25_20, r25_21, r25_22, r25_25, r25_27, r25_28, r25_29, r25_30, r25_33, r25_36, r25_37, r25_38, r25_39, r25_41, r25_42, r25_43, r25_46, r25_49, r25_50, cs_nil, cs_cons, lc_lt, lc_ge, lc_gt, lc_le, lc_eq, hs, he, am_wid2, le_T, lt_T, le_F, lt_F, nvF]
    | succ j ih =>
      intro q v M hq hsq b1 b2 m4 m3 m2 m1 m0 hj4
      have ew : nvF B s e (j + 1) q v = if q < e ∧ q < s + 4 then nvF B s e j (q + 1) (10 * v + B q - 48) else v := rfl
      rw [ew]
      have hBq := hB q
      have hM : 0 ≤ M ∧ M ≤ 50000 := by omega
      rw [r25_7]
      by_cases hqe : q < e
      · rw [if_pos ⟨hqe, by omega⟩]
        have ih' := ih (q + 1) (10 * v + B q - 48) (if j = 3 then 300 else if j = 2 then 4000 else if j = 1 then 50000 else 600000) (by omega) (by omega) (by split <;> (try split) <;> (try split) <;> omega) (by split <;> (try split) <;> (try split) <;> omega) (by omega) (fun e => by rw [if_pos e]) (fun e => by rw [if_neg (by omega), if_pos e]) (fun e => by rw [if_neg (by omega), if_neg (by omega), if_pos e]) (fun e => by rw [if_neg (by omega), if_neg (by omega), if_neg (by omega)]) (by omega)
        simpa (disch := omega) [q25, r25_0, r25_1, r25_2, r25_3, r25_6, r25_8, r25_9, r25_12, r25_15, r25_16, r25_17, r25_20, r25_21, r25_22, r25_25, r25_27, r25_28, r25_29, r25_30, r25_33, r25_36, r25_37, r25_38, r25_39, r25_41, r25_42, r25_43, r25_46, r25_49, r25_50, cs_nil, cs_cons, lc_lt, lc_ge, lc_gt, lc_le, lc_eq, hs, he, a1, a2, a4, ln_15, am_wid2, le_T, lt_T, le_F, lt_F] using ih'
      · rw [if_neg (fun w => hqe w.1)]
        simp (disch := omega) [q25, r25_0, r25_1, r25_2, r25_3, r25_6, r25_8, r25_9, r25_12, r25_15, r25_16, r25_17, r25_20, r25_21, r25_22, r25_25, r25_27, r25_28, r25_29, r25_30, r25_33, r25_36, r25_37, r25_38, r25_39, r25_41, r25_42, r25_43, r25_46, r25_49, r25_50, cs_nil, cs_cons, lc_lt, lc_ge, lc_gt, lc_le, lc_eq, hs, he, am_wid2, le_T, lt_T, le_F, lt_F]
  apply aw_det
  have := key 4 s 0 0 (by omega) (by omega) (by omega) (by omega) (fun _ => rfl) (by omega) (by omega) (by omega) (by omega) (by omega)
  simpa [q25, r25_0, r25_1, r25_2, r25_3, r25_6, r25_8, r25_9, r25_12, r25_15, r25_16, r25_17, r25_20, r25_21, r25_22, r25_25, r25_27, r25_28, r25_29, r25_30, r25_33, r25_36, r25_37, r25_38, r25_39, r25_41, r25_42, r25_43, r25_46, r25_49, r25_50, cs_nil, cs_cons, lc_lt, lc_ge, lc_gt, lc_le, lc_eq, hs] using this
end
