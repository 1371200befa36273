/-! the model looks at a text: words, numbers, signs -/
theorem srt_0 {b : Int} : srt b = 0 ↔ (b = 10 ∨ b = 32) := by
  unfold srt
  repeat' split
  all_goals (constructor <;> intro h <;> omega)
theorem srt_1 {b : Int} : srt b = 1 ↔ (97 ≤ b ∧ b ≤ 122) := by
  unfold srt
  repeat' split
  all_goals (constructor <;> intro h <;> omega)
theorem srt_2i {b : Int} : srt b = 2 ↔ (48 ≤ b ∧ b ≤ 57) := by
  unfold srt
  repeat' split
  all_goals (constructor <;> intro h <;> omega)
def lk (B : Int → Int) (N p : Int) : Int := if N ≤ tS B N p then -1 else B (tS B N p)
/-- what the model's reading leaves as it was -/
def gP (f g : am_F) : Prop := ∀ c j : Int, ¬ ((c = 270 ∧ (j = 2 ∨ j = 4 ∨ j = 92 ∨ (94 ≤ j ∧ j ≤ 96))) ∨ c = 340 ∨ c = 341) → g c j = f c j
theorem gP_tr {f g h : am_F} (h1 : gP f g) (h2 : gP g h) : gP f h := fun c j hc => (h2 c j hc).trans (h1 c j hc)
theorem gP_rf {f : am_F} : gP f f := fun _ _ _ => rfl
theorem gP_up {f g : am_F} {c j v : Int} (h : gP f g) (hc : (c = 270 ∧ (j = 2 ∨ j = 4 ∨ j = 92 ∨ (94 ≤ j ∧ j ≤ 96))) ∨ c = 340 ∨ c = 341) : gP f (am_up g c j v) := fun c' j' hc' => by
  rw [am_un (fun e => hc' (by rw [e.1, e.2]; exact hc))]
  exact h c' j' hc'
/-- and where it meets a fault -/
def gPw (f g : am_F) : Prop := ∀ c j : Int, ¬ ((c = 270 ∧ (j = 2 ∨ (4 ≤ j ∧ j ≤ 6) ∨ j = 92 ∨ (94 ≤ j ∧ j ≤ 96))) ∨ c = 340 ∨ c = 341) → g c j = f c j
theorem gP_w {f g : am_F} (h : gP f g) : gPw f g := fun c j hc => h c j (by omega)
theorem gPw_tr {f g h : am_F} (h1 : gP f g) (h2 : gPw g h) : gPw f h := fun c j hc => (h2 c j hc).trans (h1 c j (by omega))
theorem gPw_rf {f : am_F} : gPw f f := fun _ _ _ => rfl
theorem gPw_up {f g : am_F} {c j v : Int} (h : gPw f g) (hc : (c = 270 ∧ (j = 2 ∨ (4 ≤ j ∧ j ≤ 6) ∨ j = 92 ∨ (94 ≤ j ∧ j ≤ 96))) ∨ c = 340 ∨ c = 341) : gPw f (am_up g c j v) := fun c' j' hc' => by
  rw [am_un (fun e => hc' (by rw [e.1, e.2]; exact hc))]
  exact h c' j' hc'
/-- the model's text is B, of N bytes -/
def MX (f : am_F) (B : Int → Int) (N : Int) : Prop := (aw_fx f ∧ aw_wd f) ∧ f 270 3 = N ∧ ∀ j, f 271 j = B j
theorem MX_gPw {f g : am_F} {B : Int → Int} {N : Int} (h : MX f B N) (hg : gPw f g) : MX g B N := by
  obtain ⟨⟨h1, h2⟩, h3, h4⟩ := h
  refine ⟨⟨fun x hx => ?_, fun x hx => ?_⟩, ?_, fun j => ?_⟩
  · rw [hg _ _ (by have q := SC_n (fx_n (Or.inl rfl) hx).1; omega)]; exact h1 x hx
  · rw [hg _ _ (by have q := SC_n (wd_n (Or.inl rfl) hx).1; omega)]; exact h2 x hx
  · rw [hg _ _ (by omega)]; exact h3
  · rw [hg _ _ (by omega)]; exact h4 j
theorem MX_gP {f g : am_F} {B : Int → Int} {N : Int} (h : MX f B N) (hg : gP f g) : MX g B N := MX_gPw h (gP_w hg)
/-- the model stands ahead of what begins at p -/
def PP (f : am_F) (B : Int → Int) (N p : Int) : Prop := (p ≤ f 270 2 ∧ f 270 2 ≤ tS B N p) ∧ f 270 4 ≤ p ∧ (f 270 4 = p ↔ (0 < p ∧ (srt (B (p - 1)) = 1 ∨ srt (B (p - 1)) = 2)))
section
variable {d : Nat} {f : am_F} {B : Int → Int} {N p : Int} {Q : am_V → am_F → Prop}
theorem m_let {c : Int} : aw_cl d 167 [(0, c)] f Q = Q (0, if srt c = 1 then 1 else 0) f := by
  apply aw_det
  by_cases h : srt c = 1
  · have := srt_1.mp h
    simp (disch := omega) [q167, r167_0, r167_1, r167_3, r167_6, r167_7, r167_9, r167_12, r167_13, r167_16, r167_17, cs_nil, cs_cons, lc_lt, lc_ge, lc_gt, lc_le, lc_eq, h, le_T, lt_T, le_F, lt_F]
  · rcases (show c < 97 ∨ (97 ≤ c ∧ 122 < c) by have h' : ¬ (97 ≤ c ∧ c ≤ 122) := fun q => h (srt_1.mpr q); omega) with q | q
    · simp (disch := omega) [q167, r167_0, r167_1, r167_3, r167_6, r167_7, r167_9, r167_12, r167_13, r167_16, r167_17, cs_nil, cs_cons, lc_lt, lc_ge, lc_gt, lc_le, lc_eq, h, le_T, lt_T, le_F, lt_F]
    · simp (disch := omega) [q167, r167_0, r167_1, r167_3, r167_6, r167_7, r167_9, r167_12, r167_13, r167_16, r167_17, cs_nil, cs_cons, lc_lt, lc_ge, lc_gt, lc_le, lc_eq, h, le_T, lt_T, le_F, lt_F]
theorem m_dig {c : Int} : aw_cl d 175 [(0, c)] f Q = Q (0, if srt c = 2 then 1 else 0) f := by
  apply aw_det
  by_cases h : srt c = 2
  · have := srt_2i.mp h
    simp (disch := omega) [q175, r175_0, r175_1, r175_3, r175_6, r175_7, r175_9, r175_12, r175_13, r175_16, r175_17, cs_nil, cs_cons, lc_lt, lc_ge, lc_gt, lc_le, lc_eq, h, le_T, lt_T, le_F, lt_F]
  · rcases (show c < 48 ∨ (48 ≤ c ∧ 57 < c) by have h' : ¬ (48 ≤ c ∧ c ≤ 57) := fun q => h (srt_2i.mpr q); omega) with q | q
    · simp (disch := omega) [q175, r175_0, r175_1, r175_3, r175_6, r175_7, r175_9, r175_12, r175_13, r175_16, r175_17, cs_nil, cs_cons, lc_lt, lc_ge, lc_gt, lc_le, lc_eq, h, le_T, lt_T, le_F, lt_F]
    · simp (disch := omega) [q175, r175_0, r175_1, r175_3, r175_6, r175_7, r175_9, r175_12, r175_13, r175_16, r175_17, cs_nil, cs_cons, lc_lt, lc_ge, lc_gt, lc_le, lc_eq, h, le_T, lt_T, le_F, lt_F]
theorem m_look (hX : MX f B N) (hN : N ≤ 1600) (h0 : 0 ≤ p) (h1 : p ≤ N) (hp : p ≤ f 270 2 ∧ f 270 2 ≤ tS B N p) : aw_cl d 162 [(110, 270)] f Q = Q (0, lk B N p) (am_up f 270 2 (tS B N p)) := by
  obtain ⟨⟨x1, x2⟩, x3, x4⟩ := hX
  have e0 := fx_270_0 x1
  have hs := tS_b (B := B) h1
  have hb := eo_b (B := B) (s := 0) h1
  have key : ∀ (j : Nat) (a : Int), a + j = tS B N p → p ≤ a → aw_wp d 162 0 [(110, 270)] [] (am_up f 270 2 a) (fun v g => v = (0, lk B N p) ∧ g = am_up f 270 2 (tS B N p)) := by
    intro j
    induction j with
    | zero =>
      intro a ha pa
      have : a = tS B N p := by omega
      subst this
      rw [r162_0]
      by_cases hk : N ≤ tS B N p
      · simp (disch := omega) [q162, r162_1, r162_4, r162_5, r162_8, r162_11, r162_12, r162_15, r162_16, r162_19, r162_20, r162_22, r162_25, r162_26, r162_29, r162_30, r162_33, r162_34, r162_36, r162_39, r162_40, r162_41, r162_44, r162_45, r162_46, r162_49, r162_52, r162_53, r162_56, r162_57, r162_60, r162_63, r162_64, r162_67, r162_68, r162_71, r162_72, r162_75, r162_76, cs_nil, cs_cons, lc_lt, lc_ge, lc_gt, lc_le, lc_eq, e0, x3, am_un, am_ue, le_T, lt_T, le_F, lt_F, lk]
      · have nb : ¬ srt (B (tS B N p)) = 0 := hb.2.2.2 (by unfold tS at hk; omega)
        have n1 : ¬ B (tS B N p) = 10 := fun q => nb (srt_0.mpr (Or.inl q))
        have n2 : ¬ B (tS B N p) = 32 := fun q => nb (srt_0.mpr (Or.inr q))
        simp (disch := omega) [q162, r162_1, r162_4, r162_5, r162_8, r162_11, r162_12, r162_15, r162_16, r162_19, r162_20, r162_22, r162_25, r162_26, r162_29, r162_30, r162_33, r162_34, r162_36, r162_39, r162_40, r162_41, r162_44, r162_45, r162_46, r162_49, r162_52, r162_53, r162_56, r162_57, r162_60, r162_63, r162_64, r162_67, r162_68, r162_71, r162_72, r162_75, r162_76, cs_nil, cs_cons, lc_lt, lc_ge, lc_gt, lc_le, lc_eq, e0, x3, x4, ln_271, n1, n2, am_un, am_ue, le_T, lt_T, le_F, lt_F, lk]
    | succ j ih =>
      intro a ha pa
      have ih' := ih (a + 1) (by omega) (by omega)
      have bl := srt_0.mp (hb.2.2.1 a pa (show a < tS B N p by omega))
      rw [r162_0]
      by_cases n1 : B a = 10
      · simpa (disch := omega) [q162, r162_1, r162_4, r162_5, r162_8, r162_11, r162_12, r162_15, r162_16, r162_19, r162_20, r162_22, r162_25, r162_26, r162_29, r162_30, r162_33, r162_34, r162_36, r162_39, r162_40, r162_41, r162_44, r162_45, r162_46, r162_49, r162_52, r162_53, r162_56, r162_57, r162_60, r162_63, r162_64, r162_67, r162_68, r162_71, r162_72, r162_75, r162_76, cs_nil, cs_cons, lc_lt, lc_ge, lc_gt, lc_le, lc_eq, e0, x3, x4, ln_271, n1, am_un, am_ue, am_uu, am_wid2, le_T, lt_T, le_F, lt_F] using ih'
      · have n2 : B a = 32 := by omega
        simpa (disch := omega) [q162, r162_1, r162_4, r162_5, r162_8, r162_11, r162_12, r162_15, r162_16, r162_19, r162_20, r162_22, r162_25, r162_26, r162_29, r162_30, r162_33, r162_34, r162_36, r162_39, r162_40, r162_41, r162_44, r162_45, r162_46, r162_49, r162_52, r162_53, r162_56, r162_57, r162_60, r162_63, r162_64, r162_67, r162_68, r162_71, r162_72, r162_75, r162_76, cs_nil, cs_cons, lc_lt, lc_ge, lc_gt, lc_le, lc_eq, e0, x3, x4, ln_271, n2, am_un, am_ue, am_uu, am_wid2, le_T, lt_T, le_F, lt_F] using ih'
  apply aw_det
  have := key (tS B N p - f 270 2).toNat (f 270 2) (by omega) hp.1
  rw [am_ui] at this
  simpa [q162] using this
theorem m_fail {k q : Int} (hb : f 270 5 = 0) : aw_cl d 164 [(110, 270), (0, k), (0, q)] f Q = Q (3, 0) (am_up (am_up f 270 5 k) 270 6 q) := by
  apply aw_det
  simp [q164, r164_0, r164_1, r164_4, r164_7, r164_8, r164_9, r164_10, r164_13, r164_14, r164_15, r164_18, cs_nil, cs_cons, lc_lt, lc_ge, lc_gt, lc_le, lc_eq, hb]
end
/-! which word is it -/
def HW (f : am_F) (wa k : Int) : Prop := (0 ≤ k ∧ k < 32 ∧ 271 < wa) ∧ am_len aw_SH wa = ((WL.getD k.toNat []).length : Int) ∧ ∀ i : Nat, i < (WL.getD k.toNat []).length → f wa i = (WL.getD k.toNat []).getD i 0
def HWL : List (Int × Int) := [(273, 0), (274, 1), (275, 2), (276, 3), (277, 4), (278, 5), (279, 6), (280, 7), (281, 8), (282, 9), (283, 10), (284, 11), (285, 12), (286, 13), (287, 14), (288, 15), (289, 16), (290, 17), (291, 18), (292, 19), (293, 20), (294, 21), (295, 22), (296, 23), (297, 24), (298, 25), (299, 26), (300, 27), (317, 13), (318, 21), (319, 28), (320, 29), (321, 30), (322, 31), (323, 24), (324, 23), (325, 22), (326, 25), (327, 26), (328, 27), (329, 1), (330, 2), (331, 3), (332, 15), (333, 16), (334, 17), (335, 18), (336, 5), (337, 19), (338, 20), (339, 8)]
def hwc (q : Int × Int) : Bool := (decide (0 ≤ q.2) && (decide (q.2 < 32) && (decide (271 < q.1) && decide (am_len aw_SH q.1 = ((WL.getD q.2.toNat []).length : Int))))) && (List.range (WL.getD q.2.toNat []).length).all fun i => decide ((q.1, (i : Int), (WL.getD q.2.toNat []).getD i 0) ∈ au_wd)
set_option maxRecDepth 100000 in
theorem hw_all : HWL.all hwc = true := by decide +kernel
theorem hw_of {f : am_F} (h : aw_wd f) {q : Int × Int} (hq : q ∈ HWL) : HW f q.1 q.2 := by
  have := List.all_eq_true.mp hw_all q hq
  unfold hwc at this
  simp only [Bool.and_eq_true, decide_eq_true_eq, List.all_eq_true, List.mem_range] at this
  exact ⟨⟨this.1.1, this.1.2.1, this.1.2.2.1⟩, this.1.2.2.2, fun i hi => h _ (this.2 i hi)⟩
section
variable {B : Int → Int} {N p : Int}
theorem mtF_1 : ∀ (w w' : List Int) (q : Int), w.length = w'.length → mtF B w q = true → mtF B w' q = true → w = w'
  | [], [], _, _, _, _ => rfl
  | [], _ :: _, _, h, _, _ => by simp at h
  | _ :: _, [], _, h, _, _ => by simp at h
  | c :: w, c' :: w', q, h, h1, h2 => by
    unfold mtF at h1 h2
    simp only [Bool.and_eq_true, decide_eq_true_eq] at h1 h2
    rw [mtF_1 w w' (q + 1) (by simpa using h) h1.2 h2.2, ← h1.1, ← h2.1]
theorem mt_1 {s e : Int} {w w' : List Int} (h : mt B s e w = true) (h' : mt B s e w' = true) : w = w' := by
  unfold mt at h h'
  simp only [Bool.and_eq_true, decide_eq_true_eq] at h h'
  exact mtF_1 w w' s (by omega) h.2 h'.2
theorem fdW_i {s e : Int} : ∀ (ws : List (List Int)) (k : Int) (i : Nat), 0 ≤ k → i < ws.length → ws.Nodup → (mt B s e (ws.getD i []) = true ↔ fdW B s e ws k = k + i)
  | [], _, _, _, h, _ => by simp at h
  | w :: ws, k, 0, hk, _, _ => by
    unfold fdW
    rw [List.getD_cons_zero]
    split
    · rename_i h; simp [h]
    · rename_i h
      have := fdW_b (B := B) (s := s) (e := e) ws (k + 1) (by omega)
      constructor
      · intro q; exact absurd q h
      · intro q; omega
  | w :: ws, k, i + 1, hk, hi, hn => by
    have ih := fdW_i (s := s) (e := e) ws (k + 1) i (by omega) (by simpa using hi) (List.nodup_cons.mp hn).2
    unfold fdW
    rw [List.getD_cons_succ]
    split
    · rename_i h
      constructor
      · intro q
        exfalso
        have e1 := mt_1 h q
        have hi' : i < ws.length := by simpa using hi
        apply (List.nodup_cons.mp hn).1
        rw [e1, List.getD_eq_getElem?_getD, List.getElem?_eq_getElem hi']
        exact List.getElem_mem hi'
      · intro q; omega
    · rename_i h
      rw [ih]
      constructor
      · intro q; omega
      · intro q; omega
set_option maxRecDepth 100000 in
theorem WL_nd : WL.Nodup := by decide +kernel
theorem tW_i {k : Int} (h0 : 0 ≤ k) (h1 : k < 32) : tW B N p = k ↔ (tK B N p = 1 ∧ mt B (tS B N p) (tE B N p) (WL.getD k.toNat []) = true) := by
  have := fdW_i (B := B) (s := tS B N p) (e := tE B N p) WL 0 k.toNat (by omega) (by rw [show WL.length = 32 from rfl]; omega) WL_nd
  rw [this]
  unfold tW
  by_cases hk : tK B N p = 1
  · rw [if_pos hk]
    constructor
    · intro q; exact ⟨hk, by omega⟩
    · intro q; have := q.2; omega
  · rw [if_neg hk]
    constructor
    · intro q; omega
    · intro q; exact absurd q.1 hk
end
section
variable {d : Nat} {f : am_F} {B : Int → Int} {N p : Int} {Q : am_V → am_F → Prop}
theorem lk_n {s : Int} (hs : s = 1 ∨ s = 2) : srt (lk B N p) = s ↔ (tS B N p < N ∧ srt (B (tS B N p)) = s) := by
  unfold lk
  split
  · rename_i h
    have : srt (-1) = 3 := by decide
    rw [this]
    constructor
    · intro q; omega
    · intro q; omega
  · rename_i h
    constructor
    · intro q; exact ⟨by omega, q⟩
    · intro q; exact q.2
/-- a word or a number goes on that is ended there -/
theorem en_q (hP : PP f B N p) (h1 : p ≤ N) (hw : srt (B (tS B N p)) = 1 ∨ srt (B (tS B N p)) = 2) : f 270 4 = tS B N p ↔ tq B N p = true := by
  have hs := tS_b (B := B) h1
  obtain ⟨_, h2, h3⟩ := hP
  unfold tq
  simp only [Bool.and_eq_true, decide_eq_true_eq]
  constructor
  · intro q
    have e : tS B N p = p := by omega
    have := h3.mp (by omega)
    rw [e] at hw ⊢
    exact ⟨this.1, rfl, hw, this.2⟩
  · rintro ⟨a, b, _, c⟩
    rw [b] at a c ⊢
    exact h3.mpr ⟨a, c⟩
theorem tK_s {s : Int} (hs : s = 1 ∨ s = 2) (hP : PP f B N p) (h1 : p ≤ N) : tK B N p = s ↔ (srt (lk B N p) = s ∧ ¬ f 270 4 = tS B N p) := by
  rw [lk_n hs]
  constructor
  · intro q
    unfold tK at q
    split at q
    · omega
    · rename_i hk
      split at q
      · omega
      · rename_i hq
        exact ⟨⟨by omega, q⟩, fun e => hq ((en_q hP h1 (by omega)).mp e)⟩
  · rintro ⟨⟨a, b⟩, c⟩
    unfold tK
    rw [if_neg (by omega), if_neg (fun q => c ((en_q hP h1 (by omega)).mpr q)), b]
/-- a run of letters or digits -/
theorem tE_r {s : Int} (hs : s = 1 ∨ s = 2) (hk : tK B N p = s) (h1 : p ≤ N) : tS B N p < N ∧ tE B N p = eo B N s (tS B N p) ∧ (∀ q, tS B N p ≤ q → q < tE B N p → srt (B q) = s) ∧ (tE B N p < N → ¬ srt (B (tE B N p)) = s) ∧ tS B N p < tE B N p ∧ tE B N p ≤ N := by
  have hb := tS_b (B := B) h1
  have tb := tok_b h1 (show ¬ tK B N p = 0 by omega)
  have hk' := hk
  unfold tK at hk'
  split at hk'
  · omega
  · rename_i h2
    split at hk'
    · omega
    · have e : tE B N p = eo B N s (tS B N p) := by
        unfold tE
        rw [if_neg h2, if_pos (by omega), hk']
      have b := eo_b (B := B) (N := N) (s := s) (p := tS B N p) (by omega)
      rw [← e] at b
      exact ⟨by omega, e, b.2.2.1, b.2.2.2, by omega, by omega⟩
theorem m_here {wa k : Int} (hX : MX f B N) (hN : N ≤ 1600) (h0 : 0 ≤ p) (h1 : p ≤ N) (hP : PP f B N p) (hb : f 270 5 = 0) (hw : HW f wa k) : aw_cl (d + 1) 166 [(110, 270), (22, wa)] f Q = Q (0, if tW B N p = k then 1 else 0) (am_up f 270 2 (tS B N p)) := by
  have lo := fun (dd : Nat) (QQ : am_V → am_F → Prop) => m_look (d := dd) (Q := QQ) hX hN h0 h1 hP.1
  obtain ⟨⟨x1, x2⟩, x3, x4⟩ := hX
  have e0 := fx_270_0 x1
  obtain ⟨⟨k0, k1, wa1⟩, hl, hc⟩ := hw
  have wa0 : 0 ≤ wa := by omega
  have ti := tW_i (B := B) (N := N) (p := p) k0 k1
  generalize WL.getD k.toNat [] = w0 at hl hc ti
  have hs := tS_b (B := B) h1
  have tk := tK_s (s := 1) (Or.inl rfl) hP h1
  apply aw_det
  by_cases hk : tK B N p = 1
  · have t1 := tk.mp hk
    have tr := tE_r (Or.inl rfl) hk h1
    have en : ¬ tS B N p = f 270 4 := fun q => t1.2 q.symm
    have loop2 : ∀ (w : List Int) (i : Nat), i + w.length = w0.length → (∀ j : Nat, j < w.length → f wa ((i : Int) + j) = w.getD j 0) → tS B N p + w0.length = tE B N p → aw_wp (d + 1) 166 76 [(110, 270), (22, wa), (0, tE B N p), (0, (i : Int))] [] (am_up f 270 2 (tS B N p)) (fun v g => v = (0, if mtF B w (tS B N p + i) = true then 1 else 0) ∧ g = am_up f 270 2 (tS B N p)) := by
      intro w
      induction w with
      | nil =>
        intro i hi _ hE
        have : (i : Int) = w0.length := by simp at hi; omega
        rw [r166_76]
        simp (disch := omega) [r166_77, r166_78, r166_79, r166_82, r166_83, r166_86, r166_87, r166_90, r166_91, r166_92, r166_93, r166_94, r166_95, r166_96, r166_99, r166_100, r166_101, r166_104, r166_107, r166_108, cs_nil, cs_cons, lc_lt, lc_ge, lc_gt, lc_le, lc_eq, hl, this, mtF, wa0, le_T, lt_T, le_F, lt_F]
      | cons c w ih =>
        intro i hi hcc hE
        rw [List.length_cons] at hi
        have c0 : f wa (i : Int) = c := by have := hcc 0 (by simp); simpa using this
        have ii : i < w0.length := by omega
        have ii2 : ¬ w0.length ≤ i := by omega
        have wn : ¬ wa = 270 := by omega
        have em : mtF B (c :: w) (tS B N p + i) = (decide (B (tS B N p + i) = c) && mtF B w (tS B N p + i + 1)) := rfl
        have ih' := ih (i + 1) (by omega) (fun j hj => by
          have := hcc (j + 1) (by simp; omega)
          rw [List.getD_cons_succ] at this
          rw [← this]
          congr 1
          omega) hE
        rw [r166_76]
        by_cases hB : B (tS B N p + i) = c
        · rw [em, hB]
          rw [Int.natCast_add i, show tS B N p + ((i : Int) + ((1 : Nat) : Int)) = tS B N p + i + 1 by omega] at ih'
          simpa (disch := omega) [r166_77, r166_78, r166_79, r166_82, r166_83, r166_86, r166_87, r166_90, r166_91, r166_92, r166_93, r166_94, r166_95, r166_96, r166_99, r166_100, r166_101, r166_104, r166_107, r166_108, cs_nil, cs_cons, lc_lt, lc_ge, lc_gt, lc_le, lc_eq, hl, e0, x3, x4, ln_271, c0, hB, wa0, ii, ii2, wn, am_un, am_ue, am_wid2, le_T, lt_T, le_F, lt_F] using ih'
        · rw [em]
          simp (disch := omega) [r166_77, r166_78, r166_79, r166_82, r166_83, r166_86, r166_87, r166_90, r166_91, r166_92, r166_93, r166_94, r166_95, r166_96, r166_99, r166_100, r166_101, r166_104, r166_107, r166_108, cs_nil, cs_cons, lc_lt, lc_ge, lc_gt, lc_le, lc_eq, hl, e0, x3, x4, ln_271, c0, hB, wa0, ii, ii2, wn, am_un, am_ue, am_wid2, le_T, lt_T, le_F, lt_F]
    have at61 : aw_wp (d + 1) 166 61 [(110, 270), (22, wa), (0, tE B N p), (2, 0)] [] (am_up f 270 2 (tS B N p)) (fun v g => v = (0, if tW B N p = k then 1 else 0) ∧ g = am_up f 270 2 (tS B N p)) := by
      by_cases hE : tS B N p + w0.length = tE B N p
      · have l2 := loop2 w0 0 (by simp) (fun j hj => by rw [← hc j hj]; congr 1; omega) hE
        have eb : (if mtF B w0 (tS B N p + ((0 : Nat) : Int)) = true then (1 : Int) else 0) = if tW B N p = k then 1 else 0 := by
          rw [show tS B N p + ((0 : Nat) : Int) = tS B N p by omega]
          have : (mtF B w0 (tS B N p) = true) ↔ tW B N p = k := by
            rw [ti]
            unfold mt
            simp [hk, hE]
          by_cases q : tW B N p = k
          · rw [if_pos q, if_pos (this.mpr q)]
          · rw [if_neg q, if_neg (fun w => q (this.mp w))]
        rw [eb] at l2
        have el : am_wI (tE B N p - tS B N p) = (w0.length : Int) := by rw [am_wid2 (by omega) (by omega)]; omega
        simpa (disch := omega) [r166_61, r166_62, r166_63, r166_66, r166_67, r166_68, r166_69, r166_72, r166_73, r166_74, r166_75, cs_nil, cs_cons, lc_lt, lc_ge, lc_gt, lc_le, lc_eq, hl, el, wa0, am_un, am_ue, le_T, lt_T, le_F, lt_F] using l2
      · have nk : ¬ tW B N p = k := fun q => by
          have := (ti.mp q).2
          unfold mt at this
          simp only [Bool.and_eq_true, decide_eq_true_eq] at this
          exact hE this.1
        have el : ¬ am_wI (tE B N p - tS B N p) = (w0.length : Int) := by rw [am_wid2 (by omega) (by omega)]; omega
        simp (disch := omega) [r166_61, r166_62, r166_63, r166_66, r166_67, r166_68, r166_69, r166_72, r166_73, r166_74, r166_75, cs_nil, cs_cons, lc_lt, lc_ge, lc_gt, lc_le, lc_eq, hl, el, nk, wa0, am_un, am_ue, le_T, lt_T, le_F, lt_F]
    have loop1 : ∀ (j : Nat) (q : Int), q + j = tE B N p → tS B N p ≤ q → aw_wp (d + 1) 166 35 [(110, 270), (22, wa), (0, q), (2, 0)] [] (am_up f 270 2 (tS B N p)) (fun v g => v = (0, if tW B N p = k then 1 else 0) ∧ g = am_up f 270 2 (tS B N p)) := by
      intro j
      induction j with
      | zero =>
        intro q hq _
        have : q = tE B N p := by omega
        subst this
        rw [r166_35]
        by_cases hn : tE B N p < N
        · have := tr.2.2.2.1 hn
          simpa (disch := omega) [r166_36, r166_37, r166_40, r166_43, r166_44, r166_47, r166_48, r166_49, r166_52, r166_55, r166_58, cs_nil, cs_cons, lc_lt, lc_ge, lc_gt, lc_le, lc_eq, e0, x3, x4, ln_271, m_let, this, am_un, am_ue, le_T, lt_T, le_F, lt_F] using at61
        · simpa (disch := omega) [r166_36, r166_37, r166_40, r166_43, r166_44, r166_47, r166_48, r166_49, r166_52, r166_55, r166_58, cs_nil, cs_cons, lc_lt, lc_ge, lc_gt, lc_le, lc_eq, e0, x3, x4, ln_271, am_un, am_ue, le_T, lt_T, le_F, lt_F] using at61
      | succ j ih =>
        intro q hq hsq
        have ih' := ih (q + 1) (by omega) (by omega)
        have := tr.2.2.1 q hsq (by omega)
        rw [r166_35]
        simpa (disch := omega) [r166_36, r166_37, r166_40, r166_43, r166_44, r166_47, r166_48, r166_49, r166_52, r166_55, r166_58, cs_nil, cs_cons, lc_lt, lc_ge, lc_gt, lc_le, lc_eq, e0, x3, x4, ln_271, m_let, this, am_un, am_ue, am_wid2, le_T, lt_T, le_F, lt_F] using ih'
    have := loop1 (tE B N p - tS B N p).toNat (tS B N p) (by omega) (by omega)
    simpa (disch := omega) [r166_0, r166_1, r166_4, r166_7, r166_8, r166_11, r166_14, r166_17, r166_18, r166_21, r166_22, r166_25, r166_28, r166_29, r166_30, r166_31, r166_34, cs_nil, cs_cons, lc_lt, lc_ge, lc_gt, lc_le, lc_eq, q166, hb, lo, m_let, t1.1, en, am_un, am_ue] using this
  · have nk : ¬ tW B N p = k := fun q => hk (tW_k (by omega))
    by_cases hs1 : srt (lk B N p) = 1
    · have en : tS B N p = f 270 4 := by
        by_cases q : f 270 4 = tS B N p
        · exact q.symm
        · exact absurd (tk.mpr ⟨hs1, q⟩) hk
      simp (disch := omega) [r166_0, r166_1, r166_4, r166_7, r166_8, r166_11, r166_14, r166_17, r166_18, r166_21, r166_22, r166_25, r166_28, r166_29, r166_30, r166_31, r166_34, cs_nil, cs_cons, lc_lt, lc_ge, lc_gt, lc_le, lc_eq, q166, hb, lo, m_let, hs1, nk, ← en, am_un, am_ue]
    · simp (disch := omega) [r166_0, r166_1, r166_4, r166_7, r166_8, r166_11, r166_14, r166_17, r166_18, r166_21, r166_22, r166_25, r166_28, r166_29, r166_30, r166_31, r166_34, cs_nil, cs_cons, lc_lt, lc_ge, lc_gt, lc_le, lc_eq, q166, hb, lo, m_let, hs1, nk, am_un, am_ue]
end
