/-! codes that are read are typed -/
theorem tr_app {sk q : Bool} : ∀ (a b : List Int) (ts : List Bool), tr sk q (a ++ b) ts = (tr sk q a ts).bind (tr sk q b)
  | [], b, ts => rfl
  | c :: a, b, ts => by
    show (t1 sk q c ts).bind (tr sk q (a ++ b)) = ((t1 sk q c ts).bind (tr sk q a)).bind (tr sk q b)
    cases t1 sk q c ts with
    | none => rfl
    | some us => exact tr_app a b us
theorem tr_two {sk q : Bool} {a b : List Int} {ts us vs : List Bool} (h1 : tr sk q a ts = some us) (h2 : tr sk q b us = some vs) : tr sk q (a ++ b) ts = some vs := by
  rw [tr_app, h1]; exact h2
theorem tr_one {sk q : Bool} {c : Int} {ts us : List Bool} (h : t1 sk q c ts = some us) : tr sk q [c] ts = some us := by
  show (t1 sk q c ts).bind (tr sk q []) = some us
  rw [h]; rfl
theorem tr_cons {sk q : Bool} {c : Int} {cs : List Int} {ts us vs : List Bool} (h : t1 sk q c ts = some us) (h2 : tr sk q cs us = some vs) : tr sk q (c :: cs) ts = some vs := by
  show (t1 sk q c ts).bind (tr sk q cs) = some vs
  rw [h]; exact h2
section
variable {sk q : Bool} {ts : List Bool} {c : Int}
theorem t1_num (h1 : 1000 ≤ c) (h2 : c ≤ 10999) (hl : ts.length < 100) : t1 sk q c ts = some (false :: ts) := by
  unfold t1
  rw [if_pos h1, if_pos ⟨h2, hl⟩]
theorem t1_prt (h1 : 40 ≤ c) (h2 : c ≤ 49) (h3 : c = 47 → sk = true) (hl : ts.length < 100) : t1 sk q c ts = some (false :: ts) := by
  unfold t1
  rw [if_neg (by omega), if_neg (by omega), if_pos h1, if_pos ⟨h2, h3, hl⟩]
theorem t1_of (h : q = true) : t1 sk q 60 (false :: ts) = some (false :: ts) := by
  unfold t1
  rw [if_neg (by omega), if_pos (by omega)]
  exact if_pos ⟨rfl, h⟩
theorem t1_all (hl : ts.length < 100) : t1 sk q 13 ts = some (true :: ts) := by
  unfold t1
  rw [if_neg (by omega), if_neg (by omega), if_neg (by omega), if_pos rfl, if_pos hl]
theorem t1_not : t1 sk q 12 (true :: ts) = some (true :: ts) := by
  unfold t1
  rw [if_neg (by omega), if_neg (by omega), if_neg (by omega), if_neg (by omega), if_pos rfl]
theorem t1_log (h : c = 10 ∨ c = 11) : t1 sk q c (true :: true :: ts) = some (true :: ts) := by
  unfold t1
  rw [if_neg (by omega), if_neg (by omega), if_neg (by omega), if_neg (by omega), if_neg (by omega), if_pos h]
theorem t1_cmp (h : 7 ≤ c ∧ c ≤ 9) : t1 sk q c (false :: false :: ts) = some (true :: ts) := by
  unfold t1
  rw [if_neg (by omega), if_neg (by omega), if_neg (by omega), if_neg (by omega), if_neg (by omega), if_neg (by omega), if_pos h]
theorem t1_ops (h : 1 ≤ c ∧ c ≤ 6) : t1 sk q c (false :: false :: ts) = some (false :: ts) := by
  unfold t1
  rw [if_neg (by omega), if_neg (by omega), if_neg (by omega), if_neg (by omega), if_neg (by omega), if_neg (by omega), if_neg (by omega), if_pos h]
end
section
variable {B : Int → Int} {N κ : Int}
theorem srt_2 {b : Int} (h : srt b = 2) : 48 ≤ b ∧ b ≤ 57 := by
  unfold srt at h
  split at h
  · cases h
  · split at h
    · cases h
    · split at h
      · assumption
      · cases h
theorem nvF_c {s e : Int} : ∀ (j : Nat) (q v x : Int), (∀ c, q ≤ c → c < e → 48 ≤ B c ∧ B c ≤ 57) → 0 ≤ v → v ≤ x → 0 ≤ nvF B s e j q v ∧ nvF B s e j q v + 1 ≤ 10 ^ j * (x + 1)
  | 0, q, v, x, _, h0, h1 => by
    unfold nvF
    simp only [Int.pow_zero, Int.one_mul]
    omega
  | j + 1, q, v, x, hd, h0, h1 => by
    unfold nvF
    split
    · rename_i h
      have a := hd q (by omega) h.1
      have ih := nvF_c (s := s) (e := e) j (q + 1) (10 * v + B q - 48) (10 * x + 9) (fun c c0 c1 => hd c (by omega) c1) (by omega) (by omega)
      refine ⟨ih.1, ?_⟩
      rw [Int.pow_succ, Int.mul_assoc, show 10 * (x + 1) = 10 * x + 9 + 1 by omega]
      exact ih.2
    · refine ⟨h0, ?_⟩
      have p1 : (1 : Int) ≤ 10 ^ (j + 1) := Int.pow_pos (by decide)
      have p2 : 1 * (x + 1) ≤ 10 ^ (j + 1) * (x + 1) := Int.mul_le_mul_of_nonneg_right p1 (by omega)
      omega
theorem tV_b {p : Int} (h : p ≤ N) (hk : tK B N p = 2) : 0 ≤ tV B N p ∧ tV B N p ≤ 9999 := by
  have h1 := tS_b (B := B) h
  have hk' := hk
  unfold tK at hk'
  split at hk'
  · cases hk'
  · rename_i hn
    split at hk'
    · cases hk'
    · have e : tE B N p = eo B N 2 (tS B N p) := by unfold tE; rw [if_neg hn, if_pos (Or.inr hk'), hk']
      have b := eo_b (B := B) (N := N) (s := 2) (p := tS B N p) (by omega)
      unfold tV
      rw [if_neg (by omega), if_pos hk]
      have := nvF_c (B := B) (s := tS B N p) (e := tE B N p) 4 (tS B N p) 0 0 (fun c c0 c1 => srt_2 (b.2.2.1 c c0 (by rw [← e]; exact c1))) (by omega) (by omega)
      refine ⟨this.1, ?_⟩
      have h4 : (10 : Int) ^ 4 * (0 + 1) = 10000 := by decide
      omega
theorem pw_b {w : Int} : -1 ≤ pw w ∧ pw w ≤ 9 := by
  unfold pw
  repeat' split
  all_goals omega
theorem alw_b {i : Int} (h : alw κ i = true) : 0 ≤ i ∧ (i = 7 → κ = 2) := by
  unfold alw at h
  simp only [Bool.or_eq_true, Bool.and_eq_true, decide_eq_true_eq] at h
  omega
def lvt (mode : Nat) : Int := if mode = 0 then 0 else if mode = 1 then 1 else if mode = 2 then 2 else if mode = 3 then 1 else if mode = 4 then 2 else if mode = 5 then 3 else if mode = 6 then 4 else if mode = 7 then 4 else 5
/-- what a mode leaves on the stack of kinds, and what it finds there -/
def tyi (mode : Nat) (ts : List Bool) : List Bool := if mode = 1 ∨ mode = 2 then false :: ts else if mode = 6 ∨ mode = 8 then true :: ts else ts
def tyo (mode : Nat) (ts : List Bool) : List Bool := if mode < 5 then false :: ts else true :: ts
theorem rd_ty {sk q : Bool} (hsk : κ = 2 → sk = true) (hq : κ = 3 → q = true) : ∀ (k mode : Nat) (p o p' : Int) (cs : List Int), rd B N κ k mode p o = some (.inr (p', cs)) → p ≤ N → o ≤ 6 → ∀ ts : List Bool, (ts.length : Int) + 6 * (6 - o) + lvt mode ≤ 99 → tr sk q cs (tyi mode ts) = some (tyo mode ts)
  | 0, _, _, _, _, _, h, _, _, _, _ => by cases h
  | k + 1, mode, p, o, p', cs, h, hp, ho, ts, hl => by
    have ih := fun (mode : Nat) (p o p' : Int) (cs : List Int) => rd_ty hsk hq k mode p o p' cs
    have lc : ∀ (b : Bool) (ts : List Bool), (((b :: ts).length : Nat) : Int) = ts.length + 1 := fun b ts => by simp
    match mode, h, hl with
    | 0, h, hl =>
      have hl : (ts.length : Int) + 6 * (6 - o) + 0 ≤ 99 := hl
      show tr sk q cs ts = some (false :: ts)
      rw [rd] at h
      split at h
      · rename_i hk
        split at h
        · cases h
        · cases h
          have := tV_b hp hk
          exact tr_one (t1_num (by omega) (by omega) (by omega))
      · split at h
        · rename_i hg
          have g1 := isg_b hp hg
          split at h
          · cases h
          · obtain ⟨p1, c1, e1, e2⟩ := bd_ok h
            have i1 : tr sk q c1 ts = some (false :: ts) := ih 4 _ _ _ _ e1 g1.2 (by omega) ts (show (ts.length : Int) + 6 * (6 - (o + 1)) + 2 ≤ 99 by omega)
            split at e2
            · cases e2; exact i1
            · cases e2
        · split at h
          · rename_i hw
            have g0 := tW_b hp (show ¬ tW B N p = -1 by omega)
            split at h
            · rename_i hg
              have g1 := isg_b g0.2 hg
              split at h
              · cases h
              · obtain ⟨p1, c1, e1, e2⟩ := bd_ok h
                have n1 := (rd_len _ _ _ _ _ _ e1 g1.2).1
                have i1 : tr sk q c1 ts = some (false :: ts) := ih 4 _ _ _ _ e1 g1.2 (by omega) ts (show (ts.length : Int) + 6 * (6 - (o + 1)) + 2 ≤ 99 by omega)
                split at e2
                · rename_i hg2
                  have g2 := isg_b n1.2.1 hg2
                  obtain ⟨p2, c2, e3, e4⟩ := bd_ok e2
                  have i2 : tr sk q c2 (false :: ts) = some (false :: false :: ts) := ih 4 _ _ _ _ e3 g2.2 (by omega) (false :: ts) (show (((false :: ts).length : Nat) : Int) + 6 * (6 - (o + 1)) + 2 ≤ 99 by rw [lc]; omega)
                  split at e4
                  · cases e4
                    exact tr_two i1 (tr_two i2 (tr_one (t1_ops (by omega))))
                  · cases e4
                · cases e2
            · cases h
          · split at h
            · rename_i hw
              have g0 := tW_b hp (show ¬ tW B N p = -1 by omega)
              split at h
              · cases h
              · obtain ⟨p1, c1, e1, e2⟩ := bd_ok h
                have i1 : tr sk q c1 ts = some (false :: ts) := ih 0 _ _ _ _ e1 g0.2 (by omega) ts (show (ts.length : Int) + 6 * (6 - (o + 1)) + 0 ≤ 99 by omega)
                cases e2
                exact tr_two i1 (tr_one (t1_of (hq hw.2)))
            · split at h
              · rename_i ha
                have a := alw_b ha
                have b := pw_b (w := tW B N p)
                cases h
                exact tr_one (t1_prt (by omega) (by omega) (fun e => hsk (a.2 (by omega))) (by omega))
              · cases h
    | 1, h, hl =>
      have hl : (ts.length : Int) + 6 * (6 - o) + 1 ≤ 99 := hl
      show tr sk q cs (false :: ts) = some (false :: ts)
      rw [rd] at h
      split at h
      · rename_i hg
        have g1 : p < tE B N p ∧ tE B N p ≤ N := hg.elim (isg_b hp) (isg_b hp)
        obtain ⟨p1, c1, e1, e2⟩ := bd_ok h
        have n1 := (rd_len _ _ _ _ _ _ e1 g1.2).1
        have i1 : tr sk q c1 (false :: ts) = some (false :: false :: ts) := ih 0 _ _ _ _ e1 g1.2 ho (false :: ts) (show (((false :: ts).length : Nat) : Int) + 6 * (6 - o) + 0 ≤ 99 by rw [lc]; omega)
        obtain ⟨p2, c2, e3, e4⟩ := bd_ok e2
        have i2 : tr sk q c2 (false :: ts) = some (false :: ts) := ih 1 _ _ _ _ e3 n1.2.1 ho ts hl
        cases e4
        exact tr_two i1 (tr_cons (t1_ops (by split <;> omega)) i2)
      · cases h; rfl
    | 2, h, hl =>
      have hl : (ts.length : Int) + 6 * (6 - o) + 2 ≤ 99 := hl
      show tr sk q cs (false :: ts) = some (false :: ts)
      rw [rd] at h
      split at h
      · rename_i hg
        have g1 : p < tE B N p ∧ tE B N p ≤ N := hg.elim (isg_b hp) (isg_b hp)
        obtain ⟨p1, c1, e1, e2⟩ := bd_ok h
        have n1 := (rd_len _ _ _ _ _ _ e1 g1.2).1
        have i1 : tr sk q c1 (false :: ts) = some (false :: false :: ts) := ih 3 _ _ _ _ e1 g1.2 ho (false :: ts) (show (((false :: ts).length : Nat) : Int) + 6 * (6 - o) + 1 ≤ 99 by rw [lc]; omega)
        obtain ⟨p2, c2, e3, e4⟩ := bd_ok e2
        have i2 : tr sk q c2 (false :: ts) = some (false :: ts) := ih 2 _ _ _ _ e3 n1.2.1 ho ts hl
        cases e4
        exact tr_two i1 (tr_cons (t1_ops (by split <;> omega)) i2)
      · cases h; rfl
    | 3, h, hl =>
      have hl : (ts.length : Int) + 6 * (6 - o) + 1 ≤ 99 := hl
      show tr sk q cs ts = some (false :: ts)
      obtain ⟨p1, c1, e1, e2⟩ := bd_ok h
      have n1 := (rd_len _ _ _ _ _ _ e1 hp).1
      have i1 : tr sk q c1 ts = some (false :: ts) := ih 0 _ _ _ _ e1 hp ho ts (show (ts.length : Int) + 6 * (6 - o) + 0 ≤ 99 by omega)
      obtain ⟨p2, c2, e3, e4⟩ := bd_ok e2
      have i2 : tr sk q c2 (false :: ts) = some (false :: ts) := ih 1 _ _ _ _ e3 n1.2.1 ho ts hl
      cases e4
      exact tr_two i1 i2
    | 4, h, hl =>
      have hl : (ts.length : Int) + 6 * (6 - o) + 2 ≤ 99 := hl
      show tr sk q cs ts = some (false :: ts)
      obtain ⟨p1, c1, e1, e2⟩ := bd_ok h
      have n1 := (rd_len _ _ _ _ _ _ e1 hp).1
      have i1 : tr sk q c1 ts = some (false :: ts) := ih 3 _ _ _ _ e1 hp ho ts (show (ts.length : Int) + 6 * (6 - o) + 1 ≤ 99 by omega)
      obtain ⟨p2, c2, e3, e4⟩ := bd_ok e2
      have i2 : tr sk q c2 (false :: ts) = some (false :: ts) := ih 2 _ _ _ _ e3 n1.2.1 ho ts hl
      cases e4
      exact tr_two i1 i2
    | 5, h, hl =>
      have hl : (ts.length : Int) + 6 * (6 - o) + 3 ≤ 99 := hl
      show tr sk q cs ts = some (true :: ts)
      rw [rd] at h
      split at h
      · rename_i hw
        have g0 := tW_b hp (show ¬ tW B N p = -1 by omega)
        split at h
        · cases h
        · obtain ⟨p1, c1, e1, e2⟩ := bd_ok h
          have i1 : tr sk q c1 ts = some (true :: ts) := ih 5 _ _ _ _ e1 g0.2 (by omega) ts (show (ts.length : Int) + 6 * (6 - (o + 1)) + 3 ≤ 99 by omega)
          cases e2
          exact tr_two i1 (tr_one t1_not)
      · split at h
        · rename_i hg
          have g1 := isg_b hp hg
          split at h
          · cases h
          · obtain ⟨p1, c1, e1, e2⟩ := bd_ok h
            have i1 : tr sk q c1 ts = some (true :: ts) := ih 9 _ _ _ _ e1 g1.2 (by omega) ts (show (ts.length : Int) + 6 * (6 - (o + 1)) + 5 ≤ 99 by omega)
            split at e2
            · cases e2; exact i1
            · cases e2
        · split at h
          · cases h; exact tr_one (t1_all (by omega))
          · obtain ⟨p1, c1, e1, e2⟩ := bd_ok h
            have n1 := (rd_len _ _ _ _ _ _ e1 hp).1
            have i1 : tr sk q c1 ts = some (false :: ts) := ih 4 _ _ _ _ e1 hp ho ts (show (ts.length : Int) + 6 * (6 - o) + 2 ≤ 99 by omega)
            split at e2
            · rename_i hg
              have g1 : p1 < tE B N p1 ∧ tE B N p1 ≤ N := hg.elim (isg_b n1.2.1) (fun hg => hg.elim (isg_b n1.2.1) (isg_b n1.2.1))
              obtain ⟨p2, c2, e3, e4⟩ := bd_ok e2
              have i2 : tr sk q c2 (false :: ts) = some (false :: false :: ts) := ih 4 _ _ _ _ e3 g1.2 ho (false :: ts) (show (((false :: ts).length : Nat) : Int) + 6 * (6 - o) + 2 ≤ 99 by rw [lc]; omega)
              cases e4
              exact tr_two i1 (tr_two i2 (tr_one (t1_cmp (by split <;> (try split) <;> omega))))
            · cases e2
    | 6, h, hl =>
      have hl : (ts.length : Int) + 6 * (6 - o) + 4 ≤ 99 := hl
      show tr sk q cs (true :: ts) = some (true :: ts)
      rw [rd] at h
      split at h
      · rename_i hw
        have g0 := tW_b hp (show ¬ tW B N p = -1 by omega)
        obtain ⟨p1, c1, e1, e2⟩ := bd_ok h
        have n1 := (rd_len _ _ _ _ _ _ e1 g0.2).1
        have i1 : tr sk q c1 (true :: ts) = some (true :: true :: ts) := ih 5 _ _ _ _ e1 g0.2 ho (true :: ts) (show (((true :: ts).length : Nat) : Int) + 6 * (6 - o) + 3 ≤ 99 by rw [lc]; omega)
        obtain ⟨p2, c2, e3, e4⟩ := bd_ok e2
        have i2 : tr sk q c2 (true :: ts) = some (true :: ts) := ih 6 _ _ _ _ e3 n1.2.1 ho ts hl
        cases e4
        exact tr_two i1 (tr_cons (t1_log (Or.inl rfl)) i2)
      · cases h; rfl
    | 7, h, hl =>
      have hl : (ts.length : Int) + 6 * (6 - o) + 4 ≤ 99 := hl
      show tr sk q cs ts = some (true :: ts)
      obtain ⟨p1, c1, e1, e2⟩ := bd_ok h
      have n1 := (rd_len _ _ _ _ _ _ e1 hp).1
      have i1 : tr sk q c1 ts = some (true :: ts) := ih 5 _ _ _ _ e1 hp ho ts (show (ts.length : Int) + 6 * (6 - o) + 3 ≤ 99 by omega)
      obtain ⟨p2, c2, e3, e4⟩ := bd_ok e2
      have i2 : tr sk q c2 (true :: ts) = some (true :: ts) := ih 6 _ _ _ _ e3 n1.2.1 ho ts hl
      cases e4
      exact tr_two i1 i2
    | 8, h, hl =>
      have hl : (ts.length : Int) + 6 * (6 - o) + 5 ≤ 99 := hl
      show tr sk q cs (true :: ts) = some (true :: ts)
      rw [rd] at h
      split at h
      · rename_i hw
        have g0 := tW_b hp (show ¬ tW B N p = -1 by omega)
        obtain ⟨p1, c1, e1, e2⟩ := bd_ok h
        have n1 := (rd_len _ _ _ _ _ _ e1 g0.2).1
        have i1 : tr sk q c1 (true :: ts) = some (true :: true :: ts) := ih 7 _ _ _ _ e1 g0.2 ho (true :: ts) (show (((true :: ts).length : Nat) : Int) + 6 * (6 - o) + 4 ≤ 99 by rw [lc]; omega)
        obtain ⟨p2, c2, e3, e4⟩ := bd_ok e2
        have i2 : tr sk q c2 (true :: ts) = some (true :: ts) := ih 8 _ _ _ _ e3 n1.2.1 ho ts hl
        cases e4
        exact tr_two i1 (tr_cons (t1_log (Or.inr rfl)) i2)
      · cases h; rfl
    | j + 9, h, hl =>
      have e9 : tyi (j + 9) ts = ts ∧ tyo (j + 9) ts = true :: ts ∧ lvt (j + 9) = 5 := by
        refine ⟨?_, ?_, ?_⟩
        · unfold tyi; rw [if_neg (by omega), if_neg (by omega)]
        · unfold tyo; rw [if_neg (by omega)]
        · unfold lvt; simp
      rw [e9.1, e9.2.1]
      rw [e9.2.2] at hl
      obtain ⟨p1, c1, e1, e2⟩ := bd_ok h
      have n1 := (rd_len _ _ _ _ _ _ e1 hp).1
      have i1 : tr sk q c1 ts = some (true :: ts) := ih 7 _ _ _ _ e1 hp ho ts (show (ts.length : Int) + 6 * (6 - o) + 4 ≤ 99 by omega)
      obtain ⟨p2, c2, e3, e4⟩ := bd_ok e2
      have i2 : tr sk q c2 (true :: ts) = some (true :: ts) := ih 8 _ _ _ _ e3 n1.2.1 ho ts hl
      cases e4
      exact tr_two i1 i2
end
