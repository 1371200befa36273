/-! tests and sums, read by descent: a fault (kind, place), or where it ends and its codes -/
def isg (B : Int → Int) (N p c : Int) : Bool := decide (tK B N p = 3) && decide (tV B N p = c)
def pw (w : Int) : Int := if w = 1 then 0 else if w = 2 then 1 else if w = 3 then 2 else if w = 15 then 3 else if w = 16 then 4 else if w = 17 then 5 else if w = 18 then 6 else if w = 5 then 7 else if w = 19 then 8 else if w = 20 then 9 else -1
def alw (κ i : Int) : Bool := decide (0 ≤ i ∧ i < 6) || (decide (i = 6) && decide (κ = 1 ∨ κ = 3)) || (decide (i = 7) && decide (κ = 2)) || (decide (i = 8 ∨ i = 9) && decide (κ = 3))
abbrev RR : Type := (Int × Int) ⊕ (Int × List Int)
def bd (x : Option RR) (h : Int → List Int → Option RR) : Option RR := match x with
  | some (.inr (p, cs)) => h p cs
  | some (.inl e) => some (.inl e)
  | none => none
abbrev ft (k p : Int) : Option RR := some (.inl (k, p))
abbrev okR (p : Int) (cs : List Int) : Option RR := some (.inr (p, cs))
def rd (B : Int → Int) (N κ : Int) : Nat → Nat → Int → Int → Option RR
  | 0, _, _, _ => none
  | k + 1, 0, p, o =>
    if tK B N p = 2 then (if 4 < tE B N p - tS B N p then ft 1 (tS B N p + 4) else okR (tE B N p) [1000 + tV B N p])
    else if isg B N p 40 = true then (if 6 ≤ o then ft 4 (tS B N p) else bd (rd B N κ k 4 (tE B N p) (o + 1)) fun p1 cs => if isg B N p1 41 = true then okR (tE B N p1) cs else ft 1 (tS B N p1))
    else if tW B N p = 26 ∨ tW B N p = 27 then (if isg B N (tE B N p) 40 = true then (if 6 ≤ o then ft 4 (tS B N (tE B N p)) else bd (rd B N κ k 4 (tE B N (tE B N p)) (o + 1)) fun p2 c1 => if isg B N p2 44 = true then bd (rd B N κ k 4 (tE B N p2) (o + 1)) (fun p3 c2 => if isg B N p3 41 = true then okR (tE B N p3) (c1 ++ (c2 ++ [tW B N p - 21])) else ft 1 (tS B N p3)) else ft 1 (tS B N p2)) else ft 1 (tS B N (tE B N p)))
    else if tW B N p = 8 ∧ κ = 3 then (if 6 ≤ o then ft 4 (tS B N p) else bd (rd B N κ k 0 (tE B N p) (o + 1)) fun p1 cs => okR p1 (cs ++ [60]))
    else if alw κ (pw (tW B N p)) = true then okR (tE B N p) [40 + pw (tW B N p)]
    else ft 1 (tS B N p)
  | k + 1, 1, p, o => if isg B N p 42 = true ∨ isg B N p 47 = true then bd (rd B N κ k 0 (tE B N p) o) (fun p1 c1 => bd (rd B N κ k 1 p1 o) fun p2 c2 => okR p2 (c1 ++ ((if tV B N p = 42 then 3 else 4) :: c2))) else okR p []
  | k + 1, 2, p, o => if isg B N p 43 = true ∨ isg B N p 45 = true then bd (rd B N κ k 3 (tE B N p) o) (fun p1 c1 => bd (rd B N κ k 2 p1 o) fun p2 c2 => okR p2 (c1 ++ ((if tV B N p = 43 then 1 else 2) :: c2))) else okR p []
  | k + 1, 3, p, o => bd (rd B N κ k 0 p o) fun p1 c1 => bd (rd B N κ k 1 p1 o) fun p2 c2 => okR p2 (c1 ++ c2)
  | k + 1, 4, p, o => bd (rd B N κ k 3 p o) fun p1 c1 => bd (rd B N κ k 2 p1 o) fun p2 c2 => okR p2 (c1 ++ c2)
  | k + 1, 5, p, o =>
    if tW B N p = 24 then (if 6 ≤ o then ft 4 (tS B N p) else bd (rd B N κ k 5 (tE B N p) (o + 1)) fun p1 cs => okR p1 (cs ++ [12]))
    else if isg B N p 91 = true then (if 6 ≤ o then ft 4 (tS B N p) else bd (rd B N κ k 9 (tE B N p) (o + 1)) fun p1 cs => if isg B N p1 93 = true then okR (tE B N p1) cs else ft 1 (tS B N p1))
    else if tW B N p = 25 then okR (tE B N p) [13]
    else bd (rd B N κ k 4 p o) fun p1 c1 => if isg B N p1 60 = true ∨ isg B N p1 62 = true ∨ isg B N p1 61 = true then bd (rd B N κ k 4 (tE B N p1) o) (fun p2 c2 => okR p2 (c1 ++ (c2 ++ [if tV B N p1 = 60 then 7 else if tV B N p1 = 62 then 8 else 9]))) else ft 1 (tS B N p1)
  | k + 1, 6, p, o => if tW B N p = 23 then bd (rd B N κ k 5 (tE B N p) o) (fun p1 c1 => bd (rd B N κ k 6 p1 o) fun p2 c2 => okR p2 (c1 ++ (10 :: c2))) else okR p []
  | k + 1, 7, p, o => bd (rd B N κ k 5 p o) fun p1 c1 => bd (rd B N κ k 6 p1 o) fun p2 c2 => okR p2 (c1 ++ c2)
  | k + 1, 8, p, o => if tW B N p = 22 then bd (rd B N κ k 7 (tE B N p) o) (fun p1 c1 => bd (rd B N κ k 8 p1 o) fun p2 c2 => okR p2 (c1 ++ (11 :: c2))) else okR p []
  | k + 1, _, p, o => bd (rd B N κ k 7 p o) fun p1 c1 => bd (rd B N κ k 8 p1 o) fun p2 c2 => okR p2 (c1 ++ c2)
theorem bd_ok {x : Option RR} {h : Int → List Int → Option RR} {r : Int × List Int} (e : bd x h = some (.inr r)) : ∃ p cs, x = some (.inr (p, cs)) ∧ h p cs = some (.inr r) := by
  match x, e with
  | some (.inr (p, cs)), e => exact ⟨p, cs, rfl, e⟩
  | some (.inl _), e => cases e
  | none, e => cases e
section
variable {B : Int → Int} {N κ : Int}
theorem tok_b {p : Int} (h : p ≤ N) (hk : ¬ tK B N p = 0) : p ≤ tS B N p ∧ tS B N p < tE B N p ∧ tE B N p ≤ N := by
  have h1 := tS_b (B := B) h
  have h2 : ¬ N ≤ tS B N p := fun q => hk (by unfold tK; rw [if_pos q])
  have h3 := tE_b h h2
  exact ⟨h1.1, h3.1, h3.2⟩
theorem isg_k {p c : Int} (h : isg B N p c = true) : tK B N p = 3 ∧ tV B N p = c := by
  unfold isg at h
  simpa using h
theorem fdW_b {s e : Int} : ∀ (ws : List (List Int)) (k : Int), 0 ≤ k → fdW B s e ws k = -1 ∨ (k ≤ fdW B s e ws k ∧ fdW B s e ws k < k + ws.length)
  | [], _, _ => Or.inl rfl
  | w :: ws, k, hk => by
    unfold fdW
    rw [List.length_cons]
    split
    · exact Or.inr ⟨by omega, by omega⟩
    · rcases fdW_b (s := s) (e := e) ws (k + 1) (by omega) with h | h
      · exact Or.inl h
      · exact Or.inr ⟨by omega, by omega⟩
theorem tW_k {p : Int} (h : ¬ tW B N p = -1) : tK B N p = 1 := by
  unfold tW at h
  split at h
  · assumption
  · exact absurd rfl h
theorem isg_b {p c : Int} (h : p ≤ N) (hg : isg B N p c = true) : p < tE B N p ∧ tE B N p ≤ N := by
  have := tok_b h (by rw [(isg_k hg).1]; decide)
  omega
theorem tW_b {p : Int} (h : p ≤ N) (hg : ¬ tW B N p = -1) : p < tE B N p ∧ tE B N p ≤ N := by
  have := tok_b h (by rw [tW_k hg]; decide)
  omega
/-- how far a text is read, and how many codes it gives -/
theorem rd_len : ∀ (k mode : Nat) (p o p' : Int) (cs : List Int), rd B N κ k mode p o = some (.inr (p', cs)) → p ≤ N → (p ≤ p' ∧ p' ≤ N ∧ (cs.length : Int) ≤ p' - p) ∧ (mode = 0 ∨ mode = 3 ∨ mode = 4 ∨ mode = 5 ∨ mode = 7 ∨ 9 ≤ mode → p < p')
  | 0, _, _, _, _, _, h, _ => by cases h
  | k + 1, mode, p, o, p', cs, h, hp => by
    have ih := fun (mode : Nat) (p o p' : Int) (cs : List Int) => rd_len k mode p o p' cs
    match mode, h with
    | 0, h =>
      rw [rd] at h
      split at h
      · rename_i hk
        have tb := tok_b hp (by rw [hk]; decide)
        split at h
        · cases h
        · cases h; exact ⟨⟨by omega, by omega, by simp only [List.length_cons, List.length_nil]; omega⟩, fun _ => by omega⟩
      · split at h
        · rename_i hg
          have g1 := isg_b hp hg
          split at h
          · cases h
          · obtain ⟨p1, c1, e1, e2⟩ := bd_ok h
            have i1 := ih _ _ _ _ _ e1 g1.2
            split at e2
            · rename_i hg2
              have g2 := isg_b i1.1.2.1 hg2
              cases e2
              exact ⟨⟨by omega, by omega, by omega⟩, fun _ => by omega⟩
            · cases e2
        · split at h
          · rename_i hw
            have g0 := tW_b hp (show ¬ tW B N p = -1 by omega)
            split at h
            · rename_i hg
              have g1 := isg_b g0.2 hg
              split at h
              · cases h
              · obtain ⟨p1, c1, e1, e2⟩ := bd_ok h
                have i1 := ih _ _ _ _ _ e1 g1.2
                split at e2
                · rename_i hg2
                  have g2 := isg_b i1.1.2.1 hg2
                  obtain ⟨p2, c2, e3, e4⟩ := bd_ok e2
                  have i2 := ih _ _ _ _ _ e3 g2.2
                  split at e4
                  · rename_i hg3
                    have g3 := isg_b i2.1.2.1 hg3
                    cases e4
                    simp only [List.length_append, List.length_cons, List.length_nil]
                    exact ⟨⟨by omega, by omega, by omega⟩, fun _ => by omega⟩
                  · cases e4
                · cases e2
            · cases h
          · split at h
            · rename_i hw
              have g0 := tW_b hp (show ¬ tW B N p = -1 by omega)
              split at h
              · cases h
              · obtain ⟨p1, c1, e1, e2⟩ := bd_ok h
                have i1 := ih _ _ _ _ _ e1 g0.2
                cases e2
                simp only [List.length_append, List.length_cons, List.length_nil]
                exact ⟨⟨by omega, by omega, by omega⟩, fun _ => by omega⟩
            · split at h
              · rename_i ha
                have hw : ¬ tW B N p = -1 := by
                  intro e
                  rw [e] at ha
                  revert ha
                  simp [pw, alw]
                have g0 := tW_b hp hw
                cases h; exact ⟨⟨by omega, by omega, by simp only [List.length_cons, List.length_nil]; omega⟩, fun _ => by omega⟩
              · cases h
    | 1, h =>
      rw [rd] at h
      split at h
      · rename_i hg
        have g1 : p < tE B N p ∧ tE B N p ≤ N := hg.elim (isg_b hp) (isg_b hp)
        obtain ⟨p1, c1, e1, e2⟩ := bd_ok h
        have i1 := ih _ _ _ _ _ e1 g1.2
        obtain ⟨p2, c2, e3, e4⟩ := bd_ok e2
        have i2 := ih _ _ _ _ _ e3 i1.1.2.1
        have i3 := i1.2 (by omega)
        cases e4
        simp only [List.length_append, List.length_cons, List.length_nil]
        exact ⟨⟨by omega, by omega, by omega⟩, fun _ => by omega⟩
      · cases h; exact ⟨⟨by omega, by omega, by simp only [List.length_nil]; omega⟩, fun q => by omega⟩
    | 2, h =>
      rw [rd] at h
      split at h
      · rename_i hg
        have g1 : p < tE B N p ∧ tE B N p ≤ N := hg.elim (isg_b hp) (isg_b hp)
        obtain ⟨p1, c1, e1, e2⟩ := bd_ok h
        have i1 := ih _ _ _ _ _ e1 g1.2
        obtain ⟨p2, c2, e3, e4⟩ := bd_ok e2
        have i2 := ih _ _ _ _ _ e3 i1.1.2.1
        have i3 := i1.2 (by omega)
        cases e4
        simp only [List.length_append, List.length_cons, List.length_nil]
        exact ⟨⟨by omega, by omega, by omega⟩, fun _ => by omega⟩
      · cases h; exact ⟨⟨by omega, by omega, by simp only [List.length_nil]; omega⟩, fun q => by omega⟩
    | 3, h =>
      obtain ⟨p1, c1, e1, e2⟩ := bd_ok h
      have i1 := ih _ _ _ _ _ e1 hp
      obtain ⟨p2, c2, e3, e4⟩ := bd_ok e2
      have i2 := ih _ _ _ _ _ e3 i1.1.2.1
      have i3 := i1.2 (by omega)
      cases e4
      simp only [List.length_append]
      exact ⟨⟨by omega, by omega, by omega⟩, fun _ => by omega⟩
    | 4, h =>
      obtain ⟨p1, c1, e1, e2⟩ := bd_ok h
      have i1 := ih _ _ _ _ _ e1 hp
      obtain ⟨p2, c2, e3, e4⟩ := bd_ok e2
      have i2 := ih _ _ _ _ _ e3 i1.1.2.1
      have i3 := i1.2 (by omega)
      cases e4
      simp only [List.length_append]
      exact ⟨⟨by omega, by omega, by omega⟩, fun _ => by omega⟩
    | 5, h =>
      rw [rd] at h
      split at h
      · rename_i hw
        have g0 := tW_b hp (show ¬ tW B N p = -1 by omega)
        split at h
        · cases h
        · obtain ⟨p1, c1, e1, e2⟩ := bd_ok h
          have i1 := ih _ _ _ _ _ e1 g0.2
          cases e2
          simp only [List.length_append, List.length_cons, List.length_nil]
          exact ⟨⟨by omega, by omega, by omega⟩, fun _ => by omega⟩
      · split at h
        · rename_i hg
          have g1 := isg_b hp hg
          split at h
          · cases h
          · obtain ⟨p1, c1, e1, e2⟩ := bd_ok h
            have i1 := ih _ _ _ _ _ e1 g1.2
            split at e2
            · rename_i hg2
              have g2 := isg_b i1.1.2.1 hg2
              cases e2
              exact ⟨⟨by omega, by omega, by omega⟩, fun _ => by omega⟩
            · cases e2
        · split at h
          · rename_i hw
            have g0 := tW_b hp (show ¬ tW B N p = -1 by omega)
            cases h; exact ⟨⟨by omega, by omega, by simp only [List.length_cons, List.length_nil]; omega⟩, fun _ => by omega⟩
          · obtain ⟨p1, c1, e1, e2⟩ := bd_ok h
            have i1 := ih _ _ _ _ _ e1 hp
            split at e2
            · rename_i hg
              have g1 : p1 < tE B N p1 ∧ tE B N p1 ≤ N := hg.elim (isg_b i1.1.2.1) (fun hg => hg.elim (isg_b i1.1.2.1) (isg_b i1.1.2.1))
              obtain ⟨p2, c2, e3, e4⟩ := bd_ok e2
              have i2 := ih _ _ _ _ _ e3 g1.2
              cases e4
              simp only [List.length_append, List.length_cons, List.length_nil]
              exact ⟨⟨by omega, by omega, by omega⟩, fun _ => by omega⟩
            · cases e2
    | 6, h =>
      rw [rd] at h
      split at h
      · rename_i hw
        have g0 := tW_b hp (show ¬ tW B N p = -1 by omega)
        obtain ⟨p1, c1, e1, e2⟩ := bd_ok h
        have i1 := ih _ _ _ _ _ e1 g0.2
        obtain ⟨p2, c2, e3, e4⟩ := bd_ok e2
        have i2 := ih _ _ _ _ _ e3 i1.1.2.1
        cases e4
        simp only [List.length_append, List.length_cons, List.length_nil]
        exact ⟨⟨by omega, by omega, by omega⟩, fun _ => by omega⟩
      · cases h; exact ⟨⟨by omega, by omega, by simp only [List.length_nil]; omega⟩, fun q => by omega⟩
    | 7, h =>
      obtain ⟨p1, c1, e1, e2⟩ := bd_ok h
      have i1 := ih _ _ _ _ _ e1 hp
      obtain ⟨p2, c2, e3, e4⟩ := bd_ok e2
      have i2 := ih _ _ _ _ _ e3 i1.1.2.1
      have i3 := i1.2 (by omega)
      cases e4
      simp only [List.length_append]
      exact ⟨⟨by omega, by omega, by omega⟩, fun _ => by omega⟩
    | 8, h =>
      rw [rd] at h
      split at h
      · rename_i hw
        have g0 := tW_b hp (show ¬ tW B N p = -1 by omega)
        obtain ⟨p1, c1, e1, e2⟩ := bd_ok h
        have i1 := ih _ _ _ _ _ e1 g0.2
        obtain ⟨p2, c2, e3, e4⟩ := bd_ok e2
        have i2 := ih _ _ _ _ _ e3 i1.1.2.1
        cases e4
        simp only [List.length_append, List.length_cons, List.length_nil]
        exact ⟨⟨by omega, by omega, by omega⟩, fun _ => by omega⟩
      · cases h; exact ⟨⟨by omega, by omega, by simp only [List.length_nil]; omega⟩, fun q => by omega⟩
    | j + 9, h =>
      obtain ⟨p1, c1, e1, e2⟩ := bd_ok h
      have i1 := ih _ _ _ _ _ e1 hp
      obtain ⟨p2, c2, e3, e4⟩ := bd_ok e2
      have i2 := ih _ _ _ _ _ e3 i1.1.2.1
      have i3 := i1.2 (by omega)
      cases e4
      simp only [List.length_append]
      exact ⟨⟨by omega, by omega, by omega⟩, fun _ => by omega⟩
end
