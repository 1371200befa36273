/-! the model's way of reading, with a stack of what waits, against the descent -/
section
variable {B : Int → Int} {N κ : Int}
/-- what waits as 60 goes into the codes -/
def pend (z : Int) (G : Int → Int → List Int → List Int → Prop) (p : Int) : List Int → Int → List Int → Prop
  | [], o, C => G p o [] C
  | x :: W, o, C => if x = z then pend z G p W (o - 1) (C ++ [z]) else G p o (x :: W) C
theorem pend_n {z : Int} {G : Int → Int → List Int → List Int → Prop} {p o : Int} {V C : List Int} (h : ¬ V.headD 0 = z) (hG : G p o V C) : pend z G p V o C := by
  cases V with
  | nil => exact hG
  | cons x W =>
    unfold pend
    rw [if_neg (show ¬ x = z from h)]
    exact hG
theorem pend_c {z : Int} {G : Int → Int → List Int → List Int → Prop} {p o : Int} {W C : List Int} (hG : pend z G p W o (C ++ [z])) : pend z G p (z :: W) (o + 1) C := by
  unfold pend
  rw [if_pos rfl, show o + 1 - 1 = o by omega]
  exact hG
def nm (B : Int → Int) (N p : Int) : Prop := ¬ isg B N p 42 = true ∧ ¬ isg B N p 47 = true
def na (B : Int → Int) (N p : Int) : Prop := ¬ isg B N p 43 = true ∧ ¬ isg B N p 45 = true
def opm (S : List Int) : Prop := ∀ x ∈ S, 3 ≤ x ∧ x ≤ 4
def ops (S : List Int) : Prop := ∀ x ∈ S, 1 ≤ x ∧ x ≤ 4
theorem ops_m {S : List Int} (h : opm S) : ops S := fun x hx => by have := h x hx; omega
/-- a machine that reads sums with a stack -/
def SM (B : Int → Int) (N κ : Int) (E G : Int → Int → List Int → List Int → Prop) (F : Int → Int → Prop) (X : Int → Int → List Int → Prop) : Prop :=
  (∀ p o W C, isg B N p 40 = true → o < 6 → E (tE B N p) (o + 1) (20 :: W) C → E p o W C) ∧
  (∀ p o W C, isg B N p 40 = true → 6 ≤ o → F 4 (tS B N p) → E p o W C) ∧
  (∀ p o W C, (tW B N p = 26 ∨ tW B N p = 27) → isg B N (tE B N p) 40 = true → o < 6 → E (tE B N (tE B N p)) (o + 1) ((tW B N p - 5) :: W) C → E p o W C) ∧
  (∀ p o W C, (tW B N p = 26 ∨ tW B N p = 27) → isg B N (tE B N p) 40 = true → 6 ≤ o → F 4 (tS B N (tE B N p)) → E p o W C) ∧
  (∀ p o W C, (tW B N p = 26 ∨ tW B N p = 27) → ¬ isg B N (tE B N p) 40 = true → F 1 (tS B N (tE B N p)) → E p o W C) ∧
  (∀ p o W C, tW B N p = 8 → κ = 3 → o < 6 → E (tE B N p) (o + 1) (60 :: W) C → E p o W C) ∧
  (∀ p o W C, tW B N p = 8 → κ = 3 → 6 ≤ o → F 4 (tS B N p) → E p o W C) ∧
  (∀ p o W C, tK B N p = 2 → tE B N p - tS B N p ≤ 4 → pend 60 G (tE B N p) W o (C ++ [1000 + tV B N p]) → E p o W C) ∧
  (∀ p o W C, tK B N p = 2 → 4 < tE B N p - tS B N p → F 1 (tS B N p + 4) → E p o W C) ∧
  (∀ p o W C, alw κ (pw (tW B N p)) = true → pend 60 G (tE B N p) W o (C ++ [40 + pw (tW B N p)]) → E p o W C) ∧
  (∀ p o W C, ¬ tK B N p = 2 → ¬ isg B N p 40 = true → ¬ (tW B N p = 26 ∨ tW B N p = 27) → ¬ (tW B N p = 8 ∧ κ = 3) → ¬ alw κ (pw (tW B N p)) = true → F 1 (tS B N p) → E p o W C) ∧
  (∀ p o S W C, isg B N p 41 = true → ops S → pend 60 G (tE B N p) W (o - 1) (C ++ S) → G p o (S ++ 20 :: W) C) ∧
  (∀ p o S W C b, (b = 23 ∨ b = 24) → isg B N p 41 = true → ops S → pend 60 G (tE B N p) W (o - 1) (C ++ S ++ [b - 18]) → G p o (S ++ b :: W) C) ∧
  (∀ p o S V C, (isg B N p 42 = true ∨ isg B N p 47 = true) → opm S → ¬ (3 ≤ V.headD 0 ∧ V.headD 0 ≤ 4) → E (tE B N p) o ((if tV B N p = 42 then 3 else 4) :: V) (C ++ S) → G p o (S ++ V) C) ∧
  (∀ p o S V C, (isg B N p 43 = true ∨ isg B N p 45 = true) → ops S → ¬ (1 ≤ V.headD 0 ∧ V.headD 0 ≤ 4) → E (tE B N p) o ((if tV B N p = 43 then 1 else 2) :: V) (C ++ S) → G p o (S ++ V) C) ∧
  (∀ p o S W C b, (b = 21 ∨ b = 22) → isg B N p 44 = true → ops S → E (tE B N p) o ((b + 2) :: W) (C ++ S) → G p o (S ++ b :: W) C) ∧
  (∀ p o S W C b, (b = 21 ∨ b = 22) → nm B N p → na B N p → ¬ isg B N p 44 = true → ops S → F 1 (tS B N p) → G p o (S ++ b :: W) C) ∧
  (∀ p o S W C b, (b = 20 ∨ b = 23 ∨ b = 24) → nm B N p → na B N p → ¬ isg B N p 41 = true → ops S → F 1 (tS B N p) → G p o (S ++ b :: W) C) ∧
  (∀ p o S C, nm B N p → na B N p → ops S → X p o (C ++ S) → G p o S C)
theorem SM.e_rnd {B : Int → Int} {N κ : Int} {E G : Int → Int → List Int → List Int → Prop} {F : Int → Int → Prop} {X : Int → Int → List Int → Prop} (M : SM B N κ E G F X) : ∀ p o W C, isg B N p 40 = true → o < 6 → E (tE B N p) (o + 1) (20 :: W) C → E p o W C := M.1
theorem SM.e_rndF {B : Int → Int} {N κ : Int} {E G : Int → Int → List Int → List Int → Prop} {F : Int → Int → Prop} {X : Int → Int → List Int → Prop} (M : SM B N κ E G F X) : ∀ p o W C, isg B N p 40 = true → 6 ≤ o → F 4 (tS B N p) → E p o W C := M.2.1
theorem SM.e_pair {B : Int → Int} {N κ : Int} {E G : Int → Int → List Int → List Int → Prop} {F : Int → Int → Prop} {X : Int → Int → List Int → Prop} (M : SM B N κ E G F X) : ∀ p o W C, (tW B N p = 26 ∨ tW B N p = 27) → isg B N (tE B N p) 40 = true → o < 6 → E (tE B N (tE B N p)) (o + 1) ((tW B N p - 5) :: W) C → E p o W C := M.2.2.1
theorem SM.e_pair4 {B : Int → Int} {N κ : Int} {E G : Int → Int → List Int → List Int → Prop} {F : Int → Int → Prop} {X : Int → Int → List Int → Prop} (M : SM B N κ E G F X) : ∀ p o W C, (tW B N p = 26 ∨ tW B N p = 27) → isg B N (tE B N p) 40 = true → 6 ≤ o → F 4 (tS B N (tE B N p)) → E p o W C := M.2.2.2.1
theorem SM.e_pair1 {B : Int → Int} {N κ : Int} {E G : Int → Int → List Int → List Int → Prop} {F : Int → Int → Prop} {X : Int → Int → List Int → Prop} (M : SM B N κ E G F X) : ∀ p o W C, (tW B N p = 26 ∨ tW B N p = 27) → ¬ isg B N (tE B N p) 40 = true → F 1 (tS B N (tE B N p)) → E p o W C := M.2.2.2.2.1
theorem SM.e_of {B : Int → Int} {N κ : Int} {E G : Int → Int → List Int → List Int → Prop} {F : Int → Int → Prop} {X : Int → Int → List Int → Prop} (M : SM B N κ E G F X) : ∀ p o W C, tW B N p = 8 → κ = 3 → o < 6 → E (tE B N p) (o + 1) (60 :: W) C → E p o W C := M.2.2.2.2.2.1
theorem SM.e_ofF {B : Int → Int} {N κ : Int} {E G : Int → Int → List Int → List Int → Prop} {F : Int → Int → Prop} {X : Int → Int → List Int → Prop} (M : SM B N κ E G F X) : ∀ p o W C, tW B N p = 8 → κ = 3 → 6 ≤ o → F 4 (tS B N p) → E p o W C := M.2.2.2.2.2.2.1
theorem SM.e_num {B : Int → Int} {N κ : Int} {E G : Int → Int → List Int → List Int → Prop} {F : Int → Int → Prop} {X : Int → Int → List Int → Prop} (M : SM B N κ E G F X) : ∀ p o W C, tK B N p = 2 → tE B N p - tS B N p ≤ 4 → pend 60 G (tE B N p) W o (C ++ [1000 + tV B N p]) → E p o W C := M.2.2.2.2.2.2.2.1
theorem SM.e_numF {B : Int → Int} {N κ : Int} {E G : Int → Int → List Int → List Int → Prop} {F : Int → Int → Prop} {X : Int → Int → List Int → Prop} (M : SM B N κ E G F X) : ∀ p o W C, tK B N p = 2 → 4 < tE B N p - tS B N p → F 1 (tS B N p + 4) → E p o W C := M.2.2.2.2.2.2.2.2.1
theorem SM.e_word {B : Int → Int} {N κ : Int} {E G : Int → Int → List Int → List Int → Prop} {F : Int → Int → Prop} {X : Int → Int → List Int → Prop} (M : SM B N κ E G F X) : ∀ p o W C, alw κ (pw (tW B N p)) = true → pend 60 G (tE B N p) W o (C ++ [40 + pw (tW B N p)]) → E p o W C := M.2.2.2.2.2.2.2.2.2.1
theorem SM.e_bad {B : Int → Int} {N κ : Int} {E G : Int → Int → List Int → List Int → Prop} {F : Int → Int → Prop} {X : Int → Int → List Int → Prop} (M : SM B N κ E G F X) : ∀ p o W C, ¬ tK B N p = 2 → ¬ isg B N p 40 = true → ¬ (tW B N p = 26 ∨ tW B N p = 27) → ¬ (tW B N p = 8 ∧ κ = 3) → ¬ alw κ (pw (tW B N p)) = true → F 1 (tS B N p) → E p o W C := M.2.2.2.2.2.2.2.2.2.2.1
theorem SM.g_rnd {B : Int → Int} {N κ : Int} {E G : Int → Int → List Int → List Int → Prop} {F : Int → Int → Prop} {X : Int → Int → List Int → Prop} (M : SM B N κ E G F X) : ∀ p o S W C, isg B N p 41 = true → ops S → pend 60 G (tE B N p) W (o - 1) (C ++ S) → G p o (S ++ 20 :: W) C := M.2.2.2.2.2.2.2.2.2.2.2.1
theorem SM.g_two {B : Int → Int} {N κ : Int} {E G : Int → Int → List Int → List Int → Prop} {F : Int → Int → Prop} {X : Int → Int → List Int → Prop} (M : SM B N κ E G F X) : ∀ p o S W C b, (b = 23 ∨ b = 24) → isg B N p 41 = true → ops S → pend 60 G (tE B N p) W (o - 1) (C ++ S ++ [b - 18]) → G p o (S ++ b :: W) C := M.2.2.2.2.2.2.2.2.2.2.2.2.1
theorem SM.g_mul {B : Int → Int} {N κ : Int} {E G : Int → Int → List Int → List Int → Prop} {F : Int → Int → Prop} {X : Int → Int → List Int → Prop} (M : SM B N κ E G F X) : ∀ p o S V C, (isg B N p 42 = true ∨ isg B N p 47 = true) → opm S → ¬ (3 ≤ V.headD 0 ∧ V.headD 0 ≤ 4) → E (tE B N p) o ((if tV B N p = 42 then 3 else 4) :: V) (C ++ S) → G p o (S ++ V) C := M.2.2.2.2.2.2.2.2.2.2.2.2.2.1
theorem SM.g_add {B : Int → Int} {N κ : Int} {E G : Int → Int → List Int → List Int → Prop} {F : Int → Int → Prop} {X : Int → Int → List Int → Prop} (M : SM B N κ E G F X) : ∀ p o S V C, (isg B N p 43 = true ∨ isg B N p 45 = true) → ops S → ¬ (1 ≤ V.headD 0 ∧ V.headD 0 ≤ 4) → E (tE B N p) o ((if tV B N p = 43 then 1 else 2) :: V) (C ++ S) → G p o (S ++ V) C := M.2.2.2.2.2.2.2.2.2.2.2.2.2.2.1
theorem SM.g_nxt {B : Int → Int} {N κ : Int} {E G : Int → Int → List Int → List Int → Prop} {F : Int → Int → Prop} {X : Int → Int → List Int → Prop} (M : SM B N κ E G F X) : ∀ p o S W C b, (b = 21 ∨ b = 22) → isg B N p 44 = true → ops S → E (tE B N p) o ((b + 2) :: W) (C ++ S) → G p o (S ++ b :: W) C := M.2.2.2.2.2.2.2.2.2.2.2.2.2.2.2.1
theorem SM.g_nxtF {B : Int → Int} {N κ : Int} {E G : Int → Int → List Int → List Int → Prop} {F : Int → Int → Prop} {X : Int → Int → List Int → Prop} (M : SM B N κ E G F X) : ∀ p o S W C b, (b = 21 ∨ b = 22) → nm B N p → na B N p → ¬ isg B N p 44 = true → ops S → F 1 (tS B N p) → G p o (S ++ b :: W) C := M.2.2.2.2.2.2.2.2.2.2.2.2.2.2.2.2.1
theorem SM.g_brF {B : Int → Int} {N κ : Int} {E G : Int → Int → List Int → List Int → Prop} {F : Int → Int → Prop} {X : Int → Int → List Int → Prop} (M : SM B N κ E G F X) : ∀ p o S W C b, (b = 20 ∨ b = 23 ∨ b = 24) → nm B N p → na B N p → ¬ isg B N p 41 = true → ops S → F 1 (tS B N p) → G p o (S ++ b :: W) C := M.2.2.2.2.2.2.2.2.2.2.2.2.2.2.2.2.2.1
theorem SM.g_end {B : Int → Int} {N κ : Int} {E G : Int → Int → List Int → List Int → Prop} {F : Int → Int → Prop} {X : Int → Int → List Int → Prop} (M : SM B N κ E G F X) : ∀ p o S C, nm B N p → na B N p → ops S → X p o (C ++ S) → G p o S C := M.2.2.2.2.2.2.2.2.2.2.2.2.2.2.2.2.2.2
def PR (F : Int → Int → Prop) (r : RR) (h : Int → List Int → Prop) : Prop := match r with
  | .inl (k, q) => F k q
  | .inr (p, cs) => h p cs
theorem PR_i {F : Int → Int → Prop} {r : RR} {h h' : Int → List Int → Prop} (hp : PR F r h) (hi : ∀ p cs, h p cs → h' p cs) : PR F r h' := by
  match r, hp with
  | .inl (k, q), hp => exact hp
  | .inr (p, cs), hp => exact hi p cs hp
/-- through a bind -/
theorem bd_PR {x : Option RR} {g : Int → List Int → Option RR} {r : RR} {F : Int → Int → Prop} {h : Int → List Int → Prop} (e : bd x g = some r) (hp : PR F r h) (P : Prop) (hP : ∀ r1, x = some r1 → PR F r1 (fun p cs => g p cs = some r) → P) : P := by
  match x, e with
  | some (.inr (p, cs)), e => exact hP (.inr (p, cs)) rfl e
  | some (.inl (k, q)), e => cases e; exact hP (.inl (k, q)) rfl hp
  | none, e => cases e
def SG (B : Int → Int) (N : Int) (E G : Int → Int → List Int → List Int → Prop) (F : Int → Int → Prop) (mode : Nat) (p o : Int) (r : RR) : Prop :=
  if mode = 0 then (∀ V C, PR F r (fun p' cs => pend 60 G p' V o (C ++ cs)) → E p o V C)
  else if mode = 1 then (∀ S V C, opm S → ¬ (3 ≤ V.headD 0 ∧ V.headD 0 ≤ 4) → ¬ V.headD 0 = 60 → PR F r (fun p' cs => ∀ S' C', opm S' → C' ++ S' = C ++ S ++ cs → nm B N p' → G p' o (S' ++ V) C') → G p o (S ++ V) C)
  else if mode = 2 then (∀ S V C, ops S → ¬ (1 ≤ V.headD 0 ∧ V.headD 0 ≤ 4) → ¬ V.headD 0 = 60 → nm B N p → PR F r (fun p' cs => ∀ S' C', ops S' → C' ++ S' = C ++ S ++ cs → nm B N p' → na B N p' → G p' o (S' ++ V) C') → G p o (S ++ V) C)
  else if mode = 3 then (∀ V C, ¬ (3 ≤ V.headD 0 ∧ V.headD 0 ≤ 4) → ¬ V.headD 0 = 60 → PR F r (fun p' cs => ∀ S' C', opm S' → C' ++ S' = C ++ cs → nm B N p' → G p' o (S' ++ V) C') → E p o V C)
  else if mode = 4 then (∀ V C, ¬ (1 ≤ V.headD 0 ∧ V.headD 0 ≤ 4) → ¬ V.headD 0 = 60 → PR F r (fun p' cs => ∀ S' C', ops S' → C' ++ S' = C ++ cs → nm B N p' → na B N p' → G p' o (S' ++ V) C') → E p o V C)
  else True
theorem sm_rd {E G : Int → Int → List Int → List Int → Prop} {F : Int → Int → Prop} {X : Int → Int → List Int → Prop} (M : SM B N κ E G F X) : ∀ (k mode : Nat) (p o : Int) (r : RR), rd B N κ k mode p o = some r → SG B N E G F mode p o r
  | 0, _, _, _, _, h => by cases h
  | k + 1, mode, p, o, r, h => by
    have ih0 : ∀ p o r, rd B N κ k 0 p o = some r → _ := fun p o r => sm_rd M k 0 p o r
    have ih1 : ∀ p o r, rd B N κ k 1 p o = some r → _ := fun p o r => sm_rd M k 1 p o r
    have ih2 : ∀ p o r, rd B N κ k 2 p o = some r → _ := fun p o r => sm_rd M k 2 p o r
    have ih3 : ∀ p o r, rd B N κ k 3 p o = some r → _ := fun p o r => sm_rd M k 3 p o r
    have ih4 : ∀ p o r, rd B N κ k 4 p o = some r → _ := fun p o r => sm_rd M k 4 p o r
    match mode, h with
    | 0, h =>
      intro V C hr
      rw [rd] at h
      split at h
      · rename_i hk
        split at h
        · rename_i hl
          cases h
          exact M.e_numF _ _ _ _ hk hl hr
        · rename_i hl
          cases h
          exact M.e_num _ _ _ _ hk (by omega) hr
      · rename_i hk
        split at h
        · rename_i hg
          split at h
          · rename_i ho
            cases h
            exact M.e_rndF _ _ _ _ hg ho hr
          · rename_i ho
            refine M.e_rnd _ _ _ _ hg (by omega) ?_
            refine bd_PR h hr _ (fun r1 e1 q1 => ?_)
            refine ih4 _ _ _ e1 (20 :: V) C (by simp) (by simp) ?_
            match r1, q1 with
            | .inl (k1, w1), q1 => exact q1
            | .inr (p1, c1), q1 =>
              intro S' C' hS e n1 n2
              have q1 : (if isg B N p1 41 = true then okR (tE B N p1) c1 else ft 1 (tS B N p1)) = some r := q1
              split at q1
              · rename_i hc
                cases q1
                refine M.g_rnd _ _ _ _ _ hc hS ?_
                rw [e, show o + 1 - 1 = o by omega]
                exact hr
              · rename_i hc
                cases q1
                exact M.g_brF _ _ _ _ _ _ (Or.inl rfl) n1 n2 hc hS hr
        · rename_i hg
          split at h
          · rename_i hw
            split at h
            · rename_i hg2
              split at h
              · rename_i ho
                cases h
                exact M.e_pair4 _ _ _ _ hw hg2 ho hr
              · rename_i ho
                refine M.e_pair _ _ _ _ hw hg2 (by omega) ?_
                refine bd_PR h hr _ (fun r1 e1 q1 => ?_)
                refine ih4 _ _ _ e1 ((tW B N p - 5) :: V) C (by rw [List.headD_cons]; omega) (by rw [List.headD_cons]; omega) ?_
                match r1, q1 with
                | .inl (k1, w1), q1 => exact q1
                | .inr (p1, c1), q1 =>
                  intro S' C' hS e n1 n2
                  have q1 : (if isg B N p1 44 = true then bd (rd B N κ k 4 (tE B N p1) (o + 1)) (fun p3 c2 => if isg B N p3 41 = true then okR (tE B N p3) (c1 ++ (c2 ++ [tW B N p - 21])) else ft 1 (tS B N p3)) else ft 1 (tS B N p1)) = some r := q1
                  split at q1
                  · rename_i hc
                    refine M.g_nxt _ _ _ _ _ _ (by omega) hc hS ?_
                    rw [e]
                    refine bd_PR q1 hr _ (fun r2 e2 q2 => ?_)
                    refine ih4 _ _ _ e2 ((tW B N p - 5 + 2) :: V) (C ++ c1) (by rw [List.headD_cons]; omega) (by rw [List.headD_cons]; omega) ?_
                    match r2, q2 with
                    | .inl (k1, w1), q2 => exact q2
                    | .inr (p2, c2), q2 =>
                      intro S2 C2 hS2 ee n3 n4
                      have q2 : (if isg B N p2 41 = true then okR (tE B N p2) (c1 ++ (c2 ++ [tW B N p - 21])) else ft 1 (tS B N p2)) = some r := q2
                      split at q2
                      · rename_i hc2
                        cases q2
                        refine M.g_two _ _ _ _ _ _ (by omega) hc2 hS2 ?_
                        rw [ee, show o + 1 - 1 = o by omega, show tW B N p - 5 + 2 - 18 = tW B N p - 21 by omega, List.append_assoc, List.append_assoc]
                        exact hr
                      · rename_i hc2
                        cases q2
                        exact M.g_brF _ _ _ _ _ _ (by omega) n3 n4 hc2 hS2 hr
                  · rename_i hc
                    cases q1
                    exact M.g_nxtF _ _ _ _ _ _ (by omega) n1 n2 hc hS hr
            · rename_i hg2
              cases h
              exact M.e_pair1 _ _ _ _ hw hg2 hr
          · rename_i hw
            split at h
            · rename_i hi
              split at h
              · rename_i ho
                cases h
                exact M.e_ofF _ _ _ _ hi.1 hi.2 ho hr
              · rename_i ho
                refine M.e_of _ _ _ _ hi.1 hi.2 (by omega) ?_
                refine bd_PR h hr _ (fun r1 e1 q1 => ?_)
                refine ih0 _ _ _ e1 (60 :: V) C ?_
                match r1, q1 with
                | .inl (k1, w1), q1 => exact q1
                | .inr (p1, c1), q1 =>
                  cases q1
                  apply pend_c
                  rw [List.append_assoc]
                  exact hr
            · rename_i hi
              split at h
              · rename_i ha
                cases h
                exact M.e_word _ _ _ _ ha hr
              · rename_i ha
                cases h
                exact M.e_bad _ _ _ _ hk hg hw hi ha hr
    | 1, h =>
      intro S V C hS hV hV6 hr
      rw [rd] at h
      split at h
      · rename_i hg
        refine M.g_mul _ _ _ _ _ hg hS hV ?_
        refine bd_PR h hr _ (fun r1 e1 q1 => ?_)
        refine ih0 _ _ _ e1 _ (C ++ S) ?_
        match r1, q1 with
        | .inl (k1, w1), q1 => exact q1
        | .inr (p1, c1), q1 =>
          refine pend_n (by rw [List.headD_cons]; split <;> omega) ?_
          refine bd_PR q1 hr _ (fun r2 e2 q2 => ?_)
          refine ih1 _ _ _ e2 [if tV B N p = 42 then 3 else 4] V (C ++ S ++ c1) (fun x hx => by rw [List.mem_singleton] at hx; subst hx; split <;> omega) hV hV6 ?_
          match r2, q2 with
          | .inl (k1, w1), q2 => exact q2
          | .inr (p2, c2), q2 =>
            cases q2
            intro S' C' hS' e n1
            refine hr S' C' hS' ?_ n1
            rw [e]; simp
      · rename_i hg
        cases h
        exact hr S C hS (by simp) ⟨fun q => hg (Or.inl q), fun q => hg (Or.inr q)⟩
    | 2, h =>
      intro S V C hS hV hV6 hn hr
      rw [rd] at h
      split at h
      · rename_i hg
        refine M.g_add _ _ _ _ _ hg hS hV ?_
        refine bd_PR h hr _ (fun r1 e1 q1 => ?_)
        refine ih3 _ _ _ e1 _ (C ++ S) (by rw [List.headD_cons]; split <;> omega) (by rw [List.headD_cons]; split <;> omega) ?_
        match r1, q1 with
        | .inl (k1, w1), q1 => exact q1
        | .inr (p1, c1), q1 =>
          intro S1 C1 hS1 e1' n1
          refine bd_PR q1 hr _ (fun r2 e2 q2 => ?_)
          have key := ih2 _ _ _ e2 (S1 ++ [if tV B N p = 43 then 1 else 2]) V C1 (fun x hx => by
            rw [List.mem_append, List.mem_singleton] at hx
            rcases hx with hx | hx
            · exact ops_m hS1 x hx
            · subst hx; split <;> omega) hV hV6 n1
          rw [List.append_assoc] at key
          refine key ?_
          match r2, q2 with
          | .inl (k1, w1), q2 => exact q2
          | .inr (p2, c2), q2 =>
            cases q2
            intro S' C' hS' e n2 n3
            refine hr S' C' hS' ?_ n2 n3
            rw [e, ← List.append_assoc C1, e1']; simp
      · rename_i hg
        cases h
        exact hr S C hS (by simp) hn ⟨fun q => hg (Or.inl q), fun q => hg (Or.inr q)⟩
    | 3, h =>
      intro V C hV hV6 hr
      refine bd_PR h hr _ (fun r1 e1 q1 => ?_)
      refine ih0 _ _ _ e1 V C ?_
      match r1, q1 with
      | .inl (k1, w1), q1 => exact q1
      | .inr (p1, c1), q1 =>
        refine pend_n hV6 ?_
        refine bd_PR q1 hr _ (fun r2 e2 q2 => ?_)
        refine ih1 _ _ _ e2 [] V (C ++ c1) (fun x hx => by cases hx) hV hV6 ?_
        match r2, q2 with
        | .inl (k1, w1), q2 => exact q2
        | .inr (p2, c2), q2 =>
          cases q2
          intro S' C' hS' e n1
          refine hr S' C' hS' ?_ n1
          rw [e]; simp
    | 4, h =>
      intro V C hV hV6 hr
      refine bd_PR h hr _ (fun r1 e1 q1 => ?_)
      refine ih3 _ _ _ e1 V C (by omega) hV6 ?_
      match r1, q1 with
      | .inl (k1, w1), q1 => exact q1
      | .inr (p1, c1), q1 =>
        intro S1 C1 hS1 e1' n1
        refine bd_PR q1 hr _ (fun r2 e2 q2 => ?_)
        refine ih2 _ _ _ e2 S1 V C1 (ops_m hS1) hV hV6 n1 ?_
        match r2, q2 with
        | .inl (k1, w1), q2 => exact q2
        | .inr (p2, c2), q2 =>
          cases q2
          intro S' C' hS' e n2 n3
          refine hr S' C' hS' ?_ n2 n3
          rw [e, e1']; simp
    | j + 5, h => exact trivial
/-- a sum as a whole -/
theorem sm_sum {E G : Int → Int → List Int → List Int → Prop} {F : Int → Int → Prop} {X : Int → Int → List Int → Prop} (M : SM B N κ E G F X) {k : Nat} {p o : Int} {r : RR} {C : List Int} (h : rd B N κ k 4 p o = some r) (hr : PR F r (fun p' cs => X p' o (C ++ cs))) : E p o [] C := by
  refine sm_rd M k 4 p o r h [] C (by simp) (by simp) (PR_i hr (fun p' cs hx S' C' hS e n1 n2 => ?_))
  rw [List.append_nil]
  exact M.g_end _ _ _ _ n1 n2 hS (by rw [e]; exact hx)
/-- two sums, compared -/
def rc (B : Int → Int) (N κ : Int) (k : Nat) (p o : Int) : Option RR := bd (rd B N κ k 4 p o) fun p1 c1 => if isg B N p1 60 = true ∨ isg B N p1 62 = true ∨ isg B N p1 61 = true then bd (rd B N κ k 4 (tE B N p1) o) (fun p2 c2 => okR p2 (c1 ++ (c2 ++ [if tV B N p1 = 60 then 7 else if tV B N p1 = 62 then 8 else 9]))) else ft 1 (tS B N p1)
def opa (S : List Int) : Prop := ∀ x ∈ S, x = 10
def opl (S : List Int) : Prop := ∀ x ∈ S, x = 10 ∨ x = 11
theorem opl_a {S : List Int} (h : opa S) : opl S := fun x hx => Or.inl (h x hx)
/-- a machine that reads tests with a stack -/
def TM (B : Int → Int) (N κ : Int) (T H : Int → Int → List Int → List Int → Prop) (F : Int → Int → Prop) (X : Int → Int → List Int → Prop) : Prop :=
  (∀ p o W C, isg B N p 91 = true → o < 6 → T (tE B N p) (o + 1) (25 :: W) C → T p o W C) ∧
  (∀ p o W C, isg B N p 91 = true → 6 ≤ o → F 4 (tS B N p) → T p o W C) ∧
  (∀ p o W C, tW B N p = 24 → o < 6 → T (tE B N p) (o + 1) (12 :: W) C → T p o W C) ∧
  (∀ p o W C, tW B N p = 24 → 6 ≤ o → F 4 (tS B N p) → T p o W C) ∧
  (∀ p o W C, tW B N p = 25 → pend 12 H (tE B N p) W o (C ++ [13]) → T p o W C) ∧
  (∀ k p o W C r, ¬ tW B N p = 24 → ¬ isg B N p 91 = true → ¬ tW B N p = 25 → rc B N κ k p o = some r → PR F r (fun p' cs => pend 12 H p' W o (C ++ cs)) → T p o W C) ∧
  (∀ p o S W C, isg B N p 93 = true → opl S → pend 12 H (tE B N p) W (o - 1) (C ++ S) → H p o (S ++ 25 :: W) C) ∧
  (∀ p o S V C, tW B N p = 23 → opa S → ¬ V.headD 0 = 10 → T (tE B N p) o (10 :: V) (C ++ S) → H p o (S ++ V) C) ∧
  (∀ p o S V C, tW B N p = 22 → opl S → ¬ (V.headD 0 = 10 ∨ V.headD 0 = 11) → T (tE B N p) o (11 :: V) (C ++ S) → H p o (S ++ V) C) ∧
  (∀ p o S W C, ¬ isg B N p 93 = true → ¬ tW B N p = 23 → ¬ tW B N p = 22 → opl S → F 1 (tS B N p) → H p o (S ++ 25 :: W) C) ∧
  (∀ p o S C, ¬ tW B N p = 23 → ¬ tW B N p = 22 → opl S → X p o (C ++ S) → H p o S C)
theorem TM.t_sq {B : Int → Int} {N κ : Int} {T H : Int → Int → List Int → List Int → Prop} {F : Int → Int → Prop} {X : Int → Int → List Int → Prop} (M : TM B N κ T H F X) : ∀ p o W C, isg B N p 91 = true → o < 6 → T (tE B N p) (o + 1) (25 :: W) C → T p o W C := M.1
theorem TM.t_sqF {B : Int → Int} {N κ : Int} {T H : Int → Int → List Int → List Int → Prop} {F : Int → Int → Prop} {X : Int → Int → List Int → Prop} (M : TM B N κ T H F X) : ∀ p o W C, isg B N p 91 = true → 6 ≤ o → F 4 (tS B N p) → T p o W C := M.2.1
theorem TM.t_not {B : Int → Int} {N κ : Int} {T H : Int → Int → List Int → List Int → Prop} {F : Int → Int → Prop} {X : Int → Int → List Int → Prop} (M : TM B N κ T H F X) : ∀ p o W C, tW B N p = 24 → o < 6 → T (tE B N p) (o + 1) (12 :: W) C → T p o W C := M.2.2.1
theorem TM.t_notF {B : Int → Int} {N κ : Int} {T H : Int → Int → List Int → List Int → Prop} {F : Int → Int → Prop} {X : Int → Int → List Int → Prop} (M : TM B N κ T H F X) : ∀ p o W C, tW B N p = 24 → 6 ≤ o → F 4 (tS B N p) → T p o W C := M.2.2.2.1
theorem TM.t_all {B : Int → Int} {N κ : Int} {T H : Int → Int → List Int → List Int → Prop} {F : Int → Int → Prop} {X : Int → Int → List Int → Prop} (M : TM B N κ T H F X) : ∀ p o W C, tW B N p = 25 → pend 12 H (tE B N p) W o (C ++ [13]) → T p o W C := M.2.2.2.2.1
theorem TM.t_cmp {B : Int → Int} {N κ : Int} {T H : Int → Int → List Int → List Int → Prop} {F : Int → Int → Prop} {X : Int → Int → List Int → Prop} (M : TM B N κ T H F X) : ∀ k p o W C r, ¬ tW B N p = 24 → ¬ isg B N p 91 = true → ¬ tW B N p = 25 → rc B N κ k p o = some r → PR F r (fun p' cs => pend 12 H p' W o (C ++ cs)) → T p o W C := M.2.2.2.2.2.1
theorem TM.h_sq {B : Int → Int} {N κ : Int} {T H : Int → Int → List Int → List Int → Prop} {F : Int → Int → Prop} {X : Int → Int → List Int → Prop} (M : TM B N κ T H F X) : ∀ p o S W C, isg B N p 93 = true → opl S → pend 12 H (tE B N p) W (o - 1) (C ++ S) → H p o (S ++ 25 :: W) C := M.2.2.2.2.2.2.1
theorem TM.h_and {B : Int → Int} {N κ : Int} {T H : Int → Int → List Int → List Int → Prop} {F : Int → Int → Prop} {X : Int → Int → List Int → Prop} (M : TM B N κ T H F X) : ∀ p o S V C, tW B N p = 23 → opa S → ¬ V.headD 0 = 10 → T (tE B N p) o (10 :: V) (C ++ S) → H p o (S ++ V) C := M.2.2.2.2.2.2.2.1
theorem TM.h_or {B : Int → Int} {N κ : Int} {T H : Int → Int → List Int → List Int → Prop} {F : Int → Int → Prop} {X : Int → Int → List Int → Prop} (M : TM B N κ T H F X) : ∀ p o S V C, tW B N p = 22 → opl S → ¬ (V.headD 0 = 10 ∨ V.headD 0 = 11) → T (tE B N p) o (11 :: V) (C ++ S) → H p o (S ++ V) C := M.2.2.2.2.2.2.2.2.1
theorem TM.h_sqF {B : Int → Int} {N κ : Int} {T H : Int → Int → List Int → List Int → Prop} {F : Int → Int → Prop} {X : Int → Int → List Int → Prop} (M : TM B N κ T H F X) : ∀ p o S W C, ¬ isg B N p 93 = true → ¬ tW B N p = 23 → ¬ tW B N p = 22 → opl S → F 1 (tS B N p) → H p o (S ++ 25 :: W) C := M.2.2.2.2.2.2.2.2.2.1
theorem TM.h_end {B : Int → Int} {N κ : Int} {T H : Int → Int → List Int → List Int → Prop} {F : Int → Int → Prop} {X : Int → Int → List Int → Prop} (M : TM B N κ T H F X) : ∀ p o S C, ¬ tW B N p = 23 → ¬ tW B N p = 22 → opl S → X p o (C ++ S) → H p o S C := M.2.2.2.2.2.2.2.2.2.2
def TG (B : Int → Int) (N : Int) (T H : Int → Int → List Int → List Int → Prop) (F : Int → Int → Prop) (mode : Nat) (p o : Int) (r : RR) : Prop :=
  if mode < 5 then True
  else if mode = 5 then (∀ V C, PR F r (fun p' cs => pend 12 H p' V o (C ++ cs)) → T p o V C)
  else if mode = 6 then (∀ S V C, opa S → ¬ V.headD 0 = 10 → ¬ V.headD 0 = 12 → PR F r (fun p' cs => ∀ S' C', opa S' → C' ++ S' = C ++ S ++ cs → ¬ tW B N p' = 23 → H p' o (S' ++ V) C') → H p o (S ++ V) C)
  else if mode = 7 then (∀ V C, ¬ V.headD 0 = 10 → ¬ V.headD 0 = 12 → PR F r (fun p' cs => ∀ S' C', opa S' → C' ++ S' = C ++ cs → ¬ tW B N p' = 23 → H p' o (S' ++ V) C') → T p o V C)
  else if mode = 8 then (∀ S V C, opl S → ¬ (V.headD 0 = 10 ∨ V.headD 0 = 11) → ¬ V.headD 0 = 12 → ¬ tW B N p = 23 → PR F r (fun p' cs => ∀ S' C', opl S' → C' ++ S' = C ++ S ++ cs → ¬ tW B N p' = 23 → ¬ tW B N p' = 22 → H p' o (S' ++ V) C') → H p o (S ++ V) C)
  else (∀ V C, ¬ (V.headD 0 = 10 ∨ V.headD 0 = 11) → ¬ V.headD 0 = 12 → PR F r (fun p' cs => ∀ S' C', opl S' → C' ++ S' = C ++ cs → ¬ tW B N p' = 23 → ¬ tW B N p' = 22 → H p' o (S' ++ V) C') → T p o V C)
theorem tm_rd {T H : Int → Int → List Int → List Int → Prop} {F : Int → Int → Prop} {X : Int → Int → List Int → Prop} (M : TM B N κ T H F X) : ∀ (k mode : Nat) (p o : Int) (r : RR), rd B N κ k mode p o = some r → TG B N T H F mode p o r
  | 0, _, _, _, _, h => by cases h
  | k + 1, mode, p, o, r, h => by
    have ih5 : ∀ p o r, rd B N κ k 5 p o = some r → _ := fun p o r => tm_rd M k 5 p o r
    have ih6 : ∀ p o r, rd B N κ k 6 p o = some r → _ := fun p o r => tm_rd M k 6 p o r
    have ih7 : ∀ p o r, rd B N κ k 7 p o = some r → _ := fun p o r => tm_rd M k 7 p o r
    have ih8 : ∀ p o r, rd B N κ k 8 p o = some r → _ := fun p o r => tm_rd M k 8 p o r
    have ih9 : ∀ p o r, rd B N κ k 9 p o = some r → _ := fun p o r => tm_rd M k 9 p o r
    match mode, h with
    | 0, h => exact trivial
    | 1, h => exact trivial
    | 2, h => exact trivial
    | 3, h => exact trivial
    | 4, h => exact trivial
    | 5, h =>
      intro V C hr
      rw [rd] at h
      split at h
      · rename_i hw
        split at h
        · rename_i ho
          cases h
          exact M.t_notF _ _ _ _ hw ho hr
        · rename_i ho
          refine M.t_not _ _ _ _ hw (by omega) ?_
          refine bd_PR h hr _ (fun r1 e1 q1 => ?_)
          refine ih5 _ _ _ e1 (12 :: V) C ?_
          match r1, q1 with
          | .inl (k1, w1), q1 => exact q1
          | .inr (p1, c1), q1 =>
            cases q1
            apply pend_c
            rw [List.append_assoc]
            exact hr
      · rename_i hw
        split at h
        · rename_i hg
          split at h
          · rename_i ho
            cases h
            exact M.t_sqF _ _ _ _ hg ho hr
          · rename_i ho
            refine M.t_sq _ _ _ _ hg (by omega) ?_
            refine bd_PR h hr _ (fun r1 e1 q1 => ?_)
            refine ih9 _ _ _ e1 (25 :: V) C (by simp) (by simp) ?_
            match r1, q1 with
            | .inl (k1, w1), q1 => exact q1
            | .inr (p1, c1), q1 =>
              intro S' C' hS e n1 n2
              have q1 : (if isg B N p1 93 = true then okR (tE B N p1) c1 else ft 1 (tS B N p1)) = some r := q1
              split at q1
              · rename_i hc
                cases q1
                refine M.h_sq _ _ _ _ _ hc hS ?_
                rw [e, show o + 1 - 1 = o by omega]
                exact hr
              · rename_i hc
                cases q1
                exact M.h_sqF _ _ _ _ _ hc n1 n2 hS hr
        · rename_i hg
          split at h
          · rename_i ha
            cases h
            exact M.t_all _ _ _ _ ha hr
          · rename_i ha
            exact M.t_cmp k _ _ _ _ r hw hg ha h hr
    | 6, h =>
      intro S V C hS hV hV2 hr
      rw [rd] at h
      split at h
      · rename_i hg
        refine M.h_and _ _ _ _ _ hg hS hV ?_
        refine bd_PR h hr _ (fun r1 e1 q1 => ?_)
        refine ih5 _ _ _ e1 _ (C ++ S) ?_
        match r1, q1 with
        | .inl (k1, w1), q1 => exact q1
        | .inr (p1, c1), q1 =>
          refine pend_n (by simp) ?_
          refine bd_PR q1 hr _ (fun r2 e2 q2 => ?_)
          refine ih6 _ _ _ e2 [10] V (C ++ S ++ c1) (fun x hx => by rw [List.mem_singleton] at hx; exact hx) hV hV2 ?_
          match r2, q2 with
          | .inl (k1, w1), q2 => exact q2
          | .inr (p2, c2), q2 =>
            cases q2
            intro S' C' hS' e n1
            refine hr S' C' hS' ?_ n1
            rw [e]; simp
      · rename_i hg
        cases h
        exact hr S C hS (by simp) hg
    | 7, h =>
      intro V C hV hV2 hr
      refine bd_PR h hr _ (fun r1 e1 q1 => ?_)
      refine ih5 _ _ _ e1 V C ?_
      match r1, q1 with
      | .inl (k1, w1), q1 => exact q1
      | .inr (p1, c1), q1 =>
        refine pend_n hV2 ?_
        refine bd_PR q1 hr _ (fun r2 e2 q2 => ?_)
        refine ih6 _ _ _ e2 [] V (C ++ c1) (fun x hx => by cases hx) hV hV2 ?_
        match r2, q2 with
        | .inl (k1, w1), q2 => exact q2
        | .inr (p2, c2), q2 =>
          cases q2
          intro S' C' hS' e n1
          refine hr S' C' hS' ?_ n1
          rw [e]; simp
    | 8, h =>
      intro S V C hS hV hV2 hn hr
      rw [rd] at h
      split at h
      · rename_i hg
        refine M.h_or _ _ _ _ _ hg hS hV ?_
        refine bd_PR h hr _ (fun r1 e1 q1 => ?_)
        refine ih7 _ _ _ e1 _ (C ++ S) (by simp) (by simp) ?_
        match r1, q1 with
        | .inl (k1, w1), q1 => exact q1
        | .inr (p1, c1), q1 =>
          intro S1 C1 hS1 e1' n1
          refine bd_PR q1 hr _ (fun r2 e2 q2 => ?_)
          have key := ih8 _ _ _ e2 (S1 ++ [11]) V C1 (fun x hx => by
            rw [List.mem_append, List.mem_singleton] at hx
            rcases hx with hx | hx
            · exact opl_a hS1 x hx
            · exact Or.inr hx) hV hV2 n1
          rw [List.append_assoc] at key
          refine key ?_
          match r2, q2 with
          | .inl (k1, w1), q2 => exact q2
          | .inr (p2, c2), q2 =>
            cases q2
            intro S' C' hS' e n2 n3
            refine hr S' C' hS' ?_ n2 n3
            rw [e, ← List.append_assoc C1, e1']; simp
      · rename_i hg
        cases h
        exact hr S C hS (by simp) hn hg
    | j + 9, h =>
      have tg : TG B N T H F (j + 9) p o r = TG B N T H F 9 p o r := by unfold TG; simp
      rw [tg]
      intro V C hV hV2 hr
      refine bd_PR h hr _ (fun r1 e1 q1 => ?_)
      refine ih7 _ _ _ e1 V C (by omega) hV2 ?_
      match r1, q1 with
      | .inl (k1, w1), q1 => exact q1
      | .inr (p1, c1), q1 =>
        intro S1 C1 hS1 e1' n1
        refine bd_PR q1 hr _ (fun r2 e2 q2 => ?_)
        refine ih8 _ _ _ e2 S1 V C1 (opl_a hS1) hV hV2 n1 ?_
        match r2, q2 with
        | .inl (k1, w1), q2 => exact q2
        | .inr (p2, c2), q2 =>
          cases q2
          intro S' C' hS' e n2 n3
          refine hr S' C' hS' ?_ n2 n3
          rw [e, e1']; simp
/-- a test as a whole -/
theorem tm_test {T H : Int → Int → List Int → List Int → Prop} {F : Int → Int → Prop} {X : Int → Int → List Int → Prop} (M : TM B N κ T H F X) {k : Nat} {p o : Int} {r : RR} {C : List Int} (h : rd B N κ k 9 p o = some r) (hr : PR F r (fun p' cs => X p' o (C ++ cs))) : T p o [] C := by
  refine tm_rd M k 9 p o r h [] C (by simp) (by simp) (PR_i hr (fun p' cs hx S' C' hS e n1 n2 => ?_))
  rw [List.append_nil]
  exact M.h_end _ _ _ _ n1 n2 hS (by rw [e]; exact hx)
end
