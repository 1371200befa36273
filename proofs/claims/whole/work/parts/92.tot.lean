/-! reading comes to an end -/
def lvn (mode : Nat) : Int := if mode = 3 then 2 else if mode = 4 then 3 else if mode = 5 then 4 else if mode = 7 then 5 else if 9 ≤ mode then 6 else 1
section
variable {B : Int → Int} {N κ : Int}
theorem bd_s {x : Option RR} {h : Int → List Int → Option RR} (h1 : x.isSome = true) (h2 : ∀ p cs, x = some (.inr (p, cs)) → (h p cs).isSome = true) : (bd x h).isSome = true := by
  match x, h1, h2 with
  | some (.inr (p, cs)), _, h2 => exact h2 p cs rfl
  | some (.inl _), _, _ => rfl
theorem rd_tot : ∀ (k mode : Nat) (p o : Int), p ≤ N → 12 * (N - p) + lvn mode ≤ k → (rd B N κ k mode p o).isSome = true
  | 0, mode, p, o, h, hk => by
    have : 1 ≤ lvn mode := by unfold lvn; repeat' split
                              all_goals omega
    omega
  | k + 1, mode, p, o, hp, hk => by
    have ih := fun (mode : Nat) (p o : Int) => rd_tot k mode p o
    have l6 : ∀ m : Nat, lvn m ≤ 6 := fun m => by unfold lvn; repeat' split
                                                  all_goals omega
    have l1 : 1 ≤ lvn mode := by unfold lvn; repeat' split
                                 all_goals omega
    have far : ∀ (m : Nat) (q o' : Int), p < q → q ≤ N → (rd B N κ k m q o').isSome = true := fun m q o' a b => ih m q o' b (by have := l6 m; omega)
    match mode, hk with
    | 0, hk =>
      rw [rd]
      split
      · split <;> rfl
      · split
        · rename_i hg
          have g1 := isg_b hp hg
          split
          · rfl
          · refine bd_s (far _ _ _ g1.1 g1.2) (fun p1 c1 e1 => ?_)
            split <;> rfl
        · split
          · rename_i hw
            have g0 := tW_b hp (show ¬ tW B N p = -1 by omega)
            split
            · rename_i hg
              have g1 := isg_b g0.2 hg
              split
              · rfl
              · refine bd_s (far _ _ _ (by omega) g1.2) (fun p1 c1 e1 => ?_)
                have n1 := (rd_len _ _ _ _ _ _ e1 g1.2).1
                split
                · rename_i hg2
                  have g2 := isg_b n1.2.1 hg2
                  refine bd_s (far _ _ _ (by omega) g2.2) (fun p2 c2 e2 => ?_)
                  split <;> rfl
                · rfl
            · rfl
          · split
            · rename_i hw
              have g0 := tW_b hp (show ¬ tW B N p = -1 by omega)
              split
              · rfl
              · exact bd_s (far _ _ _ g0.1 g0.2) (fun p1 c1 e1 => rfl)
            · split <;> rfl
    | 1, hk =>
      rw [rd]
      split
      · rename_i hg
        have g1 : p < tE B N p ∧ tE B N p ≤ N := hg.elim (isg_b hp) (isg_b hp)
        refine bd_s (far _ _ _ g1.1 g1.2) (fun p1 c1 e1 => ?_)
        have n1 := (rd_len _ _ _ _ _ _ e1 g1.2).1
        exact bd_s (far _ _ _ (by omega) n1.2.1) (fun p2 c2 e2 => rfl)
      · rfl
    | 2, hk =>
      rw [rd]
      split
      · rename_i hg
        have g1 : p < tE B N p ∧ tE B N p ≤ N := hg.elim (isg_b hp) (isg_b hp)
        refine bd_s (far _ _ _ g1.1 g1.2) (fun p1 c1 e1 => ?_)
        have n1 := (rd_len _ _ _ _ _ _ e1 g1.2).1
        exact bd_s (far _ _ _ (by omega) n1.2.1) (fun p2 c2 e2 => rfl)
      · rfl
    | 3, hk =>
      have hk : 12 * (N - p) + 2 ≤ ((k + 1 : Nat) : Int) := hk
      refine bd_s (ih 0 p o hp (show 12 * (N - p) + 1 ≤ (k : Int) by omega)) (fun p1 c1 e1 => ?_)
      have n1 := rd_len _ _ _ _ _ _ e1 hp
      exact bd_s (far _ _ _ (n1.2 (by omega)) n1.1.2.1) (fun p2 c2 e2 => rfl)
    | 4, hk =>
      have hk : 12 * (N - p) + 3 ≤ ((k + 1 : Nat) : Int) := hk
      refine bd_s (ih 3 p o hp (show 12 * (N - p) + 2 ≤ (k : Int) by omega)) (fun p1 c1 e1 => ?_)
      have n1 := rd_len _ _ _ _ _ _ e1 hp
      exact bd_s (far _ _ _ (n1.2 (by omega)) n1.1.2.1) (fun p2 c2 e2 => rfl)
    | 5, hk =>
      have hk : 12 * (N - p) + 4 ≤ ((k + 1 : Nat) : Int) := hk
      rw [rd]
      split
      · rename_i hw
        have g0 := tW_b hp (show ¬ tW B N p = -1 by omega)
        split
        · rfl
        · exact bd_s (far _ _ _ g0.1 g0.2) (fun p1 c1 e1 => rfl)
      · split
        · rename_i hg
          have g1 := isg_b hp hg
          split
          · rfl
          · refine bd_s (far _ _ _ g1.1 g1.2) (fun p1 c1 e1 => ?_)
            split <;> rfl
        · split
          · rfl
          · refine bd_s (ih 4 p o hp (show 12 * (N - p) + 3 ≤ (k : Int) by omega)) (fun p1 c1 e1 => ?_)
            have n1 := rd_len _ _ _ _ _ _ e1 hp
            split
            · rename_i hg
              have g1 : p1 < tE B N p1 ∧ tE B N p1 ≤ N := hg.elim (isg_b n1.1.2.1) (fun hg => hg.elim (isg_b n1.1.2.1) (isg_b n1.1.2.1))
              exact bd_s (far _ _ _ (by omega) g1.2) (fun p2 c2 e2 => rfl)
            · rfl
    | 6, hk =>
      rw [rd]
      split
      · rename_i hw
        have g0 := tW_b hp (show ¬ tW B N p = -1 by omega)
        refine bd_s (far _ _ _ g0.1 g0.2) (fun p1 c1 e1 => ?_)
        have n1 := (rd_len _ _ _ _ _ _ e1 g0.2).1
        exact bd_s (far _ _ _ (by omega) n1.2.1) (fun p2 c2 e2 => rfl)
      · rfl
    | 7, hk =>
      have hk : 12 * (N - p) + 5 ≤ ((k + 1 : Nat) : Int) := hk
      refine bd_s (ih 5 p o hp (show 12 * (N - p) + 4 ≤ (k : Int) by omega)) (fun p1 c1 e1 => ?_)
      have n1 := rd_len _ _ _ _ _ _ e1 hp
      exact bd_s (far _ _ _ (n1.2 (by omega)) n1.1.2.1) (fun p2 c2 e2 => rfl)
    | 8, hk =>
      rw [rd]
      split
      · rename_i hw
        have g0 := tW_b hp (show ¬ tW B N p = -1 by omega)
        refine bd_s (far _ _ _ g0.1 g0.2) (fun p1 c1 e1 => ?_)
        have n1 := (rd_len _ _ _ _ _ _ e1 g0.2).1
        exact bd_s (far _ _ _ (by omega) n1.2.1) (fun p2 c2 e2 => rfl)
      · rfl
    | j + 9, hk =>
      have e9 : lvn (j + 9) = 6 := by unfold lvn; simp
      rw [e9] at hk
      refine bd_s (ih 7 p o hp (show 12 * (N - p) + 5 ≤ (k : Int) by omega)) (fun p1 c1 e1 => ?_)
      have n1 := rd_len _ _ _ _ _ _ e1 hp
      exact bd_s (far _ _ _ (n1.2 (by omega)) n1.1.2.1) (fun p2 c2 e2 => rfl)
end
