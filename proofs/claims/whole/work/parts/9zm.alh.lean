/-! all calls keep the relation -/
theorem ln_a1 {as : List Int} (h : as.length = 1) : ∃ a, as = [a] := by
  match as, h with
  | [a], _ => exact ⟨a, rfl⟩
theorem ln_a2 {as : List Int} (h : as.length = 2) : ∃ a b, as = [a, b] := by
  match as, h with
  | [a, b], _ => exact ⟨a, b, rfl⟩
theorem ln_a3 {as : List Int} (h : as.length = 3) : ∃ a b c, as = [a, b, c] := by
  match as, h with
  | [a, b, c], _ => exact ⟨a, b, c, rfl⟩
theorem ln_a5 {as : List Int} (h : as.length = 5) : ∃ a b c e k, as = [a, b, c, e, k] := by
  match as, h with
  | [a, b, c, e, k], _ => exact ⟨a, b, c, e, k, rfl⟩
theorem al_HIV : al_H IV := by
  intro q hq f as hl hi ⟨n, m, r, L, ρ, τ, z, l, Z, h⟩
  have ia : ∀ x ∈ as, -2147483648 ≤ x ∧ x < 2147483648 := fun x hx => by
    have := hi x hx
    unfold am_inI at this
    omega
  clear hi
  unfold al_tab at hq
  simp only [List.mem_cons, List.not_mem_nil, or_false] at hq
  rcases hq with rfl | rfl | rfl | rfl | rfl | rfl | rfl | rfl | rfl | rfl | rfl | rfl | rfl | rfl | rfl | rfl | rfl | rfl | rfl | rfl | rfl | rfl | rfl | rfl | rfl | rfl | rfl | rfl | rfl | rfl | rfl | rfl | rfl
  · obtain ⟨a, b, c, e, k, rfl⟩ := ln_a5 hl
    exact H_feed (d := 60) h 
  · obtain ⟨a, rfl⟩ := ln_a1 hl
    exact H_end (d := 60) h 
  · obtain rfl := List.eq_nil_of_length_eq_zero hl
    exact H_island (d := 0) h 
  · obtain ⟨a, rfl⟩ := ln_a1 hl
    exact H_fault (d := 60) h 
  · obtain ⟨a, rfl⟩ := ln_a1 hl
    exact H_has (d := 60) h 
  · obtain ⟨a, b, c, rfl⟩ := ln_a3 hl
    exact H_letter (d := 60) h 
  · obtain ⟨a, b, rfl⟩ := ln_a2 hl
    exact H_thing (d := 60) h 
  · obtain ⟨a, b, rfl⟩ := ln_a2 hl
    exact H_mender (d := 60) h 
  · obtain ⟨a, b, rfl⟩ := ln_a2 hl
    exact H_takes (d := 60) h 
  · obtain ⟨a, b, rfl⟩ := ln_a2 hl
    exact H_fine (d := 60) h 
  · obtain ⟨a, b, rfl⟩ := ln_a2 hl
    exact H_trial (d := 60) h 
  · obtain ⟨a, b, rfl⟩ := ln_a2 hl
    exact H_kept (d := 60) h 
  · obtain ⟨a, b, rfl⟩ := ln_a2 hl
    exact H_later (d := 60) h (ia _ List.mem_cons_self).1 (ia _ List.mem_cons_self).2
  · obtain ⟨a, rfl⟩ := ln_a1 hl
    exact H_breaks (d := 60) h 
  · obtain ⟨a, b, rfl⟩ := ln_a2 hl
    exact H_house (d := 60) h 
  · obtain ⟨a, b, rfl⟩ := ln_a2 hl
    exact H_gain (d := 60) h 
  · obtain ⟨a, rfl⟩ := ln_a1 hl
    exact H_row (d := 60) h (ia _ List.mem_cons_self).1
  · obtain rfl := List.eq_nil_of_length_eq_zero hl
    exact H_parts (d := 60) h 
  · obtain ⟨a, b, rfl⟩ := ln_a2 hl
    exact H_lawed (d := 60) h 
  · obtain ⟨a, rfl⟩ := ln_a1 hl
    exact H_see (d := 60) h 
  · obtain ⟨a, b, rfl⟩ := ln_a2 hl
    exact H_tells (d := 60) h 
  · obtain ⟨a, rfl⟩ := ln_a1 hl
    exact H_strike (d := 60) h 
  · obtain ⟨a, b, rfl⟩ := ln_a2 hl
    exact H_mend (d := 60) h 
  · obtain ⟨a, rfl⟩ := ln_a1 hl
    exact H_forge (d := 60) h 
  · obtain ⟨a, rfl⟩ := ln_a1 hl
    exact H_days (d := 60) h (ia _ List.mem_cons_self).2
  · obtain ⟨a, rfl⟩ := ln_a1 hl
    exact H_chance (d := 60) h (ia _ List.mem_cons_self).2
  · obtain rfl := List.eq_nil_of_length_eq_zero hl
    exact H_undo (d := 60) h 
  · obtain ⟨a, rfl⟩ := ln_a1 hl
    exact H_seed (d := 60) h (ia _ List.mem_cons_self).2
  · obtain rfl := List.eq_nil_of_length_eq_zero hl
    exact H_ask (d := 0) h 
  · obtain rfl := List.eq_nil_of_length_eq_zero hl
    exact H_image (d := 60) h 
  · obtain ⟨a, rfl⟩ := ln_a1 hl
    exact H_octet (d := 60) h 
  · obtain rfl := List.eq_nil_of_length_eq_zero hl
    exact H_on (d := 60) h 
  · obtain ⟨a, rfl⟩ := ln_a1 hl
    exact H_status (d := 60) h 
