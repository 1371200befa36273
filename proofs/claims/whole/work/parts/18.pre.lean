theorem aw_inv2 {d mi pc n : Nat} {ls st' : List am_V} {f : am_F} {Q : am_V → am_F → Prop} {kd m' : Nat} (as : List am_V) (hi : am_ins mi pc = some (28, n, [(kd : Int), (m' : Int)])) (hp : as.map Prod.fst = am_pt m') : aw_wp d mi pc ls (as.reverse ++ st') f Q = ((kd = 0 ∨ 0 ≤ (as.getD 0 (0, -1)).2) ∧ am_cs st' ≤ 8 ∧ 1 ≤ d ∧ aw_cl (d - 1) m' as f (fun v f' => aw_wp d mi n ls (if v.1 = 3 then st' else v :: st') f' Q)) := by
  have e1 : ([(kd : Int), (m' : Int)].getD 1 0).toNat = m' := Int.toNat_natCast m'
  have e0 : [(kd : Int), (m' : Int)].getD 0 0 = (kd : Int) := rfl
  have el : (am_pt m').length = as.length := by rw [← hp, List.length_map]
  have et : (as.reverse ++ st').take (am_pt m').length = as.reverse := by rw [el, ← List.length_reverse, List.take_left]
  have ed : (as.reverse ++ st').drop (am_pt m').length = st' := by rw [el, ← List.length_reverse, List.drop_left]
  by_cases h1 : (kd = 0 ∨ 0 ≤ (as.getD 0 (0, -1)).2) ∧ am_cs st' ≤ 8
  · by_cases hd : 1 ≤ d
    · rw [aw_inv as hi rfl hp h1.1 h1.2 hd]
      apply propext
      exact ⟨fun h => ⟨h1.1, h1.2, hd, h⟩, fun h => h.2.2.2⟩
    · apply propext
      refine ⟨?_, fun h => absurd h.2.2.1 hd⟩
      rintro ⟨k, v, f1, h, hq⟩
      exfalso
      obtain rfl : d = 0 := by omega
      match k, h with
      | 0, h => cases h
      | k + 1, h =>
        unfold am_run am_stp at h
        dsimp only at h
        rw [hi] at h
        dsimp only at h
        rw [am_st28, e1, e0, et, ed, List.reverse_reverse, if_pos ⟨by rw [el, List.length_append, List.length_reverse]; omega, hp, h1.1.imp (fun h => by omega) id, h1.2⟩] at h
        cases h
  · rw [aw_stuck]
    · apply propext
      exact ⟨fun h => h.elim, fun h => h1 ⟨h.1, h.2.1⟩⟩
    · unfold am_stp
      dsimp only
      rw [hi]
      dsimp only
      rw [am_st28, e1, e0, et, ed, List.reverse_reverse]
      exact if_neg (fun q => h1 ⟨q.2.2.1.imp (fun h => by omega) id, q.2.2.2⟩)
theorem am_wid2 {x : Int} (h1 : -2147483648 ≤ x) (h2 : x < 2147483648) : am_wI x = x := am_wid ⟨h1, h2⟩
theorem am_wLd2 {x : Int} (h1 : -9223372036854775808 ≤ x) (h2 : x < 9223372036854775808) : am_wL x = x := am_wLd ⟨h1, h2⟩
