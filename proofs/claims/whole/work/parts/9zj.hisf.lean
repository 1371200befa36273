/-! island, both sides: the end -/
section
variable {d n m r : Nat} {f L z : am_F} {ρ : Int → List Int} {τ : Int → Bool} {l : Int} {Z : Int → am_F} {B : Int → Int} {N : Int} {Q : am_V → am_F → Prop} {I : IS}
theorem jw_s {c j : Int} (e : (c = 270 ∧ ((1 ≤ j ∧ j ≤ 8) ∨ j = 38 ∨ j = 43 ∨ (48 ≤ j ∧ j ≤ 50) ∨ j = 92 ∨ (94 ≤ j ∧ j ≤ 96))) ∨ (c = 272 ∧ j = 1) ∨ (c = 301 ∧ j < 3) ∨ ((c = 302 ∨ c = 303) ∧ j < 24) ∨ (c = 304 ∧ j < 8) ∨ ((c = 305 ∨ c = 306) ∧ j < 10) ∨ (c = 307 ∧ j < 1600) ∨ c = 340 ∨ c = 341) : SC l c j ∨ OC c j := by
  rcases e with e | e | e | ⟨e | e, e2⟩ | e | ⟨e | e, e2⟩ | e | e | e
  · by_cases q : j = 1 ∨ j = 7 ∨ j = 8
    · exact Or.inr (Or.inr (Or.inr (Or.inr (Or.inr (Or.inr (Or.inr (Or.inr (Or.inr (⟨e.1, by omega⟩)))))))))
    · exact Or.inl (Or.inr (Or.inr (Or.inr (Or.inr (Or.inr (Or.inr (Or.inr (Or.inr (Or.inr (Or.inr (Or.inr (Or.inr (Or.inr (Or.inr (Or.inr (Or.inr (Or.inr (Or.inr (Or.inr (Or.inr (Or.inr (Or.inr (Or.inr (⟨e.1, by omega⟩))))))))))))))))))))))))
  · exact Or.inr (Or.inr (Or.inr (Or.inr (Or.inr (Or.inr (Or.inr (Or.inl (e.1))))))))
  · exact Or.inl (Or.inr (Or.inr (Or.inr (Or.inr (Or.inr (Or.inr (Or.inr (Or.inr (Or.inr (Or.inr (Or.inr (Or.inr (Or.inr (Or.inr (Or.inr (Or.inr (Or.inl (e))))))))))))))))))
  · exact Or.inl (Or.inr (Or.inr (Or.inr (Or.inr (Or.inr (Or.inr (Or.inr (Or.inr (Or.inr (Or.inr (Or.inr (Or.inr (Or.inr (Or.inr (Or.inr (Or.inr (Or.inr (Or.inl (⟨e, e2⟩)))))))))))))))))))
  · exact Or.inl (Or.inr (Or.inr (Or.inr (Or.inr (Or.inr (Or.inr (Or.inr (Or.inr (Or.inr (Or.inr (Or.inr (Or.inr (Or.inr (Or.inr (Or.inr (Or.inr (Or.inr (Or.inr (Or.inl (⟨e, e2⟩))))))))))))))))))))
  · exact Or.inl (Or.inr (Or.inr (Or.inr (Or.inr (Or.inr (Or.inr (Or.inr (Or.inr (Or.inr (Or.inr (Or.inr (Or.inr (Or.inr (Or.inr (Or.inr (Or.inr (Or.inr (Or.inr (Or.inr (Or.inl (e)))))))))))))))))))))
  · exact Or.inl (Or.inr (Or.inr (Or.inr (Or.inr (Or.inr (Or.inr (Or.inr (Or.inr (Or.inr (Or.inr (Or.inr (Or.inr (Or.inr (Or.inr (Or.inr (Or.inr (Or.inr (Or.inr (Or.inr (Or.inr (Or.inl (⟨e, e2⟩))))))))))))))))))))))
  · exact Or.inl (Or.inr (Or.inr (Or.inr (Or.inr (Or.inr (Or.inr (Or.inr (Or.inr (Or.inr (Or.inr (Or.inr (Or.inr (Or.inr (Or.inr (Or.inr (Or.inr (Or.inr (Or.inr (Or.inr (Or.inr (Or.inr (Or.inl (⟨e, e2⟩)))))))))))))))))))))))
  · exact Or.inl (Or.inr (Or.inr (Or.inr (Or.inr (Or.inr (Or.inr (Or.inr (Or.inr (Or.inr (Or.inr (Or.inr (Or.inr (Or.inr (Or.inr (Or.inr (Or.inr (Or.inr (Or.inr (Or.inr (Or.inr (Or.inr (Or.inr (Or.inl (e))))))))))))))))))))))))
  · exact Or.inl (Or.inr (Or.inr (Or.inr (Or.inr (Or.inr (Or.inr (Or.inr (Or.inr (Or.inr (Or.inr (Or.inr (Or.inr (Or.inr (Or.inr (Or.inr (Or.inl (by omega)))))))))))))))))
  · exact Or.inl (Or.inr (Or.inr (Or.inr (Or.inr (Or.inr (Or.inr (Or.inr (Or.inr (Or.inr (Or.inr (Or.inr (Or.inr (Or.inr (Or.inr (Or.inr (Or.inl (by omega)))))))))))))))))
theorem cw_s {c j : Int} (e : (c = 33 ∧ 1 ≤ j) ∨ (c = (21 - l) ∧ 9 ≤ j) ∨ ((21 - l) + 1 ≤ c ∧ c ≤ (21 - l) + 8) ∨ (c = (21 - l) + 9 ∧ j = 3) ∨ ((21 - l) + 10 ≤ c ∧ c ≤ (21 - l) + 12) ∨ (c = 0 ∧ (j = 14 ∨ j = 15)) ∨ (c = 14 ∧ j = 1) ∨ (c = 269 ∧ j = 1)) : SC l c j ∨ OC c j := by
  rcases e with e | e | e | e | e | e | e | e
  · exact Or.inl (Or.inr (Or.inr (Or.inl (e))))
  · exact Or.inl (Or.inr (Or.inr (Or.inr (Or.inr (Or.inr (Or.inr (Or.inr (Or.inr (Or.inr (Or.inr (Or.inr (Or.inr (Or.inl (e))))))))))))))
  · exact Or.inl (Or.inr (Or.inr (Or.inr (Or.inr (Or.inr (Or.inr (Or.inr (Or.inr (Or.inr (Or.inr (Or.inl (by omega))))))))))))
  · exact Or.inl (Or.inr (Or.inr (Or.inr (Or.inr (Or.inr (Or.inr (Or.inr (Or.inr (Or.inr (Or.inr (Or.inr (Or.inr (Or.inr (Or.inl (by omega)))))))))))))))
  · exact Or.inl (Or.inr (Or.inr (Or.inr (Or.inr (Or.inr (Or.inr (Or.inr (Or.inr (Or.inr (Or.inr (Or.inr (Or.inl (by omega)))))))))))))
  · exact Or.inr (Or.inl (by omega))
  · exact Or.inr (Or.inr (Or.inl (e)))
  · exact Or.inr (Or.inr (Or.inr (Or.inr (Or.inr (Or.inl (e.1))))))
theorem IW_isf {g k : am_F} {x y : Int} (h : IW f n m r L ρ τ z l Z) (h1 : fCw (21 - l) f g) (h2 : fJw g k) (e14 : g 14 1 = 0) (e1 : k 270 1 = 0) (a14 : g 0 14 = x) (a15 : g 0 15 = y) (e7 : k 270 7 = x) (e8 : k 270 8 = y) (w1 : g 269 1 = am_wI (f 269 1 + 1)) (w2 : k 272 1 = am_wI (g 272 1 + 1)) : IV k := by
  obtain ⟨a, _, _, tp, rf, pc, fs, _⟩ := id h
  have lc := a.2.2.1
  have fr : ∀ c j : Int, (c = 0 ∧ (j = 12 ∨ j = 13)) ∨ c = 15 ∨ c = 268 ∨ c = 271 ∨ c = 343 ∨ (c = 270 ∧ (j = 67 ∨ j = 102)) ∨ ((c = 269 ∨ c = 272) ∧ ¬ j = 1) → (21 - l = 1 ∨ 21 - l = 20) → k c j = f c j := fun c j hc hl => by rw [h2 _ _ (by omega), h1 _ _ (by omega)]
  have lc' : 21 - l = 1 ∨ 21 - l = 20 := by omega
  refine (IW_o h (fun c j q1 q2 => ?_) ⟨?_, ?_, fun j => ?_⟩ (fun j => ?_) (PC_fr pc ?_ ?_ (fun j => ?_) (fun j => ?_)) ⟨⟨?_, ?_⟩, ?_, ?_⟩).iv
  · rw [h2 _ _ (fun e => (jw_s e).elim q1 q2), h1 _ _ (fun e => (cw_s e).elim q1 q2)]
  · rw [e1, h2 _ _ (by omega), e14]
  · rw [h2 _ _ (by omega), e14]; omega
  · rw [fr 271 j (by omega) lc', fr 15 j (by omega) lc']; exact tp.2.2 j
  · by_cases q : j = 1
    · rw [q, w2, h2 269 1 (by omega), w1, h1 272 1 (by omega), rf 1]
    · rw [fr 272 j (by omega) lc', fr 269 j (by omega) lc']; exact rf j
  · exact fr _ _ (by omega) lc'
  · exact fr _ _ (by omega) lc'
  · exact fr _ _ (by omega) lc'
  · exact fr _ _ (by omega) lc'
  · rw [e7, h2 _ _ (by omega), a14]
  · rw [e8, h2 _ _ (by omega), a15]
  · rw [fr _ _ (by omega) lc', fr _ _ (by omega) lc']; exact fs.2.1
  · rw [fr _ _ (by omega) lc']; exact fs.2.2

end
