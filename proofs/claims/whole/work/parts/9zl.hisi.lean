/-! island, both sides: all -/
section
variable {d n m r : Nat} {f L z : am_F} {ρ : Int → List Int} {τ : Int → Bool} {l : Int} {Z : Int → am_F} {B : Int → Int} {N : Int} {Q : am_V → am_F → Prop} {I : IS}
theorem js_N {c j : Int} (e : (c = 270 ∧ ((1 ≤ j ∧ j ≤ 8) ∨ j = 38 ∨ j = 43 ∨ j = 44 ∨ (48 ≤ j ∧ j ≤ 50) ∨ j = 65 ∨ j = 92 ∨ (94 ≤ j ∧ j ≤ 96))) ∨ (301 ≤ c ∧ c ≤ 307) ∨ (c = 308 ∧ 0 ≤ j ∧ j < 192) ∨ c = 340 ∨ c = 341) : ((c = 33 ∧ 1 ≤ j) ∨ (c = l ∧ 9 ≤ j) ∨ (l + 1 ≤ c ∧ c ≤ l + 8) ∨ (c = l + 9 ∧ j = 3) ∨ (l + 10 ≤ c ∧ c ≤ l + 12) ∨ (c = 46 ∧ 9 ≤ j) ∨ (47 ≤ c ∧ c ≤ 52) ∨ (c = 0 ∧ (j = 11 ∨ j = 14 ∨ j = 15)) ∨ (c = 14 ∧ j = 1) ∨ (c = 66 ∧ j = 2) ∨ c = 269 ∨ c = 272 ∨ (c = 270 ∧ ((1 ≤ j ∧ j ≤ 8) ∨ j = 38 ∨ j = 43 ∨ j = 44 ∨ (48 ≤ j ∧ j ≤ 50) ∨ j = 65 ∨ j = 92 ∨ (94 ≤ j ∧ j ≤ 96))) ∨ (301 ≤ c ∧ c ≤ 308) ∨ (c = 340 ∨ c = 341)) := by
  rcases e with e | e | e | e | e
  · exact Or.inr (Or.inr (Or.inr (Or.inr (Or.inr (Or.inr (Or.inr (Or.inr (Or.inr (Or.inr (Or.inr (Or.inr (Or.inl (e)))))))))))))
  · exact Or.inr (Or.inr (Or.inr (Or.inr (Or.inr (Or.inr (Or.inr (Or.inr (Or.inr (Or.inr (Or.inr (Or.inr (Or.inr (Or.inl (by omega))))))))))))))
  · exact Or.inr (Or.inr (Or.inr (Or.inr (Or.inr (Or.inr (Or.inr (Or.inr (Or.inr (Or.inr (Or.inr (Or.inr (Or.inr (Or.inl (by omega))))))))))))))
  · exact Or.inr (Or.inr (Or.inr (Or.inr (Or.inr (Or.inr (Or.inr (Or.inr (Or.inr (Or.inr (Or.inr (Or.inr (Or.inr (Or.inr (Or.inl e))))))))))))))
  · exact Or.inr (Or.inr (Or.inr (Or.inr (Or.inr (Or.inr (Or.inr (Or.inr (Or.inr (Or.inr (Or.inr (Or.inr (Or.inr (Or.inr (Or.inr e))))))))))))))
theorem ir_N {c j : Int} (e : (c = 46 ∧ (j = 9 ∨ j = 10 ∨ j = 11)) ∨ (47 ≤ c ∧ c ≤ 52) ∨ (c = 0 ∧ (j = 11 ∨ j = 14 ∨ j = 15)) ∨ (c = 14 ∧ j = 1) ∨ (c = 66 ∧ j = 2)) : ((c = 33 ∧ 1 ≤ j) ∨ (c = l ∧ 9 ≤ j) ∨ (l + 1 ≤ c ∧ c ≤ l + 8) ∨ (c = l + 9 ∧ j = 3) ∨ (l + 10 ≤ c ∧ c ≤ l + 12) ∨ (c = 46 ∧ 9 ≤ j) ∨ (47 ≤ c ∧ c ≤ 52) ∨ (c = 0 ∧ (j = 11 ∨ j = 14 ∨ j = 15)) ∨ (c = 14 ∧ j = 1) ∨ (c = 66 ∧ j = 2) ∨ c = 269 ∨ c = 272 ∨ (c = 270 ∧ ((1 ≤ j ∧ j ≤ 8) ∨ j = 38 ∨ j = 43 ∨ j = 44 ∨ (48 ≤ j ∧ j ≤ 50) ∨ j = 65 ∨ j = 92 ∨ (94 ≤ j ∧ j ≤ 96))) ∨ (301 ≤ c ∧ c ≤ 308) ∨ (c = 340 ∨ c = 341)) := by
  rcases e with e | e | e | e | e
  · exact Or.inr (Or.inr (Or.inr (Or.inr (Or.inr (Or.inl (by omega))))))
  · exact Or.inr (Or.inr (Or.inr (Or.inr (Or.inr (Or.inr (Or.inl (e)))))))
  · exact Or.inr (Or.inr (Or.inr (Or.inr (Or.inr (Or.inr (Or.inr (Or.inl (e))))))))
  · exact Or.inr (Or.inr (Or.inr (Or.inr (Or.inr (Or.inr (Or.inr (Or.inr (Or.inl (e)))))))))
  · exact Or.inr (Or.inr (Or.inr (Or.inr (Or.inr (Or.inr (Or.inr (Or.inr (Or.inr (Or.inl (e))))))))))
theorem fi_N {c j : Int} (e : (c = 33 ∧ 1 ≤ j) ∨ (c = l ∧ 9 ≤ j) ∨ (l + 1 ≤ c ∧ c ≤ l + 8) ∨ (c = l + 9 ∧ j = 3) ∨ (l + 10 ≤ c ∧ c ≤ l + 12)) : ((c = 33 ∧ 1 ≤ j) ∨ (c = l ∧ 9 ≤ j) ∨ (l + 1 ≤ c ∧ c ≤ l + 8) ∨ (c = l + 9 ∧ j = 3) ∨ (l + 10 ≤ c ∧ c ≤ l + 12) ∨ (c = 46 ∧ 9 ≤ j) ∨ (47 ≤ c ∧ c ≤ 52) ∨ (c = 0 ∧ (j = 11 ∨ j = 14 ∨ j = 15)) ∨ (c = 14 ∧ j = 1) ∨ (c = 66 ∧ j = 2) ∨ c = 269 ∨ c = 272 ∨ (c = 270 ∧ ((1 ≤ j ∧ j ≤ 8) ∨ j = 38 ∨ j = 43 ∨ j = 44 ∨ (48 ≤ j ∧ j ≤ 50) ∨ j = 65 ∨ j = 92 ∨ (94 ≤ j ∧ j ≤ 96))) ∨ (301 ≤ c ∧ c ≤ 308) ∨ (c = 340 ∨ c = 341)) := by
  rcases e with e | e | e | e | e
  · exact Or.inl (e)
  · exact Or.inr (Or.inl (e))
  · exact Or.inr (Or.inr (Or.inl (e)))
  · exact Or.inr (Or.inr (Or.inr (Or.inl (e))))
  · exact Or.inr (Or.inr (Or.inr (Or.inr (Or.inl (e)))))
theorem fN_is {g k : am_F} {l0 : Int} (fg : fIr l f g) (fk : fJs (isR g l l0) k) : fN l f k := fun c j hc => by
  rw [fk c j (fun e => hc (js_N e)), isR_o (fun e => hc (ir_N e)), fg c j (fun e => hc (fi_N e))]
theorem IW_isn {g k : am_F} {sz : Int} (h : IW f n m r L ρ τ z l Z) (hp : PI I) (hC : CI g (21 - l) (dJ I) sz) (hz : sz ≤ 1616) (fg : fIr (21 - l) f g) (hJ : MJ k I) (z308 : ∀ i : Int, 0 ≤ i → i < 192 → k 308 i = 0) (e65 : k 270 65 = 0) (e7 : k 270 7 = 0) (e8 : k 270 8 = -1) (e1 : k 270 1 = 0) (fk : fJs (isR g (21 - l) (f 46 9)) k) : IV k := by
  obtain ⟨⟨a1, a2, a3, a4, a5, a6⟩, ⟨⟨cx, _, cz, _, _⟩, _⟩, ⟨⟨ml, _⟩, _⟩, tp, rf, pc, fs, nr, ps⟩ := id h
  have lc : 21 - l = 1 ∨ 21 - l = 20 := by omega
  have f469 : f 46 9 = l := cz.2.2.1
  have fn := fN_is fg fk
  have rv := isR_v (g := g) (l := 21 - l) (l0 := f 46 9) lc
  generalize hl0 : 21 - l = l' at *
  obtain ⟨⟨r9, r10, r11⟩, rz, r52, r66, r011, r14, r15, r141⟩ := rv
  have kl : ∀ c j : Int, l' ≤ c → c ≤ l' + 12 → k c j = g c j := fun c j b1 b2 => by rw [fk c j (by omega), isR_o (by omega)]
  have k46 : ∀ c j : Int, 46 ≤ c → c ≤ 55 → k c j = isR g l' (f 46 9) c j := fun c j b1 b2 => fk c j (by omega)
  obtain ⟨hCL, hTW, hOZ⟩ : CL k l' (I.1 0).toNat (I.1 1).toNat (I.1 2).toNat I.2.1 (dJ I).2.2.1 ∧ TW (I.1 0).toNat (I.1 1).toNat (I.1 2).toNat I.2.1 (dJ I).2.2.1 ∧ OZ (I.1 0).toNat (z0I I) := ⟨CL_I hp hC hz kl, TW_I hp, OZ_I hp⟩
  have hML := ML_I hp (mfx_fr ml.1 (fun j hj => fn 270 j (by omega))) hJ
  have n8 := hp.1
  have names := hp.2.1
  obtain ⟨_, _, _, hT, hM, hR, _⟩ := hC
  rw [dJ_1.1] at hT hM hR
  rw [dJ_1.2.2] at hT hM hR
  rw [dJ_1.2.1] at hT hM
  obtain ⟨_, jT, jM, jR, _⟩ := id hJ
  refine ⟨_, _, _, _, _, _, z0I I, l', fun _ => z0I I, ⟨fx_N a1 lc fn, wd_N a2 lc fn, lc, ?_, ?_, ?_⟩, ⟨⟨⟨?_, ?_, ?_, ?_, ?_⟩, hCL, ⟨?_, by omega, ?_, ?_, ?_⟩, hTW, hOZ⟩, ?_, ?_, ?_⟩, ⟨⟨hML, ⟨?_, ?_, ?_⟩, hTW, hOZ⟩, ?_, ?_, ?_⟩, ⟨?_, ?_, fun j => ?_⟩, fun j => ?_, PC_fr pc ?_ ?_ (fun j => ?_) (fun j => ?_), ⟨⟨?_, ?_⟩, ?_, ?_⟩, ⟨?_, ?_, ?_⟩, ?_, ⟨?_, ?_, ?_⟩, ?_, ?_, ?_⟩
  · rw [fk _ _ (by omega), r011, f469]; omega
  · rw [fn _ _ (by omega)]; exact a5
  · rw [fn _ _ (by omega)]; exact a6
  · rw [fn _ _ (by omega)]; exact cx.1
  · rw [fn _ _ (by omega)]; exact cx.2.1
  · rw [fn _ _ (by omega)]; exact cx.2.2.1
  · rw [fn _ _ (by omega)]; exact cx.2.2.2.1
  · rw [fn _ _ (by omega)]; exact cx.2.2.2.2
  · exact fx46 (fx_N a1 lc fn)
  · rw [k46 _ _ (by omega) (by omega)]; exact r9
  · rw [k46 _ _ (by omega) (by omega), r10, z0_n (by omega)]
  · intro i t i1 i6 t0 t1
    rw [k46 _ _ (by omega) (by omega)]
    by_cases q : i = 6
    · subst q
      rw [show (46 : Int) + 6 = 52 by omega, r52 t t0 (by omega), z0_6]
      exact (hT t t0 (by omega)).2.2.2
    · rw [rz i t i1 (by omega) t0 (by omega), z0_n q]
  · rw [k46 _ _ (by omega) (by omega), r11, z0_n (by omega)]
  · rw [z0_n (by omega)]; omega
  · intro i q _ _ _ q1
    rw [z0_n (by omega)] at q1
    omega
  · rw [z308 0 (by omega) (by omega), z0_n (by omega)]
  · intro i t i1 i5 t0 t1
    rw [z308 _ (by omega) (by omega), z0_n (by omega)]
  · intro t t0 t1
    rw [if_neg (by rw [fn 270 53 (by omega), a6]; omega), z0_6]
    exact (jT t t0 (by omega)).2.2.2
  · rw [z308 41 (by omega) (by omega), z0_n (by omega)]
  · rw [z0_n (by omega)]; omega
  · intro i q _ _ _ q1
    rw [z0_n (by omega)] at q1
    omega
  · rw [e1, fk _ _ (by omega), r141]
  · rw [fk _ _ (by omega), r141]; omega
  · rw [fn 271 j (by omega), fn 15 j (by omega)]; exact tp.2.2 j
  · rw [fk 272 j (by omega), isR_o (by omega), fg 272 j (by omega), fk 269 j (by omega), isR_o (by omega), fg 269 j (by omega)]; exact rf j
  · exact fn _ _ (by omega)
  · exact fn _ _ (by omega)
  · exact fn _ _ (by omega)
  · exact fn _ _ (by omega)
  · rw [e7, fk _ _ (by omega), r14]
  · rw [e8, fk _ _ (by omega), r15]
  · rw [fn _ _ (by omega), fn _ _ (by omega)]; exact fs.2.1
  · rw [fn _ _ (by omega)]; exact fs.2.2
  · intro t t0 t1
    rw [kl _ _ (by omega) (by omega), (hT t t0 (by omega)).1, (jT t t0 (by omega)).1]
    exact nm_I (names.1 t t0 (by omega))
  · intro t t0 t1
    rw [kl _ _ (by omega) (by omega), (hM t t0 (by omega)).1, (jM t t0 (by omega)).1]
    exact nm_I (names.2.1 t t0 (by omega))
  · intro t t0 t1
    rw [kl _ _ (by omega) (by omega), hR t t0 (by omega), jR t t0 (by omega)]
    exact nm_I (names.2.2 t t0 (by omega))
  · rw [e65, fk _ _ (by omega), r66]
  · rw [fk _ _ (by omega), r66]; omega
  · rw [fn _ _ (by omega)]; exact ps.2.1.2.1
  · intro i i0 i1
    rw [fk _ _ (by omega), r66] at i1
    omega
  · rw [e65]; omega
  · rw [fn _ _ (by omega)]; exact ps.2.2.2.1
  · intro i i0 i1
    rw [e65] at i1
    omega

theorem H_island (h : IW f n m r L ρ τ z l Z) : HC (d + 60) 14 161 [] 0 f := by
  obtain ⟨⟨hx, hwd, hl, h011, h57, h53⟩, ⟨cb, cn⟩, ⟨mb, nm'⟩, tp, rf, pc, fs, nr, ps⟩ := id h
  obtain ⟨t1, t2, t3⟩ := tp
  have cf := c_fx hx
  have hB : ∀ j, 0 ≤ (fun j => f 15 j) j ∧ (fun j => f 15 j) j ≤ 255 := fun j => ⟨(t3 j).2.1, (t3 j).2.2⟩
  have hT : CT f (fun j => f 15 j) (f 14 1) := ⟨by simp [cf], by simp [cf], rfl, fun _ => rfl⟩
  have lc : 21 - l = 1 ∨ 21 - l = 20 := by omega
  have f469 : f 46 9 = l := cb.2.2.1.2.2.1
  show aw_cl (d + 100) 14 [(109, 0)] f _
  refine c_island (d := d) (l := 21 - l) (B := fun j => f 15 j) (N := f 14 1) hx lc h011 (by omega) hT t2.2 t2.1 hB ?_ ?_
  · intro k q hil g e14 e15 e141 e269 fr
    have fn : fN (21 - l) f g := fun c j hc => fr c j (fun e => hc (by
      rcases e with e | e | e | e | e | e | e | e
      · exact fi_N (Or.inl e)
      · exact fi_N (Or.inr (Or.inl e))
      · exact fi_N (Or.inr (Or.inr (Or.inl e)))
      · exact fi_N (Or.inr (Or.inr (Or.inr (Or.inl e))))
      · exact fi_N (Or.inr (Or.inr (Or.inr (Or.inr e))))
      · exact ir_N (Or.inr (Or.inr (Or.inl ⟨e.1, Or.inr e.2⟩)))
      · exact ir_N (Or.inr (Or.inr (Or.inr (Or.inl e))))
      · exact Or.inr (Or.inr (Or.inr (Or.inr (Or.inr (Or.inr (Or.inr (Or.inr (Or.inr (Or.inr (Or.inl e.1))))))))))))
    refine m_island (d := d + 87) (B := fun j => f 15 j) (N := f 14 1) (fx_N hx lc fn) (wd_N hwd lc fn) (by rw [fr _ _ (by omega)]; exact t1) (fun j => by rw [fr _ _ (by omega)]; exact (t3 j).1) t2.1 t2.2 hB ?_ ?_
    · intro k' q' hil' g' e7 e8 e1 e272 fj
      rw [hil] at hil'
      cases hil'
      exact ⟨rfl, rfl, IW_isf h fr fj e141 e1 e14 e15 e7 e8 e269 e272⟩
    · intro I' hil'
      rw [hil] at hil'
      cases hil'
  · intro I' hil hp g sz hC hz fg
    have fn : fN (21 - l) f (isR g (21 - l) (f 46 9)) := fN_is fg (fun _ _ _ => rfl)
    refine m_island (d := d + 87) (B := fun j => f 15 j) (N := f 14 1) (fx_N hx lc fn) (wd_N hwd lc fn) (by rw [isR_o (by omega), fg _ _ (by omega)]; exact t1) (fun j => by rw [isR_o (by omega), fg _ _ (by omega)]; exact (t3 j).1) t2.1 t2.2 hB ?_ ?_
    · intro k' q' hil'
      rw [hil] at hil'
      cases hil'
    · intro I2 hil' hp2 g' hJ z308 e65 e7 e8 e1 fk
      rw [hil] at hil'
      cases hil'
      exact ⟨rfl, rfl, IW_isn h hp hC hz fg hJ z308 e65 e7 e8 e1 fk⟩
end
