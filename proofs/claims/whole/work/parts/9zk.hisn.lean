/-! island, both sides: a new island -/
section
variable {d n m r : Nat} {f L z : am_F} {ρ : Int → List Int} {τ : Int → Bool} {l : Int} {Z : Int → am_F} {B : Int → Int} {N : Int} {Q : am_V → am_F → Prop} {I : IS}
def z0I (I : IS) : am_F := fun i t => if i = 6 then I.2.1 4 t else 0
theorem z0_n {i t : Int} (h : ¬ i = 6) : z0I I i t = 0 := if_neg h
theorem z0_6 {t : Int} : z0I I 6 t = I.2.1 4 t := if_pos rfl
theorem TW_I (hp : PI I) : TW (I.1 0).toNat (I.1 1).toNat (I.1 2).toNat I.2.1 (dJ I).2.2.1 := by
  obtain ⟨⟨p0, p1, p2⟩, _, ⟨v0, v1, v2⟩, c1, c2⟩ := hp
  refine ⟨by omega, by omega, by omega, ?_, ?_, ?_, v2.1, v2.2⟩
  · intro w w0 w1
    by_cases ht : I.2.2.2.1 w = true
    · obtain ⟨_, b, hb, hty⟩ := c1 w w0 (by omega) ht
      rw [(dJ_t ht).2]
      exact ⟨b, hb, fun q => Or.inl (hty q)⟩
    · by_cases w5 : w < 5
      · obtain ⟨_, _, b, hb, hty⟩ := ty_dfl w0 w5
        rw [(dJ_f w0 w5 ht).2]
        exact ⟨b, hb, hty⟩
      · exfalso
        have := (c2 (w - 5) (by omega) (by omega)).mpr (by omega)
        rw [show 5 + (w - 5) = w by omega] at this
        exact ht this
  · intro t t0 t1
    have := v0 t t0 (by omega)
    omega
  · intro k k0 k1
    have := v1 k k0 (by omega)
    omega
theorem OZ_I (hp : PI I) : OZ (I.1 0).toNat (z0I I) := by
  obtain ⟨⟨p0, p1, p2⟩, _, ⟨v0, v1, v2⟩, _⟩ := hp
  refine ⟨by rw [z0_n (by omega)]; omega, ?_⟩
  intro t t0 t1
  have := v0 t t0 (by omega)
  rw [z0_n (by omega), z0_n (by omega), z0_n (by omega), z0_n (by omega), z0_n (by omega), z0_6]
  omega
theorem nm_I {rs : List Int} (h : vnm rs) : nmR (pnm rs) (nv rs) := ⟨rs, h.1, h.2.1, h.2.2, rfl, rfl⟩
theorem CL_I {g k : am_F} {sz : Int} (hp : PI I) (hC : CI g l (dJ I) sz) (hz : sz ≤ 1616) (fr : ∀ c j : Int, l ≤ c → c ≤ l + 12 → k c j = g c j) : CL k l (I.1 0).toNat (I.1 1).toNat (I.1 2).toNat I.2.1 (dJ I).2.2.1 := by
  obtain ⟨hL, lc, ⟨a9, a10, a11, a12, _⟩, hT, hM, hR, hW, _⟩ := hC
  obtain ⟨⟨p0, p1, p2⟩, _, _, _, c2⟩ := hp
  rw [dJ_1.1] at a9 a10 a11 hT hM
  rw [dJ_1.2.1] at a12 hT hM
  refine ⟨sL_fr hL (fun j _ _ => fr _ _ (by omega) (by omega)) (fun j _ _ => fr _ _ (by omega) (by omega)), by omega, ⟨?_, ?_, ?_, ?_⟩, ?_, ?_, ?_⟩
  · rw [fr _ _ (by omega) (by omega), a9]; omega
  · rw [fr _ _ (by omega) (by omega), a10]; omega
  · rw [fr _ _ (by omega) (by omega), a11]; omega
  · rw [fr _ _ (by omega) (by omega), a12]
  · intro t t0 t1
    have := hT t t0 (by omega)
    rw [fr _ _ (by omega) (by omega), fr _ _ (by omega) (by omega)]
    exact ⟨this.2.1, this.2.2.1⟩
  · intro t t0 t1
    have := hM t t0 (by omega)
    rw [fr _ _ (by omega) (by omega), fr _ _ (by omega) (by omega)]
    exact ⟨this.2.1, this.2.2⟩
  · intro w w0 w1 _
    have ht : (dJ I).2.2.2.1 w = true := by
      by_cases ht : I.2.2.2.1 w = true
      · exact (dJ_t ht).1
      · by_cases w5 : w < 5
        · exact (dJ_f w0 w5 ht).1
        · exfalso
          have := (c2 (w - 5) (by omega) (by omega)).mpr (by omega)
          rw [show 5 + (w - 5) = w by omega] at this
          exact ht this
    obtain ⟨k0, a, b, c, e, ha⟩ := hW w w0 (by omega) ht
    refine ⟨k0, ?_, ?_, c, by omega, al_fr _ _ (fun j _ _ => fr _ _ (by omega) (by omega)) ha⟩
    · rw [fr _ _ (by omega) (by omega)]; exact a
    · rw [fr _ _ (by omega) (by omega)]; exact b
theorem ML_I {k : am_F} (hp : PI I) (hm : mfx k) (hJ : MJ k I) : ML k (I.1 0).toNat (I.1 1).toNat (I.1 2).toNat I.2.1 (dJ I).2.2.1 I.2.2.2.1 := by
  obtain ⟨⟨a0, a1, a2, a3⟩, hT, hM, hR, hW, hU⟩ := hJ
  obtain ⟨⟨p0, p1, p2⟩, _, _, _, c2⟩ := hp
  refine ⟨hm, ⟨by rw [a0]; omega, by rw [a1]; omega, by rw [a2]; omega, a3⟩, ?_, ?_, ?_⟩
  · intro t t0 t1
    have := hT t t0 (by omega)
    exact ⟨this.2.1, this.2.2.1⟩
  · intro t t0 t1
    have := hM t t0 (by omega)
    exact ⟨this.2.1, this.2.2⟩
  · intro w w0 w1
    by_cases ht : I.2.2.2.1 w = true
    · left
      refine ⟨ht, ?_⟩
      rw [(dJ_t ht).2]
      exact hW w w0 (by omega) ht
    · right
      have w5 : w < 5 := by
        by_cases w5 : w < 5
        · exact w5
        · exfalso
          have := (c2 (w - 5) (by omega) (by omega)).mpr (by omega)
          rw [show 5 + (w - 5) = w by omega] at this
          exact ht this
      exact ⟨by simpa using ht, w5, hU w w0 (by omega) ht, (dJ_f w0 w5 ht).2⟩
end
