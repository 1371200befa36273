/-! islands: the model takes names -/
theorem SC_n2 {l c j : Int} (h : ¬ SC l c j) : ¬ ((22 - l ≤ c ∧ c ≤ 29 - l) ∨ (31 - l ≤ c ∧ c ≤ 33 - l) ∨ (c = 21 - l ∧ 9 ≤ j) ∨ (c = 30 - l ∧ j = 3)) ∧ ¬ ((c = 301 ∧ j < 3) ∨ (c = 302 ∧ j < 24) ∨ (c = 303 ∧ j < 24) ∨ (c = 304 ∧ j < 8) ∨ (c = 305 ∧ j < 10) ∨ (c = 306 ∧ j < 10) ∨ (c = 307 ∧ j < 1600)) := by
  refine ⟨fun q => h ?_, fun q => h ?_⟩
  · rcases q with q | q | q | q
    · exact Or.inr (Or.inr (Or.inr (Or.inr (Or.inr (Or.inr (Or.inr (Or.inr (Or.inr (Or.inr (Or.inl q))))))))))
    · exact Or.inr (Or.inr (Or.inr (Or.inr (Or.inr (Or.inr (Or.inr (Or.inr (Or.inr (Or.inr (Or.inr (Or.inl q)))))))))))
    · exact Or.inr (Or.inr (Or.inr (Or.inr (Or.inr (Or.inr (Or.inr (Or.inr (Or.inr (Or.inr (Or.inr (Or.inr (Or.inl q))))))))))))
    · exact Or.inr (Or.inr (Or.inr (Or.inr (Or.inr (Or.inr (Or.inr (Or.inr (Or.inr (Or.inr (Or.inr (Or.inr (Or.inr (Or.inl q)))))))))))))
  · rcases q with q | q | q | q | q | q | q
    · exact Or.inr (Or.inr (Or.inr (Or.inr (Or.inr (Or.inr (Or.inr (Or.inr (Or.inr (Or.inr (Or.inr (Or.inr (Or.inr (Or.inr (Or.inr (Or.inr (Or.inl q))))))))))))))))
    · exact Or.inr (Or.inr (Or.inr (Or.inr (Or.inr (Or.inr (Or.inr (Or.inr (Or.inr (Or.inr (Or.inr (Or.inr (Or.inr (Or.inr (Or.inr (Or.inr (Or.inr (Or.inl q)))))))))))))))))
    · exact Or.inr (Or.inr (Or.inr (Or.inr (Or.inr (Or.inr (Or.inr (Or.inr (Or.inr (Or.inr (Or.inr (Or.inr (Or.inr (Or.inr (Or.inr (Or.inr (Or.inr (Or.inr (Or.inl q))))))))))))))))))
    · exact Or.inr (Or.inr (Or.inr (Or.inr (Or.inr (Or.inr (Or.inr (Or.inr (Or.inr (Or.inr (Or.inr (Or.inr (Or.inr (Or.inr (Or.inr (Or.inr (Or.inr (Or.inr (Or.inr (Or.inl q)))))))))))))))))))
    · exact Or.inr (Or.inr (Or.inr (Or.inr (Or.inr (Or.inr (Or.inr (Or.inr (Or.inr (Or.inr (Or.inr (Or.inr (Or.inr (Or.inr (Or.inr (Or.inr (Or.inr (Or.inr (Or.inr (Or.inr (Or.inl q))))))))))))))))))))
    · exact Or.inr (Or.inr (Or.inr (Or.inr (Or.inr (Or.inr (Or.inr (Or.inr (Or.inr (Or.inr (Or.inr (Or.inr (Or.inr (Or.inr (Or.inr (Or.inr (Or.inr (Or.inr (Or.inr (Or.inr (Or.inr (Or.inl q)))))))))))))))))))))
    · exact Or.inr (Or.inr (Or.inr (Or.inr (Or.inr (Or.inr (Or.inr (Or.inr (Or.inr (Or.inr (Or.inr (Or.inr (Or.inr (Or.inr (Or.inr (Or.inr (Or.inr (Or.inr (Or.inr (Or.inr (Or.inr (Or.inr (Or.inl q))))))))))))))))))))))
/-- what the model's reading of islands leaves as it was -/
def gI (f g : am_F) : Prop := ∀ c j : Int, ¬ ((c = 270 ∧ (j = 2 ∨ j = 4 ∨ j = 38 ∨ j = 43 ∨ (48 ≤ j ∧ j ≤ 50) ∨ j = 92 ∨ (94 ≤ j ∧ j ≤ 96))) ∨ (c = 301 ∧ j < 3) ∨ ((c = 302 ∨ c = 303) ∧ j < 24) ∨ (c = 304 ∧ j < 8) ∨ ((c = 305 ∨ c = 306) ∧ j < 10) ∨ (c = 307 ∧ j < 1600) ∨ c = 340 ∨ c = 341) → g c j = f c j
def gIw (f g : am_F) : Prop := ∀ c j : Int, ¬ ((c = 270 ∧ (j = 2 ∨ (4 ≤ j ∧ j ≤ 6) ∨ j = 38 ∨ j = 43 ∨ (48 ≤ j ∧ j ≤ 50) ∨ j = 92 ∨ (94 ≤ j ∧ j ≤ 96))) ∨ (c = 301 ∧ j < 3) ∨ ((c = 302 ∨ c = 303) ∧ j < 24) ∨ (c = 304 ∧ j < 8) ∨ ((c = 305 ∨ c = 306) ∧ j < 10) ∨ (c = 307 ∧ j < 1600) ∨ c = 340 ∨ c = 341) → g c j = f c j
theorem gI_w {f g : am_F} (h : gI f g) : gIw f g := fun c j hc => h c j (by omega)
theorem MX_gIw {f g : am_F} {B : Int → Int} {N : Int} (h : MX f B N) (hg : gIw f g) : MX g B N := by
  obtain ⟨⟨h1, h2⟩, h3, h4⟩ := h
  refine ⟨⟨fun x hx => ?_, fun x hx => ?_⟩, ?_, fun j => ?_⟩
  · rw [hg _ _ (by
      have q := (SC_n (fx_n (Or.inl rfl) hx).1).2
      have q2 := (SC_n2 (fx_n (Or.inl rfl) hx).1).2
      generalize x.1 = c at q q2 ⊢
      generalize x.2.1 = j at q q2 ⊢
      intro e
      rcases e with e | e | e | e | e | e | e | e
      · exact q (Or.inr (Or.inr (Or.inr ⟨e.1, by omega⟩)))
      · exact q2 (Or.inl e)
      · rcases e.1 with e1 | e1
        · exact q2 (Or.inr (Or.inl ⟨e1, e.2⟩))
        · exact q2 (Or.inr (Or.inr (Or.inl ⟨e1, e.2⟩)))
      · exact q2 (Or.inr (Or.inr (Or.inr (Or.inl e))))
      · rcases e.1 with e1 | e1
        · exact q2 (Or.inr (Or.inr (Or.inr (Or.inr (Or.inl ⟨e1, e.2⟩)))))
        · exact q2 (Or.inr (Or.inr (Or.inr (Or.inr (Or.inr (Or.inl ⟨e1, e.2⟩))))))
      · exact q2 (Or.inr (Or.inr (Or.inr (Or.inr (Or.inr (Or.inr e))))))
      · exact q (Or.inr (Or.inr (Or.inl (by omega))))
      · exact q (Or.inr (Or.inr (Or.inl (by omega)))))]; exact h1 x hx
  · rw [hg _ _ (by
      have q := (SC_n (wd_n (Or.inl rfl) hx).1).2
      have q2 := (SC_n2 (wd_n (Or.inl rfl) hx).1).2
      generalize x.1 = c at q q2 ⊢
      generalize x.2.1 = j at q q2 ⊢
      intro e
      rcases e with e | e | e | e | e | e | e | e
      · exact q (Or.inr (Or.inr (Or.inr ⟨e.1, by omega⟩)))
      · exact q2 (Or.inl e)
      · rcases e.1 with e1 | e1
        · exact q2 (Or.inr (Or.inl ⟨e1, e.2⟩))
        · exact q2 (Or.inr (Or.inr (Or.inl ⟨e1, e.2⟩)))
      · exact q2 (Or.inr (Or.inr (Or.inr (Or.inl e))))
      · rcases e.1 with e1 | e1
        · exact q2 (Or.inr (Or.inr (Or.inr (Or.inr (Or.inl ⟨e1, e.2⟩)))))
        · exact q2 (Or.inr (Or.inr (Or.inr (Or.inr (Or.inr (Or.inl ⟨e1, e.2⟩))))))
      · exact q2 (Or.inr (Or.inr (Or.inr (Or.inr (Or.inr (Or.inr e))))))
      · exact q (Or.inr (Or.inr (Or.inl (by omega))))
      · exact q (Or.inr (Or.inr (Or.inl (by omega)))))]; exact h2 x hx
  · rw [hg _ _ (by omega)]; exact h3
  · rw [hg _ _ (by omega)]; exact h4 j
section
variable {d : Nat} {f g : am_F} {B : Int → Int} {N p : Int} {Q : am_V → am_F → Prop} {I : IS}
theorem own_fx (x1 : aw_fx f) : f 270 10 = 273 ∧ f 270 11 = 274 ∧ f 270 12 = 275 ∧ f 270 13 = 276 ∧ f 270 14 = 277 ∧ f 270 15 = 278 ∧ f 270 16 = 279 ∧ f 270 17 = 280 ∧ f 270 18 = 281 ∧ f 270 19 = 282 ∧ f 270 20 = 283 ∧ f 270 21 = 284 ∧ f 270 22 = 285 ∧ f 270 23 = 286 ∧ f 270 24 = 287 ∧ f 270 25 = 288 ∧ f 270 26 = 289 ∧ f 270 27 = 290 ∧ f 270 28 = 291 ∧ f 270 29 = 292 ∧ f 270 30 = 293 ∧ f 270 31 = 294 ∧ f 270 32 = 295 ∧ f 270 33 = 296 ∧ f 270 34 = 297 ∧ f 270 35 = 298 ∧ f 270 36 = 299 ∧ f 270 37 = 300 := ⟨fx_270_10 x1, fx_270_11 x1, fx_270_12 x1, fx_270_13 x1, fx_270_14 x1, fx_270_15 x1, fx_270_16 x1, fx_270_17 x1, fx_270_18 x1, fx_270_19 x1, fx_270_20 x1, fx_270_21 x1, fx_270_22 x1, fx_270_23 x1, fx_270_24 x1, fx_270_25 x1, fx_270_26 x1, fx_270_27 x1, fx_270_28 x1, fx_270_29 x1, fx_270_30 x1, fx_270_31 x1, fx_270_32 x1, fx_270_33 x1, fx_270_34 x1, fx_270_35 x1, fx_270_36 x1, fx_270_37 x1⟩
/-- is an own word here -/
theorem m_own (hX : MX f B N) (hN : N ≤ 1600) (h0 : 0 ≤ p) (h1 : p ≤ N) (hP : PP f B N p) (hb : f 270 5 = 0) (hA : f 270 2 = tS B N p) : aw_cl (d + 2) 172 [(110, 270)] f Q = Q (0, if 0 ≤ tW B N p ∧ tW B N p < 28 then 1 else 0) f := by
  obtain ⟨⟨x1, x2⟩, x3, x4⟩ := id hX
  have he : ∀ (k : Int), 0 ≤ k → k < 28 → ∀ (dd : Nat) (QQ : am_V → am_F → Prop), aw_cl (dd + 1) 166 [(110, 270), (22, 273 + k)] f QQ = QQ (0, if tW B N p = k then 1 else 0) f := by
    intro k k0 k1 dd QQ
    refine m_hereA hX hN h0 h1 hP hb hA (hw_of x2 (q := (273 + k, k)) ?_)
    rcases (show k = 0 ∨ k = 1 ∨ k = 2 ∨ k = 3 ∨ k = 4 ∨ k = 5 ∨ k = 6 ∨ k = 7 ∨ k = 8 ∨ k = 9 ∨ k = 10 ∨ k = 11 ∨ k = 12 ∨ k = 13 ∨ k = 14 ∨ k = 15 ∨ k = 16 ∨ k = 17 ∨ k = 18 ∨ k = 19 ∨ k = 20 ∨ k = 21 ∨ k = 22 ∨ k = 23 ∨ k = 24 ∨ k = 25 ∨ k = 26 ∨ k = 27 by omega) with e | e | e | e | e | e | e | e | e | e | e | e | e | e | e | e | e | e | e | e | e | e | e | e | e | e | e | e <;> subst e <;> decide
  have w0 := he 0 (by omega) (by omega)
  have w1 := he 1 (by omega) (by omega)
  have w2 := he 2 (by omega) (by omega)
  have w3 := he 3 (by omega) (by omega)
  have w4 := he 4 (by omega) (by omega)
  have w5 := he 5 (by omega) (by omega)
  have w6 := he 6 (by omega) (by omega)
  have w7 := he 7 (by omega) (by omega)
  have w8 := he 8 (by omega) (by omega)
  have w9 := he 9 (by omega) (by omega)
  have w10 := he 10 (by omega) (by omega)
  have w11 := he 11 (by omega) (by omega)
  have w12 := he 12 (by omega) (by omega)
  have w13 := he 13 (by omega) (by omega)
  have w14 := he 14 (by omega) (by omega)
  have w15 := he 15 (by omega) (by omega)
  have w16 := he 16 (by omega) (by omega)
  have w17 := he 17 (by omega) (by omega)
  have w18 := he 18 (by omega) (by omega)
  have w19 := he 19 (by omega) (by omega)
  have w20 := he 20 (by omega) (by omega)
  have w21 := he 21 (by omega) (by omega)
  have w22 := he 22 (by omega) (by omega)
  have w23 := he 23 (by omega) (by omega)
  have w24 := he 24 (by omega) (by omega)
  have w25 := he 25 (by omega) (by omega)
  have w26 := he 26 (by omega) (by omega)
  have w27 := he 27 (by omega) (by omega)
  simp only [show (273 : Int) + 0 = 273 by decide, show (273 : Int) + 1 = 274 by decide, show (273 : Int) + 2 = 275 by decide, show (273 : Int) + 3 = 276 by decide, show (273 : Int) + 4 = 277 by decide, show (273 : Int) + 5 = 278 by decide, show (273 : Int) + 6 = 279 by decide, show (273 : Int) + 7 = 280 by decide, show (273 : Int) + 8 = 281 by decide, show (273 : Int) + 9 = 282 by decide, show (273 : Int) + 10 = 283 by decide, show (273 : Int) + 11 = 284 by decide, show (273 : Int) + 12 = 285 by decide, show (273 : Int) + 13 = 286 by decide, show (273 : Int) + 14 = 287 by decide, show (273 : Int) + 15 = 288 by decide, show (273 : Int) + 16 = 289 by decide, show (273 : Int) + 17 = 290 by decide, show (273 : Int) + 18 = 291 by decide, show (273 : Int) + 19 = 292 by decide, show (273 : Int) + 20 = 293 by decide, show (273 : Int) + 21 = 294 by decide, show (273 : Int) + 22 = 295 by decide, show (273 : Int) + 23 = 296 by decide, show (273 : Int) + 24 = 297 by decide, show (273 : Int) + 25 = 298 by decide, show (273 : Int) + 26 = 299 by decide, show (273 : Int) + 27 = 300 by decide] at w0 w1 w2 w3 w4 w5 w6 w7 w8 w9 w10 w11 w12 w13 w14 w15 w16 w17 w18 w19 w20 w21 w22 w23 w24 w25 w26 w27
  have wr := tW_r (B := B) (N := N) (p := p)
  clear he
  apply aw_det
  generalize tW B N p = w at *
  by_cases q : 0 ≤ w ∧ w < 28
  · rw [if_pos q]
    have hh : w = 0 ∨ w = 1 ∨ w = 2 ∨ w = 3 ∨ w = 4 ∨ w = 5 ∨ w = 6 ∨ w = 7 ∨ w = 8 ∨ w = 9 ∨ w = 10 ∨ w = 11 ∨ w = 12 ∨ w = 13 ∨ w = 14 ∨ w = 15 ∨ w = 16 ∨ w = 17 ∨ w = 18 ∨ w = 19 ∨ w = 20 ∨ w = 21 ∨ w = 22 ∨ w = 23 ∨ w = 24 ∨ w = 25 ∨ w = 26 ∨ w = 27 := by omega
    clear wr q
    rcases hh with e | e | e | e | e | e | e | e | e | e | e | e | e | e | e | e | e | e | e | e | e | e | e | e | e | e | e | e <;> subst e <;> simp [q172, r172_0, r172_1, r172_2, r172_5, r172_8, r172_11, r172_12, r172_13, r172_16, r172_19, r172_22, r172_23, r172_24, r172_27, r172_30, r172_33, r172_34, r172_35, r172_38, r172_41, r172_44, r172_45, r172_46, r172_49, r172_52, r172_55, r172_56, r172_57, r172_60, r172_63, r172_66, r172_67, r172_70, r172_71, r172_72, r172_73, r172_76, r172_77, r172_78, r172_81, r172_84, r172_87, r172_88, r172_89, r172_92, r172_95, r172_98, r172_99, r172_100, r172_103, r172_106, r172_109, r172_110, r172_111, r172_114, r172_117, r172_120, r172_121, r172_122, r172_125, r172_128, r172_131, r172_132, r172_133, r172_136, r172_139, r172_142, r172_143, r172_146, r172_147, r172_148, r172_149, r172_152, r172_153, r172_154, r172_157, r172_160, r172_163, r172_164, r172_165, r172_168, r172_171, r172_174, r172_175, r172_176, r172_179, r172_182, r172_185, r172_186, r172_187, r172_190, r172_193, r172_196, r172_197, r172_198, r172_201, r172_204, r172_207, r172_208, r172_209, r172_212, r172_215, r172_218, r172_219, r172_222, r172_223, r172_224, r172_225, r172_228, r172_229, r172_230, r172_233, r172_236, r172_239, r172_240, r172_241, r172_244, r172_247, r172_250, r172_251, r172_252, r172_255, r172_258, r172_261, r172_262, r172_263, r172_266, r172_269, r172_272, r172_273, r172_274, r172_277, r172_280, r172_283, r172_284, r172_285, r172_288, r172_291, r172_294, r172_295, r172_298, r172_299, r172_300, r172_301, r172_304, r172_305, r172_306, r172_309, r172_312, r172_315, r172_316, r172_317, r172_320, r172_323, r172_326, r172_327, r172_328, r172_331, r172_334, r172_337, r172_338, r172_339, r172_342, r172_345, r172_348, r172_349, r172_352, r172_353, r172_354, r172_355, cs_nil, cs_cons, lc_lt, lc_ge, lc_gt, lc_le, lc_eq, own_fx x1, w0, w1, w2, w3, w4, w5, w6, w7, w8, w9, w10, w11, w12, w13, w14, w15, w16, w17, w18, w19, w20, w21, w22, w23, w24, w25, w26, w27]
  · rw [if_neg q]
    have n : ∀ k : Int, 0 ≤ k → k < 28 → (w = k) = False := fun k a b => eq_false (by omega)
    simp [q172, r172_0, r172_1, r172_2, r172_5, r172_8, r172_11, r172_12, r172_13, r172_16, r172_19, r172_22, r172_23, r172_24, r172_27, r172_30, r172_33, r172_34, r172_35, r172_38, r172_41, r172_44, r172_45, r172_46, r172_49, r172_52, r172_55, r172_56, r172_57, r172_60, r172_63, r172_66, r172_67, r172_70, r172_71, r172_72, r172_73, r172_76, r172_77, r172_78, r172_81, r172_84, r172_87, r172_88, r172_89, r172_92, r172_95, r172_98, r172_99, r172_100, r172_103, r172_106, r172_109, r172_110, r172_111, r172_114, r172_117, r172_120, r172_121, r172_122, r172_125, r172_128, r172_131, r172_132, r172_133, r172_136, r172_139, r172_142, r172_143, r172_146, r172_147, r172_148, r172_149, r172_152, r172_153, r172_154, r172_157, r172_160, r172_163, r172_164, r172_165, r172_168, r172_171, r172_174, r172_175, r172_176, r172_179, r172_182, r172_185, r172_186, r172_187, r172_190, r172_193, r172_196, r172_197, r172_198, r172_201, r172_204, r172_207, r172_208, r172_209, r172_212, r172_215, r172_218, r172_219, r172_222, r172_223, r172_224, r172_225, r172_228, r172_229, r172_230, r172_233, r172_236, r172_239, r172_240, r172_241, r172_244, r172_247, r172_250, r172_251, r172_252, r172_255, r172_258, r172_261, r172_262, r172_263, r172_266, r172_269, r172_272, r172_273, r172_274, r172_277, r172_280, r172_283, r172_284, r172_285, r172_288, r172_291, r172_294, r172_295, r172_298, r172_299, r172_300, r172_301, r172_304, r172_305, r172_306, r172_309, r172_312, r172_315, r172_316, r172_317, r172_320, r172_323, r172_326, r172_327, r172_328, r172_331, r172_334, r172_337, r172_338, r172_339, r172_342, r172_345, r172_348, r172_349, r172_352, r172_353, r172_354, r172_355, cs_nil, cs_cons, lc_lt, lc_ge, lc_gt, lc_le, lc_eq, own_fx x1, w0, w1, w2, w3, w4, w5, w6, w7, w8, w9, w10, w11, w12, w13, w14, w15, w16, w17, w18, w19, w20, w21, w22, w23, w24, w25, w26, w27, n 0 (by omega) (by omega), n 1 (by omega) (by omega), n 2 (by omega) (by omega), n 3 (by omega) (by omega), n 4 (by omega) (by omega), n 5 (by omega) (by omega), n 6 (by omega) (by omega), n 7 (by omega) (by omega), n 8 (by omega) (by omega), n 9 (by omega) (by omega), n 10 (by omega) (by omega), n 11 (by omega) (by omega), n 12 (by omega) (by omega), n 13 (by omega) (by omega), n 14 (by omega) (by omega), n 15 (by omega) (by omega), n 16 (by omega) (by omega), n 17 (by omega) (by omega), n 18 (by omega) (by omega), n 19 (by omega) (by omega), n 20 (by omega) (by omega), n 21 (by omega) (by omega), n 22 (by omega) (by omega), n 23 (by omega) (by omega), n 24 (by omega) (by omega), n 25 (by omega) (by omega), n 26 (by omega) (by omega), n 27 (by omega) (by omega)]
end
