/-! copies of states, what is pushed and popped -/
theorem fx67 {f : am_F} (h : aw_fx f) {k : Int} (h0 : 0 ≤ k) (h1 : k < 20) : f 67 k = 68 + 10 * k := by
  obtain rfl | rfl | rfl | rfl | rfl | rfl | rfl | rfl | rfl | rfl | rfl | rfl | rfl | rfl | rfl | rfl | rfl | rfl | rfl | rfl : k = 0 ∨ k = 1 ∨ k = 2 ∨ k = 3 ∨ k = 4 ∨ k = 5 ∨ k = 6 ∨ k = 7 ∨ k = 8 ∨ k = 9 ∨ k = 10 ∨ k = 11 ∨ k = 12 ∨ k = 13 ∨ k = 14 ∨ k = 15 ∨ k = 16 ∨ k = 17 ∨ k = 18 ∨ k = 19 := by omega
  · exact fx_67_0 h
  · exact fx_67_1 h
  · exact fx_67_2 h
  · exact fx_67_3 h
  · exact fx_67_4 h
  · exact fx_67_5 h
  · exact fx_67_6 h
  · exact fx_67_7 h
  · exact fx_67_8 h
  · exact fx_67_9 h
  · exact fx_67_10 h
  · exact fx_67_11 h
  · exact fx_67_12 h
  · exact fx_67_13 h
  · exact fx_67_14 h
  · exact fx_67_15 h
  · exact fx_67_16 h
  · exact fx_67_17 h
  · exact fx_67_18 h
  · exact fx_67_19 h
theorem fx56 {f : am_F} (h : aw_fx f) : sS f 56 := by
  unfold sS
  refine ⟨by omega, ⟨fx_56_0 h, fx_56_1 h, fx_56_2 h, fx_56_3 h, fx_56_4 h, fx_56_5 h, fx_56_6 h, fx_56_7 h, fx_56_8 h⟩, ln_57, ln_58, ln_59, ln_60, ln_61, ln_62, ln_63, ln_64, ln_65⟩
theorem fx46 {f : am_F} (h : aw_fx f) : sS f 46 := by
  unfold sS
  refine ⟨by omega, ⟨fx_46_0 h, fx_46_1 h, fx_46_2 h, fx_46_3 h, fx_46_4 h, fx_46_5 h, fx_46_6 h, fx_46_7 h, fx_46_8 h⟩, ln_47, ln_48, ln_49, ln_50, ln_51, ln_52, ln_53, ln_54, ln_55⟩
theorem fxPs {f : am_F} (h : aw_fx f) {k : Int} (h0 : 0 ≤ k) (h1 : k < 20) : sS f (68 + 10 * k) := by
  unfold sS
  obtain rfl | rfl | rfl | rfl | rfl | rfl | rfl | rfl | rfl | rfl | rfl | rfl | rfl | rfl | rfl | rfl | rfl | rfl | rfl | rfl : k = 0 ∨ k = 1 ∨ k = 2 ∨ k = 3 ∨ k = 4 ∨ k = 5 ∨ k = 6 ∨ k = 7 ∨ k = 8 ∨ k = 9 ∨ k = 10 ∨ k = 11 ∨ k = 12 ∨ k = 13 ∨ k = 14 ∨ k = 15 ∨ k = 16 ∨ k = 17 ∨ k = 18 ∨ k = 19 := by omega
  · exact ⟨by omega, ⟨fx_68_0 h, fx_68_1 h, fx_68_2 h, fx_68_3 h, fx_68_4 h, fx_68_5 h, fx_68_6 h, fx_68_7 h, fx_68_8 h⟩, ln_69, ln_70, ln_71, ln_72, ln_73, ln_74, ln_75, ln_76, ln_77⟩
  · exact ⟨by omega, ⟨fx_78_0 h, fx_78_1 h, fx_78_2 h, fx_78_3 h, fx_78_4 h, fx_78_5 h, fx_78_6 h, fx_78_7 h, fx_78_8 h⟩, ln_79, ln_80, ln_81, ln_82, ln_83, ln_84, ln_85, ln_86, ln_87⟩
  · exact ⟨by omega, ⟨fx_88_0 h, fx_88_1 h, fx_88_2 h, fx_88_3 h, fx_88_4 h, fx_88_5 h, fx_88_6 h, fx_88_7 h, fx_88_8 h⟩, ln_89, ln_90, ln_91, ln_92, ln_93, ln_94, ln_95, ln_96, ln_97⟩
  · exact ⟨by omega, ⟨fx_98_0 h, fx_98_1 h, fx_98_2 h, fx_98_3 h, fx_98_4 h, fx_98_5 h, fx_98_6 h, fx_98_7 h, fx_98_8 h⟩, ln_99, ln_100, ln_101, ln_102, ln_103, ln_104, ln_105, ln_106, ln_107⟩
  · exact ⟨by omega, ⟨fx_108_0 h, fx_108_1 h, fx_108_2 h, fx_108_3 h, fx_108_4 h, fx_108_5 h, fx_108_6 h, fx_108_7 h, fx_108_8 h⟩, ln_109, ln_110, ln_111, ln_112, ln_113, ln_114, ln_115, ln_116, ln_117⟩
  · exact ⟨by omega, ⟨fx_118_0 h, fx_118_1 h, fx_118_2 h, fx_118_3 h, fx_118_4 h, fx_118_5 h, fx_118_6 h, fx_118_7 h, fx_118_8 h⟩, ln_119, ln_120, ln_121, ln_122, ln_123, ln_124, ln_125, ln_126, ln_127⟩
  · exact ⟨by omega, ⟨fx_128_0 h, fx_128_1 h, fx_128_2 h, fx_128_3 h, fx_128_4 h, fx_128_5 h, fx_128_6 h, fx_128_7 h, fx_128_8 h⟩, ln_129, ln_130, ln_131, ln_132, ln_133, ln_134, ln_135, ln_136, ln_137⟩
  · exact ⟨by omega, ⟨fx_138_0 h, fx_138_1 h, fx_138_2 h, fx_138_3 h, fx_138_4 h, fx_138_5 h, fx_138_6 h, fx_138_7 h, fx_138_8 h⟩, ln_139, ln_140, ln_141, ln_142, ln_143, ln_144, ln_145, ln_146, ln_147⟩
  · exact ⟨by omega, ⟨fx_148_0 h, fx_148_1 h, fx_148_2 h, fx_148_3 h, fx_148_4 h, fx_148_5 h, fx_148_6 h, fx_148_7 h, fx_148_8 h⟩, ln_149, ln_150, ln_151, ln_152, ln_153, ln_154, ln_155, ln_156, ln_157⟩
  · exact ⟨by omega, ⟨fx_158_0 h, fx_158_1 h, fx_158_2 h, fx_158_3 h, fx_158_4 h, fx_158_5 h, fx_158_6 h, fx_158_7 h, fx_158_8 h⟩, ln_159, ln_160, ln_161, ln_162, ln_163, ln_164, ln_165, ln_166, ln_167⟩
  · exact ⟨by omega, ⟨fx_168_0 h, fx_168_1 h, fx_168_2 h, fx_168_3 h, fx_168_4 h, fx_168_5 h, fx_168_6 h, fx_168_7 h, fx_168_8 h⟩, ln_169, ln_170, ln_171, ln_172, ln_173, ln_174, ln_175, ln_176, ln_177⟩
  · exact ⟨by omega, ⟨fx_178_0 h, fx_178_1 h, fx_178_2 h, fx_178_3 h, fx_178_4 h, fx_178_5 h, fx_178_6 h, fx_178_7 h, fx_178_8 h⟩, ln_179, ln_180, ln_181, ln_182, ln_183, ln_184, ln_185, ln_186, ln_187⟩
  · exact ⟨by omega, ⟨fx_188_0 h, fx_188_1 h, fx_188_2 h, fx_188_3 h, fx_188_4 h, fx_188_5 h, fx_188_6 h, fx_188_7 h, fx_188_8 h⟩, ln_189, ln_190, ln_191, ln_192, ln_193, ln_194, ln_195, ln_196, ln_197⟩
  · exact ⟨by omega, ⟨fx_198_0 h, fx_198_1 h, fx_198_2 h, fx_198_3 h, fx_198_4 h, fx_198_5 h, fx_198_6 h, fx_198_7 h, fx_198_8 h⟩, ln_199, ln_200, ln_201, ln_202, ln_203, ln_204, ln_205, ln_206, ln_207⟩
  · exact ⟨by omega, ⟨fx_208_0 h, fx_208_1 h, fx_208_2 h, fx_208_3 h, fx_208_4 h, fx_208_5 h, fx_208_6 h, fx_208_7 h, fx_208_8 h⟩, ln_209, ln_210, ln_211, ln_212, ln_213, ln_214, ln_215, ln_216, ln_217⟩
  · exact ⟨by omega, ⟨fx_218_0 h, fx_218_1 h, fx_218_2 h, fx_218_3 h, fx_218_4 h, fx_218_5 h, fx_218_6 h, fx_218_7 h, fx_218_8 h⟩, ln_219, ln_220, ln_221, ln_222, ln_223, ln_224, ln_225, ln_226, ln_227⟩
  · exact ⟨by omega, ⟨fx_228_0 h, fx_228_1 h, fx_228_2 h, fx_228_3 h, fx_228_4 h, fx_228_5 h, fx_228_6 h, fx_228_7 h, fx_228_8 h⟩, ln_229, ln_230, ln_231, ln_232, ln_233, ln_234, ln_235, ln_236, ln_237⟩
  · exact ⟨by omega, ⟨fx_238_0 h, fx_238_1 h, fx_238_2 h, fx_238_3 h, fx_238_4 h, fx_238_5 h, fx_238_6 h, fx_238_7 h, fx_238_8 h⟩, ln_239, ln_240, ln_241, ln_242, ln_243, ln_244, ln_245, ln_246, ln_247⟩
  · exact ⟨by omega, ⟨fx_248_0 h, fx_248_1 h, fx_248_2 h, fx_248_3 h, fx_248_4 h, fx_248_5 h, fx_248_6 h, fx_248_7 h, fx_248_8 h⟩, ln_249, ln_250, ln_251, ln_252, ln_253, ln_254, ln_255, ln_256, ln_257⟩
  · exact ⟨by omega, ⟨fx_258_0 h, fx_258_1 h, fx_258_2 h, fx_258_3 h, fx_258_4 h, fx_258_5 h, fx_258_6 h, fx_258_7 h, fx_258_8 h⟩, ln_259, ln_260, ln_261, ln_262, ln_263, ln_264, ln_265, ln_266, ln_267⟩
/-- what a copy into the State at a leaves as it was -/
def fC (a : Int) (f g : am_F) : Prop := ∀ c j : Int, ¬ ((c = a ∧ 9 ≤ j) ∨ (a + 1 ≤ c ∧ c ≤ a + 9)) → g c j = f c j
theorem c_row {d : Nat} {f : am_F} {Q : am_V → am_F → Prop} {a0 a k : Int} (h1 : 0 ≤ a0) (h2 : 0 ≤ a) (h3 : 0 ≤ k) (h4 : k ≤ am_len aw_SH a0) (h5 : k ≤ am_len aw_SH a) : aw_cl d 61 [(20, a0), (20, a), (0, k)] f Q = Q (3, 0) (am_cpy f a0 0 a 0 k) := by
  apply aw_det
  simp [q61, r61_0, r61_1, r61_2, r61_3, r61_4, r61_5, r61_8, cs_nil, cs_cons, lc_lt, lc_ge, lc_gt, lc_le, lc_eq, h1, h2, h3, h4, h5]
def cpS (f : am_F) (a b l x y : Int) : am_F := am_cpy (am_cpy (am_cpy (am_cpy (am_cpy (am_cpy (am_cpy (am_cpy (am_cpy (am_up (am_up (am_up f a 9 l) a 10 x) a 11 y) (b + 1) 0 (a + 1) 0 8) (b + 2) 0 (a + 2) 0 8) (b + 3) 0 (a + 3) 0 8) (b + 4) 0 (a + 4) 0 8) (b + 5) 0 (a + 5) 0 8) (b + 6) 0 (a + 6) 0 8) (b + 7) 0 (a + 7) 0 y) (b + 8) 0 (a + 8) 0 y) (b + 9) 0 (a + 9) 0 y
theorem cpS_o {f : am_F} {a b l x y c j : Int} (h1 : ¬ (c = a ∧ 9 ≤ j)) (h2 : ¬ (a + 1 ≤ c ∧ c ≤ a + 9)) : cpS f a b l x y c j = f c j := by
  unfold cpS
  rw [cpy_n (by omega), cpy_n (by omega), cpy_n (by omega), cpy_n (by omega), cpy_n (by omega), cpy_n (by omega), cpy_n (by omega), cpy_n (by omega), cpy_n (by omega), am_un (by omega), am_un (by omega), am_un (by omega)]
theorem cpS_a {f : am_F} {a b l x y : Int} : cpS f a b l x y a 9 = l ∧ cpS f a b l x y a 10 = x ∧ cpS f a b l x y a 11 = y := by
  unfold cpS
  refine ⟨?_, ?_, ?_⟩
  · rw [cpy_n (by omega), cpy_n (by omega), cpy_n (by omega), cpy_n (by omega), cpy_n (by omega), cpy_n (by omega), cpy_n (by omega), cpy_n (by omega), cpy_n (by omega), am_un (by omega), am_un (by omega), am_ue]
  · rw [cpy_n (by omega), cpy_n (by omega), cpy_n (by omega), cpy_n (by omega), cpy_n (by omega), cpy_n (by omega), cpy_n (by omega), cpy_n (by omega), cpy_n (by omega), am_un (by omega), am_ue]
  · rw [cpy_n (by omega), cpy_n (by omega), cpy_n (by omega), cpy_n (by omega), cpy_n (by omega), cpy_n (by omega), cpy_n (by omega), cpy_n (by omega), cpy_n (by omega), am_ue]
theorem cpS_i {f : am_F} {a b l x y t i : Int} (hab : a + 10 ≤ b ∨ b + 10 ≤ a) (h1 : 1 ≤ i) (h2 : i ≤ 6) (h3 : 0 ≤ t) (h4 : t < 8) : cpS f a b l x y (a + i) t = f (b + i) t := by
  unfold cpS
  obtain rfl | rfl | rfl | rfl | rfl | rfl : i = 1 ∨ i = 2 ∨ i = 3 ∨ i = 4 ∨ i = 5 ∨ i = 6 := by omega
  · rw [cpy_n (by omega), cpy_n (by omega), cpy_n (by omega), cpy_n (by omega), cpy_n (by omega), cpy_n (by omega), cpy_n (by omega), cpy_n (by omega), cpy_i (by omega), am_un (by omega), am_un (by omega), am_un (by omega), show (0 : Int) + (t - 0) = t by omega]
  · rw [cpy_n (by omega), cpy_n (by omega), cpy_n (by omega), cpy_n (by omega), cpy_n (by omega), cpy_n (by omega), cpy_n (by omega), cpy_i (by omega), cpy_n (by omega), am_un (by omega), am_un (by omega), am_un (by omega), show (0 : Int) + (t - 0) = t by omega]
  · rw [cpy_n (by omega), cpy_n (by omega), cpy_n (by omega), cpy_n (by omega), cpy_n (by omega), cpy_n (by omega), cpy_i (by omega), cpy_n (by omega), cpy_n (by omega), am_un (by omega), am_un (by omega), am_un (by omega), show (0 : Int) + (t - 0) = t by omega]
  · rw [cpy_n (by omega), cpy_n (by omega), cpy_n (by omega), cpy_n (by omega), cpy_n (by omega), cpy_i (by omega), cpy_n (by omega), cpy_n (by omega), cpy_n (by omega), am_un (by omega), am_un (by omega), am_un (by omega), show (0 : Int) + (t - 0) = t by omega]
  · rw [cpy_n (by omega), cpy_n (by omega), cpy_n (by omega), cpy_n (by omega), cpy_i (by omega), cpy_n (by omega), cpy_n (by omega), cpy_n (by omega), cpy_n (by omega), am_un (by omega), am_un (by omega), am_un (by omega), show (0 : Int) + (t - 0) = t by omega]
  · rw [cpy_n (by omega), cpy_n (by omega), cpy_n (by omega), cpy_i (by omega), cpy_n (by omega), cpy_n (by omega), cpy_n (by omega), cpy_n (by omega), cpy_n (by omega), am_un (by omega), am_un (by omega), am_un (by omega), show (0 : Int) + (t - 0) = t by omega]
theorem cpS_n {f : am_F} {a b l x y t i : Int} (hab : a + 10 ≤ b ∨ b + 10 ≤ a) (h1 : 7 ≤ i) (h2 : i ≤ 9) (h3 : 0 ≤ t) (h4 : t < y) : cpS f a b l x y (a + i) t = f (b + i) t := by
  unfold cpS
  obtain rfl | rfl | rfl : i = 7 ∨ i = 8 ∨ i = 9 := by omega
  · rw [cpy_n (by omega), cpy_n (by omega), cpy_i (by omega), cpy_n (by omega), cpy_n (by omega), cpy_n (by omega), cpy_n (by omega), cpy_n (by omega), cpy_n (by omega), am_un (by omega), am_un (by omega), am_un (by omega), show (0 : Int) + (t - 0) = t by omega]
  · rw [cpy_n (by omega), cpy_i (by omega), cpy_n (by omega), cpy_n (by omega), cpy_n (by omega), cpy_n (by omega), cpy_n (by omega), cpy_n (by omega), cpy_n (by omega), am_un (by omega), am_un (by omega), am_un (by omega), show (0 : Int) + (t - 0) = t by omega]
  · rw [cpy_i (by omega), cpy_n (by omega), cpy_n (by omega), cpy_n (by omega), cpy_n (by omega), cpy_n (by omega), cpy_n (by omega), cpy_n (by omega), cpy_n (by omega), am_un (by omega), am_un (by omega), am_un (by omega), show (0 : Int) + (t - 0) = t by omega]
set_option maxHeartbeats 4000000 in
theorem c_copy {d n : Nat} {f z : am_F} {Q : am_V → am_F → Prop} {a b l : Int} (hz : CZ f b l n z) (hN : CN f b z) (hS : sS f a) (ha : 46 ≤ a ∧ a ≤ 258) (hab : a + 10 ≤ b ∨ b + 10 ≤ a) (hl : 0 ≤ l) (hn : n ≤ 8) (hQ : ∀ g, CZ g a l n z → CN g a z → fC a f g → Q (3, 0) g) : aw_cl (d + 1) 96 [(107, a), (107, b)] f Q := by
  obtain ⟨z1, z2, z3, z4, z5⟩ := id hz
  obtain ⟨n1, n2, n3⟩ := id hN
  have ua := sS_u hS
  have ub := sS_u z1
  have s1 : ∀ g : am_F, sS g a → sS g b → g a 11 = z 10 0 → aw_wp (d + 1) 96 37 [(107, a), (107, b)] [] (am_cpy g (b + 1) 0 (a + 1) 0 (8)) Q → aw_wp (d + 1) 96 24 [(107, a), (107, b)] [] g Q := by
    intro g h1 h2 h3 h4
    have va := sS_u h1
    have vb := sS_u h2
    have cr := fun (dd : Nat) (QQ : am_V → am_F → Prop) => c_row (d := dd) (f := g) (Q := QQ) (a0 := b + 1) (a := a + 1) (k := 8) vb.1.2.1 va.1.2.1 (by decide) (by rw [vb.2.2.1]; decide) (by rw [va.2.2.1]; decide)
    simpa [r96_24, r96_25, r96_28, r96_29, r96_32, r96_34, cr, cs_nil, cs_cons, va.1.1, vb.1.1, va.1.2.1, vb.1.2.1, va.2.1.1, vb.2.1.1, h3] using h4
  have s2 : ∀ g : am_F, sS g a → sS g b → g a 11 = z 10 0 → aw_wp (d + 1) 96 50 [(107, a), (107, b)] [] (am_cpy g (b + 2) 0 (a + 2) 0 (8)) Q → aw_wp (d + 1) 96 37 [(107, a), (107, b)] [] g Q := by
    intro g h1 h2 h3 h4
    have va := sS_u h1
    have vb := sS_u h2
    have cr := fun (dd : Nat) (QQ : am_V → am_F → Prop) => c_row (d := dd) (f := g) (Q := QQ) (a0 := b + 2) (a := a + 2) (k := 8) vb.1.2.2.1 va.1.2.2.1 (by decide) (by rw [vb.2.2.2.1]; decide) (by rw [va.2.2.2.1]; decide)
    simpa [r96_37, r96_38, r96_41, r96_42, r96_45, r96_47, cr, cs_nil, cs_cons, va.1.1, vb.1.1, va.1.2.2.1, vb.1.2.2.1, va.2.1.2.1, vb.2.1.2.1, h3] using h4
  have s3 : ∀ g : am_F, sS g a → sS g b → g a 11 = z 10 0 → aw_wp (d + 1) 96 63 [(107, a), (107, b)] [] (am_cpy g (b + 3) 0 (a + 3) 0 (8)) Q → aw_wp (d + 1) 96 50 [(107, a), (107, b)] [] g Q := by
    intro g h1 h2 h3 h4
    have va := sS_u h1
    have vb := sS_u h2
    have cr := fun (dd : Nat) (QQ : am_V → am_F → Prop) => c_row (d := dd) (f := g) (Q := QQ) (a0 := b + 3) (a := a + 3) (k := 8) vb.1.2.2.2.1 va.1.2.2.2.1 (by decide) (by rw [vb.2.2.2.2.1]; decide) (by rw [va.2.2.2.2.1]; decide)
    simpa [r96_50, r96_51, r96_54, r96_55, r96_58, r96_60, cr, cs_nil, cs_cons, va.1.1, vb.1.1, va.1.2.2.2.1, vb.1.2.2.2.1, va.2.1.2.2.1, vb.2.1.2.2.1, h3] using h4
  have s4 : ∀ g : am_F, sS g a → sS g b → g a 11 = z 10 0 → aw_wp (d + 1) 96 76 [(107, a), (107, b)] [] (am_cpy g (b + 4) 0 (a + 4) 0 (8)) Q → aw_wp (d + 1) 96 63 [(107, a), (107, b)] [] g Q := by
    intro g h1 h2 h3 h4
    have va := sS_u h1
    have vb := sS_u h2
    have cr := fun (dd : Nat) (QQ : am_V → am_F → Prop) => c_row (d := dd) (f := g) (Q := QQ) (a0 := b + 4) (a := a + 4) (k := 8) vb.1.2.2.2.2.1 va.1.2.2.2.2.1 (by decide) (by rw [vb.2.2.2.2.2.1]; decide) (by rw [va.2.2.2.2.2.1]; decide)
    simpa [r96_63, r96_64, r96_67, r96_68, r96_71, r96_73, cr, cs_nil, cs_cons, va.1.1, vb.1.1, va.1.2.2.2.2.1, vb.1.2.2.2.2.1, va.2.1.2.2.2.1, vb.2.1.2.2.2.1, h3] using h4
  have s5 : ∀ g : am_F, sS g a → sS g b → g a 11 = z 10 0 → aw_wp (d + 1) 96 89 [(107, a), (107, b)] [] (am_cpy g (b + 5) 0 (a + 5) 0 (8)) Q → aw_wp (d + 1) 96 76 [(107, a), (107, b)] [] g Q := by
    intro g h1 h2 h3 h4
    have va := sS_u h1
    have vb := sS_u h2
    have cr := fun (dd : Nat) (QQ : am_V → am_F → Prop) => c_row (d := dd) (f := g) (Q := QQ) (a0 := b + 5) (a := a + 5) (k := 8) vb.1.2.2.2.2.2.1 va.1.2.2.2.2.2.1 (by decide) (by rw [vb.2.2.2.2.2.2.1]; decide) (by rw [va.2.2.2.2.2.2.1]; decide)
    simpa [r96_76, r96_77, r96_80, r96_81, r96_84, r96_86, cr, cs_nil, cs_cons, va.1.1, vb.1.1, va.1.2.2.2.2.2.1, vb.1.2.2.2.2.2.1, va.2.1.2.2.2.2.1, vb.2.1.2.2.2.2.1, h3] using h4
  have s6 : ∀ g : am_F, sS g a → sS g b → g a 11 = z 10 0 → aw_wp (d + 1) 96 102 [(107, a), (107, b)] [] (am_cpy g (b + 6) 0 (a + 6) 0 (8)) Q → aw_wp (d + 1) 96 89 [(107, a), (107, b)] [] g Q := by
    intro g h1 h2 h3 h4
    have va := sS_u h1
    have vb := sS_u h2
    have cr := fun (dd : Nat) (QQ : am_V → am_F → Prop) => c_row (d := dd) (f := g) (Q := QQ) (a0 := b + 6) (a := a + 6) (k := 8) vb.1.2.2.2.2.2.2.1 va.1.2.2.2.2.2.2.1 (by decide) (by rw [vb.2.2.2.2.2.2.2.1]; decide) (by rw [va.2.2.2.2.2.2.2.1]; decide)
    simpa [r96_89, r96_90, r96_93, r96_94, r96_97, r96_99, cr, cs_nil, cs_cons, va.1.1, vb.1.1, va.1.2.2.2.2.2.2.1, vb.1.2.2.2.2.2.2.1, va.2.1.2.2.2.2.2.1, vb.2.1.2.2.2.2.2.1, h3] using h4
  have s7 : ∀ g : am_F, sS g a → sS g b → g a 11 = z 10 0 → aw_wp (d + 1) 96 117 [(107, a), (107, b)] [] (am_cpy g (b + 7) 0 (a + 7) 0 (z 10 0)) Q → aw_wp (d + 1) 96 102 [(107, a), (107, b)] [] g Q := by
    intro g h1 h2 h3 h4
    have va := sS_u h1
    have vb := sS_u h2
    have cr := fun (dd : Nat) (QQ : am_V → am_F → Prop) => c_row (d := dd) (f := g) (Q := QQ) (a0 := b + 7) (a := a + 7) (k := z 10 0) vb.1.2.2.2.2.2.2.2.1 va.1.2.2.2.2.2.2.2.1 n2.1 (by rw [vb.2.2.2.2.2.2.2.2.1]; exact n2.2) (by rw [va.2.2.2.2.2.2.2.2.1]; exact n2.2)
    simpa [r96_102, r96_103, r96_106, r96_107, r96_110, r96_111, r96_114, cr, cs_nil, cs_cons, va.1.1, vb.1.1, va.1.2.2.2.2.2.2.2.1, vb.1.2.2.2.2.2.2.2.1, va.2.1.2.2.2.2.2.2.1, vb.2.1.2.2.2.2.2.2.1, h3] using h4
  have s8 : ∀ g : am_F, sS g a → sS g b → g a 11 = z 10 0 → aw_wp (d + 1) 96 132 [(107, a), (107, b)] [] (am_cpy g (b + 8) 0 (a + 8) 0 (z 10 0)) Q → aw_wp (d + 1) 96 117 [(107, a), (107, b)] [] g Q := by
    intro g h1 h2 h3 h4
    have va := sS_u h1
    have vb := sS_u h2
    have cr := fun (dd : Nat) (QQ : am_V → am_F → Prop) => c_row (d := dd) (f := g) (Q := QQ) (a0 := b + 8) (a := a + 8) (k := z 10 0) vb.1.2.2.2.2.2.2.2.2.1 va.1.2.2.2.2.2.2.2.2.1 n2.1 (by rw [vb.2.2.2.2.2.2.2.2.2.1]; exact n2.2) (by rw [va.2.2.2.2.2.2.2.2.2.1]; exact n2.2)
    simpa [r96_117, r96_118, r96_121, r96_122, r96_125, r96_126, r96_129, cr, cs_nil, cs_cons, va.1.1, vb.1.1, va.1.2.2.2.2.2.2.2.2.1, vb.1.2.2.2.2.2.2.2.2.1, va.2.1.2.2.2.2.2.2.2.1, vb.2.1.2.2.2.2.2.2.2.1, h3] using h4
  have s9 : ∀ g : am_F, sS g a → sS g b → g a 11 = z 10 0 → aw_wp (d + 1) 96 147 [(107, a), (107, b)] [] (am_cpy g (b + 9) 0 (a + 9) 0 (z 10 0)) Q → aw_wp (d + 1) 96 132 [(107, a), (107, b)] [] g Q := by
    intro g h1 h2 h3 h4
    have va := sS_u h1
    have vb := sS_u h2
    have cr := fun (dd : Nat) (QQ : am_V → am_F → Prop) => c_row (d := dd) (f := g) (Q := QQ) (a0 := b + 9) (a := a + 9) (k := z 10 0) vb.1.2.2.2.2.2.2.2.2.2 va.1.2.2.2.2.2.2.2.2.2 n2.1 (by rw [vb.2.2.2.2.2.2.2.2.2.2]; exact n2.2) (by rw [va.2.2.2.2.2.2.2.2.2.2]; exact n2.2)
    simpa [r96_132, r96_133, r96_136, r96_137, r96_140, r96_141, r96_144, cr, cs_nil, cs_cons, va.1.1, vb.1.1, va.1.2.2.2.2.2.2.2.2.2, vb.1.2.2.2.2.2.2.2.2.2, va.2.1.2.2.2.2.2.2.2.2, vb.2.1.2.2.2.2.2.2.2.2, h3] using h4
  have start : ∀ g : am_F, g = am_up (am_up (am_up f a 9 l) a 10 (z 0 0)) a 11 (z 10 0) → aw_wp (d + 1) 96 24 [(107, a), (107, b)] [] g Q → aw_cl (d + 1) 96 [(107, a), (107, b)] f Q := by
    intro g hg h4
    subst hg
    simpa (disch := omega) [q96, r96_0, r96_1, r96_2, r96_5, r96_8, r96_9, r96_10, r96_13, r96_16, r96_17, r96_18, r96_21, ua, ub, z3, z4, n1, hl, am_un] using h4
  refine start _ rfl ?_
  have na : ∀ i : Int, 1 ≤ i → ¬ a = a + i := fun i hi => by omega
  have nb : ∀ i : Int, 1 ≤ i → i ≤ 9 → ¬ b = a + i := fun i hi hj => by omega
  have cs : ∀ (g : am_F) (x y k e : Int), sS g e → ¬ e = x → sS (am_cpy g y 0 x 0 k) e := fun g x y k e h1 h2 => sS_fr h1 (fun j _ _ => cpy_n h2)
  have ce : ∀ (g : am_F) (x y k v : Int), g a 11 = v → ¬ a = x → am_cpy g y 0 x 0 k a 11 = v := fun g x y k v h1 h2 => (cpy_n h2).trans h1
  have A0 : sS (am_up (am_up (am_up f a 9 l) a 10 (z 0 0)) a 11 (z 10 0)) a := sS_fr hS (fun j _ _ => by rw [am_un (by omega), am_un (by omega), am_un (by omega)])
  have B0 : sS (am_up (am_up (am_up f a 9 l) a 10 (z 0 0)) a 11 (z 10 0)) b := sS_fr z1 (fun j _ _ => by rw [am_un (by omega), am_un (by omega), am_un (by omega)])
  have E0 : am_up (am_up (am_up f a 9 l) a 10 (z 0 0)) a 11 (z 10 0) a 11 = z 10 0 := am_ue
  refine s1 _ A0 B0 E0 ?_
  have A1 := cs _ (a + 1) (b + 1) (8) a A0 (na 1 (by decide))
  have B1 := cs _ (a + 1) (b + 1) (8) b B0 (nb 1 (by decide) (by decide))
  have E1 := ce _ (a + 1) (b + 1) (8) _ E0 (na 1 (by decide))
  refine s2 _ A1 B1 E1 ?_
  have A2 := cs _ (a + 2) (b + 2) (8) a A1 (na 2 (by decide))
  have B2 := cs _ (a + 2) (b + 2) (8) b B1 (nb 2 (by decide) (by decide))
  have E2 := ce _ (a + 2) (b + 2) (8) _ E1 (na 2 (by decide))
  refine s3 _ A2 B2 E2 ?_
  have A3 := cs _ (a + 3) (b + 3) (8) a A2 (na 3 (by decide))
  have B3 := cs _ (a + 3) (b + 3) (8) b B2 (nb 3 (by decide) (by decide))
  have E3 := ce _ (a + 3) (b + 3) (8) _ E2 (na 3 (by decide))
  refine s4 _ A3 B3 E3 ?_
  have A4 := cs _ (a + 4) (b + 4) (8) a A3 (na 4 (by decide))
  have B4 := cs _ (a + 4) (b + 4) (8) b B3 (nb 4 (by decide) (by decide))
  have E4 := ce _ (a + 4) (b + 4) (8) _ E3 (na 4 (by decide))
  refine s5 _ A4 B4 E4 ?_
  have A5 := cs _ (a + 5) (b + 5) (8) a A4 (na 5 (by decide))
  have B5 := cs _ (a + 5) (b + 5) (8) b B4 (nb 5 (by decide) (by decide))
  have E5 := ce _ (a + 5) (b + 5) (8) _ E4 (na 5 (by decide))
  refine s6 _ A5 B5 E5 ?_
  have A6 := cs _ (a + 6) (b + 6) (8) a A5 (na 6 (by decide))
  have B6 := cs _ (a + 6) (b + 6) (8) b B5 (nb 6 (by decide) (by decide))
  have E6 := ce _ (a + 6) (b + 6) (8) _ E5 (na 6 (by decide))
  refine s7 _ A6 B6 E6 ?_
  have A7 := cs _ (a + 7) (b + 7) (z 10 0) a A6 (na 7 (by decide))
  have B7 := cs _ (a + 7) (b + 7) (z 10 0) b B6 (nb 7 (by decide) (by decide))
  have E7 := ce _ (a + 7) (b + 7) (z 10 0) _ E6 (na 7 (by decide))
  refine s8 _ A7 B7 E7 ?_
  have A8 := cs _ (a + 8) (b + 8) (z 10 0) a A7 (na 8 (by decide))
  have B8 := cs _ (a + 8) (b + 8) (z 10 0) b B7 (nb 8 (by decide) (by decide))
  have E8 := ce _ (a + 8) (b + 8) (z 10 0) _ E7 (na 8 (by decide))
  refine s9 _ A8 B8 E8 ?_
  rw [r96_147]
  clear A1 A2 A3 A4 A5 A6 A7 A8 B1 B2 B3 B4 B5 B6 B7 B8 E1 E2 E3 E4 E5 E6 E7 E8 A0 B0 E0
  show Q (3, 0) (cpS f a b l (z 0 0) (z 10 0))
  refine hQ _ ⟨sS_fr hS (fun j _ _ => cpS_o (by omega) (by omega)), ha, cpS_a.1, cpS_a.2.1, fun i t a1 a2 a3 a4 => ?_⟩ ⟨cpS_a.2.2, n2, fun i k a1 a2 a3 a4 => ?_⟩ (fun c j hc => cpS_o (by omega) (by omega))
  · rw [cpS_i hab a1 a2 a3 (by omega)]; exact z5 i t a1 a2 a3 a4
  · rw [cpS_n hab a1 a2 a3 a4]; exact n3 i k a1 a2 a3 a4
def psh (Z : Int → am_F) (z : am_F) : Int → am_F := fun i => if i = 0 then z else Z (i - 1)
section
variable {d n m r : Nat} {f L z : am_F} {ρ : Int → List Int} {τ : Int → Bool} {l : Int} {Z : Int → am_F} {Q : am_V → am_F → Prop}
theorem c_push (hx : aw_fx f) (hP : PA f l n Z) (hz : CZ f 46 l n z) (hN : CN f 46 z) (hl : 0 ≤ l) (hn : n ≤ 8) (hQ : ∀ g, PA g l n (psh Z z) → g 66 2 = (if f 66 2 < 20 then f 66 2 + 1 else f 66 2) → (∀ c j : Int, ¬ ((c = 66 ∧ (j = 1 ∨ j = 2)) ∨ (68 ≤ c ∧ c ≤ 267 ∧ ((c - 68) % 10 = 0 → 9 ≤ j))) → g c j = f c j) → Q (3, 0) g) : aw_cl (d + 2) 132 [(102, 66), (107, 46)] f Q := by
  obtain ⟨p1, p2, p3⟩ := id hP
  have e67 := fx67 hx p2.1 p2.2
  simp (disch := omega) [q132, r132_0, r132_1, r132_4, r132_5, r132_8, r132_9, r132_10, r132_13, r132_14, r132_15, r132_18, r132_19, r132_20, r132_22, r132_23, r132_26, r132_27, r132_29, r132_30, r132_33, r132_34, r132_35, r132_38, r132_41, cs_nil, cs_cons, lc_lt, lc_ge, lc_gt, lc_le, lc_eq, c_fx hx, ln_67, e67, le_T, lt_T]
  refine c_copy hz hN (fxPs hx p2.1 p2.2) (by omega) (by omega) hl hn ?_
  intro g1 c1 c2 c3
  have x1 : g1 66 1 = f 66 1 := c3 _ _ (by omega)
  have x2 : g1 66 2 = f 66 2 := c3 _ _ (by omega)
  have t1 : (f 66 1 + 1).tmod 20 = (f 66 1 + 1) % 20 := Int.tmod_eq_emod_of_nonneg (by omega)
  have e20 : (if 20 ≤ f 66 2 + 1 then (20 : Int) else f 66 2 + 1) = (if f 66 2 < 20 then f 66 2 + 1 else f 66 2) := by split <;> split <;> omega
  simp (disch := omega) [q132, r132_0, r132_1, r132_4, r132_5, r132_8, r132_9, r132_10, r132_13, r132_14, r132_15, r132_18, r132_19, r132_20, r132_22, r132_23, r132_26, r132_27, r132_29, r132_30, r132_33, r132_34, r132_35, r132_38, r132_41, cs_nil, cs_cons, lc_lt, lc_ge, lc_gt, lc_le, lc_eq, x1, x2, am_un, am_wid2, h_min, t1, e20]
  have hc : (if f 66 2 < 20 then f 66 2 + 1 else f 66 2) ≤ 20 := by split <;> omega
  have hc0 : 0 ≤ (if f 66 2 < 20 then f 66 2 + 1 else f 66 2) := by split <;> omega
  generalize hcc : (if f 66 2 < 20 then f 66 2 + 1 else f 66 2) = cc at hc hc0 hQ
  have hcc' : cc ≤ f 66 2 + 1 := by rw [← hcc]; split <;> omega
  refine hQ _ ⟨?_, ?_, fun i a b => ?_⟩ ?_ (fun c j hc' => ?_)
  · rw [am_ue]; omega
  · rw [am_un (by omega), am_ue]; omega
  · rw [am_ue] at b
    rw [show am_up (am_up g1 66 1 ((f 66 1 + 1) % 20)) 66 2 cc 66 1 = (f 66 1 + 1) % 20 from by rw [am_un (by omega), am_ue]]
    by_cases i0 : i = 0
    · subst i0
      have e : pc1 ((f 66 1 + 1) % 20) 0 = 68 + 10 * f 66 1 := by unfold pc1; omega
      rw [e]
      unfold psh
      rw [if_pos rfl]
      exact ⟨CZ_fr c1 (fun c j _ _ _ => by rw [am_un (by omega), am_un (by omega)]), CN_fr c2 (fun i k _ _ => by rw [am_un (by omega), am_un (by omega)]) (by rw [am_un (by omega), am_un (by omega)]) (fun _ _ _ => rfl)⟩
    · have e : pc1 ((f 66 1 + 1) % 20) i = pc1 (f 66 1) (i - 1) := by unfold pc1; omega
      have e2 : pc1 (f 66 1) (i - 1) + 10 ≤ 68 + 10 * f 66 1 ∨ 68 + 10 * f 66 1 + 10 ≤ pc1 (f 66 1) (i - 1) := by unfold pc1; omega
      have e3 := pc1_b (x := f 66 1) (i := i - 1)
      rw [e]
      unfold psh
      rw [if_neg i0]
      obtain ⟨q1, q2⟩ := p3 (i - 1) (by omega) (by omega)
      generalize pc1 (f 66 1) (i - 1) = a1 at q1 q2 e2 e3
      exact ⟨CZ_fr q1 (fun c j _ _ _ => by rw [am_un (by omega), am_un (by omega)]; exact c3 _ _ (by omega)), CN_fr q2 (fun i k _ _ => by rw [am_un (by omega), am_un (by omega)]; exact c3 _ _ (by omega)) (by rw [am_un (by omega), am_un (by omega)]; exact c3 _ _ (by omega)) (fun _ _ _ => rfl)⟩
  · rw [am_ue]
  · rw [am_un (by omega), am_un (by omega)]
    exact c3 _ _ (by omega)
theorem MK_cpy {g : am_F} {b : Int} (hz : MZ f n z) (hN : NM f z) (hn : n ≤ 8) (hg : ∀ j : Int, 0 ≤ j → j < 192 → g 316 (b + j) = f 308 j) : MK g b n z := by
  obtain ⟨n1, n2, n3⟩ := hN
  refine ⟨?_, fun i t a1 a2 a3 a4 => ?_, ?_, n2, fun i k a1 a2 a3 a4 => ?_⟩
  · have := hg 0 (by omega) (by omega)
    rw [Int.add_zero] at this
    rw [this]; exact hz.1
  · rw [hg _ (by omega) (by omega)]; exact hz.2.1 i t a1 a2 a3 a4
  · rw [hg _ (by omega) (by omega)]; exact n1
  · rw [hg _ (by omega) (by omega)]; exact n3 i k a1 a2 a3 a4
theorem m_keeps (hm : mfx f) (hP : PB f n Z) (hz : MZ f n z) (hN : NM f z) (hO : OZ n z) (hF : FR f n z) (hn : n ≤ 8) (hQ : ∀ g, PB g n (psh Z z) → g 270 65 = (if f 270 65 < 20 then f 270 65 + 1 else f 270 65) → (∀ c j : Int, ¬ (c = 316 ∨ (c = 270 ∧ (j = 65 ∨ j = 66))) → g c j = f c j) → Q (3, 0) g) : aw_cl d 276 [(110, 270)] f Q := by
  obtain ⟨p1, p2, p3⟩ := id hP
  have t1 : (f 270 66 + 1).tmod 20 = (f 270 66 + 1) % 20 := Int.tmod_eq_emod_of_nonneg (by omega)
  generalize hx : (f 270 66 + 1) % 20 = x at t1
  have hx0 : 0 ≤ x ∧ x < 20 := by omega
  have hm1 : mfx (am_up f 270 66 x) := mfx_fr hm (fun j hj => am_un (by omega))
  have key : ∀ (j : Nat) (k : Int), k + j = 192 → 0 ≤ k → aw_wp d 276 49 [(110, 270), (0, 192)] [] (am_cpy (am_up f 270 66 x) 308 0 316 (192 * x) 192) Q → aw_wp d 276 15 [(110, 270), (0, k)] [] (am_cpy (am_up f 270 66 x) 308 0 316 (192 * x) k) Q := by
    intro j
    induction j with
    | zero =>
      intro k hk h0 hQ
      obtain rfl : k = 192 := by omega
      rw [r276_15]
      simpa [q276, r276_16, r276_19] using hQ
    | succ j ih =>
      intro k hk h0 hQ
      have ih' := ih (k + 1) (by omega) (by omega) hQ
      have e := cpy_s (f := am_up f 270 66 x) (a0 := 308) (sp := 0) (a := 316) (dp := 192 * x) (k := k) (by omega) h0
      rw [Int.zero_add, am_un (by omega)] at e
      rw [r276_15]
      simpa (disch := omega) [q276, r276_0, r276_1, r276_2, r276_5, r276_6, r276_7, r276_9, r276_10, r276_13, r276_14, r276_16, r276_19, r276_22, r276_23, r276_26, r276_29, r276_30, r276_33, r276_34, r276_35, r276_36, r276_37, r276_40, r276_41, r276_42, r276_43, r276_46, r276_49, r276_50, r276_53, r276_55, r276_58, r276_59, r276_60, r276_63, r276_64, r276_65, r276_68, cs_nil, cs_cons, lc_lt, lc_ge, lc_gt, lc_le, lc_eq, mfx_u hm1, mfx_u hm, ln_308, ln_316, cpy_n, am_un, am_ue, am_wid2, show ¬ 192 ≤ k by omega, h0, show k < 192 by omega, show (0 : Int) ≤ 192 * x + k by omega, show 192 * x + k < 3840 by omega, e] using ih'
  simp (disch := omega) [q276, r276_0, r276_1, r276_2, r276_5, r276_6, r276_7, r276_9, r276_10, r276_13, r276_14, r276_16, r276_19, r276_22, r276_23, r276_26, r276_29, r276_30, r276_33, r276_34, r276_35, r276_36, r276_37, r276_40, r276_41, r276_42, r276_43, r276_46, r276_49, r276_50, r276_53, r276_55, r276_58, r276_59, r276_60, r276_63, r276_64, r276_65, r276_68, cs_nil, cs_cons, lc_lt, lc_ge, lc_gt, lc_le, lc_eq, am_wid2, t1]
  have k0 := key 192 0 (by omega) (by omega)
  rw [cpy_0] at k0
  apply k0
  have fin : ∀ g cc, (∀ c j : Int, ¬ (c = 316 ∨ (c = 270 ∧ (j = 65 ∨ j = 66))) → g c j = f c j) → g 270 66 = x → g 270 65 = cc → cc = (if f 270 65 < 20 then f 270 65 + 1 else f 270 65) → (∀ j, g 316 j = am_cpy (am_up f 270 66 x) 308 0 316 (192 * x) 192 316 j) → Q (3, 0) g := by
    intro g cc q1 q2 q3 q4 q5
    have hc : cc ≤ 20 ∧ 0 ≤ cc ∧ cc ≤ f 270 65 + 1 := by rw [q4]; split <;> omega
    refine hQ g ⟨by omega, by omega, fun i a b => ?_⟩ (by rw [q3]; exact q4) q1
    rw [q3] at b
    rw [q2]
    by_cases i0 : i = 0
    · subst i0
      have e : pm1 x 0 = 192 * x := by unfold pm1; omega
      rw [e]
      unfold psh
      rw [if_pos rfl]
      refine ⟨MK_cpy hz hN hn (fun j a b => ?_), hO, FR_fr hF (fun j _ => q1 _ _ (by omega))⟩
      rw [q5, cpy_i (by omega), am_un (by omega)]
      congr 1
      omega
    · have e : pm1 x i = pm1 (f 270 66) (i - 1) := by unfold pm1; omega
      have e2 : pm1 (f 270 66) (i - 1) + 192 ≤ 192 * x ∨ 192 * x + 192 ≤ pm1 (f 270 66) (i - 1) := by unfold pm1; omega
      obtain ⟨w1, w2, w3⟩ := p3 (i - 1) (by omega) (by omega)
      rw [e]
      unfold psh
      rw [if_neg i0]
      refine ⟨MK_fr w1 pm1_b hn (fun j _ _ => ?_), w2, FR_fr w3 (fun j _ => q1 _ _ (by omega))⟩
      rw [q5, cpy_o (by omega), am_un (by omega)]
  by_cases h20 : f 270 65 < 20
  · simp (disch := omega) [q276, r276_0, r276_1, r276_2, r276_5, r276_6, r276_7, r276_9, r276_10, r276_13, r276_14, r276_16, r276_19, r276_22, r276_23, r276_26, r276_29, r276_30, r276_33, r276_34, r276_35, r276_36, r276_37, r276_40, r276_41, r276_42, r276_43, r276_46, r276_49, r276_50, r276_53, r276_55, r276_58, r276_59, r276_60, r276_63, r276_64, r276_65, r276_68, cs_nil, cs_cons, lc_lt, lc_ge, lc_gt, lc_le, lc_eq, cpy_n, am_un, am_wid2, show ¬ 20 ≤ f 270 65 by omega]
    refine fin _ (f 270 65 + 1) (fun c j hc => ?_) ?_ am_ue (by rw [if_pos h20]) (fun j => ?_)
    · rw [am_un (by omega), cpy_n (by omega), am_un (by omega)]
    · rw [am_un (by omega), cpy_n (by omega), am_ue]
    · rw [am_un (by omega)]
  · simp (disch := omega) [q276, r276_0, r276_1, r276_2, r276_5, r276_6, r276_7, r276_9, r276_10, r276_13, r276_14, r276_16, r276_19, r276_22, r276_23, r276_26, r276_29, r276_30, r276_33, r276_34, r276_35, r276_36, r276_37, r276_40, r276_41, r276_42, r276_43, r276_46, r276_49, r276_50, r276_53, r276_55, r276_58, r276_59, r276_60, r276_63, r276_64, r276_65, r276_68, cs_nil, cs_cons, lc_lt, lc_ge, lc_gt, lc_le, lc_eq, cpy_n, am_un, am_wid2, show 20 ≤ f 270 65 by omega]
    refine fin _ (f 270 65) (fun c j hc => ?_) ?_ ?_ (by rw [if_neg h20]) (fun j => rfl)
    · rw [cpy_n (by omega), am_un (by omega)]
    · rw [cpy_n (by omega), am_ue]
    · rw [cpy_n (by omega), am_un (by omega)]
end
