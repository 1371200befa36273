/-! the class reckons what codes give -/
def cst (c : Int) : Int := if 1000 ≤ c then c - 1000 else if c = 13 then 1 else if c = 40 then 10001 else if c = 41 then 10002 else if c = 42 then 10003 else if c = 43 then 10015 else if c = 44 then 10016 else if c = 45 then 10017 else if c = 46 then 10018 else if c = 47 then 10005 else if c = 48 then 10019 else if c = 49 then 10020 else if c = 60 then 10008 else if c = 12 then 10024 else if c = 11 then 10022 else if c = 10 then 10023 else if c = 5 then 10026 else if c = 6 then 10027 else if c = 7 then 10160 else if c = 8 then 10162 else if c = 9 then 10161 else if c = 1 then 10143 else if c = 2 then 10145 else if c = 3 then 10142 else 10147
theorem xo_s {a b : Int} (h1 : -2147483648 ≤ a) (h2 : a < 2147483648) (h3 : -2147483648 ≤ b) (h4 : b < 2147483648) : 0 ≤ am_xor a b ↔ (a < 0 ↔ b < 0) := by
  have ea : (Int32.ofInt a).toBitVec.toInt = a := am_wid2 h1 h2
  have eb : (Int32.ofInt b).toBitVec.toInt = b := am_wid2 h3 h4
  have e : am_xor a b = ((Int32.ofInt a).toBitVec ^^^ (Int32.ofInt b).toBitVec).toInt := by
    unfold am_xor
    show (Int32.ofInt a ^^^ Int32.ofInt b).toBitVec.toInt = _
    rw [Int32.toBitVec_xor]
  have m := BitVec.msb_xor (x := (Int32.ofInt a).toBitVec) (y := (Int32.ofInt b).toBitVec)
  rw [BitVec.msb_eq_toInt, BitVec.msb_eq_toInt, BitVec.msb_eq_toInt, ea, eb, ← e] at m
  by_cases i1 : a < 0 <;> by_cases i2 : b < 0 <;> by_cases i3 : am_xor a b < 0 <;> simp [i1, i2, i3] at m ⊢ <;> omega
theorem c_floor {d : Nat} {f : am_F} {Q : am_V → am_F → Prop} {a b : Int} (hb : ¬ b = 0) (h1 : -1000000 ≤ a) (h2 : a ≤ 1000000) (h3 : -1000000 ≤ b) (h4 : b ≤ 1000000) : aw_cl d 75 [(0, a), (0, b)] f Q = Q (0, fl a b) f := by
  apply aw_det
  rw [fl_t hb]
  have hd := td_b hb h1 h2
  have e := Int.tmod_add_mul_tdiv a b
  have hx := xo_s (a := a) (b := b) (by omega) (by omega) (by omega) (by omega)
  have hm : -1000000 ≤ a.tmod b ∧ a.tmod b ≤ 1000000 := by
    by_cases h0 : 0 < b
    · have i1 := Int.tmod_lt_of_pos a h0
      have i2 := Int.tmod_lt_of_pos (-a) h0
      rw [Int.neg_tmod] at i2; omega
    · have i1 := Int.tmod_lt_of_pos a (b := -b) (by omega)
      have i2 := Int.tmod_lt_of_pos (-a) (b := -b) (by omega)
      rw [Int.tmod_neg] at i1
      rw [Int.neg_tmod, Int.tmod_neg] at i2; omega
  have e3 : a.tdiv b * b = a - a.tmod b := by rw [Int.mul_comm]; omega
  have e4 : a - a.tmod b = a ↔ a.tmod b = 0 := by omega
  by_cases hs : (a < 0 ↔ b < 0)
  · simp (disch := omega) [q75, r75_0, r75_1, r75_2, r75_3, r75_4, r75_5, r75_6, r75_7, r75_10, r75_11, r75_12, r75_13, r75_14, r75_17, r75_18, r75_19, r75_20, r75_21, r75_22, cs_nil, cs_cons, lc_lt, lc_ge, lc_gt, lc_le, lc_eq, hb, am_wid2, hx, hs]
  · by_cases hz : a.tmod b = 0
    · simp (disch := omega) [q75, r75_0, r75_1, r75_2, r75_3, r75_4, r75_5, r75_6, r75_7, r75_10, r75_11, r75_12, r75_13, r75_14, r75_17, r75_18, r75_19, r75_20, r75_21, r75_22, cs_nil, cs_cons, lc_lt, lc_ge, lc_gt, lc_le, lc_eq, hb, am_wid2, hx, hs, e3, e4, hz]
    · have e5 : ¬ a - a.tmod b = a := by omega
      simp (disch := omega) [q75, r75_0, r75_1, r75_2, r75_3, r75_4, r75_5, r75_6, r75_7, r75_10, r75_11, r75_12, r75_13, r75_14, r75_17, r75_18, r75_19, r75_20, r75_21, r75_22, cs_nil, cs_cons, lc_lt, lc_ge, lc_gt, lc_le, lc_eq, hb, am_wid2, hx, hs, e3, e5, hz]
theorem c_clp {d : Nat} {f : am_F} {Q : am_V → am_F → Prop} {v : Int} : aw_cl d 76 [(0, -1000000), (1, v), (0, 1000000)] f Q = Q (0, clp v) f := by
  apply aw_det
  unfold clp
  by_cases h1 : v < -1000000
  · have i1 : ¬ -1000000 ≤ v := by omega
    have i2 : ¬ 1000000 < v := by omega
    simp [q76, r76_0, r76_1, r76_2, r76_3, r76_4, r76_7, r76_8, r76_9, r76_10, r76_11, r76_12, r76_13, r76_16, r76_17, r76_20, r76_21, r76_22, cs_nil, cs_cons, lc_lt, lc_ge, lc_gt, lc_le, lc_eq, h1, i1, i2]
  · have i1 : -1000000 ≤ v := by omega
    by_cases h2 : 1000000 < v
    · have i2 : ¬ v ≤ 1000000 := by omega
      simp [q76, r76_0, r76_1, r76_2, r76_3, r76_4, r76_7, r76_8, r76_9, r76_10, r76_11, r76_12, r76_13, r76_16, r76_17, r76_20, r76_21, r76_22, cs_nil, cs_cons, lc_lt, lc_ge, lc_gt, lc_le, lc_eq, h1, i1, h2, i2]
    · have i2 : v ≤ 1000000 := by omega
      simp (disch := omega) [q76, r76_0, r76_1, r76_2, r76_3, r76_4, r76_7, r76_8, r76_9, r76_10, r76_11, r76_12, r76_13, r76_16, r76_17, r76_20, r76_21, r76_22, cs_nil, cs_cons, lc_lt, lc_ge, lc_gt, lc_le, lc_eq, h1, i1, h2, i2, am_wid2]
theorem c_join {d : Nat} {f : am_F} {Q : am_V → am_F → Prop} {c a b : Int} (h1 : -1000000 ≤ a) (h2 : a ≤ 1000000) (h3 : -1000000 ≤ b) (h4 : b ≤ 1000000) (hc : 1 ≤ c ∧ c ≤ 11) (ht : c = 10 ∨ c = 11 → (a = 0 ∨ a = 1) ∧ (b = 0 ∨ b = 1)) : aw_cl (d + 1) 72 [(0, cst c), (0, a), (0, b)] f Q = Q (0, jn c a b) f := by
  have hab := mul_b h1 h2 h3 h4
  apply aw_det
  unfold jn
  obtain rfl | rfl | rfl | rfl | rfl | rfl | rfl | rfl | rfl | rfl | rfl : c = 1 ∨ c = 2 ∨ c = 3 ∨ c = 4 ∨ c = 5 ∨ c = 6 ∨ c = 7 ∨ c = 8 ∨ c = 9 ∨ c = 10 ∨ c = 11 := by omega
  · simp (disch := omega) [q72, r72_0, r72_1, r72_100, r72_101, r72_102, r72_103, r72_104, r72_105, r72_106, r72_107, r72_108, r72_109, r72_110, r72_113, r72_114, r72_115, r72_116, r72_119, r72_120, r72_121, r72_122, r72_125, r72_126, r72_129, r72_130, r72_131, r72_132, r72_133, r72_136, r72_137, r72_140, r72_141, r72_142, r72_143, r72_144, r72_147, r72_148, r72_151, r72_152, r72_153, r72_154, r72_157, r72_158, r72_161, r72_162, r72_163, r72_166, r72_167, r72_169, r72_170, r72_171, r72_172, r72_173, r72_174, r72_176, r72_179, r72_180, r72_182, r72_183, r72_184, r72_185, r72_186, r72_187, r72_189, r72_192, r72_193, r72_195, r72_196, r72_197, r72_198, r72_199, r72_200, r72_202, r72_205, r72_206, r72_207, cs_nil, cs_cons, lc_lt, lc_ge, lc_gt, lc_le, lc_eq, cst, am_wid2, am_wLd2, c_clp]
  · simp (disch := omega) [q72, r72_0, r72_1, r72_100, r72_101, r72_102, r72_103, r72_104, r72_105, r72_106, r72_107, r72_108, r72_109, r72_110, r72_113, r72_114, r72_115, r72_116, r72_119, r72_120, r72_121, r72_122, r72_125, r72_126, r72_129, r72_130, r72_131, r72_132, r72_133, r72_136, r72_137, r72_140, r72_141, r72_142, r72_143, r72_144, r72_147, r72_148, r72_151, r72_152, r72_153, r72_154, r72_157, r72_158, r72_161, r72_162, r72_163, r72_166, r72_167, r72_169, r72_170, r72_171, r72_172, r72_173, r72_174, r72_176, r72_179, r72_180, r72_182, r72_183, r72_184, r72_185, r72_186, r72_187, r72_189, r72_192, r72_193, r72_195, r72_196, r72_197, r72_198, r72_199, r72_200, r72_202, r72_205, r72_206, r72_207, cs_nil, cs_cons, lc_lt, lc_ge, lc_gt, lc_le, lc_eq, cst, am_wid2, am_wLd2, c_clp]
  · simp (disch := omega) [q72, r72_0, r72_1, r72_100, r72_101, r72_102, r72_103, r72_104, r72_105, r72_106, r72_107, r72_108, r72_109, r72_110, r72_113, r72_114, r72_115, r72_116, r72_119, r72_120, r72_121, r72_122, r72_125, r72_126, r72_129, r72_130, r72_131, r72_132, r72_133, r72_136, r72_137, r72_140, r72_141, r72_142, r72_143, r72_144, r72_147, r72_148, r72_151, r72_152, r72_153, r72_154, r72_157, r72_158, r72_161, r72_162, r72_163, r72_166, r72_167, r72_169, r72_170, r72_171, r72_172, r72_173, r72_174, r72_176, r72_179, r72_180, r72_182, r72_183, r72_184, r72_185, r72_186, r72_187, r72_189, r72_192, r72_193, r72_195, r72_196, r72_197, r72_198, r72_199, r72_200, r72_202, r72_205, r72_206, r72_207, cs_nil, cs_cons, lc_lt, lc_ge, lc_gt, lc_le, lc_eq, cst, am_wid2, am_wLd2, c_clp]
  · by_cases hb : b = 0
    · simp (disch := omega) [q72, r72_0, r72_1, r72_100, r72_101, r72_102, r72_103, r72_104, r72_105, r72_106, r72_107, r72_108, r72_109, r72_110, r72_113, r72_114, r72_115, r72_116, r72_119, r72_120, r72_121, r72_122, r72_125, r72_126, r72_129, r72_130, r72_131, r72_132, r72_133, r72_136, r72_137, r72_140, r72_141, r72_142, r72_143, r72_144, r72_147, r72_148, r72_151, r72_152, r72_153, r72_154, r72_157, r72_158, r72_161, r72_162, r72_163, r72_166, r72_167, r72_169, r72_170, r72_171, r72_172, r72_173, r72_174, r72_176, r72_179, r72_180, r72_182, r72_183, r72_184, r72_185, r72_186, r72_187, r72_189, r72_192, r72_193, r72_195, r72_196, r72_197, r72_198, r72_199, r72_200, r72_202, r72_205, r72_206, r72_207, cs_nil, cs_cons, lc_lt, lc_ge, lc_gt, lc_le, lc_eq, cst, am_wid2, am_wLd2, hb, fl]
    · simp (disch := omega) [q72, r72_0, r72_1, r72_100, r72_101, r72_102, r72_103, r72_104, r72_105, r72_106, r72_107, r72_108, r72_109, r72_110, r72_113, r72_114, r72_115, r72_116, r72_119, r72_120, r72_121, r72_122, r72_125, r72_126, r72_129, r72_130, r72_131, r72_132, r72_133, r72_136, r72_137, r72_140, r72_141, r72_142, r72_143, r72_144, r72_147, r72_148, r72_151, r72_152, r72_153, r72_154, r72_157, r72_158, r72_161, r72_162, r72_163, r72_166, r72_167, r72_169, r72_170, r72_171, r72_172, r72_173, r72_174, r72_176, r72_179, r72_180, r72_182, r72_183, r72_184, r72_185, r72_186, r72_187, r72_189, r72_192, r72_193, r72_195, r72_196, r72_197, r72_198, r72_199, r72_200, r72_202, r72_205, r72_206, r72_207, cs_nil, cs_cons, lc_lt, lc_ge, lc_gt, lc_le, lc_eq, cst, am_wid2, am_wLd2, hb, c_floor]
  · by_cases h : a < b
    · simp (disch := omega) [q72, r72_0, r72_1, r72_100, r72_101, r72_102, r72_103, r72_104, r72_105, r72_106, r72_107, r72_108, r72_109, r72_110, r72_113, r72_114, r72_115, r72_116, r72_119, r72_120, r72_121, r72_122, r72_125, r72_126, r72_129, r72_130, r72_131, r72_132, r72_133, r72_136, r72_137, r72_140, r72_141, r72_142, r72_143, r72_144, r72_147, r72_148, r72_151, r72_152, r72_153, r72_154, r72_157, r72_158, r72_161, r72_162, r72_163, r72_166, r72_167, r72_169, r72_170, r72_171, r72_172, r72_173, r72_174, r72_176, r72_179, r72_180, r72_182, r72_183, r72_184, r72_185, r72_186, r72_187, r72_189, r72_192, r72_193, r72_195, r72_196, r72_197, r72_198, r72_199, r72_200, r72_202, r72_205, r72_206, r72_207, q73, r73_0, r73_1, r73_2, r73_5, r73_6, r73_9, r73_10, cs_nil, cs_cons, lc_lt, lc_ge, lc_gt, lc_le, lc_eq, cst, h]; omega
    · simp (disch := omega) [q72, r72_0, r72_1, r72_100, r72_101, r72_102, r72_103, r72_104, r72_105, r72_106, r72_107, r72_108, r72_109, r72_110, r72_113, r72_114, r72_115, r72_116, r72_119, r72_120, r72_121, r72_122, r72_125, r72_126, r72_129, r72_130, r72_131, r72_132, r72_133, r72_136, r72_137, r72_140, r72_141, r72_142, r72_143, r72_144, r72_147, r72_148, r72_151, r72_152, r72_153, r72_154, r72_157, r72_158, r72_161, r72_162, r72_163, r72_166, r72_167, r72_169, r72_170, r72_171, r72_172, r72_173, r72_174, r72_176, r72_179, r72_180, r72_182, r72_183, r72_184, r72_185, r72_186, r72_187, r72_189, r72_192, r72_193, r72_195, r72_196, r72_197, r72_198, r72_199, r72_200, r72_202, r72_205, r72_206, r72_207, q73, r73_0, r73_1, r73_2, r73_5, r73_6, r73_9, r73_10, cs_nil, cs_cons, lc_lt, lc_ge, lc_gt, lc_le, lc_eq, cst, h]; omega
  · by_cases h : b < a
    · simp (disch := omega) [q72, r72_0, r72_1, r72_100, r72_101, r72_102, r72_103, r72_104, r72_105, r72_106, r72_107, r72_108, r72_109, r72_110, r72_113, r72_114, r72_115, r72_116, r72_119, r72_120, r72_121, r72_122, r72_125, r72_126, r72_129, r72_130, r72_131, r72_132, r72_133, r72_136, r72_137, r72_140, r72_141, r72_142, r72_143, r72_144, r72_147, r72_148, r72_151, r72_152, r72_153, r72_154, r72_157, r72_158, r72_161, r72_162, r72_163, r72_166, r72_167, r72_169, r72_170, r72_171, r72_172, r72_173, r72_174, r72_176, r72_179, r72_180, r72_182, r72_183, r72_184, r72_185, r72_186, r72_187, r72_189, r72_192, r72_193, r72_195, r72_196, r72_197, r72_198, r72_199, r72_200, r72_202, r72_205, r72_206, r72_207, q74, r74_0, r74_1, r74_2, r74_5, r74_6, r74_9, r74_10, cs_nil, cs_cons, lc_lt, lc_ge, lc_gt, lc_le, lc_eq, cst, h]; omega
    · simp (disch := omega) [q72, r72_0, r72_1, r72_100, r72_101, r72_102, r72_103, r72_104, r72_105, r72_106, r72_107, r72_108, r72_109, r72_110, r72_113, r72_114, r72_115, r72_116, r72_119, r72_120, r72_121, r72_122, r72_125, r72_126, r72_129, r72_130, r72_131, r72_132, r72_133, r72_136, r72_137, r72_140, r72_141, r72_142, r72_143, r72_144, r72_147, r72_148, r72_151, r72_152, r72_153, r72_154, r72_157, r72_158, r72_161, r72_162, r72_163, r72_166, r72_167, r72_169, r72_170, r72_171, r72_172, r72_173, r72_174, r72_176, r72_179, r72_180, r72_182, r72_183, r72_184, r72_185, r72_186, r72_187, r72_189, r72_192, r72_193, r72_195, r72_196, r72_197, r72_198, r72_199, r72_200, r72_202, r72_205, r72_206, r72_207, q74, r74_0, r74_1, r74_2, r74_5, r74_6, r74_9, r74_10, cs_nil, cs_cons, lc_lt, lc_ge, lc_gt, lc_le, lc_eq, cst, h]; omega
  · by_cases h : a < b
    · simp (disch := omega) [q72, r72_0, r72_1, r72_100, r72_101, r72_102, r72_103, r72_104, r72_105, r72_106, r72_107, r72_108, r72_109, r72_110, r72_113, r72_114, r72_115, r72_116, r72_119, r72_120, r72_121, r72_122, r72_125, r72_126, r72_129, r72_130, r72_131, r72_132, r72_133, r72_136, r72_137, r72_140, r72_141, r72_142, r72_143, r72_144, r72_147, r72_148, r72_151, r72_152, r72_153, r72_154, r72_157, r72_158, r72_161, r72_162, r72_163, r72_166, r72_167, r72_169, r72_170, r72_171, r72_172, r72_173, r72_174, r72_176, r72_179, r72_180, r72_182, r72_183, r72_184, r72_185, r72_186, r72_187, r72_189, r72_192, r72_193, r72_195, r72_196, r72_197, r72_198, r72_199, r72_200, r72_202, r72_205, r72_206, r72_207, cs_nil, cs_cons, lc_lt, lc_ge, lc_gt, lc_le, lc_eq, cst, h] <;> omega
    · simp (disch := omega) [q72, r72_0, r72_1, r72_100, r72_101, r72_102, r72_103, r72_104, r72_105, r72_106, r72_107, r72_108, r72_109, r72_110, r72_113, r72_114, r72_115, r72_116, r72_119, r72_120, r72_121, r72_122, r72_125, r72_126, r72_129, r72_130, r72_131, r72_132, r72_133, r72_136, r72_137, r72_140, r72_141, r72_142, r72_143, r72_144, r72_147, r72_148, r72_151, r72_152, r72_153, r72_154, r72_157, r72_158, r72_161, r72_162, r72_163, r72_166, r72_167, r72_169, r72_170, r72_171, r72_172, r72_173, r72_174, r72_176, r72_179, r72_180, r72_182, r72_183, r72_184, r72_185, r72_186, r72_187, r72_189, r72_192, r72_193, r72_195, r72_196, r72_197, r72_198, r72_199, r72_200, r72_202, r72_205, r72_206, r72_207, cs_nil, cs_cons, lc_lt, lc_ge, lc_gt, lc_le, lc_eq, cst, h] <;> omega
  · by_cases h : b < a
    · simp (disch := omega) [q72, r72_0, r72_1, r72_100, r72_101, r72_102, r72_103, r72_104, r72_105, r72_106, r72_107, r72_108, r72_109, r72_110, r72_113, r72_114, r72_115, r72_116, r72_119, r72_120, r72_121, r72_122, r72_125, r72_126, r72_129, r72_130, r72_131, r72_132, r72_133, r72_136, r72_137, r72_140, r72_141, r72_142, r72_143, r72_144, r72_147, r72_148, r72_151, r72_152, r72_153, r72_154, r72_157, r72_158, r72_161, r72_162, r72_163, r72_166, r72_167, r72_169, r72_170, r72_171, r72_172, r72_173, r72_174, r72_176, r72_179, r72_180, r72_182, r72_183, r72_184, r72_185, r72_186, r72_187, r72_189, r72_192, r72_193, r72_195, r72_196, r72_197, r72_198, r72_199, r72_200, r72_202, r72_205, r72_206, r72_207, cs_nil, cs_cons, lc_lt, lc_ge, lc_gt, lc_le, lc_eq, cst, h] <;> omega
    · simp (disch := omega) [q72, r72_0, r72_1, r72_100, r72_101, r72_102, r72_103, r72_104, r72_105, r72_106, r72_107, r72_108, r72_109, r72_110, r72_113, r72_114, r72_115, r72_116, r72_119, r72_120, r72_121, r72_122, r72_125, r72_126, r72_129, r72_130, r72_131, r72_132, r72_133, r72_136, r72_137, r72_140, r72_141, r72_142, r72_143, r72_144, r72_147, r72_148, r72_151, r72_152, r72_153, r72_154, r72_157, r72_158, r72_161, r72_162, r72_163, r72_166, r72_167, r72_169, r72_170, r72_171, r72_172, r72_173, r72_174, r72_176, r72_179, r72_180, r72_182, r72_183, r72_184, r72_185, r72_186, r72_187, r72_189, r72_192, r72_193, r72_195, r72_196, r72_197, r72_198, r72_199, r72_200, r72_202, r72_205, r72_206, r72_207, cs_nil, cs_cons, lc_lt, lc_ge, lc_gt, lc_le, lc_eq, cst, h] <;> omega
  · by_cases h : a = b
    · simp (disch := omega) [q72, r72_0, r72_1, r72_100, r72_101, r72_102, r72_103, r72_104, r72_105, r72_106, r72_107, r72_108, r72_109, r72_110, r72_113, r72_114, r72_115, r72_116, r72_119, r72_120, r72_121, r72_122, r72_125, r72_126, r72_129, r72_130, r72_131, r72_132, r72_133, r72_136, r72_137, r72_140, r72_141, r72_142, r72_143, r72_144, r72_147, r72_148, r72_151, r72_152, r72_153, r72_154, r72_157, r72_158, r72_161, r72_162, r72_163, r72_166, r72_167, r72_169, r72_170, r72_171, r72_172, r72_173, r72_174, r72_176, r72_179, r72_180, r72_182, r72_183, r72_184, r72_185, r72_186, r72_187, r72_189, r72_192, r72_193, r72_195, r72_196, r72_197, r72_198, r72_199, r72_200, r72_202, r72_205, r72_206, r72_207, cs_nil, cs_cons, lc_lt, lc_ge, lc_gt, lc_le, lc_eq, cst, h]
    · simp (disch := omega) [q72, r72_0, r72_1, r72_100, r72_101, r72_102, r72_103, r72_104, r72_105, r72_106, r72_107, r72_108, r72_109, r72_110, r72_113, r72_114, r72_115, r72_116, r72_119, r72_120, r72_121, r72_122, r72_125, r72_126, r72_129, r72_130, r72_131, r72_132, r72_133, r72_136, r72_137, r72_140, r72_141, r72_142, r72_143, r72_144, r72_147, r72_148, r72_151, r72_152, r72_153, r72_154, r72_157, r72_158, r72_161, r72_162, r72_163, r72_166, r72_167, r72_169, r72_170, r72_171, r72_172, r72_173, r72_174, r72_176, r72_179, r72_180, r72_182, r72_183, r72_184, r72_185, r72_186, r72_187, r72_189, r72_192, r72_193, r72_195, r72_196, r72_197, r72_198, r72_199, r72_200, r72_202, r72_205, r72_206, r72_207, cs_nil, cs_cons, lc_lt, lc_ge, lc_gt, lc_le, lc_eq, cst, h]
  · have := ht (Or.inl rfl)
    simp (disch := omega) [q72, r72_0, r72_1, r72_100, r72_101, r72_102, r72_103, r72_104, r72_105, r72_106, r72_107, r72_108, r72_109, r72_110, r72_113, r72_114, r72_115, r72_116, r72_119, r72_120, r72_121, r72_122, r72_125, r72_126, r72_129, r72_130, r72_131, r72_132, r72_133, r72_136, r72_137, r72_140, r72_141, r72_142, r72_143, r72_144, r72_147, r72_148, r72_151, r72_152, r72_153, r72_154, r72_157, r72_158, r72_161, r72_162, r72_163, r72_166, r72_167, r72_169, r72_170, r72_171, r72_172, r72_173, r72_174, r72_176, r72_179, r72_180, r72_182, r72_183, r72_184, r72_185, r72_186, r72_187, r72_189, r72_192, r72_193, r72_195, r72_196, r72_197, r72_198, r72_199, r72_200, r72_202, r72_205, r72_206, r72_207, cs_nil, cs_cons, lc_lt, lc_ge, lc_gt, lc_le, lc_eq, cst]
    rcases this.1 with rfl | rfl <;> rcases this.2 with rfl | rfl <;> decide
  · have := ht (Or.inr rfl)
    simp (disch := omega) [q72, r72_0, r72_1, r72_100, r72_101, r72_102, r72_103, r72_104, r72_105, r72_106, r72_107, r72_108, r72_109, r72_110, r72_113, r72_114, r72_115, r72_116, r72_119, r72_120, r72_121, r72_122, r72_125, r72_126, r72_129, r72_130, r72_131, r72_132, r72_133, r72_136, r72_137, r72_140, r72_141, r72_142, r72_143, r72_144, r72_147, r72_148, r72_151, r72_152, r72_153, r72_154, r72_157, r72_158, r72_161, r72_162, r72_163, r72_166, r72_167, r72_169, r72_170, r72_171, r72_172, r72_173, r72_174, r72_176, r72_179, r72_180, r72_182, r72_183, r72_184, r72_185, r72_186, r72_187, r72_189, r72_192, r72_193, r72_195, r72_196, r72_197, r72_198, r72_199, r72_200, r72_202, r72_205, r72_206, r72_207, cs_nil, cs_cons, lc_lt, lc_ge, lc_gt, lc_le, lc_eq, cst]
    rcases this.1 with rfl | rfl <;> rcases this.2 with rfl | rfl <;> decide
def ptC (f : am_F) (a l t gv k : Int) : Int := if k = 0 then f (l + 2) t else if k = 1 then f (l + 3) t else if k = 2 then f (a + 6) t else if k = 3 then f (a + 2) t else if k = 4 then f (a + 3) t else if k = 5 then f a 10 else if k = 6 then f (a + 4) t else if k = 7 then gv else if k = 8 then t else f (a + 5) t
def ogC (gv x : Int) : Int := if 0 ≤ x ∧ x < 5 then am_and (am_shr gv x) 1 else 0
theorem c_part {d : Nat} {f : am_F} {Q : am_V → am_F → Prop} {c a l t gv : Int} (hS : sS f a) (hL : sL f l) (hl : f a 9 = l) (ht : 0 ≤ t ∧ t < 8) (hc : 40 ≤ c ∧ c ≤ 49) : aw_cl d 70 [(0, cst c - 10000), (107, a), (0, t), (0, gv)] f Q = Q (0, ptC f a l t gv (c - 40)) f := by
  unfold sS at hS
  unfold sL at hL
  apply aw_det
  unfold ptC
  obtain rfl | rfl | rfl | rfl | rfl | rfl | rfl | rfl | rfl | rfl : c = 40 ∨ c = 41 ∨ c = 42 ∨ c = 43 ∨ c = 44 ∨ c = 45 ∨ c = 46 ∨ c = 47 ∨ c = 48 ∨ c = 49 := by omega
  all_goals simp (disch := omega) [q70, r70_0, r70_1, r70_96, r70_97, r70_100, r70_103, r70_104, r70_105, r70_106, r70_107, r70_110, r70_113, r70_114, r70_115, r70_116, r70_117, r70_120, r70_121, r70_122, r70_123, r70_124, r70_127, r70_128, r70_129, r70_130, r70_131, r70_134, r70_135, r70_136, r70_137, r70_138, r70_141, r70_142, r70_143, r70_146, r70_147, r70_148, r70_149, r70_150, r70_151, r70_152, r70_155, r70_156, r70_157, r70_158, r70_159, cs_nil, cs_cons, lc_lt, lc_ge, lc_gt, lc_le, lc_eq, cst, hS, hL, hl, ht]
theorem t1_lg {sk q : Bool} {c : Int} {ts us : List Bool} {y z : Int} {s : List Int} (h : t1 sk q c ts = some us) (h7 : okS ts (y :: z :: s)) : c = 10 ∨ c = 11 → (z = 0 ∨ z = 1) ∧ (y = 0 ∨ y = 1) := by
  intro hc
  unfold t1 at h
  rw [if_neg (by omega), if_neg (by omega), if_neg (by omega), if_neg (by omega), if_neg (by omega), if_pos hc] at h
  match ts, h, h7 with
  | true :: true :: r, h, h7 =>
    have i1 := h7.1
    have i2 := h7.2.1
    simp [okv] at i1 i2
    exact ⟨i2, i1⟩
  | true :: false :: r, h, _ => cases h
  | false :: _, h, _ => cases h
  | [true], h, _ => cases h
  | [], h, _ => cases h
/-- what reckon leaves as it was -/
def fK (f g : am_F) : Prop := ∀ c j : Int, ¬ c = 35 → g c j = f c j
theorem fK_row {f g : am_F} (h : fK f g) {c : Int} (hc : ¬ c = 35) : g c = f c := by funext j; exact h c j hc
theorem ptC_fr {f g : am_F} (h : fK f g) {a l t gv k : Int} (ha : 46 ≤ a) (hl : l ≤ 20) : ptC g a l t gv k = ptC f a l t gv k := by
  unfold fK at h
  unfold ptC
  simp (disch := omega) only [h]
theorem sS_fr {f g : am_F} {a : Int} (hS : sS f a) (h : ∀ j : Int, 0 ≤ j → j ≤ 8 → g a j = f a j) : sS g a := by
  unfold sS at hS ⊢
  refine ⟨hS.1, ?_, hS.2.2⟩
  rw [h 0 (by omega) (by omega), h 1 (by omega) (by omega), h 2 (by omega) (by omega), h 3 (by omega) (by omega), h 4 (by omega) (by omega), h 5 (by omega) (by omega), h 6 (by omega) (by omega), h 7 (by omega) (by omega), h 8 (by omega) (by omega)]
  exact hS.2.1
theorem sL_fr {f g : am_F} {l : Int} (hL : sL f l) (h : ∀ j : Int, 0 ≤ j → j ≤ 8 → g l j = f l j) (h2 : ∀ j : Int, 0 ≤ j → j ≤ 2 → g (l + 9) j = f (l + 9) j) : sL g l := by
  unfold sL at hL ⊢
  refine ⟨hL.1, ?_, hL.2.2⟩
  rw [h 0 (by omega) (by omega), h 1 (by omega) (by omega), h 2 (by omega) (by omega), h 3 (by omega) (by omega), h 4 (by omega) (by omega), h 5 (by omega) (by omega), h 6 (by omega) (by omega), h 7 (by omega) (by omega), h 8 (by omega) (by omega), h2 0 (by omega) (by omega), h2 1 (by omega) (by omega), h2 2 (by omega) (by omega)]
  exact hL.2.1
theorem c_reckon {d : Nat} {f : am_F} {Q : am_V → am_F → Prop} {R u a l t gv k0 sA : Int} {cs0 : List Int} {sk q b : Bool} (h34 : f 34 0 = 35) (hR : 0 ≤ R ∧ R ≤ 32 ∧ f R 0 = sA ∧ f R 1 = sA + 1 ∧ f R 2 = sA + 2 ∧ 0 ≤ sA ∧ sA ≤ 32 ∧ am_len aw_SH sA = 1616 ∧ am_len aw_SH (sA + 1) = 10 ∧ am_len aw_SH (sA + 2) = 10) (hS : sS f a) (ha : 46 ≤ a) (hL : sL f l) (hll : l ≤ 20) (hl : f a 9 = l) (hu : 0 ≤ u ∧ u < 10) (ht : 0 ≤ t ∧ t < 8) (hk0 : f (sA + 1) u = k0) (he : f (sA + 2) u = k0 + cs0.length) (hk : 0 ≤ k0) (hke : k0 + cs0.length ≤ 1616) (hc : al f sA cst k0 cs0) (hty : tr sk q cs0 [] = some [b]) (hp : ∀ k, 0 ≤ k → k ≤ 9 → (k = 7 → sk = true) → -1000000 ≤ ptC f a l t gv k ∧ ptC f a l t gv k ≤ 1000000) (ho : ∀ x, -1000000 ≤ ogC gv x ∧ ogC gv x ≤ 1000000) (hQ : ∀ f1, fK f f1 → Q (0, vl (ptC f a l t gv) (ogC gv) cs0) f1) : aw_cl (d + 3) 68 [(105, 34), (106, R), (0, u), (107, a), (0, t), (0, gv)] f Q := by
  have key : ∀ (cs : List Int) (k : Int) (g : am_F) (s : List Int) (ts : List Bool) (x : am_V), k + cs.length = k0 + cs0.length → 0 ≤ k → fK f g → al f sA cst k cs → pl g 35 s → okS ts s → tr sk q cs ts = some [b] → ts.length ≤ 100 → (er (ptC f a l t gv) (ogC gv) cs s).headD 0 = vl (ptC f a l t gv) (ogC gv) cs0 → aw_wp (d + 3) 68 19 [(105, 34), (106, R), (0, u), (107, a), (0, t), (0, gv), (0, (s.length : Int)), (0, k0 + cs0.length), (0, k), x] [] g Q := by
    intro cs
    induction cs with
    | nil =>
      intro k g s ts x h1 h2 hF h4 h5 h7 h8 h10 h9
      simp only [List.length_nil] at h1
      have c2 : k0 + cs0.length ≤ k := by omega
      have z1 : g 34 0 = 35 := (hF _ _ (by omega)).trans h34
      cases h8
      match s, h7 with
      | [v], h7 =>
        have z2 : g 35 0 = v := h5.1
        have z3 : v = vl (ptC f a l t gv) (ogC gv) cs0 := h9
        rw [r68_19]
        simp (disch := omega) [q68, r68_0, r68_1, r68_3, r68_4, r68_7, r68_8, r68_9, r68_11, r68_12, r68_15, r68_16, r68_17, r68_21, r68_23, r68_26, r68_27, r68_30, r68_32, r68_33, r68_35, r68_37, r68_40, r68_43, r68_45, r68_48, r68_51, r68_53, r68_55, r68_58, r68_59, r68_60, r68_61, r68_64, r68_66, r68_69, r68_71, r68_74, r68_77, r68_79, r68_82, r68_84, r68_87, r68_88, r68_89, r68_91, r68_93, r68_96, r68_97, r68_100, r68_102, r68_105, r68_108, r68_110, r68_113, r68_116, r68_118, r68_119, r68_122, r68_123, r68_124, r68_125, r68_128, r68_130, r68_131, r68_132, r68_134, r68_135, r68_138, r68_140, r68_141, r68_142, r68_143, r68_145, r68_148, r68_149, r68_152, r68_154, r68_155, r68_158, r68_159, r68_160, r68_163, r68_164, r68_167, r68_169, r68_170, r68_171, r68_173, r68_174, r68_177, r68_179, r68_180, r68_181, r68_182, r68_183, r68_186, r68_188, r68_189, r68_192, r68_193, r68_196, r68_199, r68_201, r68_204, r68_205, r68_208, r68_210, r68_211, r68_212, r68_213, r68_216, r68_217, cs_nil, cs_cons, lc_lt, lc_ge, lc_gt, lc_le, lc_eq, ln_35, am_wid2, z1, c2, z2, z3]
        exact hQ g hF
    | cons c cs ih =>
      intro k g s ts x h1 h2 hF h4 h5 h7 h8 h10 h9
      have hSg : sS g a := sS_fr hS (fun j _ _ => hF _ _ (by omega))
      have hLg : sL g l := sL_fr hL (fun j _ _ => hF _ _ (by omega)) (fun j _ _ => hF _ _ (by omega))
      have hlg : g a 9 = l := (hF _ _ (by omega)).trans hl
      simp only [List.length_cons] at h1
      have c2 : ¬ k0 + cs0.length ≤ k := by omega
      have c3 : k < 1616 := by omega
      have z1 : g 34 0 = 35 := (hF _ _ (by omega)).trans h34
      have z0 : g R 0 = sA := (hF _ _ (by omega)).trans hR.2.2.1
      have z2 : g sA k = cst c := (hF _ _ (by omega)).trans h4.1
      unfold tr at h8
      cases h1' : t1 sk q c ts with
      | none => rw [h1'] at h8; cases h8
      | some us =>
        rw [h1'] at h8
        have hok := e1_ok (og := ogC gv) hp ho h1' h7
        have hl7 := okS_len _ _ h7
        have go : ∀ g' x' m, m = ((e1 (ptC f a l t gv) (ogC gv) c s).length : Int) → fK f g' → pl g' 35 (e1 (ptC f a l t gv) (ogC gv) c s) → aw_wp (d + 3) 68 19 [(105, 34), (106, R), (0, u), (107, a), (0, t), (0, gv), (0, m), (0, k0 + cs0.length), (0, k + 1), x'] [] g' Q := fun g' x' m i3 i1 i2 => by
          rw [i3]
          exact ih (k + 1) g' _ us x' (by omega) (by omega) i1 h4.2 i2 hok h8 (t1_len h1' h10) h9
        rw [r68_19]
        have h1o := h1'
        unfold t1 at h1'
        by_cases b1 : 1000 ≤ c
        · rw [if_pos b1] at h1'
          split at h1'
          · rename_i hh
            have c4 : (s.length : Int) < 100 := by omega
            have hE : e1 (ptC f a l t gv) (ogC gv) c s = (c - 1000) :: s := by unfold e1; rw [if_pos b1]
            rw [hE] at go
            have b2 : cst c = c - 1000 := by unfold cst; rw [if_pos b1]
            have b3 : c - 1000 < 10000 := by omega
            have b4 : ¬ 10000 ≤ c - 1000 := by omega
            simp (disch := omega) [q68, r68_0, r68_1, r68_3, r68_4, r68_7, r68_8, r68_9, r68_11, r68_12, r68_15, r68_16, r68_17, r68_21, r68_23, r68_26, r68_27, r68_30, r68_32, r68_33, r68_35, r68_37, r68_40, r68_43, r68_45, r68_48, r68_51, r68_53, r68_55, r68_58, r68_59, r68_60, r68_61, r68_64, r68_66, r68_69, r68_71, r68_74, r68_77, r68_79, r68_82, r68_84, r68_87, r68_88, r68_89, r68_91, r68_93, r68_96, r68_97, r68_100, r68_102, r68_105, r68_108, r68_110, r68_113, r68_116, r68_118, r68_119, r68_122, r68_123, r68_124, r68_125, r68_128, r68_130, r68_131, r68_132, r68_134, r68_135, r68_138, r68_140, r68_141, r68_142, r68_143, r68_145, r68_148, r68_149, r68_152, r68_154, r68_155, r68_158, r68_159, r68_160, r68_163, r68_164, r68_167, r68_169, r68_170, r68_171, r68_173, r68_174, r68_177, r68_179, r68_180, r68_181, r68_182, r68_183, r68_186, r68_188, r68_189, r68_192, r68_193, r68_196, r68_199, r68_201, r68_204, r68_205, r68_208, r68_210, r68_211, r68_212, r68_213, r68_216, r68_217, q69, r69_0, r69_1, r69_4, r69_5, r69_100, r69_101, r69_102, r69_103, cs_nil, cs_cons, lc_lt, lc_ge, lc_gt, lc_le, lc_eq, hR, ln_35, am_wid2, z0, z1, c2, c3, c4, z2, h2, b2, b3, b4]
            refine go _ _ _ ?_ ?_ ?_
            · simp
            · intro a j hh2
              rw [am_un (by omega)]
              exact hF a j hh2
            · exact pl_push h5
          · cases h1'
        rw [if_neg b1] at h1'
        by_cases b2 : 60 ≤ c
        · rw [if_pos b2] at h1'
          match ts, s, h1', h5, h7, go, hl7, h10 with
          | false :: r, y :: s, h1', h5, h7, go, hl7, h10 =>
            dsimp only at h1'
            split at h1'
            · rename_i hh
              have c4 : (s.length : Int) < 100 := by simp at hl7 h10; omega
              have hE : e1 (ptC f a l t gv) (ogC gv) c (y :: s) = ogC gv y :: s := by unfold e1; rw [if_neg b1, if_pos b2]
              rw [hE] at go
              have b3 : cst c = 10008 := by rw [hh.1]; rfl
              have z3 : g 35 (s.length : Int) = y := h5.1
              have c5 : ¬ ((s.length : Int) + 1 < 1) := by omega
              simp (disch := omega) [q68, r68_0, r68_1, r68_3, r68_4, r68_7, r68_8, r68_9, r68_11, r68_12, r68_15, r68_16, r68_17, r68_21, r68_23, r68_26, r68_27, r68_30, r68_32, r68_33, r68_35, r68_37, r68_40, r68_43, r68_45, r68_48, r68_51, r68_53, r68_55, r68_58, r68_59, r68_60, r68_61, r68_64, r68_66, r68_69, r68_71, r68_74, r68_77, r68_79, r68_82, r68_84, r68_87, r68_88, r68_89, r68_91, r68_93, r68_96, r68_97, r68_100, r68_102, r68_105, r68_108, r68_110, r68_113, r68_116, r68_118, r68_119, r68_122, r68_123, r68_124, r68_125, r68_128, r68_130, r68_131, r68_132, r68_134, r68_135, r68_138, r68_140, r68_141, r68_142, r68_143, r68_145, r68_148, r68_149, r68_152, r68_154, r68_155, r68_158, r68_159, r68_160, r68_163, r68_164, r68_167, r68_169, r68_170, r68_171, r68_173, r68_174, r68_177, r68_179, r68_180, r68_181, r68_182, r68_183, r68_186, r68_188, r68_189, r68_192, r68_193, r68_196, r68_199, r68_201, r68_204, r68_205, r68_208, r68_210, r68_211, r68_212, r68_213, r68_216, r68_217, q69, r69_0, r69_1, r69_4, r69_5, r69_100, r69_101, r69_102, r69_103, q71, r71_0, r71_1, r71_4, r71_7, r71_8, r71_9, r71_10, r71_11, r71_12, r71_15, r71_16, r71_17, r71_20, r71_21, r71_22, r71_23, r71_24, r71_25, r71_28, r71_29, cs_nil, cs_cons, lc_lt, lc_ge, lc_gt, lc_le, lc_eq, hR, ln_35, am_wid2, z0, z1, c2, c3, c4, z2, z3, h2, b3]
              have go' : ∀ v, v = ogC gv y → aw_wp (d + 3) 68 19 [(105, 34), (106, R), (0, u), (107, a), (0, t), (0, gv), (0, (s.length : Int) + 1), (0, k0 + cs0.length), (0, k + 1), (0, 10008)] [] (am_up g 35 (s.length : Int) v) Q := by
                intro v hv
                subst hv
                refine go _ _ _ ?_ ?_ ?_
                · simp
                · intro a j hh2
                  rw [am_un (by omega)]
                  exact hF a j hh2
                · exact pl_push h5.2
              refine ⟨fun _ => ⟨fun i => go' 0 ?_, fun i => ⟨fun i2 => go' 0 ?_, fun i2 => go' _ ?_⟩⟩, fun i => absurd i (by omega)⟩
              · unfold ogC; rw [if_neg (by omega)]
              · unfold ogC; rw [if_neg (by omega)]
              · unfold ogC; rw [if_pos (by omega)]
            · cases h1'
          | true :: r, _, h1', _, _, _, _, _ => cases h1'
          | [], _, h1', _, _, _, _, _ => cases h1'
        rw [if_neg b2] at h1'
        by_cases b3 : 40 ≤ c
        · rw [if_pos b3] at h1'
          split at h1'
          · rename_i hh
            have c4 : (s.length : Int) < 100 := by omega
            have hE : e1 (ptC f a l t gv) (ogC gv) c s = ptC f a l t gv (c - 40) :: s := by unfold e1; rw [if_neg b1, if_neg b2, if_pos b3]
            rw [hE] at go
            have b4 : (aw_cl (d + 2) 69 [(0, cst c)] g (fun v f1 => v = (0, 1) ∧ f1 = g)) ∧ ¬ cst c < 10000 := by
              obtain rfl | rfl | rfl | rfl | rfl | rfl | rfl | rfl | rfl | rfl : c = 40 ∨ c = 41 ∨ c = 42 ∨ c = 43 ∨ c = 44 ∨ c = 45 ∨ c = 46 ∨ c = 47 ∨ c = 48 ∨ c = 49 := by omega
              all_goals simp (disch := omega) [q69, r69_0, r69_1, r69_4, r69_5, r69_100, r69_101, r69_102, r69_103, cs_nil, cs_cons, lc_lt, lc_ge, lc_gt, lc_le, lc_eq, cst, am_wid2]
            have b6 : -2147483648 ≤ cst c - 10000 ∧ cst c - 10000 < 2147483648 := by
              obtain rfl | rfl | rfl | rfl | rfl | rfl | rfl | rfl | rfl | rfl : c = 40 ∨ c = 41 ∨ c = 42 ∨ c = 43 ∨ c = 44 ∨ c = 45 ∨ c = 46 ∨ c = 47 ∨ c = 48 ∨ c = 49 := by omega
              all_goals decide
            have b5 : ∀ Q' : am_V → am_F → Prop, aw_cl (d + 2) 69 [(0, cst c)] g Q' = Q' (0, 1) g := fun Q' => aw_det b4.1
            have b7 : 10000 ≤ cst c := by omega
            simp (disch := omega) [q68, r68_0, r68_1, r68_3, r68_4, r68_7, r68_8, r68_9, r68_11, r68_12, r68_15, r68_16, r68_17, r68_21, r68_23, r68_26, r68_27, r68_30, r68_32, r68_33, r68_35, r68_37, r68_40, r68_43, r68_45, r68_48, r68_51, r68_53, r68_55, r68_58, r68_59, r68_60, r68_61, r68_64, r68_66, r68_69, r68_71, r68_74, r68_77, r68_79, r68_82, r68_84, r68_87, r68_88, r68_89, r68_91, r68_93, r68_96, r68_97, r68_100, r68_102, r68_105, r68_108, r68_110, r68_113, r68_116, r68_118, r68_119, r68_122, r68_123, r68_124, r68_125, r68_128, r68_130, r68_131, r68_132, r68_134, r68_135, r68_138, r68_140, r68_141, r68_142, r68_143, r68_145, r68_148, r68_149, r68_152, r68_154, r68_155, r68_158, r68_159, r68_160, r68_163, r68_164, r68_167, r68_169, r68_170, r68_171, r68_173, r68_174, r68_177, r68_179, r68_180, r68_181, r68_182, r68_183, r68_186, r68_188, r68_189, r68_192, r68_193, r68_196, r68_199, r68_201, r68_204, r68_205, r68_208, r68_210, r68_211, r68_212, r68_213, r68_216, r68_217, cs_nil, cs_cons, lc_lt, lc_ge, lc_gt, lc_le, lc_eq, hR, ln_35, am_wid2, z0, z1, c2, c3, c4, z2, h2, b5, b4.2, b6, b7, c_part hSg hLg hlg ht ⟨b3, hh.1⟩, ptC_fr hF ha hll]
            refine ⟨by omega, ?_⟩
            refine go _ _ _ ?_ ?_ ?_
            · simp
            · intro a j hh2
              rw [am_un (by omega)]
              exact hF a j hh2
            · exact pl_push h5
          · cases h1'
        rw [if_neg b3] at h1'
        by_cases b4 : c = 13
        · rw [if_pos b4] at h1'
          split at h1'
          · rename_i hh
            have c4 : (s.length : Int) < 100 := by omega
            have hE : e1 (ptC f a l t gv) (ogC gv) c s = 1 :: s := by unfold e1; rw [if_neg b1, if_neg b2, if_neg b3, if_pos b4]
            rw [hE] at go
            have b5 : cst c = 1 := by rw [b4]; rfl
            simp (disch := omega) [q68, r68_0, r68_1, r68_3, r68_4, r68_7, r68_8, r68_9, r68_11, r68_12, r68_15, r68_16, r68_17, r68_21, r68_23, r68_26, r68_27, r68_30, r68_32, r68_33, r68_35, r68_37, r68_40, r68_43, r68_45, r68_48, r68_51, r68_53, r68_55, r68_58, r68_59, r68_60, r68_61, r68_64, r68_66, r68_69, r68_71, r68_74, r68_77, r68_79, r68_82, r68_84, r68_87, r68_88, r68_89, r68_91, r68_93, r68_96, r68_97, r68_100, r68_102, r68_105, r68_108, r68_110, r68_113, r68_116, r68_118, r68_119, r68_122, r68_123, r68_124, r68_125, r68_128, r68_130, r68_131, r68_132, r68_134, r68_135, r68_138, r68_140, r68_141, r68_142, r68_143, r68_145, r68_148, r68_149, r68_152, r68_154, r68_155, r68_158, r68_159, r68_160, r68_163, r68_164, r68_167, r68_169, r68_170, r68_171, r68_173, r68_174, r68_177, r68_179, r68_180, r68_181, r68_182, r68_183, r68_186, r68_188, r68_189, r68_192, r68_193, r68_196, r68_199, r68_201, r68_204, r68_205, r68_208, r68_210, r68_211, r68_212, r68_213, r68_216, r68_217, q69, r69_0, r69_1, r69_4, r69_5, r69_100, r69_101, r69_102, r69_103, cs_nil, cs_cons, lc_lt, lc_ge, lc_gt, lc_le, lc_eq, hR, ln_35, am_wid2, z0, z1, c2, c3, c4, z2, h2, b5]
            refine go _ _ _ ?_ ?_ ?_
            · simp
            · intro a j hh2
              rw [am_un (by omega)]
              exact hF a j hh2
            · exact pl_push h5
          · cases h1'
        rw [if_neg b4] at h1'
        by_cases b5 : c = 12
        · rw [if_pos b5] at h1'
          match ts, s, h1', h5, h7, go, hl7, h10 with
          | true :: r, y :: s, h1', h5, h7, go, hl7, h10 =>
            have c4 : (s.length : Int) < 100 := by simp at hl7 h10; omega
            have hE : e1 (ptC f a l t gv) (ogC gv) c (y :: s) = (1 - y) :: s := by unfold e1; rw [if_neg b1, if_neg b2, if_neg b3, if_neg b4, if_pos b5]
            rw [hE] at go
            have c5 := h7.1
            simp [okv] at c5
            have b6 : cst c = 10024 := by rw [b5]; rfl
            have z3 : g 35 (s.length : Int) = y := h5.1
            simp (disch := omega) [q68, r68_0, r68_1, r68_3, r68_4, r68_7, r68_8, r68_9, r68_11, r68_12, r68_15, r68_16, r68_17, r68_21, r68_23, r68_26, r68_27, r68_30, r68_32, r68_33, r68_35, r68_37, r68_40, r68_43, r68_45, r68_48, r68_51, r68_53, r68_55, r68_58, r68_59, r68_60, r68_61, r68_64, r68_66, r68_69, r68_71, r68_74, r68_77, r68_79, r68_82, r68_84, r68_87, r68_88, r68_89, r68_91, r68_93, r68_96, r68_97, r68_100, r68_102, r68_105, r68_108, r68_110, r68_113, r68_116, r68_118, r68_119, r68_122, r68_123, r68_124, r68_125, r68_128, r68_130, r68_131, r68_132, r68_134, r68_135, r68_138, r68_140, r68_141, r68_142, r68_143, r68_145, r68_148, r68_149, r68_152, r68_154, r68_155, r68_158, r68_159, r68_160, r68_163, r68_164, r68_167, r68_169, r68_170, r68_171, r68_173, r68_174, r68_177, r68_179, r68_180, r68_181, r68_182, r68_183, r68_186, r68_188, r68_189, r68_192, r68_193, r68_196, r68_199, r68_201, r68_204, r68_205, r68_208, r68_210, r68_211, r68_212, r68_213, r68_216, r68_217, q69, r69_0, r69_1, r69_4, r69_5, r69_100, r69_101, r69_102, r69_103, q71, r71_0, r71_1, r71_4, r71_7, r71_8, r71_9, r71_10, r71_11, r71_12, r71_15, r71_16, r71_17, r71_20, r71_21, r71_22, r71_23, r71_24, r71_25, r71_28, r71_29, cs_nil, cs_cons, lc_lt, lc_ge, lc_gt, lc_le, lc_eq, hR, ln_35, am_wid2, z0, z1, c2, c3, c4, z2, z3, h2, b6]
            refine ⟨fun _ => ?_, fun i => absurd i (by omega)⟩
            refine go _ _ _ ?_ ?_ ?_
            · simp
            · intro a j hh2
              rw [am_un (by omega)]
              exact hF a j hh2
            · exact pl_push h5.2
          | false :: r, x :: s, h1', _, _, _, _, _ => cases h1'
          | [], [], h1', _, _, _, _, _ => cases h1'
        rw [if_neg b5] at h1'
        obtain ⟨y, z, s', rfl, y1, y2, y3, y4, b6, b7⟩ := t1_two h1o (by omega) b4 b5 h7
        have c4 : (s'.length : Int) + 2 ≤ 100 := by simp at hl7; omega
        have hE : e1 (ptC f a l t gv) (ogC gv) c (y :: z :: s') = jn c z y :: s' := by unfold e1; rw [if_neg b1, if_neg b2, if_neg b3, if_neg b4, if_neg b5]
        rw [hE] at go
        have z5 : g 35 (s'.length : Int) = z := h5.2.1
        have z6 : g 35 ((s'.length : Int) + 1) = y := by have := h5.1; simp only [List.length_cons, Int.natCast_add] at this; exact this
        have htt : c = 10 ∨ c = 11 → (z = 0 ∨ z = 1) ∧ (y = 0 ∨ y = 1) := t1_lg h1o h7
        have b8 : (aw_cl (d + 2) 69 [(0, cst c)] g (fun v f1 => v = (0, 0) ∧ f1 = g)) ∧ ¬ cst c < 10000 ∧ ¬ cst c = 10024 ∧ ¬ cst c = 10008 := by
          obtain rfl | rfl | rfl | rfl | rfl | rfl | rfl | rfl | rfl | rfl | rfl : c = 1 ∨ c = 2 ∨ c = 3 ∨ c = 4 ∨ c = 5 ∨ c = 6 ∨ c = 7 ∨ c = 8 ∨ c = 9 ∨ c = 10 ∨ c = 11 := by omega
          all_goals simp (disch := omega) [q69, r69_0, r69_1, r69_4, r69_5, r69_100, r69_101, r69_102, r69_103, cs_nil, cs_cons, lc_lt, lc_ge, lc_gt, lc_le, lc_eq, cst, am_wid2]
        have b9 : ∀ Q' : am_V → am_F → Prop, aw_cl (d + 2) 69 [(0, cst c)] g Q' = Q' (0, 0) g := fun Q' => aw_det b8.1
        have b10 : 10000 ≤ cst c := by omega
        have c6 : (s'.length : Int) + 1 + 1 + -1 = s'.length + 1 := by omega
        have c7 : ¬ ((s'.length : Int) + 1 + 1 < 2) ∧ (2 ≤ (s'.length : Int) + 1 + 1) ∧ (s'.length : Int) < 100 ∧ (s'.length : Int) + 1 < 100 ∧ (0 : Int) ≤ (s'.length : Int) + 1 := by omega
        simp (disch := omega) [q68, r68_0, r68_1, r68_3, r68_4, r68_7, r68_8, r68_9, r68_11, r68_12, r68_15, r68_16, r68_17, r68_21, r68_23, r68_26, r68_27, r68_30, r68_32, r68_33, r68_35, r68_37, r68_40, r68_43, r68_45, r68_48, r68_51, r68_53, r68_55, r68_58, r68_59, r68_60, r68_61, r68_64, r68_66, r68_69, r68_71, r68_74, r68_77, r68_79, r68_82, r68_84, r68_87, r68_88, r68_89, r68_91, r68_93, r68_96, r68_97, r68_100, r68_102, r68_105, r68_108, r68_110, r68_113, r68_116, r68_118, r68_119, r68_122, r68_123, r68_124, r68_125, r68_128, r68_130, r68_131, r68_132, r68_134, r68_135, r68_138, r68_140, r68_141, r68_142, r68_143, r68_145, r68_148, r68_149, r68_152, r68_154, r68_155, r68_158, r68_159, r68_160, r68_163, r68_164, r68_167, r68_169, r68_170, r68_171, r68_173, r68_174, r68_177, r68_179, r68_180, r68_181, r68_182, r68_183, r68_186, r68_188, r68_189, r68_192, r68_193, r68_196, r68_199, r68_201, r68_204, r68_205, r68_208, r68_210, r68_211, r68_212, r68_213, r68_216, r68_217, cs_nil, cs_cons, lc_lt, lc_ge, lc_gt, lc_le, lc_eq, hR, ln_35, am_wid2, z0, z1, c2, c3, z2, z5, z6, h2, b8.2, b9, b10, c6, c7, c_join y3 y4 y1 y2 ⟨b6, b7⟩ htt]
        refine go _ _ _ ?_ ?_ ?_
        · simp
        · intro a j hh2
          rw [am_un (by omega)]
          exact hF a j hh2
        · exact pl_push h5.2.2
  have fin := key cs0 k0 f [] [] (2, 0) rfl hk (fun _ _ _ => rfl) hc trivial trivial hty (by simp) rfl
  have c8 : 0 ≤ sA + 1 ∧ 0 ≤ sA + 2 := by omega
  simpa (disch := omega) [q68, r68_0, r68_1, r68_3, r68_4, r68_7, r68_8, r68_9, r68_11, r68_12, r68_15, r68_16, r68_17, r68_21, r68_23, r68_26, r68_27, r68_30, r68_32, r68_33, r68_35, r68_37, r68_40, r68_43, r68_45, r68_48, r68_51, r68_53, r68_55, r68_58, r68_59, r68_60, r68_61, r68_64, r68_66, r68_69, r68_71, r68_74, r68_77, r68_79, r68_82, r68_84, r68_87, r68_88, r68_89, r68_91, r68_93, r68_96, r68_97, r68_100, r68_102, r68_105, r68_108, r68_110, r68_113, r68_116, r68_118, r68_119, r68_122, r68_123, r68_124, r68_125, r68_128, r68_130, r68_131, r68_132, r68_134, r68_135, r68_138, r68_140, r68_141, r68_142, r68_143, r68_145, r68_148, r68_149, r68_152, r68_154, r68_155, r68_158, r68_159, r68_160, r68_163, r68_164, r68_167, r68_169, r68_170, r68_171, r68_173, r68_174, r68_177, r68_179, r68_180, r68_181, r68_182, r68_183, r68_186, r68_188, r68_189, r68_192, r68_193, r68_196, r68_199, r68_201, r68_204, r68_205, r68_208, r68_210, r68_211, r68_212, r68_213, r68_216, r68_217, cs_nil, cs_cons, lc_lt, lc_ge, lc_gt, lc_le, lc_eq, hR, hu, hk0, he, c8] using fin
