/-! what the tables say of a method, and of a call -/
abbrev am_Q : Type := MethodName × ByteArray × Nat × Option FieldType × Nat × List Nat × Nat × Nat × Nat × Nat × Nat × Nat
def am_rtc (r : Option FieldType) (rt : Nat) : Bool := match r with
  | none => rt == 3
  | some .int => rt == 0
  | some .long => rt == 1
  | some .boolean => rt == 4
  | _ => false
def am_mc (q : am_Q) : Bool := decide (am_on[q.2.2.2.2.1]? = some q.1.cls) && am_rtc q.2.2.2.1 q.2.2.2.2.2.2.1 && decide (lw_tbl[q.2.2.2.2.2.2.2.2.2.2.2]? = some (Cond.initialized q.1.cls)) && (match q.2.2.2.2.2.2.2.1 with
    | 0 => decide (lw_tbl[q.2.2.2.2.2.2.2.2.2.1]? = some (Cond.static q.1)) && decide ((parseMethodDescriptor q.1.desc).map (fun d => d.parameters.length) = some q.2.2.2.2.2.1.length)
    | 1 => decide (lw_tbl[q.2.2.2.2.2.2.2.2.2.1]? = some (Cond.instanceMethod q.1)) && decide (lw_tbl[q.2.2.2.2.2.2.2.2.2.2.1]? = some (Cond.selects q.1.cls q.1 q.1)) && decide ((parseMethodDescriptor q.1.desc).map (fun d => d.parameters.length + 1) = some q.2.2.2.2.2.1.length) && decide (q.2.2.2.2.2.1.head? = some (100 + q.2.2.2.2.1)) && decide (q.2.2.2.2.1 < 11)
    | _ => decide (lw_tbl[q.2.2.2.2.2.2.2.2.2.1]? = some (Cond.instanceMethod q.1)) && decide (q.1.name = "<init>") && decide ((parseMethodDescriptor q.1.desc).map (fun d => d.parameters.length + 1) = some q.2.2.2.2.2.1.length) && decide (q.2.2.2.2.2.1.head? = some (100 + q.2.2.2.2.1)) && decide (q.2.2.2.1 = none) && decide (q.2.2.2.2.1 < 11)) && plainFor q.1 && decide (q.1.cls ≠ "java/lang/invoke/MethodHandle" ∧ q.1.cls ≠ "java/lang/invoke/VarHandle") && decide (q.2.2.1 ≤ 20) && q.2.2.2.2.2.1.all (fun t => decide (t < 2) || decide (20 ≤ t)) && decide ((q.2.2.2.2.2.1.map fun t => if t = 1 then 2 else 1).sum ≤ q.2.2.1)
theorem am_a2 {α : Type} {f : α → Bool} {a : α} {l : List α} (h : f a = true) (h2 : l.all f = true) : (a :: l).all f = true := by
  rw [List.all_cons, h, h2]; rfl
set_option maxRecDepth 100000 in
theorem am_mc_0 : am_mc am_m0 = true := by decide +kernel
set_option maxRecDepth 100000 in
theorem am_mc_1 : am_mc am_m1 = true := by decide +kernel
set_option maxRecDepth 100000 in
theorem am_mc_2 : am_mc am_m2 = true := by decide +kernel
set_option maxRecDepth 100000 in
theorem am_mc_3 : am_mc am_m3 = true := by decide +kernel
set_option maxRecDepth 100000 in
theorem am_mc_4 : am_mc am_m4 = true := by decide +kernel
set_option maxRecDepth 100000 in
theorem am_mc_5 : am_mc am_m5 = true := by decide +kernel
set_option maxRecDepth 100000 in
theorem am_mc_6 : am_mc am_m6 = true := by decide +kernel
set_option maxRecDepth 100000 in
theorem am_mc_7 : am_mc am_m7 = true := by decide +kernel
set_option maxRecDepth 100000 in
theorem am_mc_8 : am_mc am_m8 = true := by decide +kernel
set_option maxRecDepth 100000 in
theorem am_mc_9 : am_mc am_m9 = true := by decide +kernel
set_option maxRecDepth 100000 in
theorem am_mc_10 : am_mc am_m10 = true := by decide +kernel
set_option maxRecDepth 100000 in
theorem am_mc_11 : am_mc am_m11 = true := by decide +kernel
set_option maxRecDepth 100000 in
theorem am_mc_12 : am_mc am_m12 = true := by decide +kernel
set_option maxRecDepth 100000 in
theorem am_mc_13 : am_mc am_m13 = true := by decide +kernel
set_option maxRecDepth 100000 in
theorem am_mc_14 : am_mc am_m14 = true := by decide +kernel
set_option maxRecDepth 100000 in
theorem am_mc_15 : am_mc am_m15 = true := by decide +kernel
set_option maxRecDepth 100000 in
theorem am_mc_16 : am_mc am_m16 = true := by decide +kernel
set_option maxRecDepth 100000 in
theorem am_mc_17 : am_mc am_m17 = true := by decide +kernel
set_option maxRecDepth 100000 in
theorem am_mc_18 : am_mc am_m18 = true := by decide +kernel
set_option maxRecDepth 100000 in
theorem am_mc_19 : am_mc am_m19 = true := by decide +kernel
set_option maxRecDepth 100000 in
theorem am_mc_20 : am_mc am_m20 = true := by decide +kernel
set_option maxRecDepth 100000 in
theorem am_mc_21 : am_mc am_m21 = true := by decide +kernel
set_option maxRecDepth 100000 in
theorem am_mc_22 : am_mc am_m22 = true := by decide +kernel
set_option maxRecDepth 100000 in
theorem am_mc_23 : am_mc am_m23 = true := by decide +kernel
set_option maxRecDepth 100000 in
theorem am_mc_24 : am_mc am_m24 = true := by decide +kernel
set_option maxRecDepth 100000 in
theorem am_mc_25 : am_mc am_m25 = true := by decide +kernel
set_option maxRecDepth 100000 in
theorem am_mc_26 : am_mc am_m26 = true := by decide +kernel
set_option maxRecDepth 100000 in
theorem am_mc_27 : am_mc am_m27 = true := by decide +kernel
set_option maxRecDepth 100000 in
theorem am_mc_28 : am_mc am_m28 = true := by decide +kernel
set_option maxRecDepth 100000 in
theorem am_mc_29 : am_mc am_m29 = true := by decide +kernel
set_option maxRecDepth 100000 in
theorem am_mc_30 : am_mc am_m30 = true := by decide +kernel
set_option maxRecDepth 100000 in
theorem am_mc_31 : am_mc am_m31 = true := by decide +kernel
set_option maxRecDepth 100000 in
theorem am_mc_32 : am_mc am_m32 = true := by decide +kernel
set_option maxRecDepth 100000 in
theorem am_mc_33 : am_mc am_m33 = true := by decide +kernel
set_option maxRecDepth 100000 in
theorem am_mc_34 : am_mc am_m34 = true := by decide +kernel
set_option maxRecDepth 100000 in
theorem am_mc_35 : am_mc am_m35 = true := by decide +kernel
set_option maxRecDepth 100000 in
theorem am_mc_36 : am_mc am_m36 = true := by decide +kernel
set_option maxRecDepth 100000 in
theorem am_mc_37 : am_mc am_m37 = true := by decide +kernel
set_option maxRecDepth 100000 in
theorem am_mc_38 : am_mc am_m38 = true := by decide +kernel
set_option maxRecDepth 100000 in
theorem am_mc_39 : am_mc am_m39 = true := by decide +kernel
set_option maxRecDepth 100000 in
theorem am_mc_40 : am_mc am_m40 = true := by decide +kernel
set_option maxRecDepth 100000 in
theorem am_mc_41 : am_mc am_m41 = true := by decide +kernel
set_option maxRecDepth 100000 in
theorem am_mc_42 : am_mc am_m42 = true := by decide +kernel
set_option maxRecDepth 100000 in
theorem am_mc_43 : am_mc am_m43 = true := by decide +kernel
set_option maxRecDepth 100000 in
theorem am_mc_44 : am_mc am_m44 = true := by decide +kernel
set_option maxRecDepth 100000 in
theorem am_mc_45 : am_mc am_m45 = true := by decide +kernel
set_option maxRecDepth 100000 in
theorem am_mc_46 : am_mc am_m46 = true := by decide +kernel
set_option maxRecDepth 100000 in
theorem am_mc_47 : am_mc am_m47 = true := by decide +kernel
set_option maxRecDepth 100000 in
theorem am_mc_48 : am_mc am_m48 = true := by decide +kernel
set_option maxRecDepth 100000 in
theorem am_mc_49 : am_mc am_m49 = true := by decide +kernel
set_option maxRecDepth 100000 in
theorem am_mc_50 : am_mc am_m50 = true := by decide +kernel
set_option maxRecDepth 100000 in
theorem am_mc_51 : am_mc am_m51 = true := by decide +kernel
set_option maxRecDepth 100000 in
theorem am_mc_52 : am_mc am_m52 = true := by decide +kernel
set_option maxRecDepth 100000 in
theorem am_mc_53 : am_mc am_m53 = true := by decide +kernel
set_option maxRecDepth 100000 in
theorem am_mc_54 : am_mc am_m54 = true := by decide +kernel
set_option maxRecDepth 100000 in
theorem am_mc_55 : am_mc am_m55 = true := by decide +kernel
set_option maxRecDepth 100000 in
theorem am_mc_56 : am_mc am_m56 = true := by decide +kernel
set_option maxRecDepth 100000 in
theorem am_mc_57 : am_mc am_m57 = true := by decide +kernel
set_option maxRecDepth 100000 in
theorem am_mc_58 : am_mc am_m58 = true := by decide +kernel
set_option maxRecDepth 100000 in
theorem am_mc_59 : am_mc am_m59 = true := by decide +kernel
set_option maxRecDepth 100000 in
theorem am_mc_60 : am_mc am_m60 = true := by decide +kernel
set_option maxRecDepth 100000 in
theorem am_mc_61 : am_mc am_m61 = true := by decide +kernel
set_option maxRecDepth 100000 in
theorem am_mc_62 : am_mc am_m62 = true := by decide +kernel
set_option maxRecDepth 100000 in
theorem am_mc_63 : am_mc am_m63 = true := by decide +kernel
set_option maxRecDepth 100000 in
theorem am_mc_64 : am_mc am_m64 = true := by decide +kernel
set_option maxRecDepth 100000 in
theorem am_mc_65 : am_mc am_m65 = true := by decide +kernel
set_option maxRecDepth 100000 in
theorem am_mc_66 : am_mc am_m66 = true := by decide +kernel
set_option maxRecDepth 100000 in
theorem am_mc_67 : am_mc am_m67 = true := by decide +kernel
set_option maxRecDepth 100000 in
theorem am_mc_68 : am_mc am_m68 = true := by decide +kernel
set_option maxRecDepth 100000 in
theorem am_mc_69 : am_mc am_m69 = true := by decide +kernel
set_option maxRecDepth 100000 in
theorem am_mc_70 : am_mc am_m70 = true := by decide +kernel
set_option maxRecDepth 100000 in
theorem am_mc_71 : am_mc am_m71 = true := by decide +kernel
set_option maxRecDepth 100000 in
theorem am_mc_72 : am_mc am_m72 = true := by decide +kernel
set_option maxRecDepth 100000 in
theorem am_mc_73 : am_mc am_m73 = true := by decide +kernel
set_option maxRecDepth 100000 in
theorem am_mc_74 : am_mc am_m74 = true := by decide +kernel
set_option maxRecDepth 100000 in
theorem am_mc_75 : am_mc am_m75 = true := by decide +kernel
set_option maxRecDepth 100000 in
theorem am_mc_76 : am_mc am_m76 = true := by decide +kernel
set_option maxRecDepth 100000 in
theorem am_mc_77 : am_mc am_m77 = true := by decide +kernel
set_option maxRecDepth 100000 in
theorem am_mc_78 : am_mc am_m78 = true := by decide +kernel
set_option maxRecDepth 100000 in
theorem am_mc_79 : am_mc am_m79 = true := by decide +kernel
set_option maxRecDepth 100000 in
theorem am_mc_80 : am_mc am_m80 = true := by decide +kernel
set_option maxRecDepth 100000 in
theorem am_mc_81 : am_mc am_m81 = true := by decide +kernel
set_option maxRecDepth 100000 in
theorem am_mc_82 : am_mc am_m82 = true := by decide +kernel
set_option maxRecDepth 100000 in
theorem am_mc_83 : am_mc am_m83 = true := by decide +kernel
set_option maxRecDepth 100000 in
theorem am_mc_84 : am_mc am_m84 = true := by decide +kernel
set_option maxRecDepth 100000 in
theorem am_mc_85 : am_mc am_m85 = true := by decide +kernel
set_option maxRecDepth 100000 in
theorem am_mc_86 : am_mc am_m86 = true := by decide +kernel
set_option maxRecDepth 100000 in
theorem am_mc_87 : am_mc am_m87 = true := by decide +kernel
set_option maxRecDepth 100000 in
theorem am_mc_88 : am_mc am_m88 = true := by decide +kernel
set_option maxRecDepth 100000 in
theorem am_mc_89 : am_mc am_m89 = true := by decide +kernel
set_option maxRecDepth 100000 in
theorem am_mc_90 : am_mc am_m90 = true := by decide +kernel
set_option maxRecDepth 100000 in
theorem am_mc_91 : am_mc am_m91 = true := by decide +kernel
set_option maxRecDepth 100000 in
theorem am_mc_92 : am_mc am_m92 = true := by decide +kernel
set_option maxRecDepth 100000 in
theorem am_mc_93 : am_mc am_m93 = true := by decide +kernel
set_option maxRecDepth 100000 in
theorem am_mc_94 : am_mc am_m94 = true := by decide +kernel
set_option maxRecDepth 100000 in
theorem am_mc_95 : am_mc am_m95 = true := by decide +kernel
set_option maxRecDepth 100000 in
theorem am_mc_96 : am_mc am_m96 = true := by decide +kernel
set_option maxRecDepth 100000 in
theorem am_mc_97 : am_mc am_m97 = true := by decide +kernel
set_option maxRecDepth 100000 in
theorem am_mc_98 : am_mc am_m98 = true := by decide +kernel
set_option maxRecDepth 100000 in
theorem am_mc_99 : am_mc am_m99 = true := by decide +kernel
set_option maxRecDepth 100000 in
theorem am_mc_100 : am_mc am_m100 = true := by decide +kernel
set_option maxRecDepth 100000 in
theorem am_mc_101 : am_mc am_m101 = true := by decide +kernel
set_option maxRecDepth 100000 in
theorem am_mc_102 : am_mc am_m102 = true := by decide +kernel
set_option maxRecDepth 100000 in
theorem am_mc_103 : am_mc am_m103 = true := by decide +kernel
set_option maxRecDepth 100000 in
theorem am_mc_104 : am_mc am_m104 = true := by decide +kernel
set_option maxRecDepth 100000 in
theorem am_mc_105 : am_mc am_m105 = true := by decide +kernel
set_option maxRecDepth 100000 in
theorem am_mc_106 : am_mc am_m106 = true := by decide +kernel
set_option maxRecDepth 100000 in
theorem am_mc_107 : am_mc am_m107 = true := by decide +kernel
set_option maxRecDepth 100000 in
theorem am_mc_108 : am_mc am_m108 = true := by decide +kernel
set_option maxRecDepth 100000 in
theorem am_mc_109 : am_mc am_m109 = true := by decide +kernel
set_option maxRecDepth 100000 in
theorem am_mc_110 : am_mc am_m110 = true := by decide +kernel
set_option maxRecDepth 100000 in
theorem am_mc_111 : am_mc am_m111 = true := by decide +kernel
set_option maxRecDepth 100000 in
theorem am_mc_112 : am_mc am_m112 = true := by decide +kernel
set_option maxRecDepth 100000 in
theorem am_mc_113 : am_mc am_m113 = true := by decide +kernel
set_option maxRecDepth 100000 in
theorem am_mc_114 : am_mc am_m114 = true := by decide +kernel
set_option maxRecDepth 100000 in
theorem am_mc_115 : am_mc am_m115 = true := by decide +kernel
set_option maxRecDepth 100000 in
theorem am_mc_116 : am_mc am_m116 = true := by decide +kernel
set_option maxRecDepth 100000 in
theorem am_mc_117 : am_mc am_m117 = true := by decide +kernel
set_option maxRecDepth 100000 in
theorem am_mc_118 : am_mc am_m118 = true := by decide +kernel
set_option maxRecDepth 100000 in
theorem am_mc_119 : am_mc am_m119 = true := by decide +kernel
set_option maxRecDepth 100000 in
theorem am_mc_120 : am_mc am_m120 = true := by decide +kernel
set_option maxRecDepth 100000 in
theorem am_mc_121 : am_mc am_m121 = true := by decide +kernel
set_option maxRecDepth 100000 in
theorem am_mc_122 : am_mc am_m122 = true := by decide +kernel
set_option maxRecDepth 100000 in
theorem am_mc_123 : am_mc am_m123 = true := by decide +kernel
set_option maxRecDepth 100000 in
theorem am_mc_124 : am_mc am_m124 = true := by decide +kernel
set_option maxRecDepth 100000 in
theorem am_mc_125 : am_mc am_m125 = true := by decide +kernel
set_option maxRecDepth 100000 in
theorem am_mc_126 : am_mc am_m126 = true := by decide +kernel
set_option maxRecDepth 100000 in
theorem am_mc_127 : am_mc am_m127 = true := by decide +kernel
set_option maxRecDepth 100000 in
theorem am_mc_128 : am_mc am_m128 = true := by decide +kernel
set_option maxRecDepth 100000 in
theorem am_mc_129 : am_mc am_m129 = true := by decide +kernel
set_option maxRecDepth 100000 in
theorem am_mc_130 : am_mc am_m130 = true := by decide +kernel
set_option maxRecDepth 100000 in
theorem am_mc_131 : am_mc am_m131 = true := by decide +kernel
set_option maxRecDepth 100000 in
theorem am_mc_132 : am_mc am_m132 = true := by decide +kernel
set_option maxRecDepth 100000 in
theorem am_mc_133 : am_mc am_m133 = true := by decide +kernel
set_option maxRecDepth 100000 in
theorem am_mc_134 : am_mc am_m134 = true := by decide +kernel
set_option maxRecDepth 100000 in
theorem am_mc_135 : am_mc am_m135 = true := by decide +kernel
set_option maxRecDepth 100000 in
theorem am_mc_136 : am_mc am_m136 = true := by decide +kernel
set_option maxRecDepth 100000 in
theorem am_mc_137 : am_mc am_m137 = true := by decide +kernel
set_option maxRecDepth 100000 in
theorem am_mc_138 : am_mc am_m138 = true := by decide +kernel
set_option maxRecDepth 100000 in
theorem am_mc_139 : am_mc am_m139 = true := by decide +kernel
set_option maxRecDepth 100000 in
theorem am_mc_140 : am_mc am_m140 = true := by decide +kernel
set_option maxRecDepth 100000 in
theorem am_mc_141 : am_mc am_m141 = true := by decide +kernel
set_option maxRecDepth 100000 in
theorem am_mc_142 : am_mc am_m142 = true := by decide +kernel
set_option maxRecDepth 100000 in
theorem am_mc_143 : am_mc am_m143 = true := by decide +kernel
set_option maxRecDepth 100000 in
theorem am_mc_144 : am_mc am_m144 = true := by decide +kernel
set_option maxRecDepth 100000 in
theorem am_mc_145 : am_mc am_m145 = true := by decide +kernel
set_option maxRecDepth 100000 in
theorem am_mc_146 : am_mc am_m146 = true := by decide +kernel
set_option maxRecDepth 100000 in
theorem am_mc_147 : am_mc am_m147 = true := by decide +kernel
set_option maxRecDepth 100000 in
theorem am_mc_148 : am_mc am_m148 = true := by decide +kernel
set_option maxRecDepth 100000 in
theorem am_mc_149 : am_mc am_m149 = true := by decide +kernel
set_option maxRecDepth 100000 in
theorem am_mc_150 : am_mc am_m150 = true := by decide +kernel
set_option maxRecDepth 100000 in
theorem am_mc_151 : am_mc am_m151 = true := by decide +kernel
set_option maxRecDepth 100000 in
theorem am_mc_152 : am_mc am_m152 = true := by decide +kernel
set_option maxRecDepth 100000 in
theorem am_mc_153 : am_mc am_m153 = true := by decide +kernel
set_option maxRecDepth 100000 in
theorem am_mc_154 : am_mc am_m154 = true := by decide +kernel
set_option maxRecDepth 100000 in
theorem am_mc_155 : am_mc am_m155 = true := by decide +kernel
set_option maxRecDepth 100000 in
theorem am_mc_156 : am_mc am_m156 = true := by decide +kernel
set_option maxRecDepth 100000 in
theorem am_mc_157 : am_mc am_m157 = true := by decide +kernel
set_option maxRecDepth 100000 in
theorem am_mc_158 : am_mc am_m158 = true := by decide +kernel
set_option maxRecDepth 100000 in
theorem am_mc_159 : am_mc am_m159 = true := by decide +kernel
set_option maxRecDepth 100000 in
theorem am_mc_160 : am_mc am_m160 = true := by decide +kernel
set_option maxRecDepth 100000 in
theorem am_mc_161 : am_mc am_m161 = true := by decide +kernel
set_option maxRecDepth 100000 in
theorem am_mc_162 : am_mc am_m162 = true := by decide +kernel
set_option maxRecDepth 100000 in
theorem am_mc_163 : am_mc am_m163 = true := by decide +kernel
set_option maxRecDepth 100000 in
theorem am_mc_164 : am_mc am_m164 = true := by decide +kernel
set_option maxRecDepth 100000 in
theorem am_mc_165 : am_mc am_m165 = true := by decide +kernel
set_option maxRecDepth 100000 in
theorem am_mc_166 : am_mc am_m166 = true := by decide +kernel
set_option maxRecDepth 100000 in
theorem am_mc_167 : am_mc am_m167 = true := by decide +kernel
set_option maxRecDepth 100000 in
theorem am_mc_168 : am_mc am_m168 = true := by decide +kernel
set_option maxRecDepth 100000 in
theorem am_mc_169 : am_mc am_m169 = true := by decide +kernel
set_option maxRecDepth 100000 in
theorem am_mc_170 : am_mc am_m170 = true := by decide +kernel
set_option maxRecDepth 100000 in
theorem am_mc_171 : am_mc am_m171 = true := by decide +kernel
set_option maxRecDepth 100000 in
theorem am_mc_172 : am_mc am_m172 = true := by decide +kernel
set_option maxRecDepth 100000 in
theorem am_mc_173 : am_mc am_m173 = true := by decide +kernel
set_option maxRecDepth 100000 in
theorem am_mc_174 : am_mc am_m174 = true := by decide +kernel
set_option maxRecDepth 100000 in
theorem am_mc_175 : am_mc am_m175 = true := by decide +kernel
set_option maxRecDepth 100000 in
theorem am_mc_176 : am_mc am_m176 = true := by decide +kernel
set_option maxRecDepth 100000 in
theorem am_mc_177 : am_mc am_m177 = true := by decide +kernel
set_option maxRecDepth 100000 in
theorem am_mc_178 : am_mc am_m178 = true := by decide +kernel
set_option maxRecDepth 100000 in
theorem am_mc_179 : am_mc am_m179 = true := by decide +kernel
set_option maxRecDepth 100000 in
theorem am_mc_180 : am_mc am_m180 = true := by decide +kernel
set_option maxRecDepth 100000 in
theorem am_mc_181 : am_mc am_m181 = true := by decide +kernel
set_option maxRecDepth 100000 in
theorem am_mc_182 : am_mc am_m182 = true := by decide +kernel
set_option maxRecDepth 100000 in
theorem am_mc_183 : am_mc am_m183 = true := by decide +kernel
set_option maxRecDepth 100000 in
theorem am_mc_184 : am_mc am_m184 = true := by decide +kernel
set_option maxRecDepth 100000 in
theorem am_mc_185 : am_mc am_m185 = true := by decide +kernel
set_option maxRecDepth 100000 in
theorem am_mc_186 : am_mc am_m186 = true := by decide +kernel
set_option maxRecDepth 100000 in
theorem am_mc_187 : am_mc am_m187 = true := by decide +kernel
set_option maxRecDepth 100000 in
theorem am_mc_188 : am_mc am_m188 = true := by decide +kernel
set_option maxRecDepth 100000 in
theorem am_mc_189 : am_mc am_m189 = true := by decide +kernel
set_option maxRecDepth 100000 in
theorem am_mc_190 : am_mc am_m190 = true := by decide +kernel
set_option maxRecDepth 100000 in
theorem am_mc_191 : am_mc am_m191 = true := by decide +kernel
set_option maxRecDepth 100000 in
theorem am_mc_192 : am_mc am_m192 = true := by decide +kernel
set_option maxRecDepth 100000 in
theorem am_mc_193 : am_mc am_m193 = true := by decide +kernel
set_option maxRecDepth 100000 in
theorem am_mc_194 : am_mc am_m194 = true := by decide +kernel
set_option maxRecDepth 100000 in
theorem am_mc_195 : am_mc am_m195 = true := by decide +kernel
set_option maxRecDepth 100000 in
theorem am_mc_196 : am_mc am_m196 = true := by decide +kernel
set_option maxRecDepth 100000 in
theorem am_mc_197 : am_mc am_m197 = true := by decide +kernel
set_option maxRecDepth 100000 in
theorem am_mc_198 : am_mc am_m198 = true := by decide +kernel
set_option maxRecDepth 100000 in
theorem am_mc_199 : am_mc am_m199 = true := by decide +kernel
set_option maxRecDepth 100000 in
theorem am_mc_200 : am_mc am_m200 = true := by decide +kernel
set_option maxRecDepth 100000 in
theorem am_mc_201 : am_mc am_m201 = true := by decide +kernel
set_option maxRecDepth 100000 in
theorem am_mc_202 : am_mc am_m202 = true := by decide +kernel
set_option maxRecDepth 100000 in
theorem am_mc_203 : am_mc am_m203 = true := by decide +kernel
set_option maxRecDepth 100000 in
theorem am_mc_204 : am_mc am_m204 = true := by decide +kernel
set_option maxRecDepth 100000 in
theorem am_mc_205 : am_mc am_m205 = true := by decide +kernel
set_option maxRecDepth 100000 in
theorem am_mc_206 : am_mc am_m206 = true := by decide +kernel
set_option maxRecDepth 100000 in
theorem am_mc_207 : am_mc am_m207 = true := by decide +kernel
set_option maxRecDepth 100000 in
theorem am_mc_208 : am_mc am_m208 = true := by decide +kernel
set_option maxRecDepth 100000 in
theorem am_mc_209 : am_mc am_m209 = true := by decide +kernel
set_option maxRecDepth 100000 in
theorem am_mc_210 : am_mc am_m210 = true := by decide +kernel
set_option maxRecDepth 100000 in
theorem am_mc_211 : am_mc am_m211 = true := by decide +kernel
set_option maxRecDepth 100000 in
theorem am_mc_212 : am_mc am_m212 = true := by decide +kernel
set_option maxRecDepth 100000 in
theorem am_mc_213 : am_mc am_m213 = true := by decide +kernel
set_option maxRecDepth 100000 in
theorem am_mc_214 : am_mc am_m214 = true := by decide +kernel
set_option maxRecDepth 100000 in
theorem am_mc_215 : am_mc am_m215 = true := by decide +kernel
set_option maxRecDepth 100000 in
theorem am_mc_216 : am_mc am_m216 = true := by decide +kernel
set_option maxRecDepth 100000 in
theorem am_mc_217 : am_mc am_m217 = true := by decide +kernel
set_option maxRecDepth 100000 in
theorem am_mc_218 : am_mc am_m218 = true := by decide +kernel
set_option maxRecDepth 100000 in
theorem am_mc_219 : am_mc am_m219 = true := by decide +kernel
set_option maxRecDepth 100000 in
theorem am_mc_220 : am_mc am_m220 = true := by decide +kernel
set_option maxRecDepth 100000 in
theorem am_mc_221 : am_mc am_m221 = true := by decide +kernel
set_option maxRecDepth 100000 in
theorem am_mc_222 : am_mc am_m222 = true := by decide +kernel
set_option maxRecDepth 100000 in
theorem am_mc_223 : am_mc am_m223 = true := by decide +kernel
set_option maxRecDepth 100000 in
theorem am_mc_224 : am_mc am_m224 = true := by decide +kernel
set_option maxRecDepth 100000 in
theorem am_mc_225 : am_mc am_m225 = true := by decide +kernel
set_option maxRecDepth 100000 in
theorem am_mc_226 : am_mc am_m226 = true := by decide +kernel
set_option maxRecDepth 100000 in
theorem am_mc_227 : am_mc am_m227 = true := by decide +kernel
set_option maxRecDepth 100000 in
theorem am_mc_228 : am_mc am_m228 = true := by decide +kernel
set_option maxRecDepth 100000 in
theorem am_mc_229 : am_mc am_m229 = true := by decide +kernel
set_option maxRecDepth 100000 in
theorem am_mc_230 : am_mc am_m230 = true := by decide +kernel
set_option maxRecDepth 100000 in
theorem am_mc_231 : am_mc am_m231 = true := by decide +kernel
set_option maxRecDepth 100000 in
theorem am_mc_232 : am_mc am_m232 = true := by decide +kernel
set_option maxRecDepth 100000 in
theorem am_mc_233 : am_mc am_m233 = true := by decide +kernel
set_option maxRecDepth 100000 in
theorem am_mc_234 : am_mc am_m234 = true := by decide +kernel
set_option maxRecDepth 100000 in
theorem am_mc_235 : am_mc am_m235 = true := by decide +kernel
set_option maxRecDepth 100000 in
theorem am_mc_236 : am_mc am_m236 = true := by decide +kernel
set_option maxRecDepth 100000 in
theorem am_mc_237 : am_mc am_m237 = true := by decide +kernel
set_option maxRecDepth 100000 in
theorem am_mc_238 : am_mc am_m238 = true := by decide +kernel
set_option maxRecDepth 100000 in
theorem am_mc_239 : am_mc am_m239 = true := by decide +kernel
set_option maxRecDepth 100000 in
theorem am_mc_240 : am_mc am_m240 = true := by decide +kernel
set_option maxRecDepth 100000 in
theorem am_mc_241 : am_mc am_m241 = true := by decide +kernel
set_option maxRecDepth 100000 in
theorem am_mc_242 : am_mc am_m242 = true := by decide +kernel
set_option maxRecDepth 100000 in
theorem am_mc_243 : am_mc am_m243 = true := by decide +kernel
set_option maxRecDepth 100000 in
theorem am_mc_244 : am_mc am_m244 = true := by decide +kernel
set_option maxRecDepth 100000 in
theorem am_mc_245 : am_mc am_m245 = true := by decide +kernel
set_option maxRecDepth 100000 in
theorem am_mc_246 : am_mc am_m246 = true := by decide +kernel
set_option maxRecDepth 100000 in
theorem am_mc_247 : am_mc am_m247 = true := by decide +kernel
set_option maxRecDepth 100000 in
theorem am_mc_248 : am_mc am_m248 = true := by decide +kernel
set_option maxRecDepth 100000 in
theorem am_mc_249 : am_mc am_m249 = true := by decide +kernel
set_option maxRecDepth 100000 in
theorem am_mc_250 : am_mc am_m250 = true := by decide +kernel
set_option maxRecDepth 100000 in
theorem am_mc_251 : am_mc am_m251 = true := by decide +kernel
set_option maxRecDepth 100000 in
theorem am_mc_252 : am_mc am_m252 = true := by decide +kernel
set_option maxRecDepth 100000 in
theorem am_mc_253 : am_mc am_m253 = true := by decide +kernel
set_option maxRecDepth 100000 in
theorem am_mc_254 : am_mc am_m254 = true := by decide +kernel
set_option maxRecDepth 100000 in
theorem am_mc_255 : am_mc am_m255 = true := by decide +kernel
set_option maxRecDepth 100000 in
theorem am_mc_256 : am_mc am_m256 = true := by decide +kernel
set_option maxRecDepth 100000 in
theorem am_mc_257 : am_mc am_m257 = true := by decide +kernel
set_option maxRecDepth 100000 in
theorem am_mc_258 : am_mc am_m258 = true := by decide +kernel
set_option maxRecDepth 100000 in
theorem am_mc_259 : am_mc am_m259 = true := by decide +kernel
set_option maxRecDepth 100000 in
theorem am_mc_260 : am_mc am_m260 = true := by decide +kernel
set_option maxRecDepth 100000 in
theorem am_mc_261 : am_mc am_m261 = true := by decide +kernel
set_option maxRecDepth 100000 in
theorem am_mc_262 : am_mc am_m262 = true := by decide +kernel
set_option maxRecDepth 100000 in
theorem am_mc_263 : am_mc am_m263 = true := by decide +kernel
set_option maxRecDepth 100000 in
theorem am_mc_264 : am_mc am_m264 = true := by decide +kernel
set_option maxRecDepth 100000 in
theorem am_mc_265 : am_mc am_m265 = true := by decide +kernel
set_option maxRecDepth 100000 in
theorem am_mc_266 : am_mc am_m266 = true := by decide +kernel
set_option maxRecDepth 100000 in
theorem am_mc_267 : am_mc am_m267 = true := by decide +kernel
set_option maxRecDepth 100000 in
theorem am_mc_268 : am_mc am_m268 = true := by decide +kernel
set_option maxRecDepth 100000 in
theorem am_mc_269 : am_mc am_m269 = true := by decide +kernel
set_option maxRecDepth 100000 in
theorem am_mc_270 : am_mc am_m270 = true := by decide +kernel
set_option maxRecDepth 100000 in
theorem am_mc_271 : am_mc am_m271 = true := by decide +kernel
set_option maxRecDepth 100000 in
theorem am_mc_272 : am_mc am_m272 = true := by decide +kernel
set_option maxRecDepth 100000 in
theorem am_mc_273 : am_mc am_m273 = true := by decide +kernel
set_option maxRecDepth 100000 in
theorem am_mc_274 : am_mc am_m274 = true := by decide +kernel
set_option maxRecDepth 100000 in
theorem am_mc_275 : am_mc am_m275 = true := by decide +kernel
set_option maxRecDepth 100000 in
theorem am_mc_276 : am_mc am_m276 = true := by decide +kernel
set_option maxRecDepth 100000 in
theorem am_mc_277 : am_mc am_m277 = true := by decide +kernel
set_option maxRecDepth 100000 in
theorem am_mc_278 : am_mc am_m278 = true := by decide +kernel
set_option maxRecDepth 100000 in
theorem am_mc_279 : am_mc am_m279 = true := by decide +kernel
set_option maxRecDepth 100000 in
theorem am_mc_280 : am_mc am_m280 = true := by decide +kernel
set_option maxRecDepth 100000 in
theorem am_mc_281 : am_mc am_m281 = true := by decide +kernel
set_option maxRecDepth 100000 in
theorem am_mc_282 : am_mc am_m282 = true := by decide +kernel
set_option maxRecDepth 100000 in
theorem am_mc_283 : am_mc am_m283 = true := by decide +kernel
set_option maxRecDepth 100000 in
theorem am_mc_284 : am_mc am_m284 = true := by decide +kernel
set_option maxRecDepth 100000 in
theorem am_mc_285 : am_mc am_m285 = true := by decide +kernel
set_option maxRecDepth 100000 in
theorem am_mc_286 : am_mc am_m286 = true := by decide +kernel
set_option maxRecDepth 100000 in
theorem am_mc_287 : am_mc am_m287 = true := by decide +kernel
set_option maxRecDepth 100000 in
theorem am_mc_288 : am_mc am_m288 = true := by decide +kernel
set_option maxRecDepth 100000 in
theorem am_mc_289 : am_mc am_m289 = true := by decide +kernel
set_option maxRecDepth 100000 in
theorem am_mc_290 : am_mc am_m290 = true := by decide +kernel
set_option maxRecDepth 100000 in
theorem am_mc_291 : am_mc am_m291 = true := by decide +kernel
set_option maxRecDepth 100000 in
theorem am_mc_292 : am_mc am_m292 = true := by decide +kernel
set_option maxRecDepth 100000 in
theorem am_mc_293 : am_mc am_m293 = true := by decide +kernel
set_option maxRecDepth 100000 in
theorem am_mc_294 : am_mc am_m294 = true := by decide +kernel
set_option maxRecDepth 100000 in
theorem am_mc_295 : am_mc am_m295 = true := by decide +kernel
theorem am_mcl0 : am_ML0.all am_mc = true := am_a2 am_mc_0 (am_a2 am_mc_1 (am_a2 am_mc_2 (am_a2 am_mc_3 (am_a2 am_mc_4 (am_a2 am_mc_5 (am_a2 am_mc_6 (am_a2 am_mc_7 (am_a2 am_mc_8 (am_a2 am_mc_9 (am_a2 am_mc_10 (am_a2 am_mc_11 (am_a2 am_mc_12 (am_a2 am_mc_13 (am_a2 am_mc_14 (am_a2 am_mc_15 (am_a2 am_mc_16 (am_a2 am_mc_17 (am_a2 am_mc_18 (am_a2 am_mc_19 (am_a2 am_mc_20 (am_a2 am_mc_21 (am_a2 am_mc_22 (am_a2 am_mc_23 (am_a2 am_mc_24 (am_a2 am_mc_25 (am_a2 am_mc_26 (am_a2 am_mc_27 (am_a2 am_mc_28 (am_a2 am_mc_29 (am_a2 am_mc_30 (am_a2 am_mc_31 (am_a2 am_mc_32 (am_a2 am_mc_33 (am_a2 am_mc_34 (am_a2 am_mc_35 (am_a2 am_mc_36 (am_a2 am_mc_37 (am_a2 am_mc_38 (am_a2 am_mc_39 (rfl))))))))))))))))))))))))))))))))))))))))
theorem am_mcl1 : am_ML1.all am_mc = true := am_a2 am_mc_40 (am_a2 am_mc_41 (am_a2 am_mc_42 (am_a2 am_mc_43 (am_a2 am_mc_44 (am_a2 am_mc_45 (am_a2 am_mc_46 (am_a2 am_mc_47 (am_a2 am_mc_48 (am_a2 am_mc_49 (am_a2 am_mc_50 (am_a2 am_mc_51 (am_a2 am_mc_52 (am_a2 am_mc_53 (am_a2 am_mc_54 (am_a2 am_mc_55 (am_a2 am_mc_56 (am_a2 am_mc_57 (am_a2 am_mc_58 (am_a2 am_mc_59 (am_a2 am_mc_60 (am_a2 am_mc_61 (am_a2 am_mc_62 (am_a2 am_mc_63 (am_a2 am_mc_64 (am_a2 am_mc_65 (am_a2 am_mc_66 (am_a2 am_mc_67 (am_a2 am_mc_68 (am_a2 am_mc_69 (am_a2 am_mc_70 (am_a2 am_mc_71 (am_a2 am_mc_72 (am_a2 am_mc_73 (am_a2 am_mc_74 (am_a2 am_mc_75 (am_a2 am_mc_76 (am_a2 am_mc_77 (am_a2 am_mc_78 (am_a2 am_mc_79 (rfl))))))))))))))))))))))))))))))))))))))))
theorem am_mcl2 : am_ML2.all am_mc = true := am_a2 am_mc_80 (am_a2 am_mc_81 (am_a2 am_mc_82 (am_a2 am_mc_83 (am_a2 am_mc_84 (am_a2 am_mc_85 (am_a2 am_mc_86 (am_a2 am_mc_87 (am_a2 am_mc_88 (am_a2 am_mc_89 (am_a2 am_mc_90 (am_a2 am_mc_91 (am_a2 am_mc_92 (am_a2 am_mc_93 (am_a2 am_mc_94 (am_a2 am_mc_95 (am_a2 am_mc_96 (am_a2 am_mc_97 (am_a2 am_mc_98 (am_a2 am_mc_99 (am_a2 am_mc_100 (am_a2 am_mc_101 (am_a2 am_mc_102 (am_a2 am_mc_103 (am_a2 am_mc_104 (am_a2 am_mc_105 (am_a2 am_mc_106 (am_a2 am_mc_107 (am_a2 am_mc_108 (am_a2 am_mc_109 (am_a2 am_mc_110 (am_a2 am_mc_111 (am_a2 am_mc_112 (am_a2 am_mc_113 (am_a2 am_mc_114 (am_a2 am_mc_115 (am_a2 am_mc_116 (am_a2 am_mc_117 (am_a2 am_mc_118 (am_a2 am_mc_119 (rfl))))))))))))))))))))))))))))))))))))))))
theorem am_mcl3 : am_ML3.all am_mc = true := am_a2 am_mc_120 (am_a2 am_mc_121 (am_a2 am_mc_122 (am_a2 am_mc_123 (am_a2 am_mc_124 (am_a2 am_mc_125 (am_a2 am_mc_126 (am_a2 am_mc_127 (am_a2 am_mc_128 (am_a2 am_mc_129 (am_a2 am_mc_130 (am_a2 am_mc_131 (am_a2 am_mc_132 (am_a2 am_mc_133 (am_a2 am_mc_134 (am_a2 am_mc_135 (am_a2 am_mc_136 (am_a2 am_mc_137 (am_a2 am_mc_138 (am_a2 am_mc_139 (am_a2 am_mc_140 (am_a2 am_mc_141 (am_a2 am_mc_142 (am_a2 am_mc_143 (am_a2 am_mc_144 (am_a2 am_mc_145 (am_a2 am_mc_146 (am_a2 am_mc_147 (am_a2 am_mc_148 (am_a2 am_mc_149 (am_a2 am_mc_150 (am_a2 am_mc_151 (am_a2 am_mc_152 (am_a2 am_mc_153 (am_a2 am_mc_154 (am_a2 am_mc_155 (am_a2 am_mc_156 (am_a2 am_mc_157 (am_a2 am_mc_158 (am_a2 am_mc_159 (rfl))))))))))))))))))))))))))))))))))))))))
theorem am_mcl4 : am_ML4.all am_mc = true := am_a2 am_mc_160 (am_a2 am_mc_161 (am_a2 am_mc_162 (am_a2 am_mc_163 (am_a2 am_mc_164 (am_a2 am_mc_165 (am_a2 am_mc_166 (am_a2 am_mc_167 (am_a2 am_mc_168 (am_a2 am_mc_169 (am_a2 am_mc_170 (am_a2 am_mc_171 (am_a2 am_mc_172 (am_a2 am_mc_173 (am_a2 am_mc_174 (am_a2 am_mc_175 (am_a2 am_mc_176 (am_a2 am_mc_177 (am_a2 am_mc_178 (am_a2 am_mc_179 (am_a2 am_mc_180 (am_a2 am_mc_181 (am_a2 am_mc_182 (am_a2 am_mc_183 (am_a2 am_mc_184 (am_a2 am_mc_185 (am_a2 am_mc_186 (am_a2 am_mc_187 (am_a2 am_mc_188 (am_a2 am_mc_189 (am_a2 am_mc_190 (am_a2 am_mc_191 (am_a2 am_mc_192 (am_a2 am_mc_193 (am_a2 am_mc_194 (am_a2 am_mc_195 (am_a2 am_mc_196 (am_a2 am_mc_197 (am_a2 am_mc_198 (am_a2 am_mc_199 (rfl))))))))))))))))))))))))))))))))))))))))
theorem am_mcl5 : am_ML5.all am_mc = true := am_a2 am_mc_200 (am_a2 am_mc_201 (am_a2 am_mc_202 (am_a2 am_mc_203 (am_a2 am_mc_204 (am_a2 am_mc_205 (am_a2 am_mc_206 (am_a2 am_mc_207 (am_a2 am_mc_208 (am_a2 am_mc_209 (am_a2 am_mc_210 (am_a2 am_mc_211 (am_a2 am_mc_212 (am_a2 am_mc_213 (am_a2 am_mc_214 (am_a2 am_mc_215 (am_a2 am_mc_216 (am_a2 am_mc_217 (am_a2 am_mc_218 (am_a2 am_mc_219 (am_a2 am_mc_220 (am_a2 am_mc_221 (am_a2 am_mc_222 (am_a2 am_mc_223 (am_a2 am_mc_224 (am_a2 am_mc_225 (am_a2 am_mc_226 (am_a2 am_mc_227 (am_a2 am_mc_228 (am_a2 am_mc_229 (am_a2 am_mc_230 (am_a2 am_mc_231 (am_a2 am_mc_232 (am_a2 am_mc_233 (am_a2 am_mc_234 (am_a2 am_mc_235 (am_a2 am_mc_236 (am_a2 am_mc_237 (am_a2 am_mc_238 (am_a2 am_mc_239 (rfl))))))))))))))))))))))))))))))))))))))))
theorem am_mcl6 : am_ML6.all am_mc = true := am_a2 am_mc_240 (am_a2 am_mc_241 (am_a2 am_mc_242 (am_a2 am_mc_243 (am_a2 am_mc_244 (am_a2 am_mc_245 (am_a2 am_mc_246 (am_a2 am_mc_247 (am_a2 am_mc_248 (am_a2 am_mc_249 (am_a2 am_mc_250 (am_a2 am_mc_251 (am_a2 am_mc_252 (am_a2 am_mc_253 (am_a2 am_mc_254 (am_a2 am_mc_255 (am_a2 am_mc_256 (am_a2 am_mc_257 (am_a2 am_mc_258 (am_a2 am_mc_259 (am_a2 am_mc_260 (am_a2 am_mc_261 (am_a2 am_mc_262 (am_a2 am_mc_263 (am_a2 am_mc_264 (am_a2 am_mc_265 (am_a2 am_mc_266 (am_a2 am_mc_267 (am_a2 am_mc_268 (am_a2 am_mc_269 (am_a2 am_mc_270 (am_a2 am_mc_271 (am_a2 am_mc_272 (am_a2 am_mc_273 (am_a2 am_mc_274 (am_a2 am_mc_275 (am_a2 am_mc_276 (am_a2 am_mc_277 (am_a2 am_mc_278 (am_a2 am_mc_279 (rfl))))))))))))))))))))))))))))))))))))))))
theorem am_mcl7 : am_ML7.all am_mc = true := am_a2 am_mc_280 (am_a2 am_mc_281 (am_a2 am_mc_282 (am_a2 am_mc_283 (am_a2 am_mc_284 (am_a2 am_mc_285 (am_a2 am_mc_286 (am_a2 am_mc_287 (am_a2 am_mc_288 (am_a2 am_mc_289 (am_a2 am_mc_290 (am_a2 am_mc_291 (am_a2 am_mc_292 (am_a2 am_mc_293 (am_a2 am_mc_294 (am_a2 am_mc_295 (rfl))))))))))))))))
theorem am_mcok : am_M.all am_mc = true := by
  unfold am_M
  simp only [List.all_append, Bool.and_eq_true]
  exact ⟨⟨⟨⟨⟨⟨⟨am_mcl0, am_mcl1⟩, am_mcl2⟩, am_mcl3⟩, am_mcl4⟩, am_mcl5⟩, am_mcl6⟩, am_mcl7⟩
theorem am_mok {mi : Nat} {q : am_Q} (h : am_M[mi]? = some q) : am_mc q = true := List.all_eq_true.mp am_mcok q (List.mem_of_getElem? h)
def am_llc (own : String) (e : Nat × Nat × Nat × Nat) : Bool := match e.2.1 with
  | 0 | 1 | 2 => match am_M[e.2.2.1]? with
    | some q => decide (lw_tbl[e.2.2.2]? = some (Cond.methodLink own e.1 q.1)) && decide (q.2.2.2.2.2.2.2.1 = e.2.1)
    | none => false
  | 3 => match am_M[e.2.2.1]? with
    | some q => decide (lw_tbl[e.2.2.2]? = some (Cond.methodLinkNest own e.1 q.1 "MendedThings")) && decide (q.2.2.2.2.2.2.2.1 = 2)
    | none => false
  | 4 => decide (lw_tbl[e.2.2.2]? = some (Cond.methodLink own e.1 objectInit))
  | 5 => decide (lw_tbl[e.2.2.2]? = some (Cond.methodLink own e.1 arraycopyName))
  | 6 => decide (lw_tbl[e.2.2.2]? = some (Cond.methodLink own e.1 ⟨"java/lang/String", "length", "()I"⟩))
  | 7 => decide (lw_tbl[e.2.2.2]? = some (Cond.methodLink own e.1 ⟨"java/lang/String", "charAt", "(I)C"⟩))
  | _ => false
def am_all3 (i : Nat) : Bool := match am_on[i]? with
  | some own => (am_LL.getD i []).all (am_llc own)
  | none => true
set_option maxRecDepth 100000 in
theorem am_all3_ok : (List.range 14).all am_all3 = true := by decide +kernel
theorem am_llok {oc idx : Nat} {own : String} {e : Nat × Nat × Nat} (ho : am_on[oc]? = some own) (h : am_ll oc idx = some e) : am_llc own (idx, e) = true := by
  have h1 := List.all_eq_true.mp am_all3_ok oc (List.mem_range.mpr (am_on_lt ho))
  unfold am_all3 at h1
  rw [ho] at h1
  exact List.all_eq_true.mp h1 _ (am_look h)
theorem am_warm {args : Array Value} {s U : State} (h : ∀ w ∈ am_tbl, w.before args s = true) (hW : s.WarmedH U.vm) : ∀ w ∈ am_tbl, ∀ a' : Array Value, w.before a' U = true := by
  intro w hw a'
  have hg := (List.mem_filter.mp hw).2
  unfold am_gd at hg
  rcases Bool.or_eq_true _ _ |>.mp hg with h1 | h1
  · exact word_at hW (good_of_word h1) (h w hw)
  · split at h1
    · exact va_Nw.use rfl (va_Nw.warmM hW (va_Nw.of rfl (h _ hw)))
    · exact ((va_AO.of (h _ hw)).moved hW.alike).use
    · cases h1
/-- the default of each field, by its tag -/
def am_dfc (ty : FieldType) (t : Nat) : Bool := match ty with
  | .int | .boolean => t == 0
  | .long => t == 1
  | .object _ | .array _ => decide (20 ≤ t) && !(t == 30)
  | _ => false
theorem am_dfok : ∀ ci, ci < 11 → ∀ k, k < (am_ftl.getD ci []).length → am_dfc (am_ty ci k) (am_et (100 + ci) k) = true := by decide +kernel
theorem am_ftn : ∀ ci, ci < 11 → ((am_cl[ci]?).map fun r => r.2.2) = some (am_ftl.getD ci []).length := by decide +kernel

