theorem hX11_init_0 : bHas cX11_init 0 [42, 183, 0, 1, 42, 16, 6] := bH_c (n := 7) (by decide +kernel)
theorem dX11_init_0 : decode cX11_init 0 = .ok (.aload_n 0, 1) := de42 hX11_init_0 0 rfl rfl
theorem dX11_init_1 : decode cX11_init 1 = .ok (.invokespecial 1, 3) := de183 hX11_init_0 1 rfl rfl rfl
theorem dX11_init_4 : decode cX11_init 4 = .ok (.aload_n 0, 1) := de42 hX11_init_0 4 rfl rfl
theorem dX11_init_5 : decode cX11_init 5 = .ok (.bipush 6, 2) := de16 hX11_init_0 5 rfl rfl rfl
theorem dX11_init_7 : decode cX11_init 7 = .ok (.newarray .int, 2) := by decide +kernel
theorem hX11_init_9 : bHas cX11_init 9 [181, 0, 7, 42, 16, 6] := bH_c (n := 6) (by decide +kernel)
theorem dX11_init_9 : decode cX11_init 9 = .ok (.putfield 7, 3) := de181 hX11_init_9 0 rfl rfl rfl
theorem dX11_init_12 : decode cX11_init 12 = .ok (.aload_n 0, 1) := de42 hX11_init_9 3 rfl rfl
theorem dX11_init_13 : decode cX11_init 13 = .ok (.bipush 6, 2) := de16 hX11_init_9 4 rfl rfl rfl
theorem dX11_init_15 : decode cX11_init 15 = .ok (.newarray .int, 2) := by decide +kernel
theorem hX11_init_17 : bHas cX11_init 17 [181, 0, 13, 42, 16, 18] := bH_c (n := 6) (by decide +kernel)
theorem dX11_init_17 : decode cX11_init 17 = .ok (.putfield 13, 3) := de181 hX11_init_17 0 rfl rfl rfl
theorem dX11_init_20 : decode cX11_init 20 = .ok (.aload_n 0, 1) := de42 hX11_init_17 3 rfl rfl
theorem dX11_init_21 : decode cX11_init 21 = .ok (.bipush 18, 2) := de16 hX11_init_17 4 rfl rfl rfl
theorem dX11_init_23 : decode cX11_init 23 = .ok (.newarray .int, 2) := by decide +kernel
theorem hX11_init_25 : bHas cX11_init 25 [181, 0, 16, 42, 16, 28] := bH_c (n := 6) (by decide +kernel)
theorem dX11_init_25 : decode cX11_init 25 = .ok (.putfield 16, 3) := de181 hX11_init_25 0 rfl rfl rfl
theorem dX11_init_28 : decode cX11_init 28 = .ok (.aload_n 0, 1) := de42 hX11_init_25 3 rfl rfl
theorem dX11_init_29 : decode cX11_init 29 = .ok (.bipush 28, 2) := de16 hX11_init_25 4 rfl rfl rfl
theorem dX11_init_31 : decode cX11_init 31 = .ok (.newarray .int, 2) := by decide +kernel
theorem hX11_init_33 : bHas cX11_init 33 [181, 0, 19, 42, 17, 0, 168] := bH_c (n := 7) (by decide +kernel)
theorem dX11_init_33 : decode cX11_init 33 = .ok (.putfield 19, 3) := de181 hX11_init_33 0 rfl rfl rfl
theorem dX11_init_36 : decode cX11_init 36 = .ok (.aload_n 0, 1) := de42 hX11_init_33 3 rfl rfl
theorem dX11_init_37 : decode cX11_init 37 = .ok (.sipush 168, 3) := de17 hX11_init_33 4 rfl rfl (by decide +kernel)
theorem dX11_init_40 : decode cX11_init 40 = .ok (.newarray .int, 2) := by decide +kernel
theorem hX11_init_42 : bHas cX11_init 42 [181, 0, 22, 42, 16, 20] := bH_c (n := 6) (by decide +kernel)
theorem dX11_init_42 : decode cX11_init 42 = .ok (.putfield 22, 3) := de181 hX11_init_42 0 rfl rfl rfl
theorem dX11_init_45 : decode cX11_init 45 = .ok (.aload_n 0, 1) := de42 hX11_init_42 3 rfl rfl
theorem dX11_init_46 : decode cX11_init 46 = .ok (.bipush 20, 2) := de16 hX11_init_42 4 rfl rfl rfl
theorem dX11_init_48 : decode cX11_init 48 = .ok (.newarray .int, 2) := by decide +kernel
theorem hX11_init_50 : bHas cX11_init 50 [181, 0, 25, 42, 16, 20] := bH_c (n := 6) (by decide +kernel)
theorem dX11_init_50 : decode cX11_init 50 = .ok (.putfield 25, 3) := de181 hX11_init_50 0 rfl rfl rfl
theorem dX11_init_53 : decode cX11_init 53 = .ok (.aload_n 0, 1) := de42 hX11_init_50 3 rfl rfl
theorem dX11_init_54 : decode cX11_init 54 = .ok (.bipush 20, 2) := de16 hX11_init_50 4 rfl rfl rfl
theorem dX11_init_56 : decode cX11_init 56 = .ok (.newarray .int, 2) := by decide +kernel
theorem hX11_init_58 : bHas cX11_init 58 [181, 0, 28, 42, 16, 20] := bH_c (n := 6) (by decide +kernel)
theorem dX11_init_58 : decode cX11_init 58 = .ok (.putfield 28, 3) := de181 hX11_init_58 0 rfl rfl rfl
theorem dX11_init_61 : decode cX11_init 61 = .ok (.aload_n 0, 1) := de42 hX11_init_58 3 rfl rfl
theorem dX11_init_62 : decode cX11_init 62 = .ok (.bipush 20, 2) := de16 hX11_init_58 4 rfl rfl rfl
theorem dX11_init_64 : decode cX11_init 64 = .ok (.newarray .int, 2) := by decide +kernel
theorem hX11_init_66 : bHas cX11_init 66 [181, 0, 31, 42, 16, 40] := bH_c (n := 6) (by decide +kernel)
theorem dX11_init_66 : decode cX11_init 66 = .ok (.putfield 31, 3) := de181 hX11_init_66 0 rfl rfl rfl
theorem dX11_init_69 : decode cX11_init 69 = .ok (.aload_n 0, 1) := de42 hX11_init_66 3 rfl rfl
theorem dX11_init_70 : decode cX11_init 70 = .ok (.bipush 40, 2) := de16 hX11_init_66 4 rfl rfl rfl
theorem dX11_init_72 : decode cX11_init 72 = .ok (.newarray .int, 2) := by decide +kernel
theorem hX11_init_74 : bHas cX11_init 74 [181, 0, 34, 42, 17, 0, 168] := bH_c (n := 7) (by decide +kernel)
theorem dX11_init_74 : decode cX11_init 74 = .ok (.putfield 34, 3) := de181 hX11_init_74 0 rfl rfl rfl
theorem dX11_init_77 : decode cX11_init 77 = .ok (.aload_n 0, 1) := de42 hX11_init_74 3 rfl rfl
theorem dX11_init_78 : decode cX11_init 78 = .ok (.sipush 168, 3) := de17 hX11_init_74 4 rfl rfl (by decide +kernel)
theorem dX11_init_81 : decode cX11_init 81 = .ok (.newarray .int, 2) := by decide +kernel
theorem hX11_init_83 : bHas cX11_init 83 [181, 0, 37, 42, 17, 0, 168] := bH_c (n := 7) (by decide +kernel)
theorem dX11_init_83 : decode cX11_init 83 = .ok (.putfield 37, 3) := de181 hX11_init_83 0 rfl rfl rfl
theorem dX11_init_86 : decode cX11_init 86 = .ok (.aload_n 0, 1) := de42 hX11_init_83 3 rfl rfl
theorem dX11_init_87 : decode cX11_init 87 = .ok (.sipush 168, 3) := de17 hX11_init_83 4 rfl rfl (by decide +kernel)
theorem dX11_init_90 : decode cX11_init 90 = .ok (.newarray .int, 2) := by decide +kernel
theorem hX11_init_92 : bHas cX11_init 92 [181, 0, 40, 42, 17, 0, 168] := bH_c (n := 7) (by decide +kernel)
theorem dX11_init_92 : decode cX11_init 92 = .ok (.putfield 40, 3) := de181 hX11_init_92 0 rfl rfl rfl
theorem dX11_init_95 : decode cX11_init 95 = .ok (.aload_n 0, 1) := de42 hX11_init_92 3 rfl rfl
theorem dX11_init_96 : decode cX11_init 96 = .ok (.sipush 168, 3) := de17 hX11_init_92 4 rfl rfl (by decide +kernel)
theorem dX11_init_99 : decode cX11_init 99 = .ok (.newarray .int, 2) := by decide +kernel
theorem hX11_init_101 : bHas cX11_init 101 [181, 0, 43, 42, 16, 28] := bH_c (n := 6) (by decide +kernel)
theorem dX11_init_101 : decode cX11_init 101 = .ok (.putfield 43, 3) := de181 hX11_init_101 0 rfl rfl rfl
theorem dX11_init_104 : decode cX11_init 104 = .ok (.aload_n 0, 1) := de42 hX11_init_101 3 rfl rfl
theorem dX11_init_105 : decode cX11_init 105 = .ok (.bipush 28, 2) := de16 hX11_init_101 4 rfl rfl rfl
theorem dX11_init_107 : decode cX11_init 107 = .ok (.newarray .int, 2) := by decide +kernel
theorem hX11_init_109 : bHas cX11_init 109 [181, 0, 46, 42, 16, 28] := bH_c (n := 6) (by decide +kernel)
theorem dX11_init_109 : decode cX11_init 109 = .ok (.putfield 46, 3) := de181 hX11_init_109 0 rfl rfl rfl
theorem dX11_init_112 : decode cX11_init 112 = .ok (.aload_n 0, 1) := de42 hX11_init_109 3 rfl rfl
theorem dX11_init_113 : decode cX11_init 113 = .ok (.bipush 28, 2) := de16 hX11_init_109 4 rfl rfl rfl
theorem dX11_init_115 : decode cX11_init 115 = .ok (.newarray .int, 2) := by decide +kernel
theorem hX11_init_117 : bHas cX11_init 117 [181, 0, 49, 42, 16, 28] := bH_c (n := 6) (by decide +kernel)
theorem dX11_init_117 : decode cX11_init 117 = .ok (.putfield 49, 3) := de181 hX11_init_117 0 rfl rfl rfl
theorem dX11_init_120 : decode cX11_init 120 = .ok (.aload_n 0, 1) := de42 hX11_init_117 3 rfl rfl
theorem dX11_init_121 : decode cX11_init 121 = .ok (.bipush 28, 2) := de16 hX11_init_117 4 rfl rfl rfl
theorem dX11_init_123 : decode cX11_init 123 = .ok (.newarray .int, 2) := by decide +kernel
theorem hX11_init_125 : bHas cX11_init 125 [181, 0, 52, 42, 17, 0, 168] := bH_c (n := 7) (by decide +kernel)
theorem dX11_init_125 : decode cX11_init 125 = .ok (.putfield 52, 3) := de181 hX11_init_125 0 rfl rfl rfl
theorem dX11_init_128 : decode cX11_init 128 = .ok (.aload_n 0, 1) := de42 hX11_init_125 3 rfl rfl
theorem dX11_init_129 : decode cX11_init 129 = .ok (.sipush 168, 3) := de17 hX11_init_125 4 rfl rfl (by decide +kernel)
theorem dX11_init_132 : decode cX11_init 132 = .ok (.newarray .int, 2) := by decide +kernel
theorem hX11_init_134 : bHas cX11_init 134 [181, 0, 55, 42, 17, 0, 168] := bH_c (n := 7) (by decide +kernel)
theorem dX11_init_134 : decode cX11_init 134 = .ok (.putfield 55, 3) := de181 hX11_init_134 0 rfl rfl rfl
theorem dX11_init_137 : decode cX11_init 137 = .ok (.aload_n 0, 1) := de42 hX11_init_134 3 rfl rfl
theorem dX11_init_138 : decode cX11_init 138 = .ok (.sipush 168, 3) := de17 hX11_init_134 4 rfl rfl (by decide +kernel)
theorem dX11_init_141 : decode cX11_init 141 = .ok (.newarray .int, 2) := by decide +kernel
theorem hX11_init_143 : bHas cX11_init 143 [181, 0, 58, 42, 17, 0, 168] := bH_c (n := 7) (by decide +kernel)
theorem dX11_init_143 : decode cX11_init 143 = .ok (.putfield 58, 3) := de181 hX11_init_143 0 rfl rfl rfl
theorem dX11_init_146 : decode cX11_init 146 = .ok (.aload_n 0, 1) := de42 hX11_init_143 3 rfl rfl
theorem dX11_init_147 : decode cX11_init 147 = .ok (.sipush 168, 3) := de17 hX11_init_143 4 rfl rfl (by decide +kernel)
theorem dX11_init_150 : decode cX11_init 150 = .ok (.newarray .int, 2) := by decide +kernel
theorem hX11_init_152 : bHas cX11_init 152 [181, 0, 61, 42, 16, 21] := bH_c (n := 6) (by decide +kernel)
theorem dX11_init_152 : decode cX11_init 152 = .ok (.putfield 61, 3) := de181 hX11_init_152 0 rfl rfl rfl
theorem dX11_init_155 : decode cX11_init 155 = .ok (.aload_n 0, 1) := de42 hX11_init_152 3 rfl rfl
theorem dX11_init_156 : decode cX11_init 156 = .ok (.bipush 21, 2) := de16 hX11_init_152 4 rfl rfl rfl
theorem dX11_init_158 : decode cX11_init 158 = .ok (.newarray .int, 2) := by decide +kernel
theorem hX11_init_160 : bHas cX11_init 160 [181, 0, 64, 42, 16, 7] := bH_c (n := 6) (by decide +kernel)
theorem dX11_init_160 : decode cX11_init 160 = .ok (.putfield 64, 3) := de181 hX11_init_160 0 rfl rfl rfl
theorem dX11_init_163 : decode cX11_init 163 = .ok (.aload_n 0, 1) := de42 hX11_init_160 3 rfl rfl
theorem dX11_init_164 : decode cX11_init 164 = .ok (.bipush 7, 2) := de16 hX11_init_160 4 rfl rfl rfl
theorem dX11_init_166 : decode cX11_init 166 = .ok (.newarray .int, 2) := by decide +kernel
theorem hX11_init_168 : bHas cX11_init 168 [181, 0, 67, 42, 16, 38] := bH_c (n := 6) (by decide +kernel)
theorem dX11_init_168 : decode cX11_init 168 = .ok (.putfield 67, 3) := de181 hX11_init_168 0 rfl rfl rfl
theorem dX11_init_171 : decode cX11_init 171 = .ok (.aload_n 0, 1) := de42 hX11_init_168 3 rfl rfl
theorem dX11_init_172 : decode cX11_init 172 = .ok (.bipush 38, 2) := de16 hX11_init_168 4 rfl rfl rfl
theorem dX11_init_174 : decode cX11_init 174 = .ok (.newarray .int, 2) := by decide +kernel
theorem hX11_init_176 : bHas cX11_init 176 [181, 0, 70, 42, 16, 38] := bH_c (n := 6) (by decide +kernel)
theorem dX11_init_176 : decode cX11_init 176 = .ok (.putfield 70, 3) := de181 hX11_init_176 0 rfl rfl rfl
theorem dX11_init_179 : decode cX11_init 179 = .ok (.aload_n 0, 1) := de42 hX11_init_176 3 rfl rfl
theorem dX11_init_180 : decode cX11_init 180 = .ok (.bipush 38, 2) := de16 hX11_init_176 4 rfl rfl rfl
theorem dX11_init_182 : decode cX11_init 182 = .ok (.newarray .int, 2) := by decide +kernel
theorem hX11_init_184 : bHas cX11_init 184 [181, 0, 73, 42, 16, 38] := bH_c (n := 6) (by decide +kernel)
theorem dX11_init_184 : decode cX11_init 184 = .ok (.putfield 73, 3) := de181 hX11_init_184 0 rfl rfl rfl
theorem dX11_init_187 : decode cX11_init 187 = .ok (.aload_n 0, 1) := de42 hX11_init_184 3 rfl rfl
theorem dX11_init_188 : decode cX11_init 188 = .ok (.bipush 38, 2) := de16 hX11_init_184 4 rfl rfl rfl
theorem dX11_init_190 : decode cX11_init 190 = .ok (.newarray .int, 2) := by decide +kernel
theorem hX11_init_192 : bHas cX11_init 192 [181, 0, 76, 42, 16, 28] := bH_c (n := 6) (by decide +kernel)
theorem dX11_init_192 : decode cX11_init 192 = .ok (.putfield 76, 3) := de181 hX11_init_192 0 rfl rfl rfl
theorem dX11_init_195 : decode cX11_init 195 = .ok (.aload_n 0, 1) := de42 hX11_init_192 3 rfl rfl
theorem dX11_init_196 : decode cX11_init 196 = .ok (.bipush 28, 2) := de16 hX11_init_192 4 rfl rfl rfl
theorem dX11_init_198 : decode cX11_init 198 = .ok (.newarray .int, 2) := by decide +kernel
theorem hX11_init_200 : bHas cX11_init 200 [181, 0, 79, 42, 16, 28] := bH_c (n := 6) (by decide +kernel)
theorem dX11_init_200 : decode cX11_init 200 = .ok (.putfield 79, 3) := de181 hX11_init_200 0 rfl rfl rfl
theorem dX11_init_203 : decode cX11_init 203 = .ok (.aload_n 0, 1) := de42 hX11_init_200 3 rfl rfl
theorem dX11_init_204 : decode cX11_init 204 = .ok (.bipush 28, 2) := de16 hX11_init_200 4 rfl rfl rfl
theorem dX11_init_206 : decode cX11_init 206 = .ok (.newarray .int, 2) := by decide +kernel
theorem hX11_init_208 : bHas cX11_init 208 [181, 0, 82, 42, 16, 6] := bH_c (n := 6) (by decide +kernel)
theorem dX11_init_208 : decode cX11_init 208 = .ok (.putfield 82, 3) := de181 hX11_init_208 0 rfl rfl rfl
theorem dX11_init_211 : decode cX11_init 211 = .ok (.aload_n 0, 1) := de42 hX11_init_208 3 rfl rfl
theorem dX11_init_212 : decode cX11_init 212 = .ok (.bipush 6, 2) := de16 hX11_init_208 4 rfl rfl rfl
theorem dX11_init_214 : decode cX11_init 214 = .ok (.newarray .int, 2) := by decide +kernel
theorem hX11_init_216 : bHas cX11_init 216 [181, 0, 85, 42, 16, 6] := bH_c (n := 6) (by decide +kernel)
theorem dX11_init_216 : decode cX11_init 216 = .ok (.putfield 85, 3) := de181 hX11_init_216 0 rfl rfl rfl
theorem dX11_init_219 : decode cX11_init 219 = .ok (.aload_n 0, 1) := de42 hX11_init_216 3 rfl rfl
theorem dX11_init_220 : decode cX11_init 220 = .ok (.bipush 6, 2) := de16 hX11_init_216 4 rfl rfl rfl
theorem dX11_init_222 : decode cX11_init 222 = .ok (.newarray .int, 2) := by decide +kernel
theorem hX11_init_224 : bHas cX11_init 224 [181, 0, 88, 42, 16, 6] := bH_c (n := 6) (by decide +kernel)
theorem dX11_init_224 : decode cX11_init 224 = .ok (.putfield 88, 3) := de181 hX11_init_224 0 rfl rfl rfl
theorem dX11_init_227 : decode cX11_init 227 = .ok (.aload_n 0, 1) := de42 hX11_init_224 3 rfl rfl
theorem dX11_init_228 : decode cX11_init 228 = .ok (.bipush 6, 2) := de16 hX11_init_224 4 rfl rfl rfl
theorem dX11_init_230 : decode cX11_init 230 = .ok (.newarray .int, 2) := by decide +kernel
theorem hX11_init_232 : bHas cX11_init 232 [181, 0, 91, 42, 16, 6] := bH_c (n := 6) (by decide +kernel)
theorem dX11_init_232 : decode cX11_init 232 = .ok (.putfield 91, 3) := de181 hX11_init_232 0 rfl rfl rfl
theorem dX11_init_235 : decode cX11_init 235 = .ok (.aload_n 0, 1) := de42 hX11_init_232 3 rfl rfl
theorem dX11_init_236 : decode cX11_init 236 = .ok (.bipush 6, 2) := de16 hX11_init_232 4 rfl rfl rfl
theorem dX11_init_238 : decode cX11_init 238 = .ok (.newarray .int, 2) := by decide +kernel
theorem hX11_init_240 : bHas cX11_init 240 [181, 0, 94, 42, 16, 6] := bH_c (n := 6) (by decide +kernel)
theorem dX11_init_240 : decode cX11_init 240 = .ok (.putfield 94, 3) := de181 hX11_init_240 0 rfl rfl rfl
theorem dX11_init_243 : decode cX11_init 243 = .ok (.aload_n 0, 1) := de42 hX11_init_240 3 rfl rfl
theorem dX11_init_244 : decode cX11_init 244 = .ok (.bipush 6, 2) := de16 hX11_init_240 4 rfl rfl rfl
theorem dX11_init_246 : decode cX11_init 246 = .ok (.newarray .int, 2) := by decide +kernel
theorem hX11_init_248 : bHas cX11_init 248 [181, 0, 97, 42, 16, 28] := bH_c (n := 6) (by decide +kernel)
theorem dX11_init_248 : decode cX11_init 248 = .ok (.putfield 97, 3) := de181 hX11_init_248 0 rfl rfl rfl
theorem dX11_init_251 : decode cX11_init 251 = .ok (.aload_n 0, 1) := de42 hX11_init_248 3 rfl rfl
theorem dX11_init_252 : decode cX11_init 252 = .ok (.bipush 28, 2) := de16 hX11_init_248 4 rfl rfl rfl
theorem dX11_init_254 : decode cX11_init 254 = .ok (.newarray .long, 2) := by decide +kernel
theorem hX11_init_256 : bHas cX11_init 256 [181, 0, 100, 42, 17, 7, 8] := bH_c (n := 7) (by decide +kernel)
theorem dX11_init_256 : decode cX11_init 256 = .ok (.putfield 100, 3) := de181 hX11_init_256 0 rfl rfl rfl
theorem dX11_init_259 : decode cX11_init 259 = .ok (.aload_n 0, 1) := de42 hX11_init_256 3 rfl rfl
theorem dX11_init_260 : decode cX11_init 260 = .ok (.sipush 1800, 3) := de17 hX11_init_256 4 rfl rfl (by decide +kernel)
theorem dX11_init_263 : decode cX11_init 263 = .ok (.newarray .int, 2) := by decide +kernel
theorem hX11_init_265 : bHas cX11_init 265 [181, 0, 104, 42, 5] := bH_c (n := 5) (by decide +kernel)
theorem dX11_init_265 : decode cX11_init 265 = .ok (.putfield 104, 3) := de181 hX11_init_265 0 rfl rfl rfl
theorem dX11_init_268 : decode cX11_init 268 = .ok (.aload_n 0, 1) := de42 hX11_init_265 3 rfl rfl
theorem dX11_init_269 : decode cX11_init 269 = .ok (.iconst 2, 1) := de5 hX11_init_265 4 rfl rfl
theorem dX11_init_270 : decode cX11_init 270 = .ok (.newarray .boolean, 2) := by decide +kernel
theorem hX11_init_272 : bHas cX11_init 272 [181, 0, 107, 42, 16, 10, 181, 0, 111, 42, 16, 50, 181, 0, 115, 42, 8, 181, 0, 118, 42, 4] := bH_c (n := 22) (by decide +kernel)
theorem dX11_init_272 : decode cX11_init 272 = .ok (.putfield 107, 3) := de181 hX11_init_272 0 rfl rfl rfl
theorem dX11_init_275 : decode cX11_init 275 = .ok (.aload_n 0, 1) := de42 hX11_init_272 3 rfl rfl
theorem dX11_init_276 : decode cX11_init 276 = .ok (.bipush 10, 2) := de16 hX11_init_272 4 rfl rfl rfl
theorem dX11_init_278 : decode cX11_init 278 = .ok (.putfield 111, 3) := de181 hX11_init_272 6 rfl rfl rfl
theorem dX11_init_281 : decode cX11_init 281 = .ok (.aload_n 0, 1) := de42 hX11_init_272 9 rfl rfl
theorem dX11_init_282 : decode cX11_init 282 = .ok (.bipush 50, 2) := de16 hX11_init_272 10 rfl rfl rfl
theorem dX11_init_284 : decode cX11_init 284 = .ok (.putfield 115, 3) := de181 hX11_init_272 12 rfl rfl rfl
theorem dX11_init_287 : decode cX11_init 287 = .ok (.aload_n 0, 1) := de42 hX11_init_272 15 rfl rfl
theorem dX11_init_288 : decode cX11_init 288 = .ok (.iconst 5, 1) := de8 hX11_init_272 16 rfl rfl
theorem dX11_init_289 : decode cX11_init 289 = .ok (.putfield 118, 3) := de181 hX11_init_272 17 rfl rfl rfl
theorem dX11_init_292 : decode cX11_init 292 = .ok (.aload_n 0, 1) := de42 hX11_init_272 20 rfl rfl
theorem dX11_init_293 : decode cX11_init 293 = .ok (.iconst 1, 1) := de4 hX11_init_272 21 rfl rfl
theorem hX11_init_294 : bHas cX11_init 294 [181, 0, 121, 177] := bH_c (n := 4) (by decide +kernel)
theorem dX11_init_294 : decode cX11_init 294 = .ok (.putfield 121, 3) := de181 hX11_init_294 0 rfl rfl rfl
theorem dX11_init_297 : decode cX11_init 297 = .ok (.return_, 1) := de177 hX11_init_294 3 rfl rfl
theorem hX11_in_0 : bHas cX11_in 0 [30, 32, 148, 155, 0, 14, 30, 22, 4, 148, 157, 0, 7, 4, 167, 0, 4, 3, 172] := bH_c (n := 19) (by decide +kernel)
theorem dX11_in_0 : decode cX11_in 0 = .ok (.lload_n 0, 1) := de30 hX11_in_0 0 rfl rfl
theorem dX11_in_1 : decode cX11_in 1 = .ok (.lload_n 2, 1) := de32 hX11_in_0 1 rfl rfl
theorem dX11_in_2 : decode cX11_in 2 = .ok (.lcmp, 1) := de148 hX11_in_0 2 rfl rfl
theorem dX11_in_3 : decode cX11_in 3 = .ok (.ifCond .lt 14, 3) := de155 hX11_in_0 3 rfl rfl (by decide +kernel)
theorem dX11_in_6 : decode cX11_in 6 = .ok (.lload_n 0, 1) := de30 hX11_in_0 6 rfl rfl
theorem dX11_in_7 : decode cX11_in 7 = .ok (.lload 4, 2) := de22 hX11_in_0 7 rfl rfl rfl
theorem dX11_in_9 : decode cX11_in 9 = .ok (.lcmp, 1) := de148 hX11_in_0 9 rfl rfl
theorem dX11_in_10 : decode cX11_in 10 = .ok (.ifCond .gt 7, 3) := de157 hX11_in_0 10 rfl rfl (by decide +kernel)
theorem dX11_in_13 : decode cX11_in 13 = .ok (.iconst 1, 1) := de4 hX11_in_0 13 rfl rfl
theorem dX11_in_14 : decode cX11_in 14 = .ok (.goto 4, 3) := de167 hX11_in_0 14 rfl rfl (by decide +kernel)
theorem dX11_in_17 : decode cX11_in 17 = .ok (.iconst 0, 1) := de3 hX11_in_0 17 rfl rfl
theorem dX11_in_18 : decode cX11_in 18 = .ok (.ireturn, 1) := de172 hX11_in_0 18 rfl rfl
theorem hX11_isDay_0 : bHas cX11_isDay 0 [26, 133, 9, 20, 0, 124, 184, 0, 126, 172] := bH_c (n := 10) (by decide +kernel)
theorem dX11_isDay_0 : decode cX11_isDay 0 = .ok (.iload_n 0, 1) := de26 hX11_isDay_0 0 rfl rfl
theorem dX11_isDay_1 : decode cX11_isDay 1 = .ok (.i2l, 1) := de133 hX11_isDay_0 1 rfl rfl
theorem dX11_isDay_2 : decode cX11_isDay 2 = .ok (.lconst 0, 1) := de9 hX11_isDay_0 2 rfl rfl
theorem dX11_isDay_3 : decode cX11_isDay 3 = .ok (.ldc2_w 124, 3) := de20 hX11_isDay_0 3 rfl rfl rfl
theorem dX11_isDay_6 : decode cX11_isDay 6 = .ok (.invokestatic 126, 3) := de184 hX11_isDay_0 6 rfl rfl rfl
theorem dX11_isDay_9 : decode cX11_isDay 9 = .ok (.ireturn, 1) := de172 hX11_isDay_0 9 rfl rfl
theorem hX11_isPlace_0 : bHas cX11_isPlace 0 [26, 133, 9, 20, 0, 130, 184, 0, 126, 153, 0, 19, 27, 133, 9, 20, 0, 130, 184, 0, 126, 153, 0, 7] := bH_c (n := 24) (by decide +kernel)
theorem dX11_isPlace_0 : decode cX11_isPlace 0 = .ok (.iload_n 0, 1) := de26 hX11_isPlace_0 0 rfl rfl
theorem dX11_isPlace_1 : decode cX11_isPlace 1 = .ok (.i2l, 1) := de133 hX11_isPlace_0 1 rfl rfl
theorem dX11_isPlace_2 : decode cX11_isPlace 2 = .ok (.lconst 0, 1) := de9 hX11_isPlace_0 2 rfl rfl
theorem dX11_isPlace_3 : decode cX11_isPlace 3 = .ok (.ldc2_w 130, 3) := de20 hX11_isPlace_0 3 rfl rfl rfl
theorem dX11_isPlace_6 : decode cX11_isPlace 6 = .ok (.invokestatic 126, 3) := de184 hX11_isPlace_0 6 rfl rfl rfl
theorem dX11_isPlace_9 : decode cX11_isPlace 9 = .ok (.ifCond .eq 19, 3) := de153 hX11_isPlace_0 9 rfl rfl (by decide +kernel)
theorem dX11_isPlace_12 : decode cX11_isPlace 12 = .ok (.iload_n 1, 1) := de27 hX11_isPlace_0 12 rfl rfl
theorem dX11_isPlace_13 : decode cX11_isPlace 13 = .ok (.i2l, 1) := de133 hX11_isPlace_0 13 rfl rfl
theorem dX11_isPlace_14 : decode cX11_isPlace 14 = .ok (.lconst 0, 1) := de9 hX11_isPlace_0 14 rfl rfl
theorem dX11_isPlace_15 : decode cX11_isPlace 15 = .ok (.ldc2_w 130, 3) := de20 hX11_isPlace_0 15 rfl rfl rfl
theorem dX11_isPlace_18 : decode cX11_isPlace 18 = .ok (.invokestatic 126, 3) := de184 hX11_isPlace_0 18 rfl rfl rfl
theorem dX11_isPlace_21 : decode cX11_isPlace 21 = .ok (.ifCond .eq 7, 3) := de153 hX11_isPlace_0 21 rfl rfl (by decide +kernel)
theorem hX11_isPlace_24 : bHas cX11_isPlace 24 [4, 167, 0, 4, 3, 172] := bH_c (n := 6) (by decide +kernel)
theorem dX11_isPlace_24 : decode cX11_isPlace 24 = .ok (.iconst 1, 1) := de4 hX11_isPlace_24 0 rfl rfl
theorem dX11_isPlace_25 : decode cX11_isPlace 25 = .ok (.goto 4, 3) := de167 hX11_isPlace_24 1 rfl rfl (by decide +kernel)
theorem dX11_isPlace_28 : decode cX11_isPlace 28 = .ok (.iconst 0, 1) := de3 hX11_isPlace_24 4 rfl rfl
theorem dX11_isPlace_29 : decode cX11_isPlace 29 = .ok (.ireturn, 1) := de172 hX11_isPlace_24 5 rfl rfl
theorem hX11_isEnd_0 : bHas cX11_isEnd 0 [26, 133, 9, 10, 184, 0, 126, 172] := bH_c (n := 8) (by decide +kernel)
theorem dX11_isEnd_0 : decode cX11_isEnd 0 = .ok (.iload_n 0, 1) := de26 hX11_isEnd_0 0 rfl rfl
theorem dX11_isEnd_1 : decode cX11_isEnd 1 = .ok (.i2l, 1) := de133 hX11_isEnd_0 1 rfl rfl
theorem dX11_isEnd_2 : decode cX11_isEnd 2 = .ok (.lconst 0, 1) := de9 hX11_isEnd_0 2 rfl rfl
theorem dX11_isEnd_3 : decode cX11_isEnd 3 = .ok (.lconst 1, 1) := de10 hX11_isEnd_0 3 rfl rfl
theorem dX11_isEnd_4 : decode cX11_isEnd 4 = .ok (.invokestatic 126, 3) := de184 hX11_isEnd_0 4 rfl rfl rfl
theorem dX11_isEnd_7 : decode cX11_isEnd 7 = .ok (.ireturn, 1) := de172 hX11_isEnd_0 7 rfl rfl
theorem hX11_off_0 : bHas cX11_off 0 [26, 27, 162, 0, 9, 27, 26, 100, 167, 0, 6, 26, 27, 100, 172] := bH_c (n := 15) (by decide +kernel)
theorem dX11_off_0 : decode cX11_off 0 = .ok (.iload_n 0, 1) := de26 hX11_off_0 0 rfl rfl
theorem dX11_off_1 : decode cX11_off 1 = .ok (.iload_n 1, 1) := de27 hX11_off_0 1 rfl rfl
theorem dX11_off_2 : decode cX11_off 2 = .ok (.if_icmp .ge 9, 3) := de162 hX11_off_0 2 rfl rfl (by decide +kernel)
theorem dX11_off_5 : decode cX11_off 5 = .ok (.iload_n 1, 1) := de27 hX11_off_0 5 rfl rfl
theorem dX11_off_6 : decode cX11_off 6 = .ok (.iload_n 0, 1) := de26 hX11_off_0 6 rfl rfl
theorem dX11_off_7 : decode cX11_off 7 = .ok (.isub, 1) := de100 hX11_off_0 7 rfl rfl
theorem dX11_off_8 : decode cX11_off 8 = .ok (.goto 6, 3) := de167 hX11_off_0 8 rfl rfl (by decide +kernel)
theorem dX11_off_11 : decode cX11_off 11 = .ok (.iload_n 0, 1) := de26 hX11_off_0 11 rfl rfl
theorem dX11_off_12 : decode cX11_off 12 = .ok (.iload_n 1, 1) := de27 hX11_off_0 12 rfl rfl
theorem dX11_off_13 : decode cX11_off 13 = .ok (.isub, 1) := de100 hX11_off_0 13 rfl rfl
theorem dX11_off_14 : decode cX11_off 14 = .ok (.ireturn, 1) := de172 hX11_off_0 14 rfl rfl
theorem hX11_isCan_0 : bHas cX11_isCan 0 [27, 133, 9, 42, 180, 0, 132, 4, 100, 133, 184, 0, 126, 172] := bH_c (n := 14) (by decide +kernel)
theorem dX11_isCan_0 : decode cX11_isCan 0 = .ok (.iload_n 1, 1) := de27 hX11_isCan_0 0 rfl rfl
theorem dX11_isCan_1 : decode cX11_isCan 1 = .ok (.i2l, 1) := de133 hX11_isCan_0 1 rfl rfl
theorem dX11_isCan_2 : decode cX11_isCan 2 = .ok (.lconst 0, 1) := de9 hX11_isCan_0 2 rfl rfl
theorem dX11_isCan_3 : decode cX11_isCan 3 = .ok (.aload_n 0, 1) := de42 hX11_isCan_0 3 rfl rfl
theorem dX11_isCan_4 : decode cX11_isCan 4 = .ok (.getfield 132, 3) := de180 hX11_isCan_0 4 rfl rfl rfl
theorem dX11_isCan_7 : decode cX11_isCan 7 = .ok (.iconst 1, 1) := de4 hX11_isCan_0 7 rfl rfl
theorem dX11_isCan_8 : decode cX11_isCan 8 = .ok (.isub, 1) := de100 hX11_isCan_0 8 rfl rfl
theorem dX11_isCan_9 : decode cX11_isCan 9 = .ok (.i2l, 1) := de133 hX11_isCan_0 9 rfl rfl
theorem dX11_isCan_10 : decode cX11_isCan 10 = .ok (.invokestatic 126, 3) := de184 hX11_isCan_0 10 rfl rfl rfl
theorem dX11_isCan_13 : decode cX11_isCan 13 = .ok (.ireturn, 1) := de172 hX11_isCan_0 13 rfl rfl
theorem hX11_at_0 : bHas cX11_at 0 [16, 28, 26, 104, 27, 96, 172] := bH_c (n := 7) (by decide +kernel)
theorem dX11_at_0 : decode cX11_at 0 = .ok (.bipush 28, 2) := de16 hX11_at_0 0 rfl rfl rfl
theorem dX11_at_2 : decode cX11_at 2 = .ok (.iload_n 0, 1) := de26 hX11_at_0 2 rfl rfl
theorem dX11_at_3 : decode cX11_at 3 = .ok (.imul, 1) := de104 hX11_at_0 3 rfl rfl
theorem dX11_at_4 : decode cX11_at 4 = .ok (.iload_n 1, 1) := de27 hX11_at_0 4 rfl rfl
theorem dX11_at_5 : decode cX11_at 5 = .ok (.iadd, 1) := de96 hX11_at_0 5 rfl rfl
theorem dX11_at_6 : decode cX11_at 6 = .ok (.ireturn, 1) := de172 hX11_at_0 6 rfl rfl
theorem hX11_can_0 : bHas cX11_can 0 [27, 28, 184, 0, 135, 154, 0, 6, 16, 254, 172, 42, 180, 0, 132, 16, 6, 160, 0, 6, 16, 252, 172] := bH_c (n := 23) (by decide +kernel)
theorem dX11_can_0 : decode cX11_can 0 = .ok (.iload_n 1, 1) := de27 hX11_can_0 0 rfl rfl
theorem dX11_can_1 : decode cX11_can 1 = .ok (.iload_n 2, 1) := de28 hX11_can_0 1 rfl rfl
theorem dX11_can_2 : decode cX11_can 2 = .ok (.invokestatic 135, 3) := de184 hX11_can_0 2 rfl rfl rfl
theorem dX11_can_5 : decode cX11_can 5 = .ok (.ifCond .ne 6, 3) := de154 hX11_can_0 5 rfl rfl (by decide +kernel)
theorem dX11_can_8 : decode cX11_can 8 = .ok (.bipush (-2), 2) := de16 hX11_can_0 8 rfl rfl rfl
theorem dX11_can_10 : decode cX11_can 10 = .ok (.ireturn, 1) := de172 hX11_can_0 10 rfl rfl
theorem dX11_can_11 : decode cX11_can 11 = .ok (.aload_n 0, 1) := de42 hX11_can_0 11 rfl rfl
theorem dX11_can_12 : decode cX11_can 12 = .ok (.getfield 132, 3) := de180 hX11_can_0 12 rfl rfl rfl
theorem dX11_can_15 : decode cX11_can 15 = .ok (.bipush 6, 2) := de16 hX11_can_0 15 rfl rfl rfl
theorem dX11_can_17 : decode cX11_can 17 = .ok (.if_icmp .ne 6, 3) := de160 hX11_can_0 17 rfl rfl (by decide +kernel)
theorem dX11_can_20 : decode cX11_can 20 = .ok (.bipush (-4), 2) := de16 hX11_can_0 20 rfl rfl rfl
theorem dX11_can_22 : decode cX11_can 22 = .ok (.ireturn, 1) := de172 hX11_can_0 22 rfl rfl
theorem hX11_can_23 : bHas cX11_can 23 [42, 180, 0, 7, 42, 180, 0, 132, 27, 79, 42, 180, 0, 13, 42, 180, 0, 132, 28, 79] := bH_c (n := 20) (by decide +kernel)
theorem dX11_can_23 : decode cX11_can 23 = .ok (.aload_n 0, 1) := de42 hX11_can_23 0 rfl rfl
theorem dX11_can_24 : decode cX11_can 24 = .ok (.getfield 7, 3) := de180 hX11_can_23 1 rfl rfl rfl
theorem dX11_can_27 : decode cX11_can 27 = .ok (.aload_n 0, 1) := de42 hX11_can_23 4 rfl rfl
theorem dX11_can_28 : decode cX11_can 28 = .ok (.getfield 132, 3) := de180 hX11_can_23 5 rfl rfl rfl
theorem dX11_can_31 : decode cX11_can 31 = .ok (.iload_n 1, 1) := de27 hX11_can_23 8 rfl rfl
theorem dX11_can_32 : decode cX11_can 32 = .ok (.iastore, 1) := de79 hX11_can_23 9 rfl rfl
theorem dX11_can_33 : decode cX11_can 33 = .ok (.aload_n 0, 1) := de42 hX11_can_23 10 rfl rfl
theorem dX11_can_34 : decode cX11_can 34 = .ok (.getfield 13, 3) := de180 hX11_can_23 11 rfl rfl rfl
theorem dX11_can_37 : decode cX11_can 37 = .ok (.aload_n 0, 1) := de42 hX11_can_23 14 rfl rfl
theorem dX11_can_38 : decode cX11_can 38 = .ok (.getfield 132, 3) := de180 hX11_can_23 15 rfl rfl rfl
theorem dX11_can_41 : decode cX11_can 41 = .ok (.iload_n 2, 1) := de28 hX11_can_23 18 rfl rfl
theorem dX11_can_42 : decode cX11_can 42 = .ok (.iastore, 1) := de79 hX11_can_23 19 rfl rfl
theorem hX11_can_43 : bHas cX11_can 43 [3, 62, 29, 6, 162, 0, 23, 42, 180, 0, 16, 6, 42, 180, 0, 132, 104, 29] := bH_c (n := 18) (by decide +kernel)
theorem dX11_can_43 : decode cX11_can 43 = .ok (.iconst 0, 1) := de3 hX11_can_43 0 rfl rfl
theorem dX11_can_44 : decode cX11_can 44 = .ok (.istore_n 3, 1) := de62 hX11_can_43 1 rfl rfl
theorem dX11_can_45 : decode cX11_can 45 = .ok (.iload_n 3, 1) := de29 hX11_can_43 2 rfl rfl
theorem dX11_can_46 : decode cX11_can 46 = .ok (.iconst 3, 1) := de6 hX11_can_43 3 rfl rfl
theorem dX11_can_47 : decode cX11_can 47 = .ok (.if_icmp .ge 23, 3) := de162 hX11_can_43 4 rfl rfl (by decide +kernel)
theorem dX11_can_50 : decode cX11_can 50 = .ok (.aload_n 0, 1) := de42 hX11_can_43 7 rfl rfl
theorem dX11_can_51 : decode cX11_can 51 = .ok (.getfield 16, 3) := de180 hX11_can_43 8 rfl rfl rfl
theorem dX11_can_54 : decode cX11_can 54 = .ok (.iconst 3, 1) := de6 hX11_can_43 11 rfl rfl
theorem dX11_can_55 : decode cX11_can 55 = .ok (.aload_n 0, 1) := de42 hX11_can_43 12 rfl rfl
theorem dX11_can_56 : decode cX11_can 56 = .ok (.getfield 132, 3) := de180 hX11_can_43 13 rfl rfl rfl
theorem dX11_can_59 : decode cX11_can 59 = .ok (.imul, 1) := de104 hX11_can_43 16 rfl rfl
theorem dX11_can_60 : decode cX11_can 60 = .ok (.iload_n 3, 1) := de29 hX11_can_43 17 rfl rfl
theorem hX11_can_61 : bHas cX11_can 61 [96, 3, 79, 132, 3, 1, 167, 255, 234, 3, 62, 29, 16, 28, 162, 0, 38, 42, 180, 0, 22] := bH_c (n := 21) (by decide +kernel)
theorem dX11_can_61 : decode cX11_can 61 = .ok (.iadd, 1) := de96 hX11_can_61 0 rfl rfl
theorem dX11_can_62 : decode cX11_can 62 = .ok (.iconst 0, 1) := de3 hX11_can_61 1 rfl rfl
theorem dX11_can_63 : decode cX11_can 63 = .ok (.iastore, 1) := de79 hX11_can_61 2 rfl rfl
theorem dX11_can_64 : decode cX11_can 64 = .ok (.iinc 3 1, 3) := de132 hX11_can_61 3 rfl rfl rfl rfl
theorem dX11_can_67 : decode cX11_can 67 = .ok (.goto (-22), 3) := de167 hX11_can_61 6 rfl rfl (by decide +kernel)
theorem dX11_can_70 : decode cX11_can 70 = .ok (.iconst 0, 1) := de3 hX11_can_61 9 rfl rfl
theorem dX11_can_71 : decode cX11_can 71 = .ok (.istore_n 3, 1) := de62 hX11_can_61 10 rfl rfl
theorem dX11_can_72 : decode cX11_can 72 = .ok (.iload_n 3, 1) := de29 hX11_can_61 11 rfl rfl
theorem dX11_can_73 : decode cX11_can 73 = .ok (.bipush 28, 2) := de16 hX11_can_61 12 rfl rfl rfl
theorem dX11_can_75 : decode cX11_can 75 = .ok (.if_icmp .ge 38, 3) := de162 hX11_can_61 14 rfl rfl (by decide +kernel)
theorem dX11_can_78 : decode cX11_can 78 = .ok (.aload_n 0, 1) := de42 hX11_can_61 17 rfl rfl
theorem dX11_can_79 : decode cX11_can 79 = .ok (.getfield 22, 3) := de180 hX11_can_61 18 rfl rfl rfl
theorem hX11_can_82 : bHas cX11_can 82 [42, 180, 0, 132, 29, 184, 0, 139, 16, 250, 79, 42, 180, 0, 37, 42, 180, 0, 132, 29, 184, 0, 139] := bH_c (n := 23) (by decide +kernel)
theorem dX11_can_82 : decode cX11_can 82 = .ok (.aload_n 0, 1) := de42 hX11_can_82 0 rfl rfl
theorem dX11_can_83 : decode cX11_can 83 = .ok (.getfield 132, 3) := de180 hX11_can_82 1 rfl rfl rfl
theorem dX11_can_86 : decode cX11_can 86 = .ok (.iload_n 3, 1) := de29 hX11_can_82 4 rfl rfl
theorem dX11_can_87 : decode cX11_can 87 = .ok (.invokestatic 139, 3) := de184 hX11_can_82 5 rfl rfl rfl
theorem dX11_can_90 : decode cX11_can 90 = .ok (.bipush (-6), 2) := de16 hX11_can_82 8 rfl rfl rfl
theorem dX11_can_92 : decode cX11_can 92 = .ok (.iastore, 1) := de79 hX11_can_82 10 rfl rfl
theorem dX11_can_93 : decode cX11_can 93 = .ok (.aload_n 0, 1) := de42 hX11_can_82 11 rfl rfl
theorem dX11_can_94 : decode cX11_can 94 = .ok (.getfield 37, 3) := de180 hX11_can_82 12 rfl rfl rfl
theorem dX11_can_97 : decode cX11_can 97 = .ok (.aload_n 0, 1) := de42 hX11_can_82 15 rfl rfl
theorem dX11_can_98 : decode cX11_can 98 = .ok (.getfield 132, 3) := de180 hX11_can_82 16 rfl rfl rfl
theorem dX11_can_101 : decode cX11_can 101 = .ok (.iload_n 3, 1) := de29 hX11_can_82 19 rfl rfl
theorem dX11_can_102 : decode cX11_can 102 = .ok (.invokestatic 139, 3) := de184 hX11_can_82 20 rfl rfl rfl
theorem hX11_can_105 : bHas cX11_can 105 [3, 79, 132, 3, 1, 167, 255, 218, 42, 89, 180, 0, 132, 4, 96, 181, 0, 132, 42, 180, 0, 132] := bH_c (n := 22) (by decide +kernel)
theorem dX11_can_105 : decode cX11_can 105 = .ok (.iconst 0, 1) := de3 hX11_can_105 0 rfl rfl
theorem dX11_can_106 : decode cX11_can 106 = .ok (.iastore, 1) := de79 hX11_can_105 1 rfl rfl
theorem dX11_can_107 : decode cX11_can 107 = .ok (.iinc 3 1, 3) := de132 hX11_can_105 2 rfl rfl rfl rfl
theorem dX11_can_110 : decode cX11_can 110 = .ok (.goto (-38), 3) := de167 hX11_can_105 5 rfl rfl (by decide +kernel)
theorem dX11_can_113 : decode cX11_can 113 = .ok (.aload_n 0, 1) := de42 hX11_can_105 8 rfl rfl
theorem dX11_can_114 : decode cX11_can 114 = .ok (.dup, 1) := de89 hX11_can_105 9 rfl rfl
theorem dX11_can_115 : decode cX11_can 115 = .ok (.getfield 132, 3) := de180 hX11_can_105 10 rfl rfl rfl
theorem dX11_can_118 : decode cX11_can 118 = .ok (.iconst 1, 1) := de4 hX11_can_105 13 rfl rfl
theorem dX11_can_119 : decode cX11_can 119 = .ok (.iadd, 1) := de96 hX11_can_105 14 rfl rfl
theorem dX11_can_120 : decode cX11_can 120 = .ok (.putfield 132, 3) := de181 hX11_can_105 15 rfl rfl rfl
theorem dX11_can_123 : decode cX11_can 123 = .ok (.aload_n 0, 1) := de42 hX11_can_105 18 rfl rfl
theorem dX11_can_124 : decode cX11_can 124 = .ok (.getfield 132, 3) := de180 hX11_can_105 19 rfl rfl rfl
theorem hX11_can_127 : bHas cX11_can 127 [4, 100, 172] := bH_c (n := 3) (by decide +kernel)
theorem dX11_can_127 : decode cX11_can 127 = .ok (.iconst 1, 1) := de4 hX11_can_127 0 rfl rfl
theorem dX11_can_128 : decode cX11_can 128 = .ok (.isub, 1) := de100 hX11_can_127 1 rfl rfl
theorem dX11_can_129 : decode cX11_can 129 = .ok (.ireturn, 1) := de172 hX11_can_127 2 rfl rfl
theorem hX11_miss_0 : bHas cX11_miss 0 [42, 27, 182, 0, 143, 154, 0, 5, 2, 172, 28, 133, 9, 20, 0, 147, 184, 0, 126, 153, 0, 15] := bH_c (n := 22) (by decide +kernel)
theorem dX11_miss_0 : decode cX11_miss 0 = .ok (.aload_n 0, 1) := de42 hX11_miss_0 0 rfl rfl
theorem dX11_miss_1 : decode cX11_miss 1 = .ok (.iload_n 1, 1) := de27 hX11_miss_0 1 rfl rfl
theorem dX11_miss_2 : decode cX11_miss 2 = .ok (.invokevirtual 143, 3) := de182 hX11_miss_0 2 rfl rfl rfl
theorem dX11_miss_5 : decode cX11_miss 5 = .ok (.ifCond .ne 5, 3) := de154 hX11_miss_0 5 rfl rfl (by decide +kernel)
theorem dX11_miss_8 : decode cX11_miss 8 = .ok (.iconst (-1), 1) := de2 hX11_miss_0 8 rfl rfl
theorem dX11_miss_9 : decode cX11_miss 9 = .ok (.ireturn, 1) := de172 hX11_miss_0 9 rfl rfl
theorem dX11_miss_10 : decode cX11_miss 10 = .ok (.iload_n 2, 1) := de28 hX11_miss_0 10 rfl rfl
theorem dX11_miss_11 : decode cX11_miss 11 = .ok (.i2l, 1) := de133 hX11_miss_0 11 rfl rfl
theorem dX11_miss_12 : decode cX11_miss 12 = .ok (.lconst 0, 1) := de9 hX11_miss_0 12 rfl rfl
theorem dX11_miss_13 : decode cX11_miss 13 = .ok (.ldc2_w 147, 3) := de20 hX11_miss_0 13 rfl rfl rfl
theorem dX11_miss_16 : decode cX11_miss 16 = .ok (.invokestatic 126, 3) := de184 hX11_miss_0 16 rfl rfl rfl
theorem dX11_miss_19 : decode cX11_miss 19 = .ok (.ifCond .eq 15, 3) := de153 hX11_miss_0 19 rfl rfl (by decide +kernel)
theorem hX11_miss_22 : bHas cX11_miss 22 [29, 133, 9, 20, 0, 149, 184, 0, 126, 154, 0, 6, 16, 254, 172, 42, 180, 0, 16, 6, 27] := bH_c (n := 21) (by decide +kernel)
theorem dX11_miss_22 : decode cX11_miss 22 = .ok (.iload_n 3, 1) := de29 hX11_miss_22 0 rfl rfl
theorem dX11_miss_23 : decode cX11_miss 23 = .ok (.i2l, 1) := de133 hX11_miss_22 1 rfl rfl
theorem dX11_miss_24 : decode cX11_miss 24 = .ok (.lconst 0, 1) := de9 hX11_miss_22 2 rfl rfl
theorem dX11_miss_25 : decode cX11_miss 25 = .ok (.ldc2_w 149, 3) := de20 hX11_miss_22 3 rfl rfl rfl
theorem dX11_miss_28 : decode cX11_miss 28 = .ok (.invokestatic 126, 3) := de184 hX11_miss_22 6 rfl rfl rfl
theorem dX11_miss_31 : decode cX11_miss 31 = .ok (.ifCond .ne 6, 3) := de154 hX11_miss_22 9 rfl rfl (by decide +kernel)
theorem dX11_miss_34 : decode cX11_miss 34 = .ok (.bipush (-2), 2) := de16 hX11_miss_22 12 rfl rfl rfl
theorem dX11_miss_36 : decode cX11_miss 36 = .ok (.ireturn, 1) := de172 hX11_miss_22 14 rfl rfl
theorem dX11_miss_37 : decode cX11_miss 37 = .ok (.aload_n 0, 1) := de42 hX11_miss_22 15 rfl rfl
theorem dX11_miss_38 : decode cX11_miss 38 = .ok (.getfield 16, 3) := de180 hX11_miss_22 16 rfl rfl rfl
theorem dX11_miss_41 : decode cX11_miss 41 = .ok (.iconst 3, 1) := de6 hX11_miss_22 19 rfl rfl
theorem dX11_miss_42 : decode cX11_miss 42 = .ok (.iload_n 1, 1) := de27 hX11_miss_22 20 rfl rfl
theorem hX11_miss_43 : bHas cX11_miss 43 [104, 28, 96, 46, 54, 4, 42, 180, 0, 16, 6, 27, 104, 28, 96] := bH_c (n := 15) (by decide +kernel)
theorem dX11_miss_43 : decode cX11_miss 43 = .ok (.imul, 1) := de104 hX11_miss_43 0 rfl rfl
theorem dX11_miss_44 : decode cX11_miss 44 = .ok (.iload_n 2, 1) := de28 hX11_miss_43 1 rfl rfl
theorem dX11_miss_45 : decode cX11_miss 45 = .ok (.iadd, 1) := de96 hX11_miss_43 2 rfl rfl
theorem dX11_miss_46 : decode cX11_miss 46 = .ok (.iaload, 1) := de46 hX11_miss_43 3 rfl rfl
theorem dX11_miss_47 : decode cX11_miss 47 = .ok (.istore 4, 2) := de54 hX11_miss_43 4 rfl rfl rfl
theorem dX11_miss_49 : decode cX11_miss 49 = .ok (.aload_n 0, 1) := de42 hX11_miss_43 6 rfl rfl
theorem dX11_miss_50 : decode cX11_miss 50 = .ok (.getfield 16, 3) := de180 hX11_miss_43 7 rfl rfl rfl
theorem dX11_miss_53 : decode cX11_miss 53 = .ok (.iconst 3, 1) := de6 hX11_miss_43 10 rfl rfl
theorem dX11_miss_54 : decode cX11_miss 54 = .ok (.iload_n 1, 1) := de27 hX11_miss_43 11 rfl rfl
theorem dX11_miss_55 : decode cX11_miss 55 = .ok (.imul, 1) := de104 hX11_miss_43 12 rfl rfl
theorem dX11_miss_56 : decode cX11_miss 56 = .ok (.iload_n 2, 1) := de28 hX11_miss_43 13 rfl rfl
theorem dX11_miss_57 : decode cX11_miss 57 = .ok (.iadd, 1) := de96 hX11_miss_43 14 rfl rfl
theorem hX11_miss_58 : bHas cX11_miss 58 [29, 79, 21, 4, 172] := bH_c (n := 5) (by decide +kernel)
theorem dX11_miss_58 : decode cX11_miss 58 = .ok (.iload_n 3, 1) := de29 hX11_miss_58 0 rfl rfl
theorem dX11_miss_59 : decode cX11_miss 59 = .ok (.iastore, 1) := de79 hX11_miss_58 1 rfl rfl
theorem dX11_miss_60 : decode cX11_miss 60 = .ok (.iload 4, 2) := de21 hX11_miss_58 2 rfl rfl rfl
theorem dX11_miss_62 : decode cX11_miss 62 = .ok (.ireturn, 1) := de172 hX11_miss_58 4 rfl rfl
theorem hX11_wind_0 : bHas cX11_wind 0 [27, 184, 0, 151, 154, 0, 5, 2, 172, 28, 133, 9, 20, 0, 147, 184, 0, 126, 154, 0, 6, 16, 254] := bH_c (n := 23) (by decide +kernel)
theorem dX11_wind_0 : decode cX11_wind 0 = .ok (.iload_n 1, 1) := de27 hX11_wind_0 0 rfl rfl
theorem dX11_wind_1 : decode cX11_wind 1 = .ok (.invokestatic 151, 3) := de184 hX11_wind_0 1 rfl rfl rfl
theorem dX11_wind_4 : decode cX11_wind 4 = .ok (.ifCond .ne 5, 3) := de154 hX11_wind_0 4 rfl rfl (by decide +kernel)
theorem dX11_wind_7 : decode cX11_wind 7 = .ok (.iconst (-1), 1) := de2 hX11_wind_0 7 rfl rfl
theorem dX11_wind_8 : decode cX11_wind 8 = .ok (.ireturn, 1) := de172 hX11_wind_0 8 rfl rfl
theorem dX11_wind_9 : decode cX11_wind 9 = .ok (.iload_n 2, 1) := de28 hX11_wind_0 9 rfl rfl
theorem dX11_wind_10 : decode cX11_wind 10 = .ok (.i2l, 1) := de133 hX11_wind_0 10 rfl rfl
theorem dX11_wind_11 : decode cX11_wind 11 = .ok (.lconst 0, 1) := de9 hX11_wind_0 11 rfl rfl
theorem dX11_wind_12 : decode cX11_wind 12 = .ok (.ldc2_w 147, 3) := de20 hX11_wind_0 12 rfl rfl rfl
theorem dX11_wind_15 : decode cX11_wind 15 = .ok (.invokestatic 126, 3) := de184 hX11_wind_0 15 rfl rfl rfl
theorem dX11_wind_18 : decode cX11_wind 18 = .ok (.ifCond .ne 6, 3) := de154 hX11_wind_0 18 rfl rfl (by decide +kernel)
theorem dX11_wind_21 : decode cX11_wind 21 = .ok (.bipush (-2), 2) := de16 hX11_wind_0 21 rfl rfl rfl
theorem hX11_wind_23 : bHas cX11_wind 23 [172, 42, 180, 0, 19, 27, 46, 62, 42, 180, 0, 19, 27, 28, 79, 29] := bH_c (n := 16) (by decide +kernel)
theorem dX11_wind_23 : decode cX11_wind 23 = .ok (.ireturn, 1) := de172 hX11_wind_23 0 rfl rfl
theorem dX11_wind_24 : decode cX11_wind 24 = .ok (.aload_n 0, 1) := de42 hX11_wind_23 1 rfl rfl
theorem dX11_wind_25 : decode cX11_wind 25 = .ok (.getfield 19, 3) := de180 hX11_wind_23 2 rfl rfl rfl
theorem dX11_wind_28 : decode cX11_wind 28 = .ok (.iload_n 1, 1) := de27 hX11_wind_23 5 rfl rfl
theorem dX11_wind_29 : decode cX11_wind 29 = .ok (.iaload, 1) := de46 hX11_wind_23 6 rfl rfl
theorem dX11_wind_30 : decode cX11_wind 30 = .ok (.istore_n 3, 1) := de62 hX11_wind_23 7 rfl rfl
theorem dX11_wind_31 : decode cX11_wind 31 = .ok (.aload_n 0, 1) := de42 hX11_wind_23 8 rfl rfl
theorem dX11_wind_32 : decode cX11_wind 32 = .ok (.getfield 19, 3) := de180 hX11_wind_23 9 rfl rfl rfl
theorem dX11_wind_35 : decode cX11_wind 35 = .ok (.iload_n 1, 1) := de27 hX11_wind_23 12 rfl rfl
theorem dX11_wind_36 : decode cX11_wind 36 = .ok (.iload_n 2, 1) := de28 hX11_wind_23 13 rfl rfl
theorem dX11_wind_37 : decode cX11_wind 37 = .ok (.iastore, 1) := de79 hX11_wind_23 14 rfl rfl
theorem dX11_wind_38 : decode cX11_wind 38 = .ok (.iload_n 3, 1) := de29 hX11_wind_23 15 rfl rfl
theorem hX11_wind_39 : bHas cX11_wind 39 [172] := bH_c (n := 1) (by decide +kernel)
theorem dX11_wind_39 : decode cX11_wind 39 = .ok (.ireturn, 1) := de172 hX11_wind_39 0 rfl rfl
theorem hX11_raw_0 : bHas cX11_raw 0 [42, 27, 182, 0, 143, 153, 0, 10, 28, 184, 0, 151, 154, 0, 5, 2, 172, 29, 133, 20, 0, 154] := bH_c (n := 22) (by decide +kernel)
theorem dX11_raw_0 : decode cX11_raw 0 = .ok (.aload_n 0, 1) := de42 hX11_raw_0 0 rfl rfl
theorem dX11_raw_1 : decode cX11_raw 1 = .ok (.iload_n 1, 1) := de27 hX11_raw_0 1 rfl rfl
theorem dX11_raw_2 : decode cX11_raw 2 = .ok (.invokevirtual 143, 3) := de182 hX11_raw_0 2 rfl rfl rfl
theorem dX11_raw_5 : decode cX11_raw 5 = .ok (.ifCond .eq 10, 3) := de153 hX11_raw_0 5 rfl rfl (by decide +kernel)
theorem dX11_raw_8 : decode cX11_raw 8 = .ok (.iload_n 2, 1) := de28 hX11_raw_0 8 rfl rfl
theorem dX11_raw_9 : decode cX11_raw 9 = .ok (.invokestatic 151, 3) := de184 hX11_raw_0 9 rfl rfl rfl
theorem dX11_raw_12 : decode cX11_raw 12 = .ok (.ifCond .ne 5, 3) := de154 hX11_raw_0 12 rfl rfl (by decide +kernel)
theorem dX11_raw_15 : decode cX11_raw 15 = .ok (.iconst (-1), 1) := de2 hX11_raw_0 15 rfl rfl
theorem dX11_raw_16 : decode cX11_raw 16 = .ok (.ireturn, 1) := de172 hX11_raw_0 16 rfl rfl
theorem dX11_raw_17 : decode cX11_raw 17 = .ok (.iload_n 3, 1) := de29 hX11_raw_0 17 rfl rfl
theorem dX11_raw_18 : decode cX11_raw 18 = .ok (.i2l, 1) := de133 hX11_raw_0 18 rfl rfl
theorem dX11_raw_19 : decode cX11_raw 19 = .ok (.ldc2_w 154, 3) := de20 hX11_raw_0 19 rfl rfl rfl
theorem hX11_raw_22 : bHas cX11_raw 22 [20, 0, 156, 184, 0, 126, 154, 0, 6, 16, 254, 172, 42, 180, 0, 22, 27, 28, 184, 0, 139, 46, 54, 4] := bH_c (n := 24) (by decide +kernel)
theorem dX11_raw_22 : decode cX11_raw 22 = .ok (.ldc2_w 156, 3) := de20 hX11_raw_22 0 rfl rfl rfl
theorem dX11_raw_25 : decode cX11_raw 25 = .ok (.invokestatic 126, 3) := de184 hX11_raw_22 3 rfl rfl rfl
theorem dX11_raw_28 : decode cX11_raw 28 = .ok (.ifCond .ne 6, 3) := de154 hX11_raw_22 6 rfl rfl (by decide +kernel)
theorem dX11_raw_31 : decode cX11_raw 31 = .ok (.bipush (-2), 2) := de16 hX11_raw_22 9 rfl rfl rfl
theorem dX11_raw_33 : decode cX11_raw 33 = .ok (.ireturn, 1) := de172 hX11_raw_22 11 rfl rfl
theorem dX11_raw_34 : decode cX11_raw 34 = .ok (.aload_n 0, 1) := de42 hX11_raw_22 12 rfl rfl
theorem dX11_raw_35 : decode cX11_raw 35 = .ok (.getfield 22, 3) := de180 hX11_raw_22 13 rfl rfl rfl
theorem dX11_raw_38 : decode cX11_raw 38 = .ok (.iload_n 1, 1) := de27 hX11_raw_22 16 rfl rfl
theorem dX11_raw_39 : decode cX11_raw 39 = .ok (.iload_n 2, 1) := de28 hX11_raw_22 17 rfl rfl
theorem dX11_raw_40 : decode cX11_raw 40 = .ok (.invokestatic 139, 3) := de184 hX11_raw_22 18 rfl rfl rfl
theorem dX11_raw_43 : decode cX11_raw 43 = .ok (.iaload, 1) := de46 hX11_raw_22 21 rfl rfl
theorem dX11_raw_44 : decode cX11_raw 44 = .ok (.istore 4, 2) := de54 hX11_raw_22 22 rfl rfl rfl
theorem hX11_raw_46 : bHas cX11_raw 46 [42, 180, 0, 22, 27, 28, 184, 0, 139, 29, 156, 0, 8, 16, 250, 167, 0, 4, 29, 79, 21, 4] := bH_c (n := 22) (by decide +kernel)
theorem dX11_raw_46 : decode cX11_raw 46 = .ok (.aload_n 0, 1) := de42 hX11_raw_46 0 rfl rfl
theorem dX11_raw_47 : decode cX11_raw 47 = .ok (.getfield 22, 3) := de180 hX11_raw_46 1 rfl rfl rfl
theorem dX11_raw_50 : decode cX11_raw 50 = .ok (.iload_n 1, 1) := de27 hX11_raw_46 4 rfl rfl
theorem dX11_raw_51 : decode cX11_raw 51 = .ok (.iload_n 2, 1) := de28 hX11_raw_46 5 rfl rfl
theorem dX11_raw_52 : decode cX11_raw 52 = .ok (.invokestatic 139, 3) := de184 hX11_raw_46 6 rfl rfl rfl
theorem dX11_raw_55 : decode cX11_raw 55 = .ok (.iload_n 3, 1) := de29 hX11_raw_46 9 rfl rfl
theorem dX11_raw_56 : decode cX11_raw 56 = .ok (.ifCond .ge 8, 3) := de156 hX11_raw_46 10 rfl rfl (by decide +kernel)
theorem dX11_raw_59 : decode cX11_raw 59 = .ok (.bipush (-6), 2) := de16 hX11_raw_46 13 rfl rfl rfl
theorem dX11_raw_61 : decode cX11_raw 61 = .ok (.goto 4, 3) := de167 hX11_raw_46 15 rfl rfl (by decide +kernel)
theorem dX11_raw_64 : decode cX11_raw 64 = .ok (.iload_n 3, 1) := de29 hX11_raw_46 18 rfl rfl
theorem dX11_raw_65 : decode cX11_raw 65 = .ok (.iastore, 1) := de79 hX11_raw_46 19 rfl rfl
theorem dX11_raw_66 : decode cX11_raw 66 = .ok (.iload 4, 2) := de21 hX11_raw_46 20 rfl rfl rfl
theorem hX11_raw_68 : bHas cX11_raw 68 [172] := bH_c (n := 1) (by decide +kernel)
theorem dX11_raw_68 : decode cX11_raw 68 = .ok (.ireturn, 1) := de172 hX11_raw_68 0 rfl rfl
theorem hX11_fix_0 : bHas cX11_fix 0 [42, 27, 182, 0, 143, 153, 0, 10, 28, 184, 0, 151, 154, 0, 5, 2, 172, 29, 133, 20, 0, 154] := bH_c (n := 22) (by decide +kernel)
theorem dX11_fix_0 : decode cX11_fix 0 = .ok (.aload_n 0, 1) := de42 hX11_fix_0 0 rfl rfl
theorem dX11_fix_1 : decode cX11_fix 1 = .ok (.iload_n 1, 1) := de27 hX11_fix_0 1 rfl rfl
theorem dX11_fix_2 : decode cX11_fix 2 = .ok (.invokevirtual 143, 3) := de182 hX11_fix_0 2 rfl rfl rfl
theorem dX11_fix_5 : decode cX11_fix 5 = .ok (.ifCond .eq 10, 3) := de153 hX11_fix_0 5 rfl rfl (by decide +kernel)
theorem dX11_fix_8 : decode cX11_fix 8 = .ok (.iload_n 2, 1) := de28 hX11_fix_0 8 rfl rfl
theorem dX11_fix_9 : decode cX11_fix 9 = .ok (.invokestatic 151, 3) := de184 hX11_fix_0 9 rfl rfl rfl
theorem dX11_fix_12 : decode cX11_fix 12 = .ok (.ifCond .ne 5, 3) := de154 hX11_fix_0 12 rfl rfl (by decide +kernel)
theorem dX11_fix_15 : decode cX11_fix 15 = .ok (.iconst (-1), 1) := de2 hX11_fix_0 15 rfl rfl
theorem dX11_fix_16 : decode cX11_fix 16 = .ok (.ireturn, 1) := de172 hX11_fix_0 16 rfl rfl
theorem dX11_fix_17 : decode cX11_fix 17 = .ok (.iload_n 3, 1) := de29 hX11_fix_0 17 rfl rfl
theorem dX11_fix_18 : decode cX11_fix 18 = .ok (.i2l, 1) := de133 hX11_fix_0 18 rfl rfl
theorem dX11_fix_19 : decode cX11_fix 19 = .ok (.ldc2_w 154, 3) := de20 hX11_fix_0 19 rfl rfl rfl
theorem hX11_fix_22 : bHas cX11_fix 22 [20, 0, 156, 184, 0, 126, 154, 0, 6, 16, 254, 172, 42, 180, 0, 158, 16, 20, 160, 0, 6, 16, 252, 172, 42] := bH_c (n := 25) (by decide +kernel)
theorem dX11_fix_22 : decode cX11_fix 22 = .ok (.ldc2_w 156, 3) := de20 hX11_fix_22 0 rfl rfl rfl
theorem dX11_fix_25 : decode cX11_fix 25 = .ok (.invokestatic 126, 3) := de184 hX11_fix_22 3 rfl rfl rfl
theorem dX11_fix_28 : decode cX11_fix 28 = .ok (.ifCond .ne 6, 3) := de154 hX11_fix_22 6 rfl rfl (by decide +kernel)
theorem dX11_fix_31 : decode cX11_fix 31 = .ok (.bipush (-2), 2) := de16 hX11_fix_22 9 rfl rfl rfl
theorem dX11_fix_33 : decode cX11_fix 33 = .ok (.ireturn, 1) := de172 hX11_fix_22 11 rfl rfl
theorem dX11_fix_34 : decode cX11_fix 34 = .ok (.aload_n 0, 1) := de42 hX11_fix_22 12 rfl rfl
theorem dX11_fix_35 : decode cX11_fix 35 = .ok (.getfield 158, 3) := de180 hX11_fix_22 13 rfl rfl rfl
theorem dX11_fix_38 : decode cX11_fix 38 = .ok (.bipush 20, 2) := de16 hX11_fix_22 16 rfl rfl rfl
theorem dX11_fix_40 : decode cX11_fix 40 = .ok (.if_icmp .ne 6, 3) := de160 hX11_fix_22 18 rfl rfl (by decide +kernel)
theorem dX11_fix_43 : decode cX11_fix 43 = .ok (.bipush (-4), 2) := de16 hX11_fix_22 21 rfl rfl rfl
theorem dX11_fix_45 : decode cX11_fix 45 = .ok (.ireturn, 1) := de172 hX11_fix_22 23 rfl rfl
theorem dX11_fix_46 : decode cX11_fix 46 = .ok (.aload_n 0, 1) := de42 hX11_fix_22 24 rfl rfl
theorem hX11_fix_47 : bHas cX11_fix 47 [180, 0, 25, 42, 180, 0, 158, 27, 79, 42, 180, 0, 28, 42, 180, 0, 158, 28, 79, 42] := bH_c (n := 20) (by decide +kernel)
theorem dX11_fix_47 : decode cX11_fix 47 = .ok (.getfield 25, 3) := de180 hX11_fix_47 0 rfl rfl rfl
theorem dX11_fix_50 : decode cX11_fix 50 = .ok (.aload_n 0, 1) := de42 hX11_fix_47 3 rfl rfl
theorem dX11_fix_51 : decode cX11_fix 51 = .ok (.getfield 158, 3) := de180 hX11_fix_47 4 rfl rfl rfl
theorem dX11_fix_54 : decode cX11_fix 54 = .ok (.iload_n 1, 1) := de27 hX11_fix_47 7 rfl rfl
theorem dX11_fix_55 : decode cX11_fix 55 = .ok (.iastore, 1) := de79 hX11_fix_47 8 rfl rfl
theorem dX11_fix_56 : decode cX11_fix 56 = .ok (.aload_n 0, 1) := de42 hX11_fix_47 9 rfl rfl
theorem dX11_fix_57 : decode cX11_fix 57 = .ok (.getfield 28, 3) := de180 hX11_fix_47 10 rfl rfl rfl
theorem dX11_fix_60 : decode cX11_fix 60 = .ok (.aload_n 0, 1) := de42 hX11_fix_47 13 rfl rfl
theorem dX11_fix_61 : decode cX11_fix 61 = .ok (.getfield 158, 3) := de180 hX11_fix_47 14 rfl rfl rfl
theorem dX11_fix_64 : decode cX11_fix 64 = .ok (.iload_n 2, 1) := de28 hX11_fix_47 17 rfl rfl
theorem dX11_fix_65 : decode cX11_fix 65 = .ok (.iastore, 1) := de79 hX11_fix_47 18 rfl rfl
theorem dX11_fix_66 : decode cX11_fix 66 = .ok (.aload_n 0, 1) := de42 hX11_fix_47 19 rfl rfl
theorem hX11_fix_67 : bHas cX11_fix 67 [180, 0, 31, 42, 180, 0, 158, 29, 156, 0, 8, 16, 250, 167, 0, 4, 29, 79, 42, 89, 180, 0, 158] := bH_c (n := 23) (by decide +kernel)
theorem dX11_fix_67 : decode cX11_fix 67 = .ok (.getfield 31, 3) := de180 hX11_fix_67 0 rfl rfl rfl
theorem dX11_fix_70 : decode cX11_fix 70 = .ok (.aload_n 0, 1) := de42 hX11_fix_67 3 rfl rfl
theorem dX11_fix_71 : decode cX11_fix 71 = .ok (.getfield 158, 3) := de180 hX11_fix_67 4 rfl rfl rfl
theorem dX11_fix_74 : decode cX11_fix 74 = .ok (.iload_n 3, 1) := de29 hX11_fix_67 7 rfl rfl
theorem dX11_fix_75 : decode cX11_fix 75 = .ok (.ifCond .ge 8, 3) := de156 hX11_fix_67 8 rfl rfl (by decide +kernel)
theorem dX11_fix_78 : decode cX11_fix 78 = .ok (.bipush (-6), 2) := de16 hX11_fix_67 11 rfl rfl rfl
theorem dX11_fix_80 : decode cX11_fix 80 = .ok (.goto 4, 3) := de167 hX11_fix_67 13 rfl rfl (by decide +kernel)
theorem dX11_fix_83 : decode cX11_fix 83 = .ok (.iload_n 3, 1) := de29 hX11_fix_67 16 rfl rfl
theorem dX11_fix_84 : decode cX11_fix 84 = .ok (.iastore, 1) := de79 hX11_fix_67 17 rfl rfl
theorem dX11_fix_85 : decode cX11_fix 85 = .ok (.aload_n 0, 1) := de42 hX11_fix_67 18 rfl rfl
theorem dX11_fix_86 : decode cX11_fix 86 = .ok (.dup, 1) := de89 hX11_fix_67 19 rfl rfl
theorem dX11_fix_87 : decode cX11_fix 87 = .ok (.getfield 158, 3) := de180 hX11_fix_67 20 rfl rfl rfl
theorem hX11_fix_90 : bHas cX11_fix 90 [4, 96, 181, 0, 158, 42, 180, 0, 158, 172] := bH_c (n := 10) (by decide +kernel)
theorem dX11_fix_90 : decode cX11_fix 90 = .ok (.iconst 1, 1) := de4 hX11_fix_90 0 rfl rfl
theorem dX11_fix_91 : decode cX11_fix 91 = .ok (.iadd, 1) := de96 hX11_fix_90 1 rfl rfl
theorem dX11_fix_92 : decode cX11_fix 92 = .ok (.putfield 158, 3) := de181 hX11_fix_90 2 rfl rfl rfl
theorem dX11_fix_95 : decode cX11_fix 95 = .ok (.aload_n 0, 1) := de42 hX11_fix_90 5 rfl rfl
theorem dX11_fix_96 : decode cX11_fix 96 = .ok (.getfield 158, 3) := de180 hX11_fix_90 6 rfl rfl rfl
theorem dX11_fix_99 : decode cX11_fix 99 = .ok (.ireturn, 1) := de172 hX11_fix_90 9 rfl rfl
theorem hX11_undo_0 : bHas cX11_undo 0 [42, 180, 0, 158, 154, 0, 6, 16, 251, 172, 42, 89, 180, 0, 158, 4, 100, 181, 0, 158, 42] := bH_c (n := 21) (by decide +kernel)
theorem dX11_undo_0 : decode cX11_undo 0 = .ok (.aload_n 0, 1) := de42 hX11_undo_0 0 rfl rfl
theorem dX11_undo_1 : decode cX11_undo 1 = .ok (.getfield 158, 3) := de180 hX11_undo_0 1 rfl rfl rfl
theorem dX11_undo_4 : decode cX11_undo 4 = .ok (.ifCond .ne 6, 3) := de154 hX11_undo_0 4 rfl rfl (by decide +kernel)
theorem dX11_undo_7 : decode cX11_undo 7 = .ok (.bipush (-5), 2) := de16 hX11_undo_0 7 rfl rfl rfl
theorem dX11_undo_9 : decode cX11_undo 9 = .ok (.ireturn, 1) := de172 hX11_undo_0 9 rfl rfl
theorem dX11_undo_10 : decode cX11_undo 10 = .ok (.aload_n 0, 1) := de42 hX11_undo_0 10 rfl rfl
theorem dX11_undo_11 : decode cX11_undo 11 = .ok (.dup, 1) := de89 hX11_undo_0 11 rfl rfl
theorem dX11_undo_12 : decode cX11_undo 12 = .ok (.getfield 158, 3) := de180 hX11_undo_0 12 rfl rfl rfl
theorem dX11_undo_15 : decode cX11_undo 15 = .ok (.iconst 1, 1) := de4 hX11_undo_0 15 rfl rfl
theorem dX11_undo_16 : decode cX11_undo 16 = .ok (.isub, 1) := de100 hX11_undo_0 16 rfl rfl
theorem dX11_undo_17 : decode cX11_undo 17 = .ok (.putfield 158, 3) := de181 hX11_undo_0 17 rfl rfl rfl
theorem dX11_undo_20 : decode cX11_undo 20 = .ok (.aload_n 0, 1) := de42 hX11_undo_0 20 rfl rfl
theorem hX11_undo_21 : bHas cX11_undo 21 [180, 0, 158, 172] := bH_c (n := 4) (by decide +kernel)
theorem dX11_undo_21 : decode cX11_undo 21 = .ok (.getfield 158, 3) := de180 hX11_undo_21 0 rfl rfl rfl
theorem dX11_undo_24 : decode cX11_undo 24 = .ok (.ireturn, 1) := de172 hX11_undo_21 3 rfl rfl
theorem hX11_say_0 : bHas cX11_say 0 [27, 133, 20, 0, 161, 20, 0, 163, 184, 0, 126, 154, 0, 6, 16, 254, 172, 42, 180, 0, 165, 16, 40, 160, 0, 6] := bH_c (n := 26) (by decide +kernel)
theorem dX11_say_0 : decode cX11_say 0 = .ok (.iload_n 1, 1) := de27 hX11_say_0 0 rfl rfl
theorem dX11_say_1 : decode cX11_say 1 = .ok (.i2l, 1) := de133 hX11_say_0 1 rfl rfl
theorem dX11_say_2 : decode cX11_say 2 = .ok (.ldc2_w 161, 3) := de20 hX11_say_0 2 rfl rfl rfl
theorem dX11_say_5 : decode cX11_say 5 = .ok (.ldc2_w 163, 3) := de20 hX11_say_0 5 rfl rfl rfl
theorem dX11_say_8 : decode cX11_say 8 = .ok (.invokestatic 126, 3) := de184 hX11_say_0 8 rfl rfl rfl
theorem dX11_say_11 : decode cX11_say 11 = .ok (.ifCond .ne 6, 3) := de154 hX11_say_0 11 rfl rfl (by decide +kernel)
theorem dX11_say_14 : decode cX11_say 14 = .ok (.bipush (-2), 2) := de16 hX11_say_0 14 rfl rfl rfl
theorem dX11_say_16 : decode cX11_say 16 = .ok (.ireturn, 1) := de172 hX11_say_0 16 rfl rfl
theorem dX11_say_17 : decode cX11_say 17 = .ok (.aload_n 0, 1) := de42 hX11_say_0 17 rfl rfl
theorem dX11_say_18 : decode cX11_say 18 = .ok (.getfield 165, 3) := de180 hX11_say_0 18 rfl rfl rfl
theorem dX11_say_21 : decode cX11_say 21 = .ok (.bipush 40, 2) := de16 hX11_say_0 21 rfl rfl rfl
theorem dX11_say_23 : decode cX11_say 23 = .ok (.if_icmp .ne 6, 3) := de160 hX11_say_0 23 rfl rfl (by decide +kernel)
theorem hX11_say_26 : bHas cX11_say 26 [16, 252, 172, 42, 180, 0, 34, 42, 180, 0, 165, 27, 79, 42, 89, 180, 0, 165, 4] := bH_c (n := 19) (by decide +kernel)
theorem dX11_say_26 : decode cX11_say 26 = .ok (.bipush (-4), 2) := de16 hX11_say_26 0 rfl rfl rfl
theorem dX11_say_28 : decode cX11_say 28 = .ok (.ireturn, 1) := de172 hX11_say_26 2 rfl rfl
theorem dX11_say_29 : decode cX11_say 29 = .ok (.aload_n 0, 1) := de42 hX11_say_26 3 rfl rfl
theorem dX11_say_30 : decode cX11_say 30 = .ok (.getfield 34, 3) := de180 hX11_say_26 4 rfl rfl rfl
theorem dX11_say_33 : decode cX11_say 33 = .ok (.aload_n 0, 1) := de42 hX11_say_26 7 rfl rfl
theorem dX11_say_34 : decode cX11_say 34 = .ok (.getfield 165, 3) := de180 hX11_say_26 8 rfl rfl rfl
theorem dX11_say_37 : decode cX11_say 37 = .ok (.iload_n 1, 1) := de27 hX11_say_26 11 rfl rfl
theorem dX11_say_38 : decode cX11_say 38 = .ok (.iastore, 1) := de79 hX11_say_26 12 rfl rfl
theorem dX11_say_39 : decode cX11_say 39 = .ok (.aload_n 0, 1) := de42 hX11_say_26 13 rfl rfl
theorem dX11_say_40 : decode cX11_say 40 = .ok (.dup, 1) := de89 hX11_say_26 14 rfl rfl
theorem dX11_say_41 : decode cX11_say 41 = .ok (.getfield 165, 3) := de180 hX11_say_26 15 rfl rfl rfl
theorem dX11_say_44 : decode cX11_say 44 = .ok (.iconst 1, 1) := de4 hX11_say_26 18 rfl rfl
theorem hX11_say_45 : bHas cX11_say 45 [96, 181, 0, 165, 42, 180, 0, 165, 172] := bH_c (n := 9) (by decide +kernel)
theorem dX11_say_45 : decode cX11_say 45 = .ok (.iadd, 1) := de96 hX11_say_45 0 rfl rfl
theorem dX11_say_46 : decode cX11_say 46 = .ok (.putfield 165, 3) := de181 hX11_say_45 1 rfl rfl rfl
theorem dX11_say_49 : decode cX11_say 49 = .ok (.aload_n 0, 1) := de42 hX11_say_45 4 rfl rfl
theorem dX11_say_50 : decode cX11_say 50 = .ok (.getfield 165, 3) := de180 hX11_say_45 5 rfl rfl rfl
theorem dX11_say_53 : decode cX11_say 53 = .ok (.ireturn, 1) := de172 hX11_say_45 8 rfl rfl
theorem hX11_wipe_0 : bHas cX11_wipe 0 [42, 180, 0, 165, 60, 42, 3, 181, 0, 165, 27, 172] := bH_c (n := 12) (by decide +kernel)
theorem dX11_wipe_0 : decode cX11_wipe 0 = .ok (.aload_n 0, 1) := de42 hX11_wipe_0 0 rfl rfl
theorem dX11_wipe_1 : decode cX11_wipe 1 = .ok (.getfield 165, 3) := de180 hX11_wipe_0 1 rfl rfl rfl
theorem dX11_wipe_4 : decode cX11_wipe 4 = .ok (.istore_n 1, 1) := de60 hX11_wipe_0 4 rfl rfl
theorem dX11_wipe_5 : decode cX11_wipe 5 = .ok (.aload_n 0, 1) := de42 hX11_wipe_0 5 rfl rfl
theorem dX11_wipe_6 : decode cX11_wipe 6 = .ok (.iconst 0, 1) := de3 hX11_wipe_0 6 rfl rfl
theorem dX11_wipe_7 : decode cX11_wipe 7 = .ok (.putfield 165, 3) := de181 hX11_wipe_0 7 rfl rfl rfl
theorem dX11_wipe_10 : decode cX11_wipe 10 = .ok (.iload_n 1, 1) := de27 hX11_wipe_0 10 rfl rfl
theorem dX11_wipe_11 : decode cX11_wipe 11 = .ok (.ireturn, 1) := de172 hX11_wipe_0 11 rfl rfl
theorem hX11_stepOf_0 : bHas cX11_stepOf 0 [27, 133, 20, 0, 168, 20, 0, 170, 184, 0, 126, 61, 26] := bH_c (n := 13) (by decide +kernel)
theorem dX11_stepOf_0 : decode cX11_stepOf 0 = .ok (.iload_n 1, 1) := de27 hX11_stepOf_0 0 rfl rfl
theorem dX11_stepOf_1 : decode cX11_stepOf 1 = .ok (.i2l, 1) := de133 hX11_stepOf_0 1 rfl rfl
theorem dX11_stepOf_2 : decode cX11_stepOf 2 = .ok (.ldc2_w 168, 3) := de20 hX11_stepOf_0 2 rfl rfl rfl
theorem dX11_stepOf_5 : decode cX11_stepOf 5 = .ok (.ldc2_w 170, 3) := de20 hX11_stepOf_0 5 rfl rfl rfl
theorem dX11_stepOf_8 : decode cX11_stepOf 8 = .ok (.invokestatic 126, 3) := de184 hX11_stepOf_0 8 rfl rfl rfl
theorem dX11_stepOf_11 : decode cX11_stepOf 11 = .ok (.istore_n 2, 1) := de61 hX11_stepOf_0 11 rfl rfl
theorem dX11_stepOf_12 : decode cX11_stepOf 12 = .ok (.iload_n 0, 1) := de26 hX11_stepOf_0 12 rfl rfl
theorem dX11_stepOf_13 : decode cX11_stepOf 13 = .ok (.tableswitch 79 0 4 #[35, 59, 79, 79, 69], 35) := by decide +kernel
theorem hX11_stepOf_48 : bHas cX11_stepOf 48 [27, 16, 120, 159, 0, 15, 27, 16, 108, 159, 0, 9, 27, 16, 115, 160, 0, 7, 4, 167, 0, 4, 2] := bH_c (n := 23) (by decide +kernel)
theorem dX11_stepOf_48 : decode cX11_stepOf 48 = .ok (.iload_n 1, 1) := de27 hX11_stepOf_48 0 rfl rfl
theorem dX11_stepOf_49 : decode cX11_stepOf 49 = .ok (.bipush 120, 2) := de16 hX11_stepOf_48 1 rfl rfl rfl
theorem dX11_stepOf_51 : decode cX11_stepOf 51 = .ok (.if_icmp .eq 15, 3) := de159 hX11_stepOf_48 3 rfl rfl (by decide +kernel)
theorem dX11_stepOf_54 : decode cX11_stepOf 54 = .ok (.iload_n 1, 1) := de27 hX11_stepOf_48 6 rfl rfl
theorem dX11_stepOf_55 : decode cX11_stepOf 55 = .ok (.bipush 108, 2) := de16 hX11_stepOf_48 7 rfl rfl rfl
theorem dX11_stepOf_57 : decode cX11_stepOf 57 = .ok (.if_icmp .eq 9, 3) := de159 hX11_stepOf_48 9 rfl rfl (by decide +kernel)
theorem dX11_stepOf_60 : decode cX11_stepOf 60 = .ok (.iload_n 1, 1) := de27 hX11_stepOf_48 12 rfl rfl
theorem dX11_stepOf_61 : decode cX11_stepOf 61 = .ok (.bipush 115, 2) := de16 hX11_stepOf_48 13 rfl rfl rfl
theorem dX11_stepOf_63 : decode cX11_stepOf 63 = .ok (.if_icmp .ne 7, 3) := de160 hX11_stepOf_48 15 rfl rfl (by decide +kernel)
theorem dX11_stepOf_66 : decode cX11_stepOf 66 = .ok (.iconst 1, 1) := de4 hX11_stepOf_48 18 rfl rfl
theorem dX11_stepOf_67 : decode cX11_stepOf 67 = .ok (.goto 4, 3) := de167 hX11_stepOf_48 19 rfl rfl (by decide +kernel)
theorem dX11_stepOf_70 : decode cX11_stepOf 70 = .ok (.iconst (-1), 1) := de2 hX11_stepOf_48 22 rfl rfl
theorem hX11_stepOf_71 : bHas cX11_stepOf 71 [172, 28, 153, 0, 7, 5, 167, 0, 4, 2, 172, 28, 153, 0, 7, 8, 167, 0, 4, 2] := bH_c (n := 20) (by decide +kernel)
theorem dX11_stepOf_71 : decode cX11_stepOf 71 = .ok (.ireturn, 1) := de172 hX11_stepOf_71 0 rfl rfl
theorem dX11_stepOf_72 : decode cX11_stepOf 72 = .ok (.iload_n 2, 1) := de28 hX11_stepOf_71 1 rfl rfl
theorem dX11_stepOf_73 : decode cX11_stepOf 73 = .ok (.ifCond .eq 7, 3) := de153 hX11_stepOf_71 2 rfl rfl (by decide +kernel)
theorem dX11_stepOf_76 : decode cX11_stepOf 76 = .ok (.iconst 2, 1) := de5 hX11_stepOf_71 5 rfl rfl
theorem dX11_stepOf_77 : decode cX11_stepOf 77 = .ok (.goto 4, 3) := de167 hX11_stepOf_71 6 rfl rfl (by decide +kernel)
theorem dX11_stepOf_80 : decode cX11_stepOf 80 = .ok (.iconst (-1), 1) := de2 hX11_stepOf_71 9 rfl rfl
theorem dX11_stepOf_81 : decode cX11_stepOf 81 = .ok (.ireturn, 1) := de172 hX11_stepOf_71 10 rfl rfl
theorem dX11_stepOf_82 : decode cX11_stepOf 82 = .ok (.iload_n 2, 1) := de28 hX11_stepOf_71 11 rfl rfl
theorem dX11_stepOf_83 : decode cX11_stepOf 83 = .ok (.ifCond .eq 7, 3) := de153 hX11_stepOf_71 12 rfl rfl (by decide +kernel)
theorem dX11_stepOf_86 : decode cX11_stepOf 86 = .ok (.iconst 5, 1) := de8 hX11_stepOf_71 15 rfl rfl
theorem dX11_stepOf_87 : decode cX11_stepOf 87 = .ok (.goto 4, 3) := de167 hX11_stepOf_71 16 rfl rfl (by decide +kernel)
theorem dX11_stepOf_90 : decode cX11_stepOf 90 = .ok (.iconst (-1), 1) := de2 hX11_stepOf_71 19 rfl rfl
theorem hX11_stepOf_91 : bHas cX11_stepOf 91 [172, 28, 153, 0, 21, 26, 5, 159, 0, 8, 26, 8, 160, 0, 9, 26, 4, 96] := bH_c (n := 18) (by decide +kernel)
theorem dX11_stepOf_91 : decode cX11_stepOf 91 = .ok (.ireturn, 1) := de172 hX11_stepOf_91 0 rfl rfl
theorem dX11_stepOf_92 : decode cX11_stepOf 92 = .ok (.iload_n 2, 1) := de28 hX11_stepOf_91 1 rfl rfl
theorem dX11_stepOf_93 : decode cX11_stepOf 93 = .ok (.ifCond .eq 21, 3) := de153 hX11_stepOf_91 2 rfl rfl (by decide +kernel)
theorem dX11_stepOf_96 : decode cX11_stepOf 96 = .ok (.iload_n 0, 1) := de26 hX11_stepOf_91 5 rfl rfl
theorem dX11_stepOf_97 : decode cX11_stepOf 97 = .ok (.iconst 2, 1) := de5 hX11_stepOf_91 6 rfl rfl
theorem dX11_stepOf_98 : decode cX11_stepOf 98 = .ok (.if_icmp .eq 8, 3) := de159 hX11_stepOf_91 7 rfl rfl (by decide +kernel)
theorem dX11_stepOf_101 : decode cX11_stepOf 101 = .ok (.iload_n 0, 1) := de26 hX11_stepOf_91 10 rfl rfl
theorem dX11_stepOf_102 : decode cX11_stepOf 102 = .ok (.iconst 5, 1) := de8 hX11_stepOf_91 11 rfl rfl
theorem dX11_stepOf_103 : decode cX11_stepOf 103 = .ok (.if_icmp .ne 9, 3) := de160 hX11_stepOf_91 12 rfl rfl (by decide +kernel)
theorem dX11_stepOf_106 : decode cX11_stepOf 106 = .ok (.iload_n 0, 1) := de26 hX11_stepOf_91 15 rfl rfl
theorem dX11_stepOf_107 : decode cX11_stepOf 107 = .ok (.iconst 1, 1) := de4 hX11_stepOf_91 16 rfl rfl
theorem dX11_stepOf_108 : decode cX11_stepOf 108 = .ok (.iadd, 1) := de96 hX11_stepOf_91 17 rfl rfl
theorem hX11_stepOf_109 : bHas cX11_stepOf 109 [167, 0, 4, 2, 172, 27, 16, 59, 160, 0, 7, 3, 167, 0, 19, 27, 16, 45, 160, 0, 12, 26] := bH_c (n := 22) (by decide +kernel)
theorem dX11_stepOf_109 : decode cX11_stepOf 109 = .ok (.goto 4, 3) := de167 hX11_stepOf_109 0 rfl rfl (by decide +kernel)
theorem dX11_stepOf_112 : decode cX11_stepOf 112 = .ok (.iconst (-1), 1) := de2 hX11_stepOf_109 3 rfl rfl
theorem dX11_stepOf_113 : decode cX11_stepOf 113 = .ok (.ireturn, 1) := de172 hX11_stepOf_109 4 rfl rfl
theorem dX11_stepOf_114 : decode cX11_stepOf 114 = .ok (.iload_n 1, 1) := de27 hX11_stepOf_109 5 rfl rfl
theorem dX11_stepOf_115 : decode cX11_stepOf 115 = .ok (.bipush 59, 2) := de16 hX11_stepOf_109 6 rfl rfl rfl
theorem dX11_stepOf_117 : decode cX11_stepOf 117 = .ok (.if_icmp .ne 7, 3) := de160 hX11_stepOf_109 8 rfl rfl (by decide +kernel)
theorem dX11_stepOf_120 : decode cX11_stepOf 120 = .ok (.iconst 0, 1) := de3 hX11_stepOf_109 11 rfl rfl
theorem dX11_stepOf_121 : decode cX11_stepOf 121 = .ok (.goto 19, 3) := de167 hX11_stepOf_109 12 rfl rfl (by decide +kernel)
theorem dX11_stepOf_124 : decode cX11_stepOf 124 = .ok (.iload_n 1, 1) := de27 hX11_stepOf_109 15 rfl rfl
theorem dX11_stepOf_125 : decode cX11_stepOf 125 = .ok (.bipush 45, 2) := de16 hX11_stepOf_109 16 rfl rfl rfl
theorem dX11_stepOf_127 : decode cX11_stepOf 127 = .ok (.if_icmp .ne 12, 3) := de160 hX11_stepOf_109 18 rfl rfl (by decide +kernel)
theorem dX11_stepOf_130 : decode cX11_stepOf 130 = .ok (.iload_n 0, 1) := de26 hX11_stepOf_109 21 rfl rfl
theorem hX11_stepOf_131 : bHas cX11_stepOf 131 [7, 162, 0, 7, 7, 167, 0, 4, 2, 172] := bH_c (n := 10) (by decide +kernel)
theorem dX11_stepOf_131 : decode cX11_stepOf 131 = .ok (.iconst 4, 1) := de7 hX11_stepOf_131 0 rfl rfl
theorem dX11_stepOf_132 : decode cX11_stepOf 132 = .ok (.if_icmp .ge 7, 3) := de162 hX11_stepOf_131 1 rfl rfl (by decide +kernel)
theorem dX11_stepOf_135 : decode cX11_stepOf 135 = .ok (.iconst 4, 1) := de7 hX11_stepOf_131 4 rfl rfl
theorem dX11_stepOf_136 : decode cX11_stepOf 136 = .ok (.goto 4, 3) := de167 hX11_stepOf_131 5 rfl rfl (by decide +kernel)
theorem dX11_stepOf_139 : decode cX11_stepOf 139 = .ok (.iconst (-1), 1) := de2 hX11_stepOf_131 8 rfl rfl
theorem dX11_stepOf_140 : decode cX11_stepOf 140 = .ok (.ireturn, 1) := de172 hX11_stepOf_131 9 rfl rfl
theorem hX11_fault_0 : bHas cX11_fault 0 [3, 60, 3, 61, 28, 42, 180, 0, 165, 162, 0, 26, 27, 42, 180, 0, 34, 28] := bH_c (n := 18) (by decide +kernel)
theorem dX11_fault_0 : decode cX11_fault 0 = .ok (.iconst 0, 1) := de3 hX11_fault_0 0 rfl rfl
theorem dX11_fault_1 : decode cX11_fault 1 = .ok (.istore_n 1, 1) := de60 hX11_fault_0 1 rfl rfl
theorem dX11_fault_2 : decode cX11_fault 2 = .ok (.iconst 0, 1) := de3 hX11_fault_0 2 rfl rfl
theorem dX11_fault_3 : decode cX11_fault 3 = .ok (.istore_n 2, 1) := de61 hX11_fault_0 3 rfl rfl
theorem dX11_fault_4 : decode cX11_fault 4 = .ok (.iload_n 2, 1) := de28 hX11_fault_0 4 rfl rfl
theorem dX11_fault_5 : decode cX11_fault 5 = .ok (.aload_n 0, 1) := de42 hX11_fault_0 5 rfl rfl
theorem dX11_fault_6 : decode cX11_fault 6 = .ok (.getfield 165, 3) := de180 hX11_fault_0 6 rfl rfl rfl
theorem dX11_fault_9 : decode cX11_fault 9 = .ok (.if_icmp .ge 26, 3) := de162 hX11_fault_0 9 rfl rfl (by decide +kernel)
theorem dX11_fault_12 : decode cX11_fault 12 = .ok (.iload_n 1, 1) := de27 hX11_fault_0 12 rfl rfl
theorem dX11_fault_13 : decode cX11_fault 13 = .ok (.aload_n 0, 1) := de42 hX11_fault_0 13 rfl rfl
theorem dX11_fault_14 : decode cX11_fault 14 = .ok (.getfield 34, 3) := de180 hX11_fault_0 14 rfl rfl rfl
theorem dX11_fault_17 : decode cX11_fault 17 = .ok (.iload_n 2, 1) := de28 hX11_fault_0 17 rfl rfl
theorem hX11_fault_18 : bHas cX11_fault 18 [46, 184, 0, 172, 60, 27, 156, 0, 5, 28, 172, 132, 2, 1, 167, 255, 228, 27, 5, 159, 0, 19] := bH_c (n := 22) (by decide +kernel)
theorem dX11_fault_18 : decode cX11_fault 18 = .ok (.iaload, 1) := de46 hX11_fault_18 0 rfl rfl
theorem dX11_fault_19 : decode cX11_fault 19 = .ok (.invokestatic 172, 3) := de184 hX11_fault_18 1 rfl rfl rfl
theorem dX11_fault_22 : decode cX11_fault 22 = .ok (.istore_n 1, 1) := de60 hX11_fault_18 4 rfl rfl
theorem dX11_fault_23 : decode cX11_fault 23 = .ok (.iload_n 1, 1) := de27 hX11_fault_18 5 rfl rfl
theorem dX11_fault_24 : decode cX11_fault 24 = .ok (.ifCond .ge 5, 3) := de156 hX11_fault_18 6 rfl rfl (by decide +kernel)
theorem dX11_fault_27 : decode cX11_fault 27 = .ok (.iload_n 2, 1) := de28 hX11_fault_18 9 rfl rfl
theorem dX11_fault_28 : decode cX11_fault 28 = .ok (.ireturn, 1) := de172 hX11_fault_18 10 rfl rfl
theorem dX11_fault_29 : decode cX11_fault 29 = .ok (.iinc 2 1, 3) := de132 hX11_fault_18 11 rfl rfl rfl rfl
theorem dX11_fault_32 : decode cX11_fault 32 = .ok (.goto (-28), 3) := de167 hX11_fault_18 14 rfl rfl (by decide +kernel)
theorem dX11_fault_35 : decode cX11_fault 35 = .ok (.iload_n 1, 1) := de27 hX11_fault_18 17 rfl rfl
theorem dX11_fault_36 : decode cX11_fault 36 = .ok (.iconst 2, 1) := de5 hX11_fault_18 18 rfl rfl
theorem dX11_fault_37 : decode cX11_fault 37 = .ok (.if_icmp .eq 19, 3) := de159 hX11_fault_18 19 rfl rfl (by decide +kernel)
theorem hX11_fault_40 : bHas cX11_fault 40 [27, 6, 159, 0, 14, 27, 8, 159, 0, 9, 27, 16, 6, 160, 0, 8, 16, 250, 167, 0, 7, 42] := bH_c (n := 22) (by decide +kernel)
theorem dX11_fault_40 : decode cX11_fault 40 = .ok (.iload_n 1, 1) := de27 hX11_fault_40 0 rfl rfl
theorem dX11_fault_41 : decode cX11_fault 41 = .ok (.iconst 3, 1) := de6 hX11_fault_40 1 rfl rfl
theorem dX11_fault_42 : decode cX11_fault 42 = .ok (.if_icmp .eq 14, 3) := de159 hX11_fault_40 2 rfl rfl (by decide +kernel)
theorem dX11_fault_45 : decode cX11_fault 45 = .ok (.iload_n 1, 1) := de27 hX11_fault_40 5 rfl rfl
theorem dX11_fault_46 : decode cX11_fault 46 = .ok (.iconst 5, 1) := de8 hX11_fault_40 6 rfl rfl
theorem dX11_fault_47 : decode cX11_fault 47 = .ok (.if_icmp .eq 9, 3) := de159 hX11_fault_40 7 rfl rfl (by decide +kernel)
theorem dX11_fault_50 : decode cX11_fault 50 = .ok (.iload_n 1, 1) := de27 hX11_fault_40 10 rfl rfl
theorem dX11_fault_51 : decode cX11_fault 51 = .ok (.bipush 6, 2) := de16 hX11_fault_40 11 rfl rfl rfl
theorem dX11_fault_53 : decode cX11_fault 53 = .ok (.if_icmp .ne 8, 3) := de160 hX11_fault_40 13 rfl rfl (by decide +kernel)
theorem dX11_fault_56 : decode cX11_fault 56 = .ok (.bipush (-6), 2) := de16 hX11_fault_40 16 rfl rfl rfl
theorem dX11_fault_58 : decode cX11_fault 58 = .ok (.goto 7, 3) := de167 hX11_fault_40 18 rfl rfl (by decide +kernel)
theorem dX11_fault_61 : decode cX11_fault 61 = .ok (.aload_n 0, 1) := de42 hX11_fault_40 21 rfl rfl
theorem hX11_fault_62 : bHas cX11_fault 62 [180, 0, 165, 172] := bH_c (n := 4) (by decide +kernel)
theorem dX11_fault_62 : decode cX11_fault 62 = .ok (.getfield 165, 3) := de180 hX11_fault_62 0 rfl rfl rfl
theorem dX11_fault_65 : decode cX11_fault 65 = .ok (.ireturn, 1) := de172 hX11_fault_62 3 rfl rfl
theorem hX11_lay_0 : bHas cX11_lay 0 [29, 156, 0, 7, 4, 167, 0, 4, 3, 54, 4, 21, 4, 153, 0, 15, 27, 16, 115, 160, 0, 9, 28] := bH_c (n := 23) (by decide +kernel)
theorem dX11_lay_0 : decode cX11_lay 0 = .ok (.iload_n 3, 1) := de29 hX11_lay_0 0 rfl rfl
theorem dX11_lay_1 : decode cX11_lay 1 = .ok (.ifCond .ge 7, 3) := de156 hX11_lay_0 1 rfl rfl (by decide +kernel)
theorem dX11_lay_4 : decode cX11_lay 4 = .ok (.iconst 1, 1) := de4 hX11_lay_0 4 rfl rfl
theorem dX11_lay_5 : decode cX11_lay 5 = .ok (.goto 4, 3) := de167 hX11_lay_0 5 rfl rfl (by decide +kernel)
theorem dX11_lay_8 : decode cX11_lay 8 = .ok (.iconst 0, 1) := de3 hX11_lay_0 8 rfl rfl
theorem dX11_lay_9 : decode cX11_lay 9 = .ok (.istore 4, 2) := de54 hX11_lay_0 9 rfl rfl rfl
theorem dX11_lay_11 : decode cX11_lay 11 = .ok (.iload 4, 2) := de21 hX11_lay_0 11 rfl rfl rfl
theorem dX11_lay_13 : decode cX11_lay 13 = .ok (.ifCond .eq 15, 3) := de153 hX11_lay_0 13 rfl rfl (by decide +kernel)
theorem dX11_lay_16 : decode cX11_lay 16 = .ok (.iload_n 1, 1) := de27 hX11_lay_0 16 rfl rfl
theorem dX11_lay_17 : decode cX11_lay 17 = .ok (.bipush 115, 2) := de16 hX11_lay_0 17 rfl rfl rfl
theorem dX11_lay_19 : decode cX11_lay 19 = .ok (.if_icmp .ne 9, 3) := de160 hX11_lay_0 19 rfl rfl (by decide +kernel)
theorem dX11_lay_22 : decode cX11_lay 22 = .ok (.iload_n 2, 1) := de28 hX11_lay_0 22 rfl rfl
theorem hX11_lay_23 : bHas cX11_lay 23 [4, 100, 167, 0, 4, 28, 54, 5, 21, 4, 153, 0, 7, 28, 167, 0, 4, 29, 54, 6, 21, 5] := bH_c (n := 22) (by decide +kernel)
theorem dX11_lay_23 : decode cX11_lay 23 = .ok (.iconst 1, 1) := de4 hX11_lay_23 0 rfl rfl
theorem dX11_lay_24 : decode cX11_lay 24 = .ok (.isub, 1) := de100 hX11_lay_23 1 rfl rfl
theorem dX11_lay_25 : decode cX11_lay 25 = .ok (.goto 4, 3) := de167 hX11_lay_23 2 rfl rfl (by decide +kernel)
theorem dX11_lay_28 : decode cX11_lay 28 = .ok (.iload_n 2, 1) := de28 hX11_lay_23 5 rfl rfl
theorem dX11_lay_29 : decode cX11_lay 29 = .ok (.istore 5, 2) := de54 hX11_lay_23 6 rfl rfl rfl
theorem dX11_lay_31 : decode cX11_lay 31 = .ok (.iload 4, 2) := de21 hX11_lay_23 8 rfl rfl rfl
theorem dX11_lay_33 : decode cX11_lay 33 = .ok (.ifCond .eq 7, 3) := de153 hX11_lay_23 10 rfl rfl (by decide +kernel)
theorem dX11_lay_36 : decode cX11_lay 36 = .ok (.iload_n 2, 1) := de28 hX11_lay_23 13 rfl rfl
theorem dX11_lay_37 : decode cX11_lay 37 = .ok (.goto 4, 3) := de167 hX11_lay_23 14 rfl rfl (by decide +kernel)
theorem dX11_lay_40 : decode cX11_lay 40 = .ok (.iload_n 3, 1) := de29 hX11_lay_23 17 rfl rfl
theorem dX11_lay_41 : decode cX11_lay 41 = .ok (.istore 6, 2) := de54 hX11_lay_23 18 rfl rfl rfl
theorem dX11_lay_43 : decode cX11_lay 43 = .ok (.iload 5, 2) := de21 hX11_lay_23 20 rfl rfl rfl
theorem hX11_lay_45 : bHas cX11_lay 45 [133, 27, 16, 108, 160, 0, 7, 10, 167, 0, 4, 9, 20, 0, 124, 184, 0, 126, 153, 0, 32, 21, 6, 133] := bH_c (n := 24) (by decide +kernel)
theorem dX11_lay_45 : decode cX11_lay 45 = .ok (.i2l, 1) := de133 hX11_lay_45 0 rfl rfl
theorem dX11_lay_46 : decode cX11_lay 46 = .ok (.iload_n 1, 1) := de27 hX11_lay_45 1 rfl rfl
theorem dX11_lay_47 : decode cX11_lay 47 = .ok (.bipush 108, 2) := de16 hX11_lay_45 2 rfl rfl rfl
theorem dX11_lay_49 : decode cX11_lay 49 = .ok (.if_icmp .ne 7, 3) := de160 hX11_lay_45 4 rfl rfl (by decide +kernel)
theorem dX11_lay_52 : decode cX11_lay 52 = .ok (.lconst 1, 1) := de10 hX11_lay_45 7 rfl rfl
theorem dX11_lay_53 : decode cX11_lay 53 = .ok (.goto 4, 3) := de167 hX11_lay_45 8 rfl rfl (by decide +kernel)
theorem dX11_lay_56 : decode cX11_lay 56 = .ok (.lconst 0, 1) := de9 hX11_lay_45 11 rfl rfl
theorem dX11_lay_57 : decode cX11_lay 57 = .ok (.ldc2_w 124, 3) := de20 hX11_lay_45 12 rfl rfl rfl
theorem dX11_lay_60 : decode cX11_lay 60 = .ok (.invokestatic 126, 3) := de184 hX11_lay_45 15 rfl rfl rfl
theorem dX11_lay_63 : decode cX11_lay 63 = .ok (.ifCond .eq 32, 3) := de153 hX11_lay_45 18 rfl rfl (by decide +kernel)
theorem dX11_lay_66 : decode cX11_lay 66 = .ok (.iload 6, 2) := de21 hX11_lay_45 21 rfl rfl rfl
theorem dX11_lay_68 : decode cX11_lay 68 = .ok (.i2l, 1) := de133 hX11_lay_45 23 rfl rfl
theorem hX11_lay_69 : bHas cX11_lay 69 [9, 20, 0, 124, 184, 0, 126, 153, 0, 19, 21, 4, 154, 0, 10, 21, 5, 21, 6, 162, 0, 7, 4, 167, 0, 4, 3] := bH_c (n := 27) (by decide +kernel)
theorem dX11_lay_69 : decode cX11_lay 69 = .ok (.lconst 0, 1) := de9 hX11_lay_69 0 rfl rfl
theorem dX11_lay_70 : decode cX11_lay 70 = .ok (.ldc2_w 124, 3) := de20 hX11_lay_69 1 rfl rfl rfl
theorem dX11_lay_73 : decode cX11_lay 73 = .ok (.invokestatic 126, 3) := de184 hX11_lay_69 4 rfl rfl rfl
theorem dX11_lay_76 : decode cX11_lay 76 = .ok (.ifCond .eq 19, 3) := de153 hX11_lay_69 7 rfl rfl (by decide +kernel)
theorem dX11_lay_79 : decode cX11_lay 79 = .ok (.iload 4, 2) := de21 hX11_lay_69 10 rfl rfl rfl
theorem dX11_lay_81 : decode cX11_lay 81 = .ok (.ifCond .ne 10, 3) := de154 hX11_lay_69 12 rfl rfl (by decide +kernel)
theorem dX11_lay_84 : decode cX11_lay 84 = .ok (.iload 5, 2) := de21 hX11_lay_69 15 rfl rfl rfl
theorem dX11_lay_86 : decode cX11_lay 86 = .ok (.iload 6, 2) := de21 hX11_lay_69 17 rfl rfl rfl
theorem dX11_lay_88 : decode cX11_lay 88 = .ok (.if_icmp .ge 7, 3) := de162 hX11_lay_69 19 rfl rfl (by decide +kernel)
theorem dX11_lay_91 : decode cX11_lay 91 = .ok (.iconst 1, 1) := de4 hX11_lay_69 22 rfl rfl
theorem dX11_lay_92 : decode cX11_lay 92 = .ok (.goto 4, 3) := de167 hX11_lay_69 23 rfl rfl (by decide +kernel)
theorem dX11_lay_95 : decode cX11_lay 95 = .ok (.iconst 0, 1) := de3 hX11_lay_69 26 rfl rfl
theorem hX11_lay_96 : bHas cX11_lay 96 [54, 7, 21, 5, 54, 8, 21, 8, 21, 6, 163, 0, 77, 21, 7, 153, 0, 72, 42, 180, 0, 46, 21, 8, 46] := bH_c (n := 25) (by decide +kernel)
theorem dX11_lay_96 : decode cX11_lay 96 = .ok (.istore 7, 2) := de54 hX11_lay_96 0 rfl rfl rfl
theorem dX11_lay_98 : decode cX11_lay 98 = .ok (.iload 5, 2) := de21 hX11_lay_96 2 rfl rfl rfl
theorem dX11_lay_100 : decode cX11_lay 100 = .ok (.istore 8, 2) := de54 hX11_lay_96 4 rfl rfl rfl
theorem dX11_lay_102 : decode cX11_lay 102 = .ok (.iload 8, 2) := de21 hX11_lay_96 6 rfl rfl rfl
theorem dX11_lay_104 : decode cX11_lay 104 = .ok (.iload 6, 2) := de21 hX11_lay_96 8 rfl rfl rfl
theorem dX11_lay_106 : decode cX11_lay 106 = .ok (.if_icmp .gt 77, 3) := de163 hX11_lay_96 10 rfl rfl (by decide +kernel)
theorem dX11_lay_109 : decode cX11_lay 109 = .ok (.iload 7, 2) := de21 hX11_lay_96 13 rfl rfl rfl
theorem dX11_lay_111 : decode cX11_lay 111 = .ok (.ifCond .eq 72, 3) := de153 hX11_lay_96 15 rfl rfl (by decide +kernel)
theorem dX11_lay_114 : decode cX11_lay 114 = .ok (.aload_n 0, 1) := de42 hX11_lay_96 18 rfl rfl
theorem dX11_lay_115 : decode cX11_lay 115 = .ok (.getfield 46, 3) := de180 hX11_lay_96 19 rfl rfl rfl
theorem dX11_lay_118 : decode cX11_lay 118 = .ok (.iload 8, 2) := de21 hX11_lay_96 22 rfl rfl rfl
theorem dX11_lay_120 : decode cX11_lay 120 = .ok (.iaload, 1) := de46 hX11_lay_96 24 rfl rfl
theorem hX11_lay_121 : bHas cX11_lay 121 [154, 0, 7, 4, 167, 0, 4, 3, 54, 7, 42, 180, 0, 46, 21, 8, 27, 16, 120, 160, 0, 7, 4] := bH_c (n := 23) (by decide +kernel)
theorem dX11_lay_121 : decode cX11_lay 121 = .ok (.ifCond .ne 7, 3) := de154 hX11_lay_121 0 rfl rfl (by decide +kernel)
theorem dX11_lay_124 : decode cX11_lay 124 = .ok (.iconst 1, 1) := de4 hX11_lay_121 3 rfl rfl
theorem dX11_lay_125 : decode cX11_lay 125 = .ok (.goto 4, 3) := de167 hX11_lay_121 4 rfl rfl (by decide +kernel)
theorem dX11_lay_128 : decode cX11_lay 128 = .ok (.iconst 0, 1) := de3 hX11_lay_121 7 rfl rfl
theorem dX11_lay_129 : decode cX11_lay 129 = .ok (.istore 7, 2) := de54 hX11_lay_121 8 rfl rfl rfl
theorem dX11_lay_131 : decode cX11_lay 131 = .ok (.aload_n 0, 1) := de42 hX11_lay_121 10 rfl rfl
theorem dX11_lay_132 : decode cX11_lay 132 = .ok (.getfield 46, 3) := de180 hX11_lay_121 11 rfl rfl rfl
theorem dX11_lay_135 : decode cX11_lay 135 = .ok (.iload 8, 2) := de21 hX11_lay_121 14 rfl rfl rfl
theorem dX11_lay_137 : decode cX11_lay 137 = .ok (.iload_n 1, 1) := de27 hX11_lay_121 16 rfl rfl
theorem dX11_lay_138 : decode cX11_lay 138 = .ok (.bipush 120, 2) := de16 hX11_lay_121 17 rfl rfl rfl
theorem dX11_lay_140 : decode cX11_lay 140 = .ok (.if_icmp .ne 7, 3) := de160 hX11_lay_121 19 rfl rfl (by decide +kernel)
theorem dX11_lay_143 : decode cX11_lay 143 = .ok (.iconst 1, 1) := de4 hX11_lay_121 22 rfl rfl
theorem hX11_lay_144 : bHas cX11_lay 144 [167, 0, 14, 27, 16, 108, 160, 0, 7, 5, 167, 0, 4, 6, 79, 42, 180, 0, 49, 21, 8, 21, 5] := bH_c (n := 23) (by decide +kernel)
theorem dX11_lay_144 : decode cX11_lay 144 = .ok (.goto 14, 3) := de167 hX11_lay_144 0 rfl rfl (by decide +kernel)
theorem dX11_lay_147 : decode cX11_lay 147 = .ok (.iload_n 1, 1) := de27 hX11_lay_144 3 rfl rfl
theorem dX11_lay_148 : decode cX11_lay 148 = .ok (.bipush 108, 2) := de16 hX11_lay_144 4 rfl rfl rfl
theorem dX11_lay_150 : decode cX11_lay 150 = .ok (.if_icmp .ne 7, 3) := de160 hX11_lay_144 6 rfl rfl (by decide +kernel)
theorem dX11_lay_153 : decode cX11_lay 153 = .ok (.iconst 2, 1) := de5 hX11_lay_144 9 rfl rfl
theorem dX11_lay_154 : decode cX11_lay 154 = .ok (.goto 4, 3) := de167 hX11_lay_144 10 rfl rfl (by decide +kernel)
theorem dX11_lay_157 : decode cX11_lay 157 = .ok (.iconst 3, 1) := de6 hX11_lay_144 13 rfl rfl
theorem dX11_lay_158 : decode cX11_lay 158 = .ok (.iastore, 1) := de79 hX11_lay_144 14 rfl rfl
theorem dX11_lay_159 : decode cX11_lay 159 = .ok (.aload_n 0, 1) := de42 hX11_lay_144 15 rfl rfl
theorem dX11_lay_160 : decode cX11_lay 160 = .ok (.getfield 49, 3) := de180 hX11_lay_144 16 rfl rfl rfl
theorem dX11_lay_163 : decode cX11_lay 163 = .ok (.iload 8, 2) := de21 hX11_lay_144 19 rfl rfl rfl
theorem dX11_lay_165 : decode cX11_lay 165 = .ok (.iload 5, 2) := de21 hX11_lay_144 21 rfl rfl rfl
theorem hX11_lay_167 : bHas cX11_lay 167 [79, 42, 180, 0, 52, 21, 8, 21, 6, 79, 132, 8, 1, 167, 255, 178, 21, 7, 172] := bH_c (n := 19) (by decide +kernel)
theorem dX11_lay_167 : decode cX11_lay 167 = .ok (.iastore, 1) := de79 hX11_lay_167 0 rfl rfl
theorem dX11_lay_168 : decode cX11_lay 168 = .ok (.aload_n 0, 1) := de42 hX11_lay_167 1 rfl rfl
theorem dX11_lay_169 : decode cX11_lay 169 = .ok (.getfield 52, 3) := de180 hX11_lay_167 2 rfl rfl rfl
theorem dX11_lay_172 : decode cX11_lay 172 = .ok (.iload 8, 2) := de21 hX11_lay_167 5 rfl rfl rfl
theorem dX11_lay_174 : decode cX11_lay 174 = .ok (.iload 6, 2) := de21 hX11_lay_167 7 rfl rfl rfl
theorem dX11_lay_176 : decode cX11_lay 176 = .ok (.iastore, 1) := de79 hX11_lay_167 9 rfl rfl
theorem dX11_lay_177 : decode cX11_lay 177 = .ok (.iinc 8 1, 3) := de132 hX11_lay_167 10 rfl rfl rfl rfl
theorem dX11_lay_180 : decode cX11_lay 180 = .ok (.goto (-78), 3) := de167 hX11_lay_167 13 rfl rfl (by decide +kernel)
theorem dX11_lay_183 : decode cX11_lay 183 = .ok (.iload 7, 2) := de21 hX11_lay_167 16 rfl rfl rfl
theorem dX11_lay_185 : decode cX11_lay 185 = .ok (.ireturn, 1) := de172 hX11_lay_167 18 rfl rfl
theorem hX11_layAll_0 : bHas cX11_layAll 0 [3, 60, 27, 16, 28, 162, 0, 16, 42, 180, 0, 46, 27, 3, 79, 132, 1, 1, 167, 255, 240] := bH_c (n := 21) (by decide +kernel)
theorem dX11_layAll_0 : decode cX11_layAll 0 = .ok (.iconst 0, 1) := de3 hX11_layAll_0 0 rfl rfl
theorem dX11_layAll_1 : decode cX11_layAll 1 = .ok (.istore_n 1, 1) := de60 hX11_layAll_0 1 rfl rfl
theorem dX11_layAll_2 : decode cX11_layAll 2 = .ok (.iload_n 1, 1) := de27 hX11_layAll_0 2 rfl rfl
theorem dX11_layAll_3 : decode cX11_layAll 3 = .ok (.bipush 28, 2) := de16 hX11_layAll_0 3 rfl rfl rfl
theorem dX11_layAll_5 : decode cX11_layAll 5 = .ok (.if_icmp .ge 16, 3) := de162 hX11_layAll_0 5 rfl rfl (by decide +kernel)
theorem dX11_layAll_8 : decode cX11_layAll 8 = .ok (.aload_n 0, 1) := de42 hX11_layAll_0 8 rfl rfl
theorem dX11_layAll_9 : decode cX11_layAll 9 = .ok (.getfield 46, 3) := de180 hX11_layAll_0 9 rfl rfl rfl
theorem dX11_layAll_12 : decode cX11_layAll 12 = .ok (.iload_n 1, 1) := de27 hX11_layAll_0 12 rfl rfl
theorem dX11_layAll_13 : decode cX11_layAll 13 = .ok (.iconst 0, 1) := de3 hX11_layAll_0 13 rfl rfl
theorem dX11_layAll_14 : decode cX11_layAll 14 = .ok (.iastore, 1) := de79 hX11_layAll_0 14 rfl rfl
theorem dX11_layAll_15 : decode cX11_layAll 15 = .ok (.iinc 1 1, 3) := de132 hX11_layAll_0 15 rfl rfl rfl rfl
theorem dX11_layAll_18 : decode cX11_layAll 18 = .ok (.goto (-16), 3) := de167 hX11_layAll_0 18 rfl rfl (by decide +kernel)
theorem hX11_layAll_21 : bHas cX11_layAll 21 [3, 60, 3, 61, 3, 62, 16, 250, 54, 4, 3, 54, 5, 4, 54, 6] := bH_c (n := 16) (by decide +kernel)
theorem dX11_layAll_21 : decode cX11_layAll 21 = .ok (.iconst 0, 1) := de3 hX11_layAll_21 0 rfl rfl
theorem dX11_layAll_22 : decode cX11_layAll 22 = .ok (.istore_n 1, 1) := de60 hX11_layAll_21 1 rfl rfl
theorem dX11_layAll_23 : decode cX11_layAll 23 = .ok (.iconst 0, 1) := de3 hX11_layAll_21 2 rfl rfl
theorem dX11_layAll_24 : decode cX11_layAll 24 = .ok (.istore_n 2, 1) := de61 hX11_layAll_21 3 rfl rfl
theorem dX11_layAll_25 : decode cX11_layAll 25 = .ok (.iconst 0, 1) := de3 hX11_layAll_21 4 rfl rfl
theorem dX11_layAll_26 : decode cX11_layAll 26 = .ok (.istore_n 3, 1) := de62 hX11_layAll_21 5 rfl rfl
theorem dX11_layAll_27 : decode cX11_layAll 27 = .ok (.bipush (-6), 2) := de16 hX11_layAll_21 6 rfl rfl rfl
theorem dX11_layAll_29 : decode cX11_layAll 29 = .ok (.istore 4, 2) := de54 hX11_layAll_21 8 rfl rfl rfl
theorem dX11_layAll_31 : decode cX11_layAll 31 = .ok (.iconst 0, 1) := de3 hX11_layAll_21 10 rfl rfl
theorem dX11_layAll_32 : decode cX11_layAll 32 = .ok (.istore 5, 2) := de54 hX11_layAll_21 11 rfl rfl rfl
theorem dX11_layAll_34 : decode cX11_layAll 34 = .ok (.iconst 1, 1) := de4 hX11_layAll_21 13 rfl rfl
theorem dX11_layAll_35 : decode cX11_layAll 35 = .ok (.istore 6, 2) := de54 hX11_layAll_21 14 rfl rfl rfl
theorem hX11_layAll_37 : bHas cX11_layAll 37 [3, 54, 7, 21, 7, 42, 180, 0, 165, 163, 0, 160, 42, 180, 0, 165, 158, 0, 153, 21, 7, 42, 180, 0, 165] := bH_c (n := 25) (by decide +kernel)
theorem dX11_layAll_37 : decode cX11_layAll 37 = .ok (.iconst 0, 1) := de3 hX11_layAll_37 0 rfl rfl
theorem dX11_layAll_38 : decode cX11_layAll 38 = .ok (.istore 7, 2) := de54 hX11_layAll_37 1 rfl rfl rfl
theorem dX11_layAll_40 : decode cX11_layAll 40 = .ok (.iload 7, 2) := de21 hX11_layAll_37 3 rfl rfl rfl
theorem dX11_layAll_42 : decode cX11_layAll 42 = .ok (.aload_n 0, 1) := de42 hX11_layAll_37 5 rfl rfl
theorem dX11_layAll_43 : decode cX11_layAll 43 = .ok (.getfield 165, 3) := de180 hX11_layAll_37 6 rfl rfl rfl
theorem dX11_layAll_46 : decode cX11_layAll 46 = .ok (.if_icmp .gt 160, 3) := de163 hX11_layAll_37 9 rfl rfl (by decide +kernel)
theorem dX11_layAll_49 : decode cX11_layAll 49 = .ok (.aload_n 0, 1) := de42 hX11_layAll_37 12 rfl rfl
theorem dX11_layAll_50 : decode cX11_layAll 50 = .ok (.getfield 165, 3) := de180 hX11_layAll_37 13 rfl rfl rfl
theorem dX11_layAll_53 : decode cX11_layAll 53 = .ok (.ifCond .le 153, 3) := de158 hX11_layAll_37 16 rfl rfl (by decide +kernel)
theorem dX11_layAll_56 : decode cX11_layAll 56 = .ok (.iload 7, 2) := de21 hX11_layAll_37 19 rfl rfl rfl
theorem dX11_layAll_58 : decode cX11_layAll 58 = .ok (.aload_n 0, 1) := de42 hX11_layAll_37 21 rfl rfl
theorem dX11_layAll_59 : decode cX11_layAll 59 = .ok (.getfield 165, 3) := de180 hX11_layAll_37 22 rfl rfl rfl
theorem hX11_layAll_62 : bHas cX11_layAll 62 [162, 0, 13, 42, 180, 0, 34, 21, 7, 46, 167, 0, 5, 16, 59, 54, 8, 21, 8, 16, 48, 100, 54, 9] := bH_c (n := 24) (by decide +kernel)
theorem dX11_layAll_62 : decode cX11_layAll 62 = .ok (.if_icmp .ge 13, 3) := de162 hX11_layAll_62 0 rfl rfl (by decide +kernel)
theorem dX11_layAll_65 : decode cX11_layAll 65 = .ok (.aload_n 0, 1) := de42 hX11_layAll_62 3 rfl rfl
theorem dX11_layAll_66 : decode cX11_layAll 66 = .ok (.getfield 34, 3) := de180 hX11_layAll_62 4 rfl rfl rfl
theorem dX11_layAll_69 : decode cX11_layAll 69 = .ok (.iload 7, 2) := de21 hX11_layAll_62 7 rfl rfl rfl
theorem dX11_layAll_71 : decode cX11_layAll 71 = .ok (.iaload, 1) := de46 hX11_layAll_62 9 rfl rfl
theorem dX11_layAll_72 : decode cX11_layAll 72 = .ok (.goto 5, 3) := de167 hX11_layAll_62 10 rfl rfl (by decide +kernel)
theorem dX11_layAll_75 : decode cX11_layAll 75 = .ok (.bipush 59, 2) := de16 hX11_layAll_62 13 rfl rfl rfl
theorem dX11_layAll_77 : decode cX11_layAll 77 = .ok (.istore 8, 2) := de54 hX11_layAll_62 15 rfl rfl rfl
theorem dX11_layAll_79 : decode cX11_layAll 79 = .ok (.iload 8, 2) := de21 hX11_layAll_62 17 rfl rfl rfl
theorem dX11_layAll_81 : decode cX11_layAll 81 = .ok (.bipush 48, 2) := de16 hX11_layAll_62 19 rfl rfl rfl
theorem dX11_layAll_83 : decode cX11_layAll 83 = .ok (.isub, 1) := de100 hX11_layAll_62 21 rfl rfl
theorem dX11_layAll_84 : decode cX11_layAll 84 = .ok (.istore 9, 2) := de54 hX11_layAll_62 22 rfl rfl rfl
theorem hX11_layAll_86 : bHas cX11_layAll 86 [21, 5, 21, 8, 184, 0, 172, 54, 5, 21, 5, 4, 160, 0, 15, 21, 8, 61, 3, 62, 16, 250] := bH_c (n := 22) (by decide +kernel)
theorem dX11_layAll_86 : decode cX11_layAll 86 = .ok (.iload 5, 2) := de21 hX11_layAll_86 0 rfl rfl rfl
theorem dX11_layAll_88 : decode cX11_layAll 88 = .ok (.iload 8, 2) := de21 hX11_layAll_86 2 rfl rfl rfl
theorem dX11_layAll_90 : decode cX11_layAll 90 = .ok (.invokestatic 172, 3) := de184 hX11_layAll_86 4 rfl rfl rfl
theorem dX11_layAll_93 : decode cX11_layAll 93 = .ok (.istore 5, 2) := de54 hX11_layAll_86 7 rfl rfl rfl
theorem dX11_layAll_95 : decode cX11_layAll 95 = .ok (.iload 5, 2) := de21 hX11_layAll_86 9 rfl rfl rfl
theorem dX11_layAll_97 : decode cX11_layAll 97 = .ok (.iconst 1, 1) := de4 hX11_layAll_86 11 rfl rfl
theorem dX11_layAll_98 : decode cX11_layAll 98 = .ok (.if_icmp .ne 15, 3) := de160 hX11_layAll_86 12 rfl rfl (by decide +kernel)
theorem dX11_layAll_101 : decode cX11_layAll 101 = .ok (.iload 8, 2) := de21 hX11_layAll_86 15 rfl rfl rfl
theorem dX11_layAll_103 : decode cX11_layAll 103 = .ok (.istore_n 2, 1) := de61 hX11_layAll_86 17 rfl rfl
theorem dX11_layAll_104 : decode cX11_layAll 104 = .ok (.iconst 0, 1) := de3 hX11_layAll_86 18 rfl rfl
theorem dX11_layAll_105 : decode cX11_layAll 105 = .ok (.istore_n 3, 1) := de62 hX11_layAll_86 19 rfl rfl
theorem dX11_layAll_106 : decode cX11_layAll 106 = .ok (.bipush (-6), 2) := de16 hX11_layAll_86 20 rfl rfl rfl
theorem hX11_layAll_108 : bHas cX11_layAll 108 [54, 4, 167, 0, 90, 21, 5, 5, 159, 0, 9, 21, 5, 6, 160, 0, 14, 16, 10, 29, 104, 21, 9] := bH_c (n := 23) (by decide +kernel)
theorem dX11_layAll_108 : decode cX11_layAll 108 = .ok (.istore 4, 2) := de54 hX11_layAll_108 0 rfl rfl rfl
theorem dX11_layAll_110 : decode cX11_layAll 110 = .ok (.goto 90, 3) := de167 hX11_layAll_108 2 rfl rfl (by decide +kernel)
theorem dX11_layAll_113 : decode cX11_layAll 113 = .ok (.iload 5, 2) := de21 hX11_layAll_108 5 rfl rfl rfl
theorem dX11_layAll_115 : decode cX11_layAll 115 = .ok (.iconst 2, 1) := de5 hX11_layAll_108 7 rfl rfl
theorem dX11_layAll_116 : decode cX11_layAll 116 = .ok (.if_icmp .eq 9, 3) := de159 hX11_layAll_108 8 rfl rfl (by decide +kernel)
theorem dX11_layAll_119 : decode cX11_layAll 119 = .ok (.iload 5, 2) := de21 hX11_layAll_108 11 rfl rfl rfl
theorem dX11_layAll_121 : decode cX11_layAll 121 = .ok (.iconst 3, 1) := de6 hX11_layAll_108 13 rfl rfl
theorem dX11_layAll_122 : decode cX11_layAll 122 = .ok (.if_icmp .ne 14, 3) := de160 hX11_layAll_108 14 rfl rfl (by decide +kernel)
theorem dX11_layAll_125 : decode cX11_layAll 125 = .ok (.bipush 10, 2) := de16 hX11_layAll_108 17 rfl rfl rfl
theorem dX11_layAll_127 : decode cX11_layAll 127 = .ok (.iload_n 3, 1) := de29 hX11_layAll_108 19 rfl rfl
theorem dX11_layAll_128 : decode cX11_layAll 128 = .ok (.imul, 1) := de104 hX11_layAll_108 20 rfl rfl
theorem dX11_layAll_129 : decode cX11_layAll 129 = .ok (.iload 9, 2) := de21 hX11_layAll_108 21 rfl rfl rfl
theorem hX11_layAll_131 : bHas cX11_layAll 131 [96, 62, 167, 0, 67, 21, 5, 8, 160, 0, 10, 21, 9, 54, 4, 167, 0, 54, 21, 5, 16, 6, 160, 0, 16] := bH_c (n := 25) (by decide +kernel)
theorem dX11_layAll_131 : decode cX11_layAll 131 = .ok (.iadd, 1) := de96 hX11_layAll_131 0 rfl rfl
theorem dX11_layAll_132 : decode cX11_layAll 132 = .ok (.istore_n 3, 1) := de62 hX11_layAll_131 1 rfl rfl
theorem dX11_layAll_133 : decode cX11_layAll 133 = .ok (.goto 67, 3) := de167 hX11_layAll_131 2 rfl rfl (by decide +kernel)
theorem dX11_layAll_136 : decode cX11_layAll 136 = .ok (.iload 5, 2) := de21 hX11_layAll_131 5 rfl rfl rfl
theorem dX11_layAll_138 : decode cX11_layAll 138 = .ok (.iconst 5, 1) := de8 hX11_layAll_131 7 rfl rfl
theorem dX11_layAll_139 : decode cX11_layAll 139 = .ok (.if_icmp .ne 10, 3) := de160 hX11_layAll_131 8 rfl rfl (by decide +kernel)
theorem dX11_layAll_142 : decode cX11_layAll 142 = .ok (.iload 9, 2) := de21 hX11_layAll_131 11 rfl rfl rfl
theorem dX11_layAll_144 : decode cX11_layAll 144 = .ok (.istore 4, 2) := de54 hX11_layAll_131 13 rfl rfl rfl
theorem dX11_layAll_146 : decode cX11_layAll 146 = .ok (.goto 54, 3) := de167 hX11_layAll_131 15 rfl rfl (by decide +kernel)
theorem dX11_layAll_149 : decode cX11_layAll 149 = .ok (.iload 5, 2) := de21 hX11_layAll_131 18 rfl rfl rfl
theorem dX11_layAll_151 : decode cX11_layAll 151 = .ok (.bipush 6, 2) := de16 hX11_layAll_131 20 rfl rfl rfl
theorem dX11_layAll_153 : decode cX11_layAll 153 = .ok (.if_icmp .ne 16, 3) := de160 hX11_layAll_131 22 rfl rfl (by decide +kernel)
theorem hX11_layAll_156 : bHas cX11_layAll 156 [16, 10, 21, 4, 104, 21, 9, 96, 54, 4, 167, 0, 34, 21, 5, 154, 0, 29, 21, 6, 153, 0, 18, 42] := bH_c (n := 24) (by decide +kernel)
theorem dX11_layAll_156 : decode cX11_layAll 156 = .ok (.bipush 10, 2) := de16 hX11_layAll_156 0 rfl rfl rfl
theorem dX11_layAll_158 : decode cX11_layAll 158 = .ok (.iload 4, 2) := de21 hX11_layAll_156 2 rfl rfl rfl
theorem dX11_layAll_160 : decode cX11_layAll 160 = .ok (.imul, 1) := de104 hX11_layAll_156 4 rfl rfl
theorem dX11_layAll_161 : decode cX11_layAll 161 = .ok (.iload 9, 2) := de21 hX11_layAll_156 5 rfl rfl rfl
theorem dX11_layAll_163 : decode cX11_layAll 163 = .ok (.iadd, 1) := de96 hX11_layAll_156 7 rfl rfl
theorem dX11_layAll_164 : decode cX11_layAll 164 = .ok (.istore 4, 2) := de54 hX11_layAll_156 8 rfl rfl rfl
theorem dX11_layAll_166 : decode cX11_layAll 166 = .ok (.goto 34, 3) := de167 hX11_layAll_156 10 rfl rfl (by decide +kernel)
theorem dX11_layAll_169 : decode cX11_layAll 169 = .ok (.iload 5, 2) := de21 hX11_layAll_156 13 rfl rfl rfl
theorem dX11_layAll_171 : decode cX11_layAll 171 = .ok (.ifCond .ne 29, 3) := de154 hX11_layAll_156 15 rfl rfl (by decide +kernel)
theorem dX11_layAll_174 : decode cX11_layAll 174 = .ok (.iload 6, 2) := de21 hX11_layAll_156 18 rfl rfl rfl
theorem dX11_layAll_176 : decode cX11_layAll 176 = .ok (.ifCond .eq 18, 3) := de153 hX11_layAll_156 20 rfl rfl (by decide +kernel)
theorem dX11_layAll_179 : decode cX11_layAll 179 = .ok (.aload_n 0, 1) := de42 hX11_layAll_156 23 rfl rfl
theorem hX11_layAll_180 : bHas cX11_layAll 180 [28, 29, 21, 4, 182, 0, 175, 153, 0, 7, 4, 167, 0, 4, 3, 54, 6, 132, 1, 1, 132, 7, 1, 167, 255, 93] := bH_c (n := 26) (by decide +kernel)
theorem dX11_layAll_180 : decode cX11_layAll 180 = .ok (.iload_n 2, 1) := de28 hX11_layAll_180 0 rfl rfl
theorem dX11_layAll_181 : decode cX11_layAll 181 = .ok (.iload_n 3, 1) := de29 hX11_layAll_180 1 rfl rfl
theorem dX11_layAll_182 : decode cX11_layAll 182 = .ok (.iload 4, 2) := de21 hX11_layAll_180 2 rfl rfl rfl
theorem dX11_layAll_184 : decode cX11_layAll 184 = .ok (.invokevirtual 175, 3) := de182 hX11_layAll_180 4 rfl rfl rfl
theorem dX11_layAll_187 : decode cX11_layAll 187 = .ok (.ifCond .eq 7, 3) := de153 hX11_layAll_180 7 rfl rfl (by decide +kernel)
theorem dX11_layAll_190 : decode cX11_layAll 190 = .ok (.iconst 1, 1) := de4 hX11_layAll_180 10 rfl rfl
theorem dX11_layAll_191 : decode cX11_layAll 191 = .ok (.goto 4, 3) := de167 hX11_layAll_180 11 rfl rfl (by decide +kernel)
theorem dX11_layAll_194 : decode cX11_layAll 194 = .ok (.iconst 0, 1) := de3 hX11_layAll_180 14 rfl rfl
theorem dX11_layAll_195 : decode cX11_layAll 195 = .ok (.istore 6, 2) := de54 hX11_layAll_180 15 rfl rfl rfl
theorem dX11_layAll_197 : decode cX11_layAll 197 = .ok (.iinc 1 1, 3) := de132 hX11_layAll_180 17 rfl rfl rfl rfl
theorem dX11_layAll_200 : decode cX11_layAll 200 = .ok (.iinc 7 1, 3) := de132 hX11_layAll_180 20 rfl rfl rfl rfl
theorem dX11_layAll_203 : decode cX11_layAll 203 = .ok (.goto (-163), 3) := de167 hX11_layAll_180 23 rfl rfl (by decide +kernel)
theorem hX11_layAll_206 : bHas cX11_layAll 206 [21, 6, 153, 0, 7, 27, 167, 0, 5, 16, 250, 172] := bH_c (n := 12) (by decide +kernel)
theorem dX11_layAll_206 : decode cX11_layAll 206 = .ok (.iload 6, 2) := de21 hX11_layAll_206 0 rfl rfl rfl
theorem dX11_layAll_208 : decode cX11_layAll 208 = .ok (.ifCond .eq 7, 3) := de153 hX11_layAll_206 2 rfl rfl (by decide +kernel)
theorem dX11_layAll_211 : decode cX11_layAll 211 = .ok (.iload_n 1, 1) := de27 hX11_layAll_206 5 rfl rfl
theorem dX11_layAll_212 : decode cX11_layAll 212 = .ok (.goto 5, 3) := de167 hX11_layAll_206 6 rfl rfl (by decide +kernel)
theorem dX11_layAll_215 : decode cX11_layAll 215 = .ok (.bipush (-6), 2) := de16 hX11_layAll_206 9 rfl rfl rfl
theorem dX11_layAll_217 : decode cX11_layAll 217 = .ok (.ireturn, 1) := de172 hX11_layAll_206 11 rfl rfl
theorem hX11_note_0 : bHas cX11_note 0 [42, 27, 182, 0, 143, 154, 0, 5, 2, 172, 42, 180, 0, 165, 158, 0, 13, 42, 182, 0, 179, 155, 0, 6] := bH_c (n := 24) (by decide +kernel)
theorem dX11_note_0 : decode cX11_note 0 = .ok (.aload_n 0, 1) := de42 hX11_note_0 0 rfl rfl
theorem dX11_note_1 : decode cX11_note 1 = .ok (.iload_n 1, 1) := de27 hX11_note_0 1 rfl rfl
theorem dX11_note_2 : decode cX11_note 2 = .ok (.invokevirtual 143, 3) := de182 hX11_note_0 2 rfl rfl rfl
theorem dX11_note_5 : decode cX11_note 5 = .ok (.ifCond .ne 5, 3) := de154 hX11_note_0 5 rfl rfl (by decide +kernel)
theorem dX11_note_8 : decode cX11_note 8 = .ok (.iconst (-1), 1) := de2 hX11_note_0 8 rfl rfl
theorem dX11_note_9 : decode cX11_note 9 = .ok (.ireturn, 1) := de172 hX11_note_0 9 rfl rfl
theorem dX11_note_10 : decode cX11_note 10 = .ok (.aload_n 0, 1) := de42 hX11_note_0 10 rfl rfl
theorem dX11_note_11 : decode cX11_note 11 = .ok (.getfield 165, 3) := de180 hX11_note_0 11 rfl rfl rfl
theorem dX11_note_14 : decode cX11_note 14 = .ok (.ifCond .le 13, 3) := de158 hX11_note_0 14 rfl rfl (by decide +kernel)
theorem dX11_note_17 : decode cX11_note 17 = .ok (.aload_n 0, 1) := de42 hX11_note_0 17 rfl rfl
theorem dX11_note_18 : decode cX11_note 18 = .ok (.invokevirtual 179, 3) := de182 hX11_note_0 18 rfl rfl rfl
theorem dX11_note_21 : decode cX11_note 21 = .ok (.ifCond .lt 6, 3) := de155 hX11_note_0 21 rfl rfl (by decide +kernel)
theorem hX11_note_24 : bHas cX11_note 24 [16, 251, 172, 42, 182, 0, 183, 61, 28, 156, 0, 6, 16, 251, 172, 3, 62, 29] := bH_c (n := 18) (by decide +kernel)
theorem dX11_note_24 : decode cX11_note 24 = .ok (.bipush (-5), 2) := de16 hX11_note_24 0 rfl rfl rfl
theorem dX11_note_26 : decode cX11_note 26 = .ok (.ireturn, 1) := de172 hX11_note_24 2 rfl rfl
theorem dX11_note_27 : decode cX11_note 27 = .ok (.aload_n 0, 1) := de42 hX11_note_24 3 rfl rfl
theorem dX11_note_28 : decode cX11_note 28 = .ok (.invokevirtual 183, 3) := de182 hX11_note_24 4 rfl rfl rfl
theorem dX11_note_31 : decode cX11_note 31 = .ok (.istore_n 2, 1) := de61 hX11_note_24 7 rfl rfl
theorem dX11_note_32 : decode cX11_note 32 = .ok (.iload_n 2, 1) := de28 hX11_note_24 8 rfl rfl
theorem dX11_note_33 : decode cX11_note 33 = .ok (.ifCond .ge 6, 3) := de156 hX11_note_24 9 rfl rfl (by decide +kernel)
theorem dX11_note_36 : decode cX11_note 36 = .ok (.bipush (-5), 2) := de16 hX11_note_24 12 rfl rfl rfl
theorem dX11_note_38 : decode cX11_note 38 = .ok (.ireturn, 1) := de172 hX11_note_24 14 rfl rfl
theorem dX11_note_39 : decode cX11_note 39 = .ok (.iconst 0, 1) := de3 hX11_note_24 15 rfl rfl
theorem dX11_note_40 : decode cX11_note 40 = .ok (.istore_n 3, 1) := de62 hX11_note_24 16 rfl rfl
theorem dX11_note_41 : decode cX11_note 41 = .ok (.iload_n 3, 1) := de29 hX11_note_24 17 rfl rfl
theorem hX11_note_42 : bHas cX11_note 42 [16, 28, 162, 0, 57, 42, 180, 0, 37, 27, 29, 184, 0, 139, 42, 180, 0, 46, 29, 46, 79] := bH_c (n := 21) (by decide +kernel)
theorem dX11_note_42 : decode cX11_note 42 = .ok (.bipush 28, 2) := de16 hX11_note_42 0 rfl rfl rfl
theorem dX11_note_44 : decode cX11_note 44 = .ok (.if_icmp .ge 57, 3) := de162 hX11_note_42 2 rfl rfl (by decide +kernel)
theorem dX11_note_47 : decode cX11_note 47 = .ok (.aload_n 0, 1) := de42 hX11_note_42 5 rfl rfl
theorem dX11_note_48 : decode cX11_note 48 = .ok (.getfield 37, 3) := de180 hX11_note_42 6 rfl rfl rfl
theorem dX11_note_51 : decode cX11_note 51 = .ok (.iload_n 1, 1) := de27 hX11_note_42 9 rfl rfl
theorem dX11_note_52 : decode cX11_note 52 = .ok (.iload_n 3, 1) := de29 hX11_note_42 10 rfl rfl
theorem dX11_note_53 : decode cX11_note 53 = .ok (.invokestatic 139, 3) := de184 hX11_note_42 11 rfl rfl rfl
theorem dX11_note_56 : decode cX11_note 56 = .ok (.aload_n 0, 1) := de42 hX11_note_42 14 rfl rfl
theorem dX11_note_57 : decode cX11_note 57 = .ok (.getfield 46, 3) := de180 hX11_note_42 15 rfl rfl rfl
theorem dX11_note_60 : decode cX11_note 60 = .ok (.iload_n 3, 1) := de29 hX11_note_42 18 rfl rfl
theorem dX11_note_61 : decode cX11_note 61 = .ok (.iaload, 1) := de46 hX11_note_42 19 rfl rfl
theorem dX11_note_62 : decode cX11_note 62 = .ok (.iastore, 1) := de79 hX11_note_42 20 rfl rfl
theorem hX11_note_63 : bHas cX11_note 63 [42, 180, 0, 40, 27, 29, 184, 0, 139, 42, 180, 0, 49, 29, 46, 79, 42, 180, 0, 43] := bH_c (n := 20) (by decide +kernel)
theorem dX11_note_63 : decode cX11_note 63 = .ok (.aload_n 0, 1) := de42 hX11_note_63 0 rfl rfl
theorem dX11_note_64 : decode cX11_note 64 = .ok (.getfield 40, 3) := de180 hX11_note_63 1 rfl rfl rfl
theorem dX11_note_67 : decode cX11_note 67 = .ok (.iload_n 1, 1) := de27 hX11_note_63 4 rfl rfl
theorem dX11_note_68 : decode cX11_note 68 = .ok (.iload_n 3, 1) := de29 hX11_note_63 5 rfl rfl
theorem dX11_note_69 : decode cX11_note 69 = .ok (.invokestatic 139, 3) := de184 hX11_note_63 6 rfl rfl rfl
theorem dX11_note_72 : decode cX11_note 72 = .ok (.aload_n 0, 1) := de42 hX11_note_63 9 rfl rfl
theorem dX11_note_73 : decode cX11_note 73 = .ok (.getfield 49, 3) := de180 hX11_note_63 10 rfl rfl rfl
theorem dX11_note_76 : decode cX11_note 76 = .ok (.iload_n 3, 1) := de29 hX11_note_63 13 rfl rfl
theorem dX11_note_77 : decode cX11_note 77 = .ok (.iaload, 1) := de46 hX11_note_63 14 rfl rfl
theorem dX11_note_78 : decode cX11_note 78 = .ok (.iastore, 1) := de79 hX11_note_63 15 rfl rfl
theorem dX11_note_79 : decode cX11_note 79 = .ok (.aload_n 0, 1) := de42 hX11_note_63 16 rfl rfl
theorem dX11_note_80 : decode cX11_note 80 = .ok (.getfield 43, 3) := de180 hX11_note_63 17 rfl rfl rfl
theorem hX11_note_83 : bHas cX11_note 83 [27, 29, 184, 0, 139, 42, 180, 0, 52, 29, 46, 79, 132, 3, 1, 167, 255, 199, 42, 3] := bH_c (n := 20) (by decide +kernel)
theorem dX11_note_83 : decode cX11_note 83 = .ok (.iload_n 1, 1) := de27 hX11_note_83 0 rfl rfl
theorem dX11_note_84 : decode cX11_note 84 = .ok (.iload_n 3, 1) := de29 hX11_note_83 1 rfl rfl
theorem dX11_note_85 : decode cX11_note 85 = .ok (.invokestatic 139, 3) := de184 hX11_note_83 2 rfl rfl rfl
theorem dX11_note_88 : decode cX11_note 88 = .ok (.aload_n 0, 1) := de42 hX11_note_83 5 rfl rfl
theorem dX11_note_89 : decode cX11_note 89 = .ok (.getfield 52, 3) := de180 hX11_note_83 6 rfl rfl rfl
theorem dX11_note_92 : decode cX11_note 92 = .ok (.iload_n 3, 1) := de29 hX11_note_83 9 rfl rfl
theorem dX11_note_93 : decode cX11_note 93 = .ok (.iaload, 1) := de46 hX11_note_83 10 rfl rfl
theorem dX11_note_94 : decode cX11_note 94 = .ok (.iastore, 1) := de79 hX11_note_83 11 rfl rfl
theorem dX11_note_95 : decode cX11_note 95 = .ok (.iinc 3 1, 3) := de132 hX11_note_83 12 rfl rfl rfl rfl
theorem dX11_note_98 : decode cX11_note 98 = .ok (.goto (-57), 3) := de167 hX11_note_83 15 rfl rfl (by decide +kernel)
theorem dX11_note_101 : decode cX11_note 101 = .ok (.aload_n 0, 1) := de42 hX11_note_83 18 rfl rfl
theorem dX11_note_102 : decode cX11_note 102 = .ok (.iconst 0, 1) := de3 hX11_note_83 19 rfl rfl
theorem hX11_note_103 : bHas cX11_note 103 [181, 0, 165, 28, 172] := bH_c (n := 5) (by decide +kernel)
theorem dX11_note_103 : decode cX11_note 103 = .ok (.putfield 165, 3) := de181 hX11_note_103 0 rfl rfl rfl
theorem dX11_note_106 : decode cX11_note 106 = .ok (.iload_n 2, 1) := de28 hX11_note_103 3 rfl rfl
theorem dX11_note_107 : decode cX11_note 107 = .ok (.ireturn, 1) := de172 hX11_note_103 4 rfl rfl
theorem hX11_fixed_0 : bHas cX11_fixed 0 [42, 180, 0, 22, 27, 28, 184, 0, 139, 46, 62, 3, 54, 4, 21, 4, 42, 180, 0, 158] := bH_c (n := 20) (by decide +kernel)
theorem dX11_fixed_0 : decode cX11_fixed 0 = .ok (.aload_n 0, 1) := de42 hX11_fixed_0 0 rfl rfl
theorem dX11_fixed_1 : decode cX11_fixed 1 = .ok (.getfield 22, 3) := de180 hX11_fixed_0 1 rfl rfl rfl
theorem dX11_fixed_4 : decode cX11_fixed 4 = .ok (.iload_n 1, 1) := de27 hX11_fixed_0 4 rfl rfl
theorem dX11_fixed_5 : decode cX11_fixed 5 = .ok (.iload_n 2, 1) := de28 hX11_fixed_0 5 rfl rfl
theorem dX11_fixed_6 : decode cX11_fixed 6 = .ok (.invokestatic 139, 3) := de184 hX11_fixed_0 6 rfl rfl rfl
theorem dX11_fixed_9 : decode cX11_fixed 9 = .ok (.iaload, 1) := de46 hX11_fixed_0 9 rfl rfl
theorem dX11_fixed_10 : decode cX11_fixed 10 = .ok (.istore_n 3, 1) := de62 hX11_fixed_0 10 rfl rfl
theorem dX11_fixed_11 : decode cX11_fixed 11 = .ok (.iconst 0, 1) := de3 hX11_fixed_0 11 rfl rfl
theorem dX11_fixed_12 : decode cX11_fixed 12 = .ok (.istore 4, 2) := de54 hX11_fixed_0 12 rfl rfl rfl
theorem dX11_fixed_14 : decode cX11_fixed 14 = .ok (.iload 4, 2) := de21 hX11_fixed_0 14 rfl rfl rfl
theorem dX11_fixed_16 : decode cX11_fixed 16 = .ok (.aload_n 0, 1) := de42 hX11_fixed_0 16 rfl rfl
theorem dX11_fixed_17 : decode cX11_fixed 17 = .ok (.getfield 158, 3) := de180 hX11_fixed_0 17 rfl rfl rfl
theorem hX11_fixed_20 : bHas cX11_fixed 20 [162, 0, 43, 42, 180, 0, 25, 21, 4, 46, 27, 160, 0, 24, 42, 180, 0, 28, 21, 4, 46, 28] := bH_c (n := 22) (by decide +kernel)
theorem dX11_fixed_20 : decode cX11_fixed 20 = .ok (.if_icmp .ge 43, 3) := de162 hX11_fixed_20 0 rfl rfl (by decide +kernel)
theorem dX11_fixed_23 : decode cX11_fixed 23 = .ok (.aload_n 0, 1) := de42 hX11_fixed_20 3 rfl rfl
theorem dX11_fixed_24 : decode cX11_fixed 24 = .ok (.getfield 25, 3) := de180 hX11_fixed_20 4 rfl rfl rfl
theorem dX11_fixed_27 : decode cX11_fixed 27 = .ok (.iload 4, 2) := de21 hX11_fixed_20 7 rfl rfl rfl
theorem dX11_fixed_29 : decode cX11_fixed 29 = .ok (.iaload, 1) := de46 hX11_fixed_20 9 rfl rfl
theorem dX11_fixed_30 : decode cX11_fixed 30 = .ok (.iload_n 1, 1) := de27 hX11_fixed_20 10 rfl rfl
theorem dX11_fixed_31 : decode cX11_fixed 31 = .ok (.if_icmp .ne 24, 3) := de160 hX11_fixed_20 11 rfl rfl (by decide +kernel)
theorem dX11_fixed_34 : decode cX11_fixed 34 = .ok (.aload_n 0, 1) := de42 hX11_fixed_20 14 rfl rfl
theorem dX11_fixed_35 : decode cX11_fixed 35 = .ok (.getfield 28, 3) := de180 hX11_fixed_20 15 rfl rfl rfl
theorem dX11_fixed_38 : decode cX11_fixed 38 = .ok (.iload 4, 2) := de21 hX11_fixed_20 18 rfl rfl rfl
theorem dX11_fixed_40 : decode cX11_fixed 40 = .ok (.iaload, 1) := de46 hX11_fixed_20 20 rfl rfl
theorem dX11_fixed_41 : decode cX11_fixed 41 = .ok (.iload_n 2, 1) := de28 hX11_fixed_20 21 rfl rfl
theorem hX11_fixed_42 : bHas cX11_fixed 42 [160, 0, 13, 42, 180, 0, 31, 21, 4, 46, 167, 0, 4, 29, 62, 132, 4, 1, 167, 255, 210, 29, 172] := bH_c (n := 23) (by decide +kernel)
theorem dX11_fixed_42 : decode cX11_fixed 42 = .ok (.if_icmp .ne 13, 3) := de160 hX11_fixed_42 0 rfl rfl (by decide +kernel)
theorem dX11_fixed_45 : decode cX11_fixed 45 = .ok (.aload_n 0, 1) := de42 hX11_fixed_42 3 rfl rfl
theorem dX11_fixed_46 : decode cX11_fixed 46 = .ok (.getfield 31, 3) := de180 hX11_fixed_42 4 rfl rfl rfl
theorem dX11_fixed_49 : decode cX11_fixed 49 = .ok (.iload 4, 2) := de21 hX11_fixed_42 7 rfl rfl rfl
theorem dX11_fixed_51 : decode cX11_fixed 51 = .ok (.iaload, 1) := de46 hX11_fixed_42 9 rfl rfl
theorem dX11_fixed_52 : decode cX11_fixed 52 = .ok (.goto 4, 3) := de167 hX11_fixed_42 10 rfl rfl (by decide +kernel)
theorem dX11_fixed_55 : decode cX11_fixed 55 = .ok (.iload_n 3, 1) := de29 hX11_fixed_42 13 rfl rfl
theorem dX11_fixed_56 : decode cX11_fixed 56 = .ok (.istore_n 3, 1) := de62 hX11_fixed_42 14 rfl rfl
theorem dX11_fixed_57 : decode cX11_fixed 57 = .ok (.iinc 4 1, 3) := de132 hX11_fixed_42 15 rfl rfl rfl rfl
theorem dX11_fixed_60 : decode cX11_fixed 60 = .ok (.goto (-46), 3) := de167 hX11_fixed_42 18 rfl rfl (by decide +kernel)
theorem dX11_fixed_63 : decode cX11_fixed 63 = .ok (.iload_n 3, 1) := de29 hX11_fixed_42 21 rfl rfl
theorem dX11_fixed_64 : decode cX11_fixed 64 = .ok (.ireturn, 1) := de172 hX11_fixed_42 22 rfl rfl
theorem hX11_readOf_0 : bHas cX11_readOf 0 [42, 180, 0, 37, 27, 28, 184, 0, 139, 46, 62, 29, 4, 159, 0, 22, 29, 6] := bH_c (n := 18) (by decide +kernel)
theorem dX11_readOf_0 : decode cX11_readOf 0 = .ok (.aload_n 0, 1) := de42 hX11_readOf_0 0 rfl rfl
theorem dX11_readOf_1 : decode cX11_readOf 1 = .ok (.getfield 37, 3) := de180 hX11_readOf_0 1 rfl rfl rfl
theorem dX11_readOf_4 : decode cX11_readOf 4 = .ok (.iload_n 1, 1) := de27 hX11_readOf_0 4 rfl rfl
theorem dX11_readOf_5 : decode cX11_readOf 5 = .ok (.iload_n 2, 1) := de28 hX11_readOf_0 5 rfl rfl
theorem dX11_readOf_6 : decode cX11_readOf 6 = .ok (.invokestatic 139, 3) := de184 hX11_readOf_0 6 rfl rfl rfl
theorem dX11_readOf_9 : decode cX11_readOf 9 = .ok (.iaload, 1) := de46 hX11_readOf_0 9 rfl rfl
theorem dX11_readOf_10 : decode cX11_readOf 10 = .ok (.istore_n 3, 1) := de62 hX11_readOf_0 10 rfl rfl
theorem dX11_readOf_11 : decode cX11_readOf 11 = .ok (.iload_n 3, 1) := de29 hX11_readOf_0 11 rfl rfl
theorem dX11_readOf_12 : decode cX11_readOf 12 = .ok (.iconst 1, 1) := de4 hX11_readOf_0 12 rfl rfl
theorem dX11_readOf_13 : decode cX11_readOf 13 = .ok (.if_icmp .eq 22, 3) := de159 hX11_readOf_0 13 rfl rfl (by decide +kernel)
theorem dX11_readOf_16 : decode cX11_readOf 16 = .ok (.iload_n 3, 1) := de29 hX11_readOf_0 16 rfl rfl
theorem dX11_readOf_17 : decode cX11_readOf 17 = .ok (.iconst 3, 1) := de6 hX11_readOf_0 17 rfl rfl
theorem hX11_readOf_18 : bHas cX11_readOf 18 [160, 0, 20, 42, 180, 0, 43, 27, 28, 184, 0, 139, 46, 28, 159, 0, 6, 16, 250, 172, 28] := bH_c (n := 21) (by decide +kernel)
theorem dX11_readOf_18 : decode cX11_readOf 18 = .ok (.if_icmp .ne 20, 3) := de160 hX11_readOf_18 0 rfl rfl (by decide +kernel)
theorem dX11_readOf_21 : decode cX11_readOf 21 = .ok (.aload_n 0, 1) := de42 hX11_readOf_18 3 rfl rfl
theorem dX11_readOf_22 : decode cX11_readOf 22 = .ok (.getfield 43, 3) := de180 hX11_readOf_18 4 rfl rfl rfl
theorem dX11_readOf_25 : decode cX11_readOf 25 = .ok (.iload_n 1, 1) := de27 hX11_readOf_18 7 rfl rfl
theorem dX11_readOf_26 : decode cX11_readOf 26 = .ok (.iload_n 2, 1) := de28 hX11_readOf_18 8 rfl rfl
theorem dX11_readOf_27 : decode cX11_readOf 27 = .ok (.invokestatic 139, 3) := de184 hX11_readOf_18 9 rfl rfl rfl
theorem dX11_readOf_30 : decode cX11_readOf 30 = .ok (.iaload, 1) := de46 hX11_readOf_18 12 rfl rfl
theorem dX11_readOf_31 : decode cX11_readOf 31 = .ok (.iload_n 2, 1) := de28 hX11_readOf_18 13 rfl rfl
theorem dX11_readOf_32 : decode cX11_readOf 32 = .ok (.if_icmp .eq 6, 3) := de159 hX11_readOf_18 14 rfl rfl (by decide +kernel)
theorem dX11_readOf_35 : decode cX11_readOf 35 = .ok (.bipush (-6), 2) := de16 hX11_readOf_18 17 rfl rfl rfl
theorem dX11_readOf_37 : decode cX11_readOf 37 = .ok (.ireturn, 1) := de172 hX11_readOf_18 19 rfl rfl
theorem dX11_readOf_38 : decode cX11_readOf 38 = .ok (.iload_n 2, 1) := de28 hX11_readOf_18 20 rfl rfl
theorem hX11_readOf_39 : bHas cX11_readOf 39 [16, 27, 162, 0, 28, 42, 180, 0, 37, 27, 28, 4, 96, 184, 0, 139, 46, 5, 160, 0, 12] := bH_c (n := 21) (by decide +kernel)
theorem dX11_readOf_39 : decode cX11_readOf 39 = .ok (.bipush 27, 2) := de16 hX11_readOf_39 0 rfl rfl rfl
theorem dX11_readOf_41 : decode cX11_readOf 41 = .ok (.if_icmp .ge 28, 3) := de162 hX11_readOf_39 2 rfl rfl (by decide +kernel)
theorem dX11_readOf_44 : decode cX11_readOf 44 = .ok (.aload_n 0, 1) := de42 hX11_readOf_39 5 rfl rfl
theorem dX11_readOf_45 : decode cX11_readOf 45 = .ok (.getfield 37, 3) := de180 hX11_readOf_39 6 rfl rfl rfl
theorem dX11_readOf_48 : decode cX11_readOf 48 = .ok (.iload_n 1, 1) := de27 hX11_readOf_39 9 rfl rfl
theorem dX11_readOf_49 : decode cX11_readOf 49 = .ok (.iload_n 2, 1) := de28 hX11_readOf_39 10 rfl rfl
theorem dX11_readOf_50 : decode cX11_readOf 50 = .ok (.iconst 1, 1) := de4 hX11_readOf_39 11 rfl rfl
theorem dX11_readOf_51 : decode cX11_readOf 51 = .ok (.iadd, 1) := de96 hX11_readOf_39 12 rfl rfl
theorem dX11_readOf_52 : decode cX11_readOf 52 = .ok (.invokestatic 139, 3) := de184 hX11_readOf_39 13 rfl rfl rfl
theorem dX11_readOf_55 : decode cX11_readOf 55 = .ok (.iaload, 1) := de46 hX11_readOf_39 16 rfl rfl
theorem dX11_readOf_56 : decode cX11_readOf 56 = .ok (.iconst 2, 1) := de5 hX11_readOf_39 17 rfl rfl
theorem dX11_readOf_57 : decode cX11_readOf 57 = .ok (.if_icmp .ne 12, 3) := de160 hX11_readOf_39 18 rfl rfl (by decide +kernel)
theorem hX11_readOf_60 : bHas cX11_readOf 60 [42, 27, 28, 4, 96, 182, 0, 186, 172, 29, 5, 160, 0, 8, 16, 250, 167, 0, 9] := bH_c (n := 19) (by decide +kernel)
theorem dX11_readOf_60 : decode cX11_readOf 60 = .ok (.aload_n 0, 1) := de42 hX11_readOf_60 0 rfl rfl
theorem dX11_readOf_61 : decode cX11_readOf 61 = .ok (.iload_n 1, 1) := de27 hX11_readOf_60 1 rfl rfl
theorem dX11_readOf_62 : decode cX11_readOf 62 = .ok (.iload_n 2, 1) := de28 hX11_readOf_60 2 rfl rfl
theorem dX11_readOf_63 : decode cX11_readOf 63 = .ok (.iconst 1, 1) := de4 hX11_readOf_60 3 rfl rfl
theorem dX11_readOf_64 : decode cX11_readOf 64 = .ok (.iadd, 1) := de96 hX11_readOf_60 4 rfl rfl
theorem dX11_readOf_65 : decode cX11_readOf 65 = .ok (.invokevirtual 186, 3) := de182 hX11_readOf_60 5 rfl rfl rfl
theorem dX11_readOf_68 : decode cX11_readOf 68 = .ok (.ireturn, 1) := de172 hX11_readOf_60 8 rfl rfl
theorem dX11_readOf_69 : decode cX11_readOf 69 = .ok (.iload_n 3, 1) := de29 hX11_readOf_60 9 rfl rfl
theorem dX11_readOf_70 : decode cX11_readOf 70 = .ok (.iconst 2, 1) := de5 hX11_readOf_60 10 rfl rfl
theorem dX11_readOf_71 : decode cX11_readOf 71 = .ok (.if_icmp .ne 8, 3) := de160 hX11_readOf_60 11 rfl rfl (by decide +kernel)
theorem dX11_readOf_74 : decode cX11_readOf 74 = .ok (.bipush (-6), 2) := de16 hX11_readOf_60 14 rfl rfl rfl
theorem dX11_readOf_76 : decode cX11_readOf 76 = .ok (.goto 9, 3) := de167 hX11_readOf_60 16 rfl rfl (by decide +kernel)
theorem hX11_readOf_79 : bHas cX11_readOf 79 [42, 27, 28, 182, 0, 186, 172] := bH_c (n := 7) (by decide +kernel)
theorem dX11_readOf_79 : decode cX11_readOf 79 = .ok (.aload_n 0, 1) := de42 hX11_readOf_79 0 rfl rfl
theorem dX11_readOf_80 : decode cX11_readOf 80 = .ok (.iload_n 1, 1) := de27 hX11_readOf_79 1 rfl rfl
theorem dX11_readOf_81 : decode cX11_readOf 81 = .ok (.iload_n 2, 1) := de28 hX11_readOf_79 2 rfl rfl
theorem dX11_readOf_82 : decode cX11_readOf 82 = .ok (.invokevirtual 186, 3) := de182 hX11_readOf_79 3 rfl rfl rfl
theorem dX11_readOf_85 : decode cX11_readOf 85 = .ok (.ireturn, 1) := de172 hX11_readOf_79 6 rfl rfl
theorem hX11_caught_0 : bHas cX11_caught 0 [42, 27, 28, 182, 0, 189, 62, 29, 156, 0, 8, 16, 250, 167, 0, 26, 29, 16, 10, 104] := bH_c (n := 20) (by decide +kernel)
theorem dX11_caught_0 : decode cX11_caught 0 = .ok (.aload_n 0, 1) := de42 hX11_caught_0 0 rfl rfl
theorem dX11_caught_1 : decode cX11_caught 1 = .ok (.iload_n 1, 1) := de27 hX11_caught_0 1 rfl rfl
theorem dX11_caught_2 : decode cX11_caught 2 = .ok (.iload_n 2, 1) := de28 hX11_caught_0 2 rfl rfl
theorem dX11_caught_3 : decode cX11_caught 3 = .ok (.invokevirtual 189, 3) := de182 hX11_caught_0 3 rfl rfl rfl
theorem dX11_caught_6 : decode cX11_caught 6 = .ok (.istore_n 3, 1) := de62 hX11_caught_0 6 rfl rfl
theorem dX11_caught_7 : decode cX11_caught 7 = .ok (.iload_n 3, 1) := de29 hX11_caught_0 7 rfl rfl
theorem dX11_caught_8 : decode cX11_caught 8 = .ok (.ifCond .ge 8, 3) := de156 hX11_caught_0 8 rfl rfl (by decide +kernel)
theorem dX11_caught_11 : decode cX11_caught 11 = .ok (.bipush (-6), 2) := de16 hX11_caught_0 11 rfl rfl rfl
theorem dX11_caught_13 : decode cX11_caught 13 = .ok (.goto 26, 3) := de167 hX11_caught_0 13 rfl rfl (by decide +kernel)
theorem dX11_caught_16 : decode cX11_caught 16 = .ok (.iload_n 3, 1) := de29 hX11_caught_0 16 rfl rfl
theorem dX11_caught_17 : decode cX11_caught 17 = .ok (.bipush 10, 2) := de16 hX11_caught_0 17 rfl rfl rfl
theorem dX11_caught_19 : decode cX11_caught 19 = .ok (.imul, 1) := de104 hX11_caught_0 19 rfl rfl
theorem hX11_caught_20 : bHas cX11_caught 20 [16, 10, 42, 180, 0, 16, 6, 27, 104, 42, 180, 0, 19, 28, 46, 96, 46] := bH_c (n := 17) (by decide +kernel)
theorem dX11_caught_20 : decode cX11_caught 20 = .ok (.bipush 10, 2) := de16 hX11_caught_20 0 rfl rfl rfl
theorem dX11_caught_22 : decode cX11_caught 22 = .ok (.aload_n 0, 1) := de42 hX11_caught_20 2 rfl rfl
theorem dX11_caught_23 : decode cX11_caught 23 = .ok (.getfield 16, 3) := de180 hX11_caught_20 3 rfl rfl rfl
theorem dX11_caught_26 : decode cX11_caught 26 = .ok (.iconst 3, 1) := de6 hX11_caught_20 6 rfl rfl
theorem dX11_caught_27 : decode cX11_caught 27 = .ok (.iload_n 1, 1) := de27 hX11_caught_20 7 rfl rfl
theorem dX11_caught_28 : decode cX11_caught 28 = .ok (.imul, 1) := de104 hX11_caught_20 8 rfl rfl
theorem dX11_caught_29 : decode cX11_caught 29 = .ok (.aload_n 0, 1) := de42 hX11_caught_20 9 rfl rfl
theorem dX11_caught_30 : decode cX11_caught 30 = .ok (.getfield 19, 3) := de180 hX11_caught_20 10 rfl rfl rfl
theorem dX11_caught_33 : decode cX11_caught 33 = .ok (.iload_n 2, 1) := de28 hX11_caught_20 13 rfl rfl
theorem dX11_caught_34 : decode cX11_caught 34 = .ok (.iaload, 1) := de46 hX11_caught_20 14 rfl rfl
theorem dX11_caught_35 : decode cX11_caught 35 = .ok (.iadd, 1) := de96 hX11_caught_20 15 rfl rfl
theorem dX11_caught_36 : decode cX11_caught 36 = .ok (.iaload, 1) := de46 hX11_caught_20 16 rfl rfl
theorem hX11_caught_37 : bHas cX11_caught 37 [100, 108, 172] := bH_c (n := 3) (by decide +kernel)
theorem dX11_caught_37 : decode cX11_caught 37 = .ok (.isub, 1) := de100 hX11_caught_37 0 rfl rfl
theorem dX11_caught_38 : decode cX11_caught 38 = .ok (.idiv, 1) := de108 hX11_caught_37 1 rfl rfl
theorem dX11_caught_39 : decode cX11_caught 39 = .ok (.ireturn, 1) := de172 hX11_caught_37 2 rfl rfl
theorem hX11_areNear_0 : bHas cX11_areNear 0 [27, 28, 159, 0, 45, 42, 180, 0, 7, 27, 46, 42, 180, 0, 7, 28, 46, 184, 0, 192] := bH_c (n := 20) (by decide +kernel)
theorem dX11_areNear_0 : decode cX11_areNear 0 = .ok (.iload_n 1, 1) := de27 hX11_areNear_0 0 rfl rfl
theorem dX11_areNear_1 : decode cX11_areNear 1 = .ok (.iload_n 2, 1) := de28 hX11_areNear_0 1 rfl rfl
theorem dX11_areNear_2 : decode cX11_areNear 2 = .ok (.if_icmp .eq 45, 3) := de159 hX11_areNear_0 2 rfl rfl (by decide +kernel)
theorem dX11_areNear_5 : decode cX11_areNear 5 = .ok (.aload_n 0, 1) := de42 hX11_areNear_0 5 rfl rfl
theorem dX11_areNear_6 : decode cX11_areNear 6 = .ok (.getfield 7, 3) := de180 hX11_areNear_0 6 rfl rfl rfl
theorem dX11_areNear_9 : decode cX11_areNear 9 = .ok (.iload_n 1, 1) := de27 hX11_areNear_0 9 rfl rfl
theorem dX11_areNear_10 : decode cX11_areNear 10 = .ok (.iaload, 1) := de46 hX11_areNear_0 10 rfl rfl
theorem dX11_areNear_11 : decode cX11_areNear 11 = .ok (.aload_n 0, 1) := de42 hX11_areNear_0 11 rfl rfl
theorem dX11_areNear_12 : decode cX11_areNear 12 = .ok (.getfield 7, 3) := de180 hX11_areNear_0 12 rfl rfl rfl
theorem dX11_areNear_15 : decode cX11_areNear 15 = .ok (.iload_n 2, 1) := de28 hX11_areNear_0 15 rfl rfl
theorem dX11_areNear_16 : decode cX11_areNear 16 = .ok (.iaload, 1) := de46 hX11_areNear_0 16 rfl rfl
theorem dX11_areNear_17 : decode cX11_areNear 17 = .ok (.invokestatic 192, 3) := de184 hX11_areNear_0 17 rfl rfl rfl
theorem hX11_areNear_20 : bHas cX11_areNear 20 [42, 180, 0, 13, 27, 46, 42, 180, 0, 13, 28, 46, 184, 0, 192, 96, 42, 180, 0, 111] := bH_c (n := 20) (by decide +kernel)
theorem dX11_areNear_20 : decode cX11_areNear 20 = .ok (.aload_n 0, 1) := de42 hX11_areNear_20 0 rfl rfl
theorem dX11_areNear_21 : decode cX11_areNear 21 = .ok (.getfield 13, 3) := de180 hX11_areNear_20 1 rfl rfl rfl
theorem dX11_areNear_24 : decode cX11_areNear 24 = .ok (.iload_n 1, 1) := de27 hX11_areNear_20 4 rfl rfl
theorem dX11_areNear_25 : decode cX11_areNear 25 = .ok (.iaload, 1) := de46 hX11_areNear_20 5 rfl rfl
theorem dX11_areNear_26 : decode cX11_areNear 26 = .ok (.aload_n 0, 1) := de42 hX11_areNear_20 6 rfl rfl
theorem dX11_areNear_27 : decode cX11_areNear 27 = .ok (.getfield 13, 3) := de180 hX11_areNear_20 7 rfl rfl rfl
theorem dX11_areNear_30 : decode cX11_areNear 30 = .ok (.iload_n 2, 1) := de28 hX11_areNear_20 10 rfl rfl
theorem dX11_areNear_31 : decode cX11_areNear 31 = .ok (.iaload, 1) := de46 hX11_areNear_20 11 rfl rfl
theorem dX11_areNear_32 : decode cX11_areNear 32 = .ok (.invokestatic 192, 3) := de184 hX11_areNear_20 12 rfl rfl rfl
theorem dX11_areNear_35 : decode cX11_areNear 35 = .ok (.iadd, 1) := de96 hX11_areNear_20 15 rfl rfl
theorem dX11_areNear_36 : decode cX11_areNear 36 = .ok (.aload_n 0, 1) := de42 hX11_areNear_20 16 rfl rfl
theorem dX11_areNear_37 : decode cX11_areNear 37 = .ok (.getfield 111, 3) := de180 hX11_areNear_20 17 rfl rfl rfl
theorem hX11_areNear_40 : bHas cX11_areNear 40 [163, 0, 7, 4, 167, 0, 4, 3, 172] := bH_c (n := 9) (by decide +kernel)
theorem dX11_areNear_40 : decode cX11_areNear 40 = .ok (.if_icmp .gt 7, 3) := de163 hX11_areNear_40 0 rfl rfl (by decide +kernel)
theorem dX11_areNear_43 : decode cX11_areNear 43 = .ok (.iconst 1, 1) := de4 hX11_areNear_40 3 rfl rfl
theorem dX11_areNear_44 : decode cX11_areNear 44 = .ok (.goto 4, 3) := de167 hX11_areNear_40 4 rfl rfl (by decide +kernel)
theorem dX11_areNear_47 : decode cX11_areNear 47 = .ok (.iconst 0, 1) := de3 hX11_areNear_40 7 rfl rfl
theorem dX11_areNear_48 : decode cX11_areNear 48 = .ok (.ireturn, 1) := de172 hX11_areNear_40 8 rfl rfl
theorem hX11_expectOf_0 : bHas cX11_expectOf 0 [3, 62, 3, 54, 4, 3, 54, 5, 21, 5, 42, 180, 0, 132, 162, 0, 45, 42, 180, 0, 55] := bH_c (n := 21) (by decide +kernel)
theorem dX11_expectOf_0 : decode cX11_expectOf 0 = .ok (.iconst 0, 1) := de3 hX11_expectOf_0 0 rfl rfl
theorem dX11_expectOf_1 : decode cX11_expectOf 1 = .ok (.istore_n 3, 1) := de62 hX11_expectOf_0 1 rfl rfl
theorem dX11_expectOf_2 : decode cX11_expectOf 2 = .ok (.iconst 0, 1) := de3 hX11_expectOf_0 2 rfl rfl
theorem dX11_expectOf_3 : decode cX11_expectOf 3 = .ok (.istore 4, 2) := de54 hX11_expectOf_0 3 rfl rfl rfl
theorem dX11_expectOf_5 : decode cX11_expectOf 5 = .ok (.iconst 0, 1) := de3 hX11_expectOf_0 5 rfl rfl
theorem dX11_expectOf_6 : decode cX11_expectOf 6 = .ok (.istore 5, 2) := de54 hX11_expectOf_0 6 rfl rfl rfl
theorem dX11_expectOf_8 : decode cX11_expectOf 8 = .ok (.iload 5, 2) := de21 hX11_expectOf_0 8 rfl rfl rfl
theorem dX11_expectOf_10 : decode cX11_expectOf 10 = .ok (.aload_n 0, 1) := de42 hX11_expectOf_0 10 rfl rfl
theorem dX11_expectOf_11 : decode cX11_expectOf 11 = .ok (.getfield 132, 3) := de180 hX11_expectOf_0 11 rfl rfl rfl
theorem dX11_expectOf_14 : decode cX11_expectOf 14 = .ok (.if_icmp .ge 45, 3) := de162 hX11_expectOf_0 14 rfl rfl (by decide +kernel)
theorem dX11_expectOf_17 : decode cX11_expectOf 17 = .ok (.aload_n 0, 1) := de42 hX11_expectOf_0 17 rfl rfl
theorem dX11_expectOf_18 : decode cX11_expectOf 18 = .ok (.getfield 55, 3) := de180 hX11_expectOf_0 18 rfl rfl rfl
theorem hX11_expectOf_21 : bHas cX11_expectOf 21 [21, 5, 28, 184, 0, 139, 46, 54, 6, 42, 27, 21, 5, 182, 0, 195, 153, 0, 16, 21, 6, 155, 0, 11] := bH_c (n := 24) (by decide +kernel)
theorem dX11_expectOf_21 : decode cX11_expectOf 21 = .ok (.iload 5, 2) := de21 hX11_expectOf_21 0 rfl rfl rfl
theorem dX11_expectOf_23 : decode cX11_expectOf 23 = .ok (.iload_n 2, 1) := de28 hX11_expectOf_21 2 rfl rfl
theorem dX11_expectOf_24 : decode cX11_expectOf 24 = .ok (.invokestatic 139, 3) := de184 hX11_expectOf_21 3 rfl rfl rfl
theorem dX11_expectOf_27 : decode cX11_expectOf 27 = .ok (.iaload, 1) := de46 hX11_expectOf_21 6 rfl rfl
theorem dX11_expectOf_28 : decode cX11_expectOf 28 = .ok (.istore 6, 2) := de54 hX11_expectOf_21 7 rfl rfl rfl
theorem dX11_expectOf_30 : decode cX11_expectOf 30 = .ok (.aload_n 0, 1) := de42 hX11_expectOf_21 9 rfl rfl
theorem dX11_expectOf_31 : decode cX11_expectOf 31 = .ok (.iload_n 1, 1) := de27 hX11_expectOf_21 10 rfl rfl
theorem dX11_expectOf_32 : decode cX11_expectOf 32 = .ok (.iload 5, 2) := de21 hX11_expectOf_21 11 rfl rfl rfl
theorem dX11_expectOf_34 : decode cX11_expectOf 34 = .ok (.invokevirtual 195, 3) := de182 hX11_expectOf_21 13 rfl rfl rfl
theorem dX11_expectOf_37 : decode cX11_expectOf 37 = .ok (.ifCond .eq 16, 3) := de153 hX11_expectOf_21 16 rfl rfl (by decide +kernel)
theorem dX11_expectOf_40 : decode cX11_expectOf 40 = .ok (.iload 6, 2) := de21 hX11_expectOf_21 19 rfl rfl rfl
theorem dX11_expectOf_42 : decode cX11_expectOf 42 = .ok (.ifCond .lt 11, 3) := de155 hX11_expectOf_21 21 rfl rfl (by decide +kernel)
theorem hX11_expectOf_45 : bHas cX11_expectOf 45 [29, 21, 6, 96, 62, 132, 4, 1, 132, 5, 1, 167, 255, 208, 21, 4, 154, 0, 8, 16, 250, 167, 0, 7, 29] := bH_c (n := 25) (by decide +kernel)
theorem dX11_expectOf_45 : decode cX11_expectOf 45 = .ok (.iload_n 3, 1) := de29 hX11_expectOf_45 0 rfl rfl
theorem dX11_expectOf_46 : decode cX11_expectOf 46 = .ok (.iload 6, 2) := de21 hX11_expectOf_45 1 rfl rfl rfl
theorem dX11_expectOf_48 : decode cX11_expectOf 48 = .ok (.iadd, 1) := de96 hX11_expectOf_45 3 rfl rfl
theorem dX11_expectOf_49 : decode cX11_expectOf 49 = .ok (.istore_n 3, 1) := de62 hX11_expectOf_45 4 rfl rfl
theorem dX11_expectOf_50 : decode cX11_expectOf 50 = .ok (.iinc 4 1, 3) := de132 hX11_expectOf_45 5 rfl rfl rfl rfl
theorem dX11_expectOf_53 : decode cX11_expectOf 53 = .ok (.iinc 5 1, 3) := de132 hX11_expectOf_45 8 rfl rfl rfl rfl
theorem dX11_expectOf_56 : decode cX11_expectOf 56 = .ok (.goto (-48), 3) := de167 hX11_expectOf_45 11 rfl rfl (by decide +kernel)
theorem dX11_expectOf_59 : decode cX11_expectOf 59 = .ok (.iload 4, 2) := de21 hX11_expectOf_45 14 rfl rfl rfl
theorem dX11_expectOf_61 : decode cX11_expectOf 61 = .ok (.ifCond .ne 8, 3) := de154 hX11_expectOf_45 16 rfl rfl (by decide +kernel)
theorem dX11_expectOf_64 : decode cX11_expectOf 64 = .ok (.bipush (-6), 2) := de16 hX11_expectOf_45 19 rfl rfl rfl
theorem dX11_expectOf_66 : decode cX11_expectOf 66 = .ok (.goto 7, 3) := de167 hX11_expectOf_45 21 rfl rfl (by decide +kernel)
theorem dX11_expectOf_69 : decode cX11_expectOf 69 = .ok (.iload_n 3, 1) := de29 hX11_expectOf_45 24 rfl rfl
theorem hX11_expectOf_70 : bHas cX11_expectOf 70 [21, 4, 108, 172] := bH_c (n := 4) (by decide +kernel)
theorem dX11_expectOf_70 : decode cX11_expectOf 70 = .ok (.iload 4, 2) := de21 hX11_expectOf_70 0 rfl rfl rfl
theorem dX11_expectOf_72 : decode cX11_expectOf 72 = .ok (.idiv, 1) := de108 hX11_expectOf_70 2 rfl rfl
theorem dX11_expectOf_73 : decode cX11_expectOf 73 = .ok (.ireturn, 1) := de172 hX11_expectOf_70 3 rfl rfl
theorem hX11_atLeast_0 : bHas cX11_atLeast 0 [26, 156, 0, 7, 3, 167, 0, 4, 26, 172] := bH_c (n := 10) (by decide +kernel)
theorem dX11_atLeast_0 : decode cX11_atLeast 0 = .ok (.iload_n 0, 1) := de26 hX11_atLeast_0 0 rfl rfl
theorem dX11_atLeast_1 : decode cX11_atLeast 1 = .ok (.ifCond .ge 7, 3) := de156 hX11_atLeast_0 1 rfl rfl (by decide +kernel)
theorem dX11_atLeast_4 : decode cX11_atLeast 4 = .ok (.iconst 0, 1) := de3 hX11_atLeast_0 4 rfl rfl
theorem dX11_atLeast_5 : decode cX11_atLeast 5 = .ok (.goto 4, 3) := de167 hX11_atLeast_0 5 rfl rfl (by decide +kernel)
theorem dX11_atLeast_8 : decode cX11_atLeast 8 = .ok (.iload_n 0, 1) := de26 hX11_atLeast_0 8 rfl rfl
theorem dX11_atLeast_9 : decode cX11_atLeast 9 = .ok (.ireturn, 1) := de172 hX11_atLeast_0 9 rfl rfl
theorem hX11_part_0 : bHas cX11_part 0 [42, 27, 29, 182, 0, 198, 54, 4, 3, 54, 5, 28, 54, 6, 21, 6, 29, 163, 0, 28] := bH_c (n := 20) (by decide +kernel)
theorem dX11_part_0 : decode cX11_part 0 = .ok (.aload_n 0, 1) := de42 hX11_part_0 0 rfl rfl
theorem dX11_part_1 : decode cX11_part 1 = .ok (.iload_n 1, 1) := de27 hX11_part_0 1 rfl rfl
theorem dX11_part_2 : decode cX11_part 2 = .ok (.iload_n 3, 1) := de29 hX11_part_0 2 rfl rfl
theorem dX11_part_3 : decode cX11_part 3 = .ok (.invokevirtual 198, 3) := de182 hX11_part_0 3 rfl rfl rfl
theorem dX11_part_6 : decode cX11_part 6 = .ok (.istore 4, 2) := de54 hX11_part_0 6 rfl rfl rfl
theorem dX11_part_8 : decode cX11_part 8 = .ok (.iconst 0, 1) := de3 hX11_part_0 8 rfl rfl
theorem dX11_part_9 : decode cX11_part 9 = .ok (.istore 5, 2) := de54 hX11_part_0 9 rfl rfl rfl
theorem dX11_part_11 : decode cX11_part 11 = .ok (.iload_n 2, 1) := de28 hX11_part_0 11 rfl rfl
theorem dX11_part_12 : decode cX11_part 12 = .ok (.istore 6, 2) := de54 hX11_part_0 12 rfl rfl rfl
theorem dX11_part_14 : decode cX11_part 14 = .ok (.iload 6, 2) := de21 hX11_part_0 14 rfl rfl rfl
theorem dX11_part_16 : decode cX11_part 16 = .ok (.iload_n 3, 1) := de29 hX11_part_0 16 rfl rfl
theorem dX11_part_17 : decode cX11_part 17 = .ok (.if_icmp .gt 28, 3) := de163 hX11_part_0 17 rfl rfl (by decide +kernel)
theorem hX11_part_20 : bHas cX11_part 20 [21, 5, 42, 180, 0, 58, 27, 21, 6, 184, 0, 139, 46, 184, 0, 201, 96, 54, 5, 132, 6, 1, 167, 255, 228] := bH_c (n := 25) (by decide +kernel)
theorem dX11_part_20 : decode cX11_part 20 = .ok (.iload 5, 2) := de21 hX11_part_20 0 rfl rfl rfl
theorem dX11_part_22 : decode cX11_part 22 = .ok (.aload_n 0, 1) := de42 hX11_part_20 2 rfl rfl
theorem dX11_part_23 : decode cX11_part 23 = .ok (.getfield 58, 3) := de180 hX11_part_20 3 rfl rfl rfl
theorem dX11_part_26 : decode cX11_part 26 = .ok (.iload_n 1, 1) := de27 hX11_part_20 6 rfl rfl
theorem dX11_part_27 : decode cX11_part 27 = .ok (.iload 6, 2) := de21 hX11_part_20 7 rfl rfl rfl
theorem dX11_part_29 : decode cX11_part 29 = .ok (.invokestatic 139, 3) := de184 hX11_part_20 9 rfl rfl rfl
theorem dX11_part_32 : decode cX11_part 32 = .ok (.iaload, 1) := de46 hX11_part_20 12 rfl rfl
theorem dX11_part_33 : decode cX11_part 33 = .ok (.invokestatic 201, 3) := de184 hX11_part_20 13 rfl rfl rfl
theorem dX11_part_36 : decode cX11_part 36 = .ok (.iadd, 1) := de96 hX11_part_20 16 rfl rfl
theorem dX11_part_37 : decode cX11_part 37 = .ok (.istore 5, 2) := de54 hX11_part_20 17 rfl rfl rfl
theorem dX11_part_39 : decode cX11_part 39 = .ok (.iinc 6 1, 3) := de132 hX11_part_20 19 rfl rfl rfl rfl
theorem dX11_part_42 : decode cX11_part 42 = .ok (.goto (-28), 3) := de167 hX11_part_20 22 rfl rfl (by decide +kernel)
theorem hX11_part_45 : bHas cX11_part 45 [21, 4, 54, 6, 28, 54, 7, 21, 7, 29, 162, 0, 77, 21, 4, 156, 0, 8, 16, 250, 167, 0, 36, 21, 5] := bH_c (n := 25) (by decide +kernel)
theorem dX11_part_45 : decode cX11_part 45 = .ok (.iload 4, 2) := de21 hX11_part_45 0 rfl rfl rfl
theorem dX11_part_47 : decode cX11_part 47 = .ok (.istore 6, 2) := de54 hX11_part_45 2 rfl rfl rfl
theorem dX11_part_49 : decode cX11_part 49 = .ok (.iload_n 2, 1) := de28 hX11_part_45 4 rfl rfl
theorem dX11_part_50 : decode cX11_part 50 = .ok (.istore 7, 2) := de54 hX11_part_45 5 rfl rfl rfl
theorem dX11_part_52 : decode cX11_part 52 = .ok (.iload 7, 2) := de21 hX11_part_45 7 rfl rfl rfl
theorem dX11_part_54 : decode cX11_part 54 = .ok (.iload_n 3, 1) := de29 hX11_part_45 9 rfl rfl
theorem dX11_part_55 : decode cX11_part 55 = .ok (.if_icmp .ge 77, 3) := de162 hX11_part_45 10 rfl rfl (by decide +kernel)
theorem dX11_part_58 : decode cX11_part 58 = .ok (.iload 4, 2) := de21 hX11_part_45 13 rfl rfl rfl
theorem dX11_part_60 : decode cX11_part 60 = .ok (.ifCond .ge 8, 3) := de156 hX11_part_45 15 rfl rfl (by decide +kernel)
theorem dX11_part_63 : decode cX11_part 63 = .ok (.bipush (-6), 2) := de16 hX11_part_45 18 rfl rfl rfl
theorem dX11_part_65 : decode cX11_part 65 = .ok (.goto 36, 3) := de167 hX11_part_45 20 rfl rfl (by decide +kernel)
theorem dX11_part_68 : decode cX11_part 68 = .ok (.iload 5, 2) := de21 hX11_part_45 23 rfl rfl rfl
theorem hX11_part_70 : bHas cX11_part 70 [154, 0, 7, 3, 167, 0, 27, 21, 4, 133, 42, 180, 0, 58, 27, 21, 7, 184, 0, 139, 46, 184, 0, 201] := bH_c (n := 24) (by decide +kernel)
theorem dX11_part_70 : decode cX11_part 70 = .ok (.ifCond .ne 7, 3) := de154 hX11_part_70 0 rfl rfl (by decide +kernel)
theorem dX11_part_73 : decode cX11_part 73 = .ok (.iconst 0, 1) := de3 hX11_part_70 3 rfl rfl
theorem dX11_part_74 : decode cX11_part 74 = .ok (.goto 27, 3) := de167 hX11_part_70 4 rfl rfl (by decide +kernel)
theorem dX11_part_77 : decode cX11_part 77 = .ok (.iload 4, 2) := de21 hX11_part_70 7 rfl rfl rfl
theorem dX11_part_79 : decode cX11_part 79 = .ok (.i2l, 1) := de133 hX11_part_70 9 rfl rfl
theorem dX11_part_80 : decode cX11_part 80 = .ok (.aload_n 0, 1) := de42 hX11_part_70 10 rfl rfl
theorem dX11_part_81 : decode cX11_part 81 = .ok (.getfield 58, 3) := de180 hX11_part_70 11 rfl rfl rfl
theorem dX11_part_84 : decode cX11_part 84 = .ok (.iload_n 1, 1) := de27 hX11_part_70 14 rfl rfl
theorem dX11_part_85 : decode cX11_part 85 = .ok (.iload 7, 2) := de21 hX11_part_70 15 rfl rfl rfl
theorem dX11_part_87 : decode cX11_part 87 = .ok (.invokestatic 139, 3) := de184 hX11_part_70 17 rfl rfl rfl
theorem dX11_part_90 : decode cX11_part 90 = .ok (.iaload, 1) := de46 hX11_part_70 20 rfl rfl
theorem dX11_part_91 : decode cX11_part 91 = .ok (.invokestatic 201, 3) := de184 hX11_part_70 21 rfl rfl rfl
theorem hX11_part_94 : bHas cX11_part 94 [133, 105, 21, 5, 133, 109, 136, 54, 8, 42, 180, 0, 61, 27, 21, 7, 184, 0, 139] := bH_c (n := 19) (by decide +kernel)
theorem dX11_part_94 : decode cX11_part 94 = .ok (.i2l, 1) := de133 hX11_part_94 0 rfl rfl
theorem dX11_part_95 : decode cX11_part 95 = .ok (.lmul, 1) := de105 hX11_part_94 1 rfl rfl
theorem dX11_part_96 : decode cX11_part 96 = .ok (.iload 5, 2) := de21 hX11_part_94 2 rfl rfl rfl
theorem dX11_part_98 : decode cX11_part 98 = .ok (.i2l, 1) := de133 hX11_part_94 4 rfl rfl
theorem dX11_part_99 : decode cX11_part 99 = .ok (.ldiv, 1) := de109 hX11_part_94 5 rfl rfl
theorem dX11_part_100 : decode cX11_part 100 = .ok (.l2i, 1) := de136 hX11_part_94 6 rfl rfl
theorem dX11_part_101 : decode cX11_part 101 = .ok (.istore 8, 2) := de54 hX11_part_94 7 rfl rfl rfl
theorem dX11_part_103 : decode cX11_part 103 = .ok (.aload_n 0, 1) := de42 hX11_part_94 9 rfl rfl
theorem dX11_part_104 : decode cX11_part 104 = .ok (.getfield 61, 3) := de180 hX11_part_94 10 rfl rfl rfl
theorem dX11_part_107 : decode cX11_part 107 = .ok (.iload_n 1, 1) := de27 hX11_part_94 13 rfl rfl
theorem dX11_part_108 : decode cX11_part 108 = .ok (.iload 7, 2) := de21 hX11_part_94 14 rfl rfl rfl
theorem dX11_part_110 : decode cX11_part 110 = .ok (.invokestatic 139, 3) := de184 hX11_part_94 16 rfl rfl rfl
theorem hX11_part_113 : bHas cX11_part 113 [21, 8, 79, 21, 6, 21, 8, 184, 0, 201, 100, 54, 6, 132, 7, 1, 167, 255, 179, 42, 180, 0, 61, 27] := bH_c (n := 24) (by decide +kernel)
theorem dX11_part_113 : decode cX11_part 113 = .ok (.iload 8, 2) := de21 hX11_part_113 0 rfl rfl rfl
theorem dX11_part_115 : decode cX11_part 115 = .ok (.iastore, 1) := de79 hX11_part_113 2 rfl rfl
theorem dX11_part_116 : decode cX11_part 116 = .ok (.iload 6, 2) := de21 hX11_part_113 3 rfl rfl rfl
theorem dX11_part_118 : decode cX11_part 118 = .ok (.iload 8, 2) := de21 hX11_part_113 5 rfl rfl rfl
theorem dX11_part_120 : decode cX11_part 120 = .ok (.invokestatic 201, 3) := de184 hX11_part_113 7 rfl rfl rfl
theorem dX11_part_123 : decode cX11_part 123 = .ok (.isub, 1) := de100 hX11_part_113 10 rfl rfl
theorem dX11_part_124 : decode cX11_part 124 = .ok (.istore 6, 2) := de54 hX11_part_113 11 rfl rfl rfl
theorem dX11_part_126 : decode cX11_part 126 = .ok (.iinc 7 1, 3) := de132 hX11_part_113 13 rfl rfl rfl rfl
theorem dX11_part_129 : decode cX11_part 129 = .ok (.goto (-77), 3) := de167 hX11_part_113 16 rfl rfl (by decide +kernel)
theorem dX11_part_132 : decode cX11_part 132 = .ok (.aload_n 0, 1) := de42 hX11_part_113 19 rfl rfl
theorem dX11_part_133 : decode cX11_part 133 = .ok (.getfield 61, 3) := de180 hX11_part_113 20 rfl rfl rfl
theorem dX11_part_136 : decode cX11_part 136 = .ok (.iload_n 1, 1) := de27 hX11_part_113 23 rfl rfl
theorem hX11_part_137 : bHas cX11_part 137 [29, 184, 0, 139, 21, 4, 156, 0, 8, 16, 250, 167, 0, 5, 21, 6, 79, 177] := bH_c (n := 18) (by decide +kernel)
theorem dX11_part_137 : decode cX11_part 137 = .ok (.iload_n 3, 1) := de29 hX11_part_137 0 rfl rfl
theorem dX11_part_138 : decode cX11_part 138 = .ok (.invokestatic 139, 3) := de184 hX11_part_137 1 rfl rfl rfl
theorem dX11_part_141 : decode cX11_part 141 = .ok (.iload 4, 2) := de21 hX11_part_137 4 rfl rfl rfl
theorem dX11_part_143 : decode cX11_part 143 = .ok (.ifCond .ge 8, 3) := de156 hX11_part_137 6 rfl rfl (by decide +kernel)
theorem dX11_part_146 : decode cX11_part 146 = .ok (.bipush (-6), 2) := de16 hX11_part_137 9 rfl rfl rfl
theorem dX11_part_148 : decode cX11_part 148 = .ok (.goto 5, 3) := de167 hX11_part_137 11 rfl rfl (by decide +kernel)
theorem dX11_part_151 : decode cX11_part 151 = .ok (.iload 6, 2) := de21 hX11_part_137 14 rfl rfl rfl
theorem dX11_part_153 : decode cX11_part 153 = .ok (.iastore, 1) := de79 hX11_part_137 16 rfl rfl
theorem dX11_part_154 : decode cX11_part 154 = .ok (.return_, 1) := de177 hX11_part_137 17 rfl rfl
theorem hX11_findAll_0 : bHas cX11_findAll 0 [3, 60, 27, 42, 180, 0, 132, 162, 0, 58, 3, 61, 28, 16, 28, 162, 0, 44, 42] := bH_c (n := 19) (by decide +kernel)
theorem dX11_findAll_0 : decode cX11_findAll 0 = .ok (.iconst 0, 1) := de3 hX11_findAll_0 0 rfl rfl
theorem dX11_findAll_1 : decode cX11_findAll 1 = .ok (.istore_n 1, 1) := de60 hX11_findAll_0 1 rfl rfl
theorem dX11_findAll_2 : decode cX11_findAll 2 = .ok (.iload_n 1, 1) := de27 hX11_findAll_0 2 rfl rfl
theorem dX11_findAll_3 : decode cX11_findAll 3 = .ok (.aload_n 0, 1) := de42 hX11_findAll_0 3 rfl rfl
theorem dX11_findAll_4 : decode cX11_findAll 4 = .ok (.getfield 132, 3) := de180 hX11_findAll_0 4 rfl rfl rfl
theorem dX11_findAll_7 : decode cX11_findAll 7 = .ok (.if_icmp .ge 58, 3) := de162 hX11_findAll_0 7 rfl rfl (by decide +kernel)
theorem dX11_findAll_10 : decode cX11_findAll 10 = .ok (.iconst 0, 1) := de3 hX11_findAll_0 10 rfl rfl
theorem dX11_findAll_11 : decode cX11_findAll 11 = .ok (.istore_n 2, 1) := de61 hX11_findAll_0 11 rfl rfl
theorem dX11_findAll_12 : decode cX11_findAll 12 = .ok (.iload_n 2, 1) := de28 hX11_findAll_0 12 rfl rfl
theorem dX11_findAll_13 : decode cX11_findAll 13 = .ok (.bipush 28, 2) := de16 hX11_findAll_0 13 rfl rfl rfl
theorem dX11_findAll_15 : decode cX11_findAll 15 = .ok (.if_icmp .ge 44, 3) := de162 hX11_findAll_0 15 rfl rfl (by decide +kernel)
theorem dX11_findAll_18 : decode cX11_findAll 18 = .ok (.aload_n 0, 1) := de42 hX11_findAll_0 18 rfl rfl
theorem hX11_findAll_19 : bHas cX11_findAll 19 [180, 0, 55, 27, 28, 184, 0, 139, 42, 180, 0, 37, 27, 28, 184, 0, 139, 46, 6, 160, 0, 8] := bH_c (n := 22) (by decide +kernel)
theorem dX11_findAll_19 : decode cX11_findAll 19 = .ok (.getfield 55, 3) := de180 hX11_findAll_19 0 rfl rfl rfl
theorem dX11_findAll_22 : decode cX11_findAll 22 = .ok (.iload_n 1, 1) := de27 hX11_findAll_19 3 rfl rfl
theorem dX11_findAll_23 : decode cX11_findAll 23 = .ok (.iload_n 2, 1) := de28 hX11_findAll_19 4 rfl rfl
theorem dX11_findAll_24 : decode cX11_findAll 24 = .ok (.invokestatic 139, 3) := de184 hX11_findAll_19 5 rfl rfl rfl
theorem dX11_findAll_27 : decode cX11_findAll 27 = .ok (.aload_n 0, 1) := de42 hX11_findAll_19 8 rfl rfl
theorem dX11_findAll_28 : decode cX11_findAll 28 = .ok (.getfield 37, 3) := de180 hX11_findAll_19 9 rfl rfl rfl
theorem dX11_findAll_31 : decode cX11_findAll 31 = .ok (.iload_n 1, 1) := de27 hX11_findAll_19 12 rfl rfl
theorem dX11_findAll_32 : decode cX11_findAll 32 = .ok (.iload_n 2, 1) := de28 hX11_findAll_19 13 rfl rfl
theorem dX11_findAll_33 : decode cX11_findAll 33 = .ok (.invokestatic 139, 3) := de184 hX11_findAll_19 14 rfl rfl rfl
theorem dX11_findAll_36 : decode cX11_findAll 36 = .ok (.iaload, 1) := de46 hX11_findAll_19 17 rfl rfl
theorem dX11_findAll_37 : decode cX11_findAll 37 = .ok (.iconst 3, 1) := de6 hX11_findAll_19 18 rfl rfl
theorem dX11_findAll_38 : decode cX11_findAll 38 = .ok (.if_icmp .ne 8, 3) := de160 hX11_findAll_19 19 rfl rfl (by decide +kernel)
theorem hX11_findAll_41 : bHas cX11_findAll 41 [16, 250, 167, 0, 9, 42, 27, 28, 182, 0, 198, 79, 132, 2, 1, 167, 255, 212, 132, 1, 1, 167, 255, 196, 3] := bH_c (n := 25) (by decide +kernel)
theorem dX11_findAll_41 : decode cX11_findAll 41 = .ok (.bipush (-6), 2) := de16 hX11_findAll_41 0 rfl rfl rfl
theorem dX11_findAll_43 : decode cX11_findAll 43 = .ok (.goto 9, 3) := de167 hX11_findAll_41 2 rfl rfl (by decide +kernel)
theorem dX11_findAll_46 : decode cX11_findAll 46 = .ok (.aload_n 0, 1) := de42 hX11_findAll_41 5 rfl rfl
theorem dX11_findAll_47 : decode cX11_findAll 47 = .ok (.iload_n 1, 1) := de27 hX11_findAll_41 6 rfl rfl
theorem dX11_findAll_48 : decode cX11_findAll 48 = .ok (.iload_n 2, 1) := de28 hX11_findAll_41 7 rfl rfl
theorem dX11_findAll_49 : decode cX11_findAll 49 = .ok (.invokevirtual 198, 3) := de182 hX11_findAll_41 8 rfl rfl rfl
theorem dX11_findAll_52 : decode cX11_findAll 52 = .ok (.iastore, 1) := de79 hX11_findAll_41 11 rfl rfl
theorem dX11_findAll_53 : decode cX11_findAll 53 = .ok (.iinc 2 1, 3) := de132 hX11_findAll_41 12 rfl rfl rfl rfl
theorem dX11_findAll_56 : decode cX11_findAll 56 = .ok (.goto (-44), 3) := de167 hX11_findAll_41 15 rfl rfl (by decide +kernel)
theorem dX11_findAll_59 : decode cX11_findAll 59 = .ok (.iinc 1 1, 3) := de132 hX11_findAll_41 18 rfl rfl rfl rfl
theorem dX11_findAll_62 : decode cX11_findAll 62 = .ok (.goto (-60), 3) := de167 hX11_findAll_41 21 rfl rfl (by decide +kernel)
theorem dX11_findAll_65 : decode cX11_findAll 65 = .ok (.iconst 0, 1) := de3 hX11_findAll_41 24 rfl rfl
theorem hX11_findAll_66 : bHas cX11_findAll 66 [60, 27, 42, 180, 0, 132, 162, 0, 117, 3, 61, 28, 16, 28, 162, 0, 45, 42, 180, 0, 58] := bH_c (n := 21) (by decide +kernel)
theorem dX11_findAll_66 : decode cX11_findAll 66 = .ok (.istore_n 1, 1) := de60 hX11_findAll_66 0 rfl rfl
theorem dX11_findAll_67 : decode cX11_findAll 67 = .ok (.iload_n 1, 1) := de27 hX11_findAll_66 1 rfl rfl
theorem dX11_findAll_68 : decode cX11_findAll 68 = .ok (.aload_n 0, 1) := de42 hX11_findAll_66 2 rfl rfl
theorem dX11_findAll_69 : decode cX11_findAll 69 = .ok (.getfield 132, 3) := de180 hX11_findAll_66 3 rfl rfl rfl
theorem dX11_findAll_72 : decode cX11_findAll 72 = .ok (.if_icmp .ge 117, 3) := de162 hX11_findAll_66 6 rfl rfl (by decide +kernel)
theorem dX11_findAll_75 : decode cX11_findAll 75 = .ok (.iconst 0, 1) := de3 hX11_findAll_66 9 rfl rfl
theorem dX11_findAll_76 : decode cX11_findAll 76 = .ok (.istore_n 2, 1) := de61 hX11_findAll_66 10 rfl rfl
theorem dX11_findAll_77 : decode cX11_findAll 77 = .ok (.iload_n 2, 1) := de28 hX11_findAll_66 11 rfl rfl
theorem dX11_findAll_78 : decode cX11_findAll 78 = .ok (.bipush 28, 2) := de16 hX11_findAll_66 12 rfl rfl rfl
theorem dX11_findAll_80 : decode cX11_findAll 80 = .ok (.if_icmp .ge 45, 3) := de162 hX11_findAll_66 14 rfl rfl (by decide +kernel)
theorem dX11_findAll_83 : decode cX11_findAll 83 = .ok (.aload_n 0, 1) := de42 hX11_findAll_66 17 rfl rfl
theorem dX11_findAll_84 : decode cX11_findAll 84 = .ok (.getfield 58, 3) := de180 hX11_findAll_66 18 rfl rfl rfl
theorem hX11_findAll_87 : bHas cX11_findAll 87 [27, 28, 184, 0, 139, 42, 27, 28, 182, 0, 205, 79, 42, 180, 0, 61, 27, 28] := bH_c (n := 18) (by decide +kernel)
theorem dX11_findAll_87 : decode cX11_findAll 87 = .ok (.iload_n 1, 1) := de27 hX11_findAll_87 0 rfl rfl
theorem dX11_findAll_88 : decode cX11_findAll 88 = .ok (.iload_n 2, 1) := de28 hX11_findAll_87 1 rfl rfl
theorem dX11_findAll_89 : decode cX11_findAll 89 = .ok (.invokestatic 139, 3) := de184 hX11_findAll_87 2 rfl rfl rfl
theorem dX11_findAll_92 : decode cX11_findAll 92 = .ok (.aload_n 0, 1) := de42 hX11_findAll_87 5 rfl rfl
theorem dX11_findAll_93 : decode cX11_findAll 93 = .ok (.iload_n 1, 1) := de27 hX11_findAll_87 6 rfl rfl
theorem dX11_findAll_94 : decode cX11_findAll 94 = .ok (.iload_n 2, 1) := de28 hX11_findAll_87 7 rfl rfl
theorem dX11_findAll_95 : decode cX11_findAll 95 = .ok (.invokevirtual 205, 3) := de182 hX11_findAll_87 8 rfl rfl rfl
theorem dX11_findAll_98 : decode cX11_findAll 98 = .ok (.iastore, 1) := de79 hX11_findAll_87 11 rfl rfl
theorem dX11_findAll_99 : decode cX11_findAll 99 = .ok (.aload_n 0, 1) := de42 hX11_findAll_87 12 rfl rfl
theorem dX11_findAll_100 : decode cX11_findAll 100 = .ok (.getfield 61, 3) := de180 hX11_findAll_87 13 rfl rfl rfl
theorem dX11_findAll_103 : decode cX11_findAll 103 = .ok (.iload_n 1, 1) := de27 hX11_findAll_87 16 rfl rfl
theorem dX11_findAll_104 : decode cX11_findAll 104 = .ok (.iload_n 2, 1) := de28 hX11_findAll_87 17 rfl rfl
theorem hX11_findAll_105 : bHas cX11_findAll 105 [184, 0, 139, 42, 180, 0, 55, 27, 28, 184, 0, 139, 46, 79, 132, 2, 1, 167, 255, 211, 3, 61] := bH_c (n := 22) (by decide +kernel)
theorem dX11_findAll_105 : decode cX11_findAll 105 = .ok (.invokestatic 139, 3) := de184 hX11_findAll_105 0 rfl rfl rfl
theorem dX11_findAll_108 : decode cX11_findAll 108 = .ok (.aload_n 0, 1) := de42 hX11_findAll_105 3 rfl rfl
theorem dX11_findAll_109 : decode cX11_findAll 109 = .ok (.getfield 55, 3) := de180 hX11_findAll_105 4 rfl rfl rfl
theorem dX11_findAll_112 : decode cX11_findAll 112 = .ok (.iload_n 1, 1) := de27 hX11_findAll_105 7 rfl rfl
theorem dX11_findAll_113 : decode cX11_findAll 113 = .ok (.iload_n 2, 1) := de28 hX11_findAll_105 8 rfl rfl
theorem dX11_findAll_114 : decode cX11_findAll 114 = .ok (.invokestatic 139, 3) := de184 hX11_findAll_105 9 rfl rfl rfl
theorem dX11_findAll_117 : decode cX11_findAll 117 = .ok (.iaload, 1) := de46 hX11_findAll_105 12 rfl rfl
theorem dX11_findAll_118 : decode cX11_findAll 118 = .ok (.iastore, 1) := de79 hX11_findAll_105 13 rfl rfl
theorem dX11_findAll_119 : decode cX11_findAll 119 = .ok (.iinc 2 1, 3) := de132 hX11_findAll_105 14 rfl rfl rfl rfl
theorem dX11_findAll_122 : decode cX11_findAll 122 = .ok (.goto (-45), 3) := de167 hX11_findAll_105 17 rfl rfl (by decide +kernel)
theorem dX11_findAll_125 : decode cX11_findAll 125 = .ok (.iconst 0, 1) := de3 hX11_findAll_105 20 rfl rfl
theorem dX11_findAll_126 : decode cX11_findAll 126 = .ok (.istore_n 2, 1) := de61 hX11_findAll_105 21 rfl rfl
theorem hX11_findAll_127 : bHas cX11_findAll 127 [28, 16, 28, 162, 0, 53, 42, 180, 0, 37, 27, 28, 184, 0, 139, 46, 6, 160, 0, 33, 42] := bH_c (n := 21) (by decide +kernel)
theorem dX11_findAll_127 : decode cX11_findAll 127 = .ok (.iload_n 2, 1) := de28 hX11_findAll_127 0 rfl rfl
theorem dX11_findAll_128 : decode cX11_findAll 128 = .ok (.bipush 28, 2) := de16 hX11_findAll_127 1 rfl rfl rfl
theorem dX11_findAll_130 : decode cX11_findAll 130 = .ok (.if_icmp .ge 53, 3) := de162 hX11_findAll_127 3 rfl rfl (by decide +kernel)
theorem dX11_findAll_133 : decode cX11_findAll 133 = .ok (.aload_n 0, 1) := de42 hX11_findAll_127 6 rfl rfl
theorem dX11_findAll_134 : decode cX11_findAll 134 = .ok (.getfield 37, 3) := de180 hX11_findAll_127 7 rfl rfl rfl
theorem dX11_findAll_137 : decode cX11_findAll 137 = .ok (.iload_n 1, 1) := de27 hX11_findAll_127 10 rfl rfl
theorem dX11_findAll_138 : decode cX11_findAll 138 = .ok (.iload_n 2, 1) := de28 hX11_findAll_127 11 rfl rfl
theorem dX11_findAll_139 : decode cX11_findAll 139 = .ok (.invokestatic 139, 3) := de184 hX11_findAll_127 12 rfl rfl rfl
theorem dX11_findAll_142 : decode cX11_findAll 142 = .ok (.iaload, 1) := de46 hX11_findAll_127 15 rfl rfl
theorem dX11_findAll_143 : decode cX11_findAll 143 = .ok (.iconst 3, 1) := de6 hX11_findAll_127 16 rfl rfl
theorem dX11_findAll_144 : decode cX11_findAll 144 = .ok (.if_icmp .ne 33, 3) := de160 hX11_findAll_127 17 rfl rfl (by decide +kernel)
theorem dX11_findAll_147 : decode cX11_findAll 147 = .ok (.aload_n 0, 1) := de42 hX11_findAll_127 20 rfl rfl
theorem hX11_findAll_148 : bHas cX11_findAll 148 [180, 0, 43, 27, 28, 184, 0, 139, 46, 28, 160, 0, 19, 42, 27, 42, 180, 0, 40, 27] := bH_c (n := 20) (by decide +kernel)
theorem dX11_findAll_148 : decode cX11_findAll 148 = .ok (.getfield 43, 3) := de180 hX11_findAll_148 0 rfl rfl rfl
theorem dX11_findAll_151 : decode cX11_findAll 151 = .ok (.iload_n 1, 1) := de27 hX11_findAll_148 3 rfl rfl
theorem dX11_findAll_152 : decode cX11_findAll 152 = .ok (.iload_n 2, 1) := de28 hX11_findAll_148 4 rfl rfl
theorem dX11_findAll_153 : decode cX11_findAll 153 = .ok (.invokestatic 139, 3) := de184 hX11_findAll_148 5 rfl rfl rfl
theorem dX11_findAll_156 : decode cX11_findAll 156 = .ok (.iaload, 1) := de46 hX11_findAll_148 8 rfl rfl
theorem dX11_findAll_157 : decode cX11_findAll 157 = .ok (.iload_n 2, 1) := de28 hX11_findAll_148 9 rfl rfl
theorem dX11_findAll_158 : decode cX11_findAll 158 = .ok (.if_icmp .ne 19, 3) := de160 hX11_findAll_148 10 rfl rfl (by decide +kernel)
theorem dX11_findAll_161 : decode cX11_findAll 161 = .ok (.aload_n 0, 1) := de42 hX11_findAll_148 13 rfl rfl
theorem dX11_findAll_162 : decode cX11_findAll 162 = .ok (.iload_n 1, 1) := de27 hX11_findAll_148 14 rfl rfl
theorem dX11_findAll_163 : decode cX11_findAll 163 = .ok (.aload_n 0, 1) := de42 hX11_findAll_148 15 rfl rfl
theorem dX11_findAll_164 : decode cX11_findAll 164 = .ok (.getfield 40, 3) := de180 hX11_findAll_148 16 rfl rfl rfl
theorem dX11_findAll_167 : decode cX11_findAll 167 = .ok (.iload_n 1, 1) := de27 hX11_findAll_148 19 rfl rfl
theorem hX11_findAll_168 : bHas cX11_findAll 168 [28, 184, 0, 139, 46, 28, 182, 0, 208, 132, 2, 1, 167, 255, 203, 132, 1, 1, 167, 255, 137, 177] := bH_c (n := 22) (by decide +kernel)
theorem dX11_findAll_168 : decode cX11_findAll 168 = .ok (.iload_n 2, 1) := de28 hX11_findAll_168 0 rfl rfl
theorem dX11_findAll_169 : decode cX11_findAll 169 = .ok (.invokestatic 139, 3) := de184 hX11_findAll_168 1 rfl rfl rfl
theorem dX11_findAll_172 : decode cX11_findAll 172 = .ok (.iaload, 1) := de46 hX11_findAll_168 4 rfl rfl
theorem dX11_findAll_173 : decode cX11_findAll 173 = .ok (.iload_n 2, 1) := de28 hX11_findAll_168 5 rfl rfl
theorem dX11_findAll_174 : decode cX11_findAll 174 = .ok (.invokevirtual 208, 3) := de182 hX11_findAll_168 6 rfl rfl rfl
theorem dX11_findAll_177 : decode cX11_findAll 177 = .ok (.iinc 2 1, 3) := de132 hX11_findAll_168 9 rfl rfl rfl rfl
theorem dX11_findAll_180 : decode cX11_findAll 180 = .ok (.goto (-53), 3) := de167 hX11_findAll_168 12 rfl rfl (by decide +kernel)
theorem dX11_findAll_183 : decode cX11_findAll 183 = .ok (.iinc 1 1, 3) := de132 hX11_findAll_168 15 rfl rfl rfl rfl
theorem dX11_findAll_186 : decode cX11_findAll 186 = .ok (.goto (-119), 3) := de167 hX11_findAll_168 18 rfl rfl (by decide +kernel)
theorem dX11_findAll_189 : decode cX11_findAll 189 = .ok (.return_, 1) := de177 hX11_findAll_168 21 rfl rfl
theorem hX11_of_0 : bHas cX11_of 0 [42, 27, 182, 0, 143, 153, 0, 10, 28, 184, 0, 151, 154, 0, 5, 2, 172, 42, 182, 0, 212, 29] := bH_c (n := 22) (by decide +kernel)
theorem dX11_of_0 : decode cX11_of 0 = .ok (.aload_n 0, 1) := de42 hX11_of_0 0 rfl rfl
theorem dX11_of_1 : decode cX11_of 1 = .ok (.iload_n 1, 1) := de27 hX11_of_0 1 rfl rfl
theorem dX11_of_2 : decode cX11_of 2 = .ok (.invokevirtual 143, 3) := de182 hX11_of_0 2 rfl rfl rfl
theorem dX11_of_5 : decode cX11_of 5 = .ok (.ifCond .eq 10, 3) := de153 hX11_of_0 5 rfl rfl (by decide +kernel)
theorem dX11_of_8 : decode cX11_of 8 = .ok (.iload_n 2, 1) := de28 hX11_of_0 8 rfl rfl
theorem dX11_of_9 : decode cX11_of 9 = .ok (.invokestatic 151, 3) := de184 hX11_of_0 9 rfl rfl rfl
theorem dX11_of_12 : decode cX11_of 12 = .ok (.ifCond .ne 5, 3) := de154 hX11_of_0 12 rfl rfl (by decide +kernel)
theorem dX11_of_15 : decode cX11_of 15 = .ok (.iconst (-1), 1) := de2 hX11_of_0 15 rfl rfl
theorem dX11_of_16 : decode cX11_of 16 = .ok (.ireturn, 1) := de172 hX11_of_0 16 rfl rfl
theorem dX11_of_17 : decode cX11_of 17 = .ok (.aload_n 0, 1) := de42 hX11_of_0 17 rfl rfl
theorem dX11_of_18 : decode cX11_of 18 = .ok (.invokevirtual 212, 3) := de182 hX11_of_0 18 rfl rfl rfl
theorem dX11_of_21 : decode cX11_of 21 = .ok (.iload_n 3, 1) := de29 hX11_of_0 21 rfl rfl
theorem dX11_of_22 : decode cX11_of 22 = .ok (.tableswitch 96 0 5 #[38, 49, 56, 63, 74, 85], 38) := by decide +kernel
theorem hX11_of_60 : bHas cX11_of 60 [42, 180, 0, 22, 27, 28, 184, 0, 139, 46, 172, 42, 27, 28, 182, 0, 186, 172] := bH_c (n := 18) (by decide +kernel)
theorem dX11_of_60 : decode cX11_of 60 = .ok (.aload_n 0, 1) := de42 hX11_of_60 0 rfl rfl
theorem dX11_of_61 : decode cX11_of 61 = .ok (.getfield 22, 3) := de180 hX11_of_60 1 rfl rfl rfl
theorem dX11_of_64 : decode cX11_of 64 = .ok (.iload_n 1, 1) := de27 hX11_of_60 4 rfl rfl
theorem dX11_of_65 : decode cX11_of 65 = .ok (.iload_n 2, 1) := de28 hX11_of_60 5 rfl rfl
theorem dX11_of_66 : decode cX11_of 66 = .ok (.invokestatic 139, 3) := de184 hX11_of_60 6 rfl rfl rfl
theorem dX11_of_69 : decode cX11_of 69 = .ok (.iaload, 1) := de46 hX11_of_60 9 rfl rfl
theorem dX11_of_70 : decode cX11_of 70 = .ok (.ireturn, 1) := de172 hX11_of_60 10 rfl rfl
theorem dX11_of_71 : decode cX11_of 71 = .ok (.aload_n 0, 1) := de42 hX11_of_60 11 rfl rfl
theorem dX11_of_72 : decode cX11_of 72 = .ok (.iload_n 1, 1) := de27 hX11_of_60 12 rfl rfl
theorem dX11_of_73 : decode cX11_of 73 = .ok (.iload_n 2, 1) := de28 hX11_of_60 13 rfl rfl
theorem dX11_of_74 : decode cX11_of 74 = .ok (.invokevirtual 186, 3) := de182 hX11_of_60 14 rfl rfl rfl
theorem dX11_of_77 : decode cX11_of 77 = .ok (.ireturn, 1) := de172 hX11_of_60 17 rfl rfl
theorem hX11_of_78 : bHas cX11_of 78 [42, 27, 28, 182, 0, 189, 172, 42, 180, 0, 55, 27, 28, 184, 0, 139, 46, 172] := bH_c (n := 18) (by decide +kernel)
theorem dX11_of_78 : decode cX11_of 78 = .ok (.aload_n 0, 1) := de42 hX11_of_78 0 rfl rfl
theorem dX11_of_79 : decode cX11_of 79 = .ok (.iload_n 1, 1) := de27 hX11_of_78 1 rfl rfl
theorem dX11_of_80 : decode cX11_of 80 = .ok (.iload_n 2, 1) := de28 hX11_of_78 2 rfl rfl
theorem dX11_of_81 : decode cX11_of 81 = .ok (.invokevirtual 189, 3) := de182 hX11_of_78 3 rfl rfl rfl
theorem dX11_of_84 : decode cX11_of 84 = .ok (.ireturn, 1) := de172 hX11_of_78 6 rfl rfl
theorem dX11_of_85 : decode cX11_of 85 = .ok (.aload_n 0, 1) := de42 hX11_of_78 7 rfl rfl
theorem dX11_of_86 : decode cX11_of 86 = .ok (.getfield 55, 3) := de180 hX11_of_78 8 rfl rfl rfl
theorem dX11_of_89 : decode cX11_of 89 = .ok (.iload_n 1, 1) := de27 hX11_of_78 11 rfl rfl
theorem dX11_of_90 : decode cX11_of 90 = .ok (.iload_n 2, 1) := de28 hX11_of_78 12 rfl rfl
theorem dX11_of_91 : decode cX11_of 91 = .ok (.invokestatic 139, 3) := de184 hX11_of_78 13 rfl rfl rfl
theorem dX11_of_94 : decode cX11_of 94 = .ok (.iaload, 1) := de46 hX11_of_78 16 rfl rfl
theorem dX11_of_95 : decode cX11_of 95 = .ok (.ireturn, 1) := de172 hX11_of_78 17 rfl rfl
theorem hX11_of_96 : bHas cX11_of 96 [42, 180, 0, 58, 27, 28, 184, 0, 139, 46, 172, 42, 180, 0, 61, 27, 28, 184, 0, 139] := bH_c (n := 20) (by decide +kernel)
theorem dX11_of_96 : decode cX11_of 96 = .ok (.aload_n 0, 1) := de42 hX11_of_96 0 rfl rfl
theorem dX11_of_97 : decode cX11_of 97 = .ok (.getfield 58, 3) := de180 hX11_of_96 1 rfl rfl rfl
theorem dX11_of_100 : decode cX11_of 100 = .ok (.iload_n 1, 1) := de27 hX11_of_96 4 rfl rfl
theorem dX11_of_101 : decode cX11_of 101 = .ok (.iload_n 2, 1) := de28 hX11_of_96 5 rfl rfl
theorem dX11_of_102 : decode cX11_of 102 = .ok (.invokestatic 139, 3) := de184 hX11_of_96 6 rfl rfl rfl
theorem dX11_of_105 : decode cX11_of 105 = .ok (.iaload, 1) := de46 hX11_of_96 9 rfl rfl
theorem dX11_of_106 : decode cX11_of 106 = .ok (.ireturn, 1) := de172 hX11_of_96 10 rfl rfl
theorem dX11_of_107 : decode cX11_of 107 = .ok (.aload_n 0, 1) := de42 hX11_of_96 11 rfl rfl
theorem dX11_of_108 : decode cX11_of 108 = .ok (.getfield 61, 3) := de180 hX11_of_96 12 rfl rfl rfl
theorem dX11_of_111 : decode cX11_of 111 = .ok (.iload_n 1, 1) := de27 hX11_of_96 15 rfl rfl
theorem dX11_of_112 : decode cX11_of 112 = .ok (.iload_n 2, 1) := de28 hX11_of_96 16 rfl rfl
theorem dX11_of_113 : decode cX11_of 113 = .ok (.invokestatic 139, 3) := de184 hX11_of_96 17 rfl rfl rfl
theorem hX11_of_116 : bHas cX11_of 116 [46, 172, 16, 254, 172] := bH_c (n := 5) (by decide +kernel)
theorem dX11_of_116 : decode cX11_of 116 = .ok (.iaload, 1) := de46 hX11_of_116 0 rfl rfl
theorem dX11_of_117 : decode cX11_of 117 = .ok (.ireturn, 1) := de172 hX11_of_116 1 rfl rfl
theorem dX11_of_118 : decode cX11_of 118 = .ok (.bipush (-2), 2) := de16 hX11_of_116 2 rfl rfl rfl
theorem dX11_of_120 : decode cX11_of 120 = .ok (.ireturn, 1) := de172 hX11_of_116 4 rfl rfl
theorem hX11_numberIs_0 : bHas cX11_numberIs 0 [27, 154, 0, 10, 42, 180, 0, 111, 167, 0, 31, 27, 4, 160, 0, 10, 42, 180, 0, 115, 167, 0, 19, 27] := bH_c (n := 24) (by decide +kernel)
theorem dX11_numberIs_0 : decode cX11_numberIs 0 = .ok (.iload_n 1, 1) := de27 hX11_numberIs_0 0 rfl rfl
theorem dX11_numberIs_1 : decode cX11_numberIs 1 = .ok (.ifCond .ne 10, 3) := de154 hX11_numberIs_0 1 rfl rfl (by decide +kernel)
theorem dX11_numberIs_4 : decode cX11_numberIs 4 = .ok (.aload_n 0, 1) := de42 hX11_numberIs_0 4 rfl rfl
theorem dX11_numberIs_5 : decode cX11_numberIs 5 = .ok (.getfield 111, 3) := de180 hX11_numberIs_0 5 rfl rfl rfl
theorem dX11_numberIs_8 : decode cX11_numberIs 8 = .ok (.goto 31, 3) := de167 hX11_numberIs_0 8 rfl rfl (by decide +kernel)
theorem dX11_numberIs_11 : decode cX11_numberIs 11 = .ok (.iload_n 1, 1) := de27 hX11_numberIs_0 11 rfl rfl
theorem dX11_numberIs_12 : decode cX11_numberIs 12 = .ok (.iconst 1, 1) := de4 hX11_numberIs_0 12 rfl rfl
theorem dX11_numberIs_13 : decode cX11_numberIs 13 = .ok (.if_icmp .ne 10, 3) := de160 hX11_numberIs_0 13 rfl rfl (by decide +kernel)
theorem dX11_numberIs_16 : decode cX11_numberIs 16 = .ok (.aload_n 0, 1) := de42 hX11_numberIs_0 16 rfl rfl
theorem dX11_numberIs_17 : decode cX11_numberIs 17 = .ok (.getfield 115, 3) := de180 hX11_numberIs_0 17 rfl rfl rfl
theorem dX11_numberIs_20 : decode cX11_numberIs 20 = .ok (.goto 19, 3) := de167 hX11_numberIs_0 20 rfl rfl (by decide +kernel)
theorem dX11_numberIs_23 : decode cX11_numberIs 23 = .ok (.iload_n 1, 1) := de27 hX11_numberIs_0 23 rfl rfl
theorem hX11_numberIs_24 : bHas cX11_numberIs 24 [5, 160, 0, 10, 42, 180, 0, 118, 167, 0, 7, 42, 180, 0, 121, 172] := bH_c (n := 16) (by decide +kernel)
theorem dX11_numberIs_24 : decode cX11_numberIs 24 = .ok (.iconst 2, 1) := de5 hX11_numberIs_24 0 rfl rfl
theorem dX11_numberIs_25 : decode cX11_numberIs 25 = .ok (.if_icmp .ne 10, 3) := de160 hX11_numberIs_24 1 rfl rfl (by decide +kernel)
theorem dX11_numberIs_28 : decode cX11_numberIs 28 = .ok (.aload_n 0, 1) := de42 hX11_numberIs_24 4 rfl rfl
theorem dX11_numberIs_29 : decode cX11_numberIs 29 = .ok (.getfield 118, 3) := de180 hX11_numberIs_24 5 rfl rfl rfl
theorem dX11_numberIs_32 : decode cX11_numberIs 32 = .ok (.goto 7, 3) := de167 hX11_numberIs_24 8 rfl rfl (by decide +kernel)
theorem dX11_numberIs_35 : decode cX11_numberIs 35 = .ok (.aload_n 0, 1) := de42 hX11_numberIs_24 11 rfl rfl
theorem dX11_numberIs_36 : decode cX11_numberIs 36 = .ok (.getfield 121, 3) := de180 hX11_numberIs_24 12 rfl rfl rfl
theorem dX11_numberIs_39 : decode cX11_numberIs 39 = .ok (.ireturn, 1) := de172 hX11_numberIs_24 15 rfl rfl
theorem hX11_set_0 : bHas cX11_set 0 [27, 133, 9, 20, 0, 215, 184, 0, 126, 153, 0, 55, 28, 133, 27, 154, 0, 7, 10, 167, 0, 4] := bH_c (n := 22) (by decide +kernel)
theorem dX11_set_0 : decode cX11_set 0 = .ok (.iload_n 1, 1) := de27 hX11_set_0 0 rfl rfl
theorem dX11_set_1 : decode cX11_set 1 = .ok (.i2l, 1) := de133 hX11_set_0 1 rfl rfl
theorem dX11_set_2 : decode cX11_set 2 = .ok (.lconst 0, 1) := de9 hX11_set_0 2 rfl rfl
theorem dX11_set_3 : decode cX11_set 3 = .ok (.ldc2_w 215, 3) := de20 hX11_set_0 3 rfl rfl rfl
theorem dX11_set_6 : decode cX11_set 6 = .ok (.invokestatic 126, 3) := de184 hX11_set_0 6 rfl rfl rfl
theorem dX11_set_9 : decode cX11_set 9 = .ok (.ifCond .eq 55, 3) := de153 hX11_set_0 9 rfl rfl (by decide +kernel)
theorem dX11_set_12 : decode cX11_set 12 = .ok (.iload_n 2, 1) := de28 hX11_set_0 12 rfl rfl
theorem dX11_set_13 : decode cX11_set 13 = .ok (.i2l, 1) := de133 hX11_set_0 13 rfl rfl
theorem dX11_set_14 : decode cX11_set 14 = .ok (.iload_n 1, 1) := de27 hX11_set_0 14 rfl rfl
theorem dX11_set_15 : decode cX11_set 15 = .ok (.ifCond .ne 7, 3) := de154 hX11_set_0 15 rfl rfl (by decide +kernel)
theorem dX11_set_18 : decode cX11_set 18 = .ok (.lconst 1, 1) := de10 hX11_set_0 18 rfl rfl
theorem dX11_set_19 : decode cX11_set 19 = .ok (.goto 4, 3) := de167 hX11_set_0 19 rfl rfl (by decide +kernel)
theorem hX11_set_22 : bHas cX11_set 22 [9, 27, 154, 0, 9, 20, 0, 217, 167, 0, 28, 27, 4, 160, 0, 9, 20, 0, 156, 167, 0, 17, 27, 5] := bH_c (n := 24) (by decide +kernel)
theorem dX11_set_22 : decode cX11_set 22 = .ok (.lconst 0, 1) := de9 hX11_set_22 0 rfl rfl
theorem dX11_set_23 : decode cX11_set 23 = .ok (.iload_n 1, 1) := de27 hX11_set_22 1 rfl rfl
theorem dX11_set_24 : decode cX11_set 24 = .ok (.ifCond .ne 9, 3) := de154 hX11_set_22 2 rfl rfl (by decide +kernel)
theorem dX11_set_27 : decode cX11_set 27 = .ok (.ldc2_w 217, 3) := de20 hX11_set_22 5 rfl rfl rfl
theorem dX11_set_30 : decode cX11_set 30 = .ok (.goto 28, 3) := de167 hX11_set_22 8 rfl rfl (by decide +kernel)
theorem dX11_set_33 : decode cX11_set 33 = .ok (.iload_n 1, 1) := de27 hX11_set_22 11 rfl rfl
theorem dX11_set_34 : decode cX11_set 34 = .ok (.iconst 1, 1) := de4 hX11_set_22 12 rfl rfl
theorem dX11_set_35 : decode cX11_set 35 = .ok (.if_icmp .ne 9, 3) := de160 hX11_set_22 13 rfl rfl (by decide +kernel)
theorem dX11_set_38 : decode cX11_set 38 = .ok (.ldc2_w 156, 3) := de20 hX11_set_22 16 rfl rfl rfl
theorem dX11_set_41 : decode cX11_set 41 = .ok (.goto 17, 3) := de167 hX11_set_22 19 rfl rfl (by decide +kernel)
theorem dX11_set_44 : decode cX11_set 44 = .ok (.iload_n 1, 1) := de27 hX11_set_22 22 rfl rfl
theorem dX11_set_45 : decode cX11_set 45 = .ok (.iconst 2, 1) := de5 hX11_set_22 23 rfl rfl
theorem hX11_set_46 : bHas cX11_set 46 [160, 0, 9, 20, 0, 219, 167, 0, 6, 20, 0, 149, 184, 0, 126, 154, 0, 6, 16, 254, 172, 42, 27, 182, 0, 221, 62] := bH_c (n := 27) (by decide +kernel)
theorem dX11_set_46 : decode cX11_set 46 = .ok (.if_icmp .ne 9, 3) := de160 hX11_set_46 0 rfl rfl (by decide +kernel)
theorem dX11_set_49 : decode cX11_set 49 = .ok (.ldc2_w 219, 3) := de20 hX11_set_46 3 rfl rfl rfl
theorem dX11_set_52 : decode cX11_set 52 = .ok (.goto 6, 3) := de167 hX11_set_46 6 rfl rfl (by decide +kernel)
theorem dX11_set_55 : decode cX11_set 55 = .ok (.ldc2_w 149, 3) := de20 hX11_set_46 9 rfl rfl rfl
theorem dX11_set_58 : decode cX11_set 58 = .ok (.invokestatic 126, 3) := de184 hX11_set_46 12 rfl rfl rfl
theorem dX11_set_61 : decode cX11_set 61 = .ok (.ifCond .ne 6, 3) := de154 hX11_set_46 15 rfl rfl (by decide +kernel)
theorem dX11_set_64 : decode cX11_set 64 = .ok (.bipush (-2), 2) := de16 hX11_set_46 18 rfl rfl rfl
theorem dX11_set_66 : decode cX11_set 66 = .ok (.ireturn, 1) := de172 hX11_set_46 20 rfl rfl
theorem dX11_set_67 : decode cX11_set 67 = .ok (.aload_n 0, 1) := de42 hX11_set_46 21 rfl rfl
theorem dX11_set_68 : decode cX11_set 68 = .ok (.iload_n 1, 1) := de27 hX11_set_46 22 rfl rfl
theorem dX11_set_69 : decode cX11_set 69 = .ok (.invokevirtual 221, 3) := de182 hX11_set_46 23 rfl rfl rfl
theorem dX11_set_72 : decode cX11_set 72 = .ok (.istore_n 3, 1) := de62 hX11_set_46 26 rfl rfl
theorem hX11_set_73 : bHas cX11_set 73 [27, 154, 0, 11, 42, 28, 181, 0, 111, 167, 0, 34, 27, 4, 160, 0, 11, 42, 28, 181, 0, 115] := bH_c (n := 22) (by decide +kernel)
theorem dX11_set_73 : decode cX11_set 73 = .ok (.iload_n 1, 1) := de27 hX11_set_73 0 rfl rfl
theorem dX11_set_74 : decode cX11_set 74 = .ok (.ifCond .ne 11, 3) := de154 hX11_set_73 1 rfl rfl (by decide +kernel)
theorem dX11_set_77 : decode cX11_set 77 = .ok (.aload_n 0, 1) := de42 hX11_set_73 4 rfl rfl
theorem dX11_set_78 : decode cX11_set 78 = .ok (.iload_n 2, 1) := de28 hX11_set_73 5 rfl rfl
theorem dX11_set_79 : decode cX11_set 79 = .ok (.putfield 111, 3) := de181 hX11_set_73 6 rfl rfl rfl
theorem dX11_set_82 : decode cX11_set 82 = .ok (.goto 34, 3) := de167 hX11_set_73 9 rfl rfl (by decide +kernel)
theorem dX11_set_85 : decode cX11_set 85 = .ok (.iload_n 1, 1) := de27 hX11_set_73 12 rfl rfl
theorem dX11_set_86 : decode cX11_set 86 = .ok (.iconst 1, 1) := de4 hX11_set_73 13 rfl rfl
theorem dX11_set_87 : decode cX11_set 87 = .ok (.if_icmp .ne 11, 3) := de160 hX11_set_73 14 rfl rfl (by decide +kernel)
theorem dX11_set_90 : decode cX11_set 90 = .ok (.aload_n 0, 1) := de42 hX11_set_73 17 rfl rfl
theorem dX11_set_91 : decode cX11_set 91 = .ok (.iload_n 2, 1) := de28 hX11_set_73 18 rfl rfl
theorem dX11_set_92 : decode cX11_set 92 = .ok (.putfield 115, 3) := de181 hX11_set_73 19 rfl rfl rfl
theorem hX11_set_95 : bHas cX11_set 95 [167, 0, 21, 27, 5, 160, 0, 11, 42, 28, 181, 0, 118, 167, 0, 8, 42, 28, 181, 0, 121, 29] := bH_c (n := 22) (by decide +kernel)
theorem dX11_set_95 : decode cX11_set 95 = .ok (.goto 21, 3) := de167 hX11_set_95 0 rfl rfl (by decide +kernel)
theorem dX11_set_98 : decode cX11_set 98 = .ok (.iload_n 1, 1) := de27 hX11_set_95 3 rfl rfl
theorem dX11_set_99 : decode cX11_set 99 = .ok (.iconst 2, 1) := de5 hX11_set_95 4 rfl rfl
theorem dX11_set_100 : decode cX11_set 100 = .ok (.if_icmp .ne 11, 3) := de160 hX11_set_95 5 rfl rfl (by decide +kernel)
theorem dX11_set_103 : decode cX11_set 103 = .ok (.aload_n 0, 1) := de42 hX11_set_95 8 rfl rfl
theorem dX11_set_104 : decode cX11_set 104 = .ok (.iload_n 2, 1) := de28 hX11_set_95 9 rfl rfl
theorem dX11_set_105 : decode cX11_set 105 = .ok (.putfield 118, 3) := de181 hX11_set_95 10 rfl rfl rfl
theorem dX11_set_108 : decode cX11_set 108 = .ok (.goto 8, 3) := de167 hX11_set_95 13 rfl rfl (by decide +kernel)
theorem dX11_set_111 : decode cX11_set 111 = .ok (.aload_n 0, 1) := de42 hX11_set_95 16 rfl rfl
theorem dX11_set_112 : decode cX11_set 112 = .ok (.iload_n 2, 1) := de28 hX11_set_95 17 rfl rfl
theorem dX11_set_113 : decode cX11_set 113 = .ok (.putfield 121, 3) := de181 hX11_set_95 18 rfl rfl rfl
theorem dX11_set_116 : decode cX11_set 116 = .ok (.iload_n 3, 1) := de29 hX11_set_95 21 rfl rfl
theorem hX11_set_117 : bHas cX11_set 117 [172] := bH_c (n := 1) (by decide +kernel)
theorem dX11_set_117 : decode cX11_set 117 = .ok (.ireturn, 1) := de172 hX11_set_117 0 rfl rfl
theorem hX11_findMends_0 : bHas cX11_findMends 0 [3, 60, 3, 61, 28, 16, 6, 162, 0, 18, 42, 27, 3, 28, 3] := bH_c (n := 15) (by decide +kernel)
theorem dX11_findMends_0 : decode cX11_findMends 0 = .ok (.iconst 0, 1) := de3 hX11_findMends_0 0 rfl rfl
theorem dX11_findMends_1 : decode cX11_findMends 1 = .ok (.istore_n 1, 1) := de60 hX11_findMends_0 1 rfl rfl
theorem dX11_findMends_2 : decode cX11_findMends 2 = .ok (.iconst 0, 1) := de3 hX11_findMends_0 2 rfl rfl
theorem dX11_findMends_3 : decode cX11_findMends 3 = .ok (.istore_n 2, 1) := de61 hX11_findMends_0 3 rfl rfl
theorem dX11_findMends_4 : decode cX11_findMends 4 = .ok (.iload_n 2, 1) := de28 hX11_findMends_0 4 rfl rfl
theorem dX11_findMends_5 : decode cX11_findMends 5 = .ok (.bipush 6, 2) := de16 hX11_findMends_0 5 rfl rfl rfl
theorem dX11_findMends_7 : decode cX11_findMends 7 = .ok (.if_icmp .ge 18, 3) := de162 hX11_findMends_0 7 rfl rfl (by decide +kernel)
theorem dX11_findMends_10 : decode cX11_findMends 10 = .ok (.aload_n 0, 1) := de42 hX11_findMends_0 10 rfl rfl
theorem dX11_findMends_11 : decode cX11_findMends 11 = .ok (.iload_n 1, 1) := de27 hX11_findMends_0 11 rfl rfl
theorem dX11_findMends_12 : decode cX11_findMends 12 = .ok (.iconst 0, 1) := de3 hX11_findMends_0 12 rfl rfl
theorem dX11_findMends_13 : decode cX11_findMends 13 = .ok (.iload_n 2, 1) := de28 hX11_findMends_0 13 rfl rfl
theorem dX11_findMends_14 : decode cX11_findMends 14 = .ok (.iconst 0, 1) := de3 hX11_findMends_0 14 rfl rfl
theorem hX11_findMends_15 : bHas cX11_findMends 15 [182, 0, 224, 60, 132, 2, 1, 167, 255, 238, 4, 61, 28, 16, 7, 162, 0, 32, 28, 62, 29] := bH_c (n := 21) (by decide +kernel)
theorem dX11_findMends_15 : decode cX11_findMends 15 = .ok (.invokevirtual 224, 3) := de182 hX11_findMends_15 0 rfl rfl rfl
theorem dX11_findMends_18 : decode cX11_findMends 18 = .ok (.istore_n 1, 1) := de60 hX11_findMends_15 3 rfl rfl
theorem dX11_findMends_19 : decode cX11_findMends 19 = .ok (.iinc 2 1, 3) := de132 hX11_findMends_15 4 rfl rfl rfl rfl
theorem dX11_findMends_22 : decode cX11_findMends 22 = .ok (.goto (-18), 3) := de167 hX11_findMends_15 7 rfl rfl (by decide +kernel)
theorem dX11_findMends_25 : decode cX11_findMends 25 = .ok (.iconst 1, 1) := de4 hX11_findMends_15 10 rfl rfl
theorem dX11_findMends_26 : decode cX11_findMends 26 = .ok (.istore_n 2, 1) := de61 hX11_findMends_15 11 rfl rfl
theorem dX11_findMends_27 : decode cX11_findMends 27 = .ok (.iload_n 2, 1) := de28 hX11_findMends_15 12 rfl rfl
theorem dX11_findMends_28 : decode cX11_findMends 28 = .ok (.bipush 7, 2) := de16 hX11_findMends_15 13 rfl rfl rfl
theorem dX11_findMends_30 : decode cX11_findMends 30 = .ok (.if_icmp .ge 32, 3) := de162 hX11_findMends_15 15 rfl rfl (by decide +kernel)
theorem dX11_findMends_33 : decode cX11_findMends 33 = .ok (.iload_n 2, 1) := de28 hX11_findMends_15 18 rfl rfl
theorem dX11_findMends_34 : decode cX11_findMends 34 = .ok (.istore_n 3, 1) := de62 hX11_findMends_15 19 rfl rfl
theorem dX11_findMends_35 : decode cX11_findMends 35 = .ok (.iload_n 3, 1) := de29 hX11_findMends_15 20 rfl rfl
theorem hX11_findMends_36 : bHas cX11_findMends 36 [16, 7, 162, 0, 18, 42, 27, 4, 28, 29, 182, 0, 224, 60, 132, 3, 1, 167, 255, 238, 132, 2, 1] := bH_c (n := 23) (by decide +kernel)
theorem dX11_findMends_36 : decode cX11_findMends 36 = .ok (.bipush 7, 2) := de16 hX11_findMends_36 0 rfl rfl rfl
theorem dX11_findMends_38 : decode cX11_findMends 38 = .ok (.if_icmp .ge 18, 3) := de162 hX11_findMends_36 2 rfl rfl (by decide +kernel)
theorem dX11_findMends_41 : decode cX11_findMends 41 = .ok (.aload_n 0, 1) := de42 hX11_findMends_36 5 rfl rfl
theorem dX11_findMends_42 : decode cX11_findMends 42 = .ok (.iload_n 1, 1) := de27 hX11_findMends_36 6 rfl rfl
theorem dX11_findMends_43 : decode cX11_findMends 43 = .ok (.iconst 1, 1) := de4 hX11_findMends_36 7 rfl rfl
theorem dX11_findMends_44 : decode cX11_findMends 44 = .ok (.iload_n 2, 1) := de28 hX11_findMends_36 8 rfl rfl
theorem dX11_findMends_45 : decode cX11_findMends 45 = .ok (.iload_n 3, 1) := de29 hX11_findMends_36 9 rfl rfl
theorem dX11_findMends_46 : decode cX11_findMends 46 = .ok (.invokevirtual 224, 3) := de182 hX11_findMends_36 10 rfl rfl rfl
theorem dX11_findMends_49 : decode cX11_findMends 49 = .ok (.istore_n 1, 1) := de60 hX11_findMends_36 13 rfl rfl
theorem dX11_findMends_50 : decode cX11_findMends 50 = .ok (.iinc 3 1, 3) := de132 hX11_findMends_36 14 rfl rfl rfl rfl
theorem dX11_findMends_53 : decode cX11_findMends 53 = .ok (.goto (-18), 3) := de167 hX11_findMends_36 17 rfl rfl (by decide +kernel)
theorem dX11_findMends_56 : decode cX11_findMends 56 = .ok (.iinc 2 1, 3) := de132 hX11_findMends_36 20 rfl rfl rfl rfl
theorem hX11_findMends_59 : bHas cX11_findMends 59 [167, 255, 224, 3, 61, 28, 16, 6, 162, 0, 41, 28, 4, 96, 62, 29, 16, 7] := bH_c (n := 18) (by decide +kernel)
theorem dX11_findMends_59 : decode cX11_findMends 59 = .ok (.goto (-32), 3) := de167 hX11_findMends_59 0 rfl rfl (by decide +kernel)
theorem dX11_findMends_62 : decode cX11_findMends 62 = .ok (.iconst 0, 1) := de3 hX11_findMends_59 3 rfl rfl
theorem dX11_findMends_63 : decode cX11_findMends 63 = .ok (.istore_n 2, 1) := de61 hX11_findMends_59 4 rfl rfl
theorem dX11_findMends_64 : decode cX11_findMends 64 = .ok (.iload_n 2, 1) := de28 hX11_findMends_59 5 rfl rfl
theorem dX11_findMends_65 : decode cX11_findMends 65 = .ok (.bipush 6, 2) := de16 hX11_findMends_59 6 rfl rfl rfl
theorem dX11_findMends_67 : decode cX11_findMends 67 = .ok (.if_icmp .ge 41, 3) := de162 hX11_findMends_59 8 rfl rfl (by decide +kernel)
theorem dX11_findMends_70 : decode cX11_findMends 70 = .ok (.iload_n 2, 1) := de28 hX11_findMends_59 11 rfl rfl
theorem dX11_findMends_71 : decode cX11_findMends 71 = .ok (.iconst 1, 1) := de4 hX11_findMends_59 12 rfl rfl
theorem dX11_findMends_72 : decode cX11_findMends 72 = .ok (.iadd, 1) := de96 hX11_findMends_59 13 rfl rfl
theorem dX11_findMends_73 : decode cX11_findMends 73 = .ok (.istore_n 3, 1) := de62 hX11_findMends_59 14 rfl rfl
theorem dX11_findMends_74 : decode cX11_findMends 74 = .ok (.iload_n 3, 1) := de29 hX11_findMends_59 15 rfl rfl
theorem dX11_findMends_75 : decode cX11_findMends 75 = .ok (.bipush 7, 2) := de16 hX11_findMends_59 16 rfl rfl rfl
theorem hX11_findMends_77 : bHas cX11_findMends 77 [162, 0, 25, 29, 28, 6, 96, 162, 0, 18, 42, 27, 5, 28, 29, 182, 0, 224] := bH_c (n := 18) (by decide +kernel)
theorem dX11_findMends_77 : decode cX11_findMends 77 = .ok (.if_icmp .ge 25, 3) := de162 hX11_findMends_77 0 rfl rfl (by decide +kernel)
theorem dX11_findMends_80 : decode cX11_findMends 80 = .ok (.iload_n 3, 1) := de29 hX11_findMends_77 3 rfl rfl
theorem dX11_findMends_81 : decode cX11_findMends 81 = .ok (.iload_n 2, 1) := de28 hX11_findMends_77 4 rfl rfl
theorem dX11_findMends_82 : decode cX11_findMends 82 = .ok (.iconst 3, 1) := de6 hX11_findMends_77 5 rfl rfl
theorem dX11_findMends_83 : decode cX11_findMends 83 = .ok (.iadd, 1) := de96 hX11_findMends_77 6 rfl rfl
theorem dX11_findMends_84 : decode cX11_findMends 84 = .ok (.if_icmp .ge 18, 3) := de162 hX11_findMends_77 7 rfl rfl (by decide +kernel)
theorem dX11_findMends_87 : decode cX11_findMends 87 = .ok (.aload_n 0, 1) := de42 hX11_findMends_77 10 rfl rfl
theorem dX11_findMends_88 : decode cX11_findMends 88 = .ok (.iload_n 1, 1) := de27 hX11_findMends_77 11 rfl rfl
theorem dX11_findMends_89 : decode cX11_findMends 89 = .ok (.iconst 2, 1) := de5 hX11_findMends_77 12 rfl rfl
theorem dX11_findMends_90 : decode cX11_findMends 90 = .ok (.iload_n 2, 1) := de28 hX11_findMends_77 13 rfl rfl
theorem dX11_findMends_91 : decode cX11_findMends 91 = .ok (.iload_n 3, 1) := de29 hX11_findMends_77 14 rfl rfl
theorem dX11_findMends_92 : decode cX11_findMends 92 = .ok (.invokevirtual 224, 3) := de182 hX11_findMends_77 15 rfl rfl rfl
theorem hX11_findMends_95 : bHas cX11_findMends 95 [60, 132, 3, 1, 167, 255, 231, 132, 2, 1, 167, 255, 215, 177] := bH_c (n := 14) (by decide +kernel)
theorem dX11_findMends_95 : decode cX11_findMends 95 = .ok (.istore_n 1, 1) := de60 hX11_findMends_95 0 rfl rfl
theorem dX11_findMends_96 : decode cX11_findMends 96 = .ok (.iinc 3 1, 3) := de132 hX11_findMends_95 1 rfl rfl rfl rfl
theorem dX11_findMends_99 : decode cX11_findMends 99 = .ok (.goto (-25), 3) := de167 hX11_findMends_95 4 rfl rfl (by decide +kernel)
theorem dX11_findMends_102 : decode cX11_findMends 102 = .ok (.iinc 2 1, 3) := de132 hX11_findMends_95 7 rfl rfl rfl rfl
theorem dX11_findMends_105 : decode cX11_findMends 105 = .ok (.goto (-41), 3) := de167 hX11_findMends_95 10 rfl rfl (by decide +kernel)
theorem dX11_findMends_108 : decode cX11_findMends 108 = .ok (.return_, 1) := de177 hX11_findMends_95 13 rfl rfl
theorem hX11_putMend_0 : bHas cX11_putMend 0 [42, 180, 0, 70, 27, 28, 79, 42, 180, 0, 73, 27, 29, 79, 42, 180, 0, 76] := bH_c (n := 18) (by decide +kernel)
theorem dX11_putMend_0 : decode cX11_putMend 0 = .ok (.aload_n 0, 1) := de42 hX11_putMend_0 0 rfl rfl
theorem dX11_putMend_1 : decode cX11_putMend 1 = .ok (.getfield 70, 3) := de180 hX11_putMend_0 1 rfl rfl rfl
theorem dX11_putMend_4 : decode cX11_putMend 4 = .ok (.iload_n 1, 1) := de27 hX11_putMend_0 4 rfl rfl
theorem dX11_putMend_5 : decode cX11_putMend 5 = .ok (.iload_n 2, 1) := de28 hX11_putMend_0 5 rfl rfl
theorem dX11_putMend_6 : decode cX11_putMend 6 = .ok (.iastore, 1) := de79 hX11_putMend_0 6 rfl rfl
theorem dX11_putMend_7 : decode cX11_putMend 7 = .ok (.aload_n 0, 1) := de42 hX11_putMend_0 7 rfl rfl
theorem dX11_putMend_8 : decode cX11_putMend 8 = .ok (.getfield 73, 3) := de180 hX11_putMend_0 8 rfl rfl rfl
theorem dX11_putMend_11 : decode cX11_putMend 11 = .ok (.iload_n 1, 1) := de27 hX11_putMend_0 11 rfl rfl
theorem dX11_putMend_12 : decode cX11_putMend 12 = .ok (.iload_n 3, 1) := de29 hX11_putMend_0 12 rfl rfl
theorem dX11_putMend_13 : decode cX11_putMend 13 = .ok (.iastore, 1) := de79 hX11_putMend_0 13 rfl rfl
theorem dX11_putMend_14 : decode cX11_putMend 14 = .ok (.aload_n 0, 1) := de42 hX11_putMend_0 14 rfl rfl
theorem dX11_putMend_15 : decode cX11_putMend 15 = .ok (.getfield 76, 3) := de180 hX11_putMend_0 15 rfl rfl rfl
theorem hX11_putMend_18 : bHas cX11_putMend 18 [27, 21, 4, 79, 27, 4, 96, 172] := bH_c (n := 8) (by decide +kernel)
theorem dX11_putMend_18 : decode cX11_putMend 18 = .ok (.iload_n 1, 1) := de27 hX11_putMend_18 0 rfl rfl
theorem dX11_putMend_19 : decode cX11_putMend 19 = .ok (.iload 4, 2) := de21 hX11_putMend_18 1 rfl rfl rfl
theorem dX11_putMend_21 : decode cX11_putMend 21 = .ok (.iastore, 1) := de79 hX11_putMend_18 3 rfl rfl
theorem dX11_putMend_22 : decode cX11_putMend 22 = .ok (.iload_n 1, 1) := de27 hX11_putMend_18 4 rfl rfl
theorem dX11_putMend_23 : decode cX11_putMend 23 = .ok (.iconst 1, 1) := de4 hX11_putMend_18 5 rfl rfl
theorem dX11_putMend_24 : decode cX11_putMend 24 = .ok (.iadd, 1) := de96 hX11_putMend_18 6 rfl rfl
theorem dX11_putMend_25 : decode cX11_putMend 25 = .ok (.ireturn, 1) := de172 hX11_putMend_18 7 rfl rfl
theorem hX11_mend_0 : bHas cX11_mend 0 [16, 7, 27, 104, 62, 16, 7, 27, 104, 16, 7, 96, 54, 4, 3, 54, 5] := bH_c (n := 17) (by decide +kernel)
theorem dX11_mend_0 : decode cX11_mend 0 = .ok (.bipush 7, 2) := de16 hX11_mend_0 0 rfl rfl rfl
theorem dX11_mend_2 : decode cX11_mend 2 = .ok (.iload_n 1, 1) := de27 hX11_mend_0 2 rfl rfl
theorem dX11_mend_3 : decode cX11_mend 3 = .ok (.imul, 1) := de104 hX11_mend_0 3 rfl rfl
theorem dX11_mend_4 : decode cX11_mend 4 = .ok (.istore_n 3, 1) := de62 hX11_mend_0 4 rfl rfl
theorem dX11_mend_5 : decode cX11_mend 5 = .ok (.bipush 7, 2) := de16 hX11_mend_0 5 rfl rfl rfl
theorem dX11_mend_7 : decode cX11_mend 7 = .ok (.iload_n 1, 1) := de27 hX11_mend_0 7 rfl rfl
theorem dX11_mend_8 : decode cX11_mend 8 = .ok (.imul, 1) := de104 hX11_mend_0 8 rfl rfl
theorem dX11_mend_9 : decode cX11_mend 9 = .ok (.bipush 7, 2) := de16 hX11_mend_0 9 rfl rfl rfl
theorem dX11_mend_11 : decode cX11_mend 11 = .ok (.iadd, 1) := de96 hX11_mend_0 11 rfl rfl
theorem dX11_mend_12 : decode cX11_mend 12 = .ok (.istore 4, 2) := de54 hX11_mend_0 12 rfl rfl rfl
theorem dX11_mend_14 : decode cX11_mend 14 = .ok (.iconst 0, 1) := de3 hX11_mend_0 14 rfl rfl
theorem dX11_mend_15 : decode cX11_mend 15 = .ok (.istore 5, 2) := de54 hX11_mend_0 15 rfl rfl rfl
theorem hX11_mend_17 : bHas cX11_mend 17 [21, 5, 16, 7, 162, 0, 28, 42, 180, 0, 64, 21, 4, 21, 5, 96, 42, 180, 0, 64, 29, 21, 5] := bH_c (n := 23) (by decide +kernel)
theorem dX11_mend_17 : decode cX11_mend 17 = .ok (.iload 5, 2) := de21 hX11_mend_17 0 rfl rfl rfl
theorem dX11_mend_19 : decode cX11_mend 19 = .ok (.bipush 7, 2) := de16 hX11_mend_17 2 rfl rfl rfl
theorem dX11_mend_21 : decode cX11_mend 21 = .ok (.if_icmp .ge 28, 3) := de162 hX11_mend_17 4 rfl rfl (by decide +kernel)
theorem dX11_mend_24 : decode cX11_mend 24 = .ok (.aload_n 0, 1) := de42 hX11_mend_17 7 rfl rfl
theorem dX11_mend_25 : decode cX11_mend 25 = .ok (.getfield 64, 3) := de180 hX11_mend_17 8 rfl rfl rfl
theorem dX11_mend_28 : decode cX11_mend 28 = .ok (.iload 4, 2) := de21 hX11_mend_17 11 rfl rfl rfl
theorem dX11_mend_30 : decode cX11_mend 30 = .ok (.iload 5, 2) := de21 hX11_mend_17 13 rfl rfl rfl
theorem dX11_mend_32 : decode cX11_mend 32 = .ok (.iadd, 1) := de96 hX11_mend_17 15 rfl rfl
theorem dX11_mend_33 : decode cX11_mend 33 = .ok (.aload_n 0, 1) := de42 hX11_mend_17 16 rfl rfl
theorem dX11_mend_34 : decode cX11_mend 34 = .ok (.getfield 64, 3) := de180 hX11_mend_17 17 rfl rfl rfl
theorem dX11_mend_37 : decode cX11_mend 37 = .ok (.iload_n 3, 1) := de29 hX11_mend_17 20 rfl rfl
theorem dX11_mend_38 : decode cX11_mend 38 = .ok (.iload 5, 2) := de21 hX11_mend_17 21 rfl rfl rfl
theorem hX11_mend_40 : bHas cX11_mend 40 [96, 46, 79, 132, 5, 1, 167, 255, 227, 42, 180, 0, 73, 28, 46, 54, 5, 42, 180, 0, 76] := bH_c (n := 21) (by decide +kernel)
theorem dX11_mend_40 : decode cX11_mend 40 = .ok (.iadd, 1) := de96 hX11_mend_40 0 rfl rfl
theorem dX11_mend_41 : decode cX11_mend 41 = .ok (.iaload, 1) := de46 hX11_mend_40 1 rfl rfl
theorem dX11_mend_42 : decode cX11_mend 42 = .ok (.iastore, 1) := de79 hX11_mend_40 2 rfl rfl
theorem dX11_mend_43 : decode cX11_mend 43 = .ok (.iinc 5 1, 3) := de132 hX11_mend_40 3 rfl rfl rfl rfl
theorem dX11_mend_46 : decode cX11_mend 46 = .ok (.goto (-29), 3) := de167 hX11_mend_40 6 rfl rfl (by decide +kernel)
theorem dX11_mend_49 : decode cX11_mend 49 = .ok (.aload_n 0, 1) := de42 hX11_mend_40 9 rfl rfl
theorem dX11_mend_50 : decode cX11_mend 50 = .ok (.getfield 73, 3) := de180 hX11_mend_40 10 rfl rfl rfl
theorem dX11_mend_53 : decode cX11_mend 53 = .ok (.iload_n 2, 1) := de28 hX11_mend_40 13 rfl rfl
theorem dX11_mend_54 : decode cX11_mend 54 = .ok (.iaload, 1) := de46 hX11_mend_40 14 rfl rfl
theorem dX11_mend_55 : decode cX11_mend 55 = .ok (.istore 5, 2) := de54 hX11_mend_40 15 rfl rfl rfl
theorem dX11_mend_57 : decode cX11_mend 57 = .ok (.aload_n 0, 1) := de42 hX11_mend_40 17 rfl rfl
theorem dX11_mend_58 : decode cX11_mend 58 = .ok (.getfield 76, 3) := de180 hX11_mend_40 18 rfl rfl rfl
theorem hX11_mend_61 : bHas cX11_mend 61 [28, 46, 54, 6, 42, 180, 0, 70, 28, 46, 154, 0, 47, 42, 180, 0, 64, 21, 4, 21, 5] := bH_c (n := 21) (by decide +kernel)
theorem dX11_mend_61 : decode cX11_mend 61 = .ok (.iload_n 2, 1) := de28 hX11_mend_61 0 rfl rfl
theorem dX11_mend_62 : decode cX11_mend 62 = .ok (.iaload, 1) := de46 hX11_mend_61 1 rfl rfl
theorem dX11_mend_63 : decode cX11_mend 63 = .ok (.istore 6, 2) := de54 hX11_mend_61 2 rfl rfl rfl
theorem dX11_mend_65 : decode cX11_mend 65 = .ok (.aload_n 0, 1) := de42 hX11_mend_61 4 rfl rfl
theorem dX11_mend_66 : decode cX11_mend 66 = .ok (.getfield 70, 3) := de180 hX11_mend_61 5 rfl rfl rfl
theorem dX11_mend_69 : decode cX11_mend 69 = .ok (.iload_n 2, 1) := de28 hX11_mend_61 8 rfl rfl
theorem dX11_mend_70 : decode cX11_mend 70 = .ok (.iaload, 1) := de46 hX11_mend_61 9 rfl rfl
theorem dX11_mend_71 : decode cX11_mend 71 = .ok (.ifCond .ne 47, 3) := de154 hX11_mend_61 10 rfl rfl (by decide +kernel)
theorem dX11_mend_74 : decode cX11_mend 74 = .ok (.aload_n 0, 1) := de42 hX11_mend_61 13 rfl rfl
theorem dX11_mend_75 : decode cX11_mend 75 = .ok (.getfield 64, 3) := de180 hX11_mend_61 14 rfl rfl rfl
theorem dX11_mend_78 : decode cX11_mend 78 = .ok (.iload 4, 2) := de21 hX11_mend_61 17 rfl rfl rfl
theorem dX11_mend_80 : decode cX11_mend 80 = .ok (.iload 5, 2) := de21 hX11_mend_61 19 rfl rfl rfl
theorem hX11_mend_82 : bHas cX11_mend 82 [96, 42, 180, 0, 64, 29, 21, 5, 96, 4, 96, 46, 79, 42, 180, 0, 64] := bH_c (n := 17) (by decide +kernel)
theorem dX11_mend_82 : decode cX11_mend 82 = .ok (.iadd, 1) := de96 hX11_mend_82 0 rfl rfl
theorem dX11_mend_83 : decode cX11_mend 83 = .ok (.aload_n 0, 1) := de42 hX11_mend_82 1 rfl rfl
theorem dX11_mend_84 : decode cX11_mend 84 = .ok (.getfield 64, 3) := de180 hX11_mend_82 2 rfl rfl rfl
theorem dX11_mend_87 : decode cX11_mend 87 = .ok (.iload_n 3, 1) := de29 hX11_mend_82 5 rfl rfl
theorem dX11_mend_88 : decode cX11_mend 88 = .ok (.iload 5, 2) := de21 hX11_mend_82 6 rfl rfl rfl
theorem dX11_mend_90 : decode cX11_mend 90 = .ok (.iadd, 1) := de96 hX11_mend_82 8 rfl rfl
theorem dX11_mend_91 : decode cX11_mend 91 = .ok (.iconst 1, 1) := de4 hX11_mend_82 9 rfl rfl
theorem dX11_mend_92 : decode cX11_mend 92 = .ok (.iadd, 1) := de96 hX11_mend_82 10 rfl rfl
theorem dX11_mend_93 : decode cX11_mend 93 = .ok (.iaload, 1) := de46 hX11_mend_82 11 rfl rfl
theorem dX11_mend_94 : decode cX11_mend 94 = .ok (.iastore, 1) := de79 hX11_mend_82 12 rfl rfl
theorem dX11_mend_95 : decode cX11_mend 95 = .ok (.aload_n 0, 1) := de42 hX11_mend_82 13 rfl rfl
theorem dX11_mend_96 : decode cX11_mend 96 = .ok (.getfield 64, 3) := de180 hX11_mend_82 14 rfl rfl rfl
theorem hX11_mend_99 : bHas cX11_mend 99 [21, 4, 21, 5, 96, 4, 96, 42, 180, 0, 64, 29, 21, 5, 96, 46, 79] := bH_c (n := 17) (by decide +kernel)
theorem dX11_mend_99 : decode cX11_mend 99 = .ok (.iload 4, 2) := de21 hX11_mend_99 0 rfl rfl rfl
theorem dX11_mend_101 : decode cX11_mend 101 = .ok (.iload 5, 2) := de21 hX11_mend_99 2 rfl rfl rfl
theorem dX11_mend_103 : decode cX11_mend 103 = .ok (.iadd, 1) := de96 hX11_mend_99 4 rfl rfl
theorem dX11_mend_104 : decode cX11_mend 104 = .ok (.iconst 1, 1) := de4 hX11_mend_99 5 rfl rfl
theorem dX11_mend_105 : decode cX11_mend 105 = .ok (.iadd, 1) := de96 hX11_mend_99 6 rfl rfl
theorem dX11_mend_106 : decode cX11_mend 106 = .ok (.aload_n 0, 1) := de42 hX11_mend_99 7 rfl rfl
theorem dX11_mend_107 : decode cX11_mend 107 = .ok (.getfield 64, 3) := de180 hX11_mend_99 8 rfl rfl rfl
theorem dX11_mend_110 : decode cX11_mend 110 = .ok (.iload_n 3, 1) := de29 hX11_mend_99 11 rfl rfl
theorem dX11_mend_111 : decode cX11_mend 111 = .ok (.iload 5, 2) := de21 hX11_mend_99 12 rfl rfl rfl
theorem dX11_mend_113 : decode cX11_mend 113 = .ok (.iadd, 1) := de96 hX11_mend_99 14 rfl rfl
theorem dX11_mend_114 : decode cX11_mend 114 = .ok (.iaload, 1) := de46 hX11_mend_99 15 rfl rfl
theorem dX11_mend_115 : decode cX11_mend 115 = .ok (.iastore, 1) := de79 hX11_mend_99 16 rfl rfl
theorem hX11_mend_116 : bHas cX11_mend 116 [4, 172, 42, 180, 0, 70, 28, 46, 4, 160, 0, 54, 21, 5, 54, 7, 21, 7, 21, 6] := bH_c (n := 20) (by decide +kernel)
theorem dX11_mend_116 : decode cX11_mend 116 = .ok (.iconst 1, 1) := de4 hX11_mend_116 0 rfl rfl
theorem dX11_mend_117 : decode cX11_mend 117 = .ok (.ireturn, 1) := de172 hX11_mend_116 1 rfl rfl
theorem dX11_mend_118 : decode cX11_mend 118 = .ok (.aload_n 0, 1) := de42 hX11_mend_116 2 rfl rfl
theorem dX11_mend_119 : decode cX11_mend 119 = .ok (.getfield 70, 3) := de180 hX11_mend_116 3 rfl rfl rfl
theorem dX11_mend_122 : decode cX11_mend 122 = .ok (.iload_n 2, 1) := de28 hX11_mend_116 6 rfl rfl
theorem dX11_mend_123 : decode cX11_mend 123 = .ok (.iaload, 1) := de46 hX11_mend_116 7 rfl rfl
theorem dX11_mend_124 : decode cX11_mend 124 = .ok (.iconst 1, 1) := de4 hX11_mend_116 8 rfl rfl
theorem dX11_mend_125 : decode cX11_mend 125 = .ok (.if_icmp .ne 54, 3) := de160 hX11_mend_116 9 rfl rfl (by decide +kernel)
theorem dX11_mend_128 : decode cX11_mend 128 = .ok (.iload 5, 2) := de21 hX11_mend_116 12 rfl rfl rfl
theorem dX11_mend_130 : decode cX11_mend 130 = .ok (.istore 7, 2) := de54 hX11_mend_116 14 rfl rfl rfl
theorem dX11_mend_132 : decode cX11_mend 132 = .ok (.iload 7, 2) := de21 hX11_mend_116 16 rfl rfl rfl
theorem dX11_mend_134 : decode cX11_mend 134 = .ok (.iload 6, 2) := de21 hX11_mend_116 18 rfl rfl rfl
theorem hX11_mend_136 : bHas cX11_mend 136 [163, 0, 30, 42, 180, 0, 64, 21, 4, 21, 7, 96, 4, 100, 42, 180, 0, 64, 29, 21, 7] := bH_c (n := 21) (by decide +kernel)
theorem dX11_mend_136 : decode cX11_mend 136 = .ok (.if_icmp .gt 30, 3) := de163 hX11_mend_136 0 rfl rfl (by decide +kernel)
theorem dX11_mend_139 : decode cX11_mend 139 = .ok (.aload_n 0, 1) := de42 hX11_mend_136 3 rfl rfl
theorem dX11_mend_140 : decode cX11_mend 140 = .ok (.getfield 64, 3) := de180 hX11_mend_136 4 rfl rfl rfl
theorem dX11_mend_143 : decode cX11_mend 143 = .ok (.iload 4, 2) := de21 hX11_mend_136 7 rfl rfl rfl
theorem dX11_mend_145 : decode cX11_mend 145 = .ok (.iload 7, 2) := de21 hX11_mend_136 9 rfl rfl rfl
theorem dX11_mend_147 : decode cX11_mend 147 = .ok (.iadd, 1) := de96 hX11_mend_136 11 rfl rfl
theorem dX11_mend_148 : decode cX11_mend 148 = .ok (.iconst 1, 1) := de4 hX11_mend_136 12 rfl rfl
theorem dX11_mend_149 : decode cX11_mend 149 = .ok (.isub, 1) := de100 hX11_mend_136 13 rfl rfl
theorem dX11_mend_150 : decode cX11_mend 150 = .ok (.aload_n 0, 1) := de42 hX11_mend_136 14 rfl rfl
theorem dX11_mend_151 : decode cX11_mend 151 = .ok (.getfield 64, 3) := de180 hX11_mend_136 15 rfl rfl rfl
theorem dX11_mend_154 : decode cX11_mend 154 = .ok (.iload_n 3, 1) := de29 hX11_mend_136 18 rfl rfl
theorem dX11_mend_155 : decode cX11_mend 155 = .ok (.iload 7, 2) := de21 hX11_mend_136 19 rfl rfl rfl
theorem hX11_mend_157 : bHas cX11_mend 157 [96, 46, 79, 132, 7, 1, 167, 255, 225, 42, 180, 0, 64, 21, 4, 21, 6, 96, 3, 79] := bH_c (n := 20) (by decide +kernel)
theorem dX11_mend_157 : decode cX11_mend 157 = .ok (.iadd, 1) := de96 hX11_mend_157 0 rfl rfl
theorem dX11_mend_158 : decode cX11_mend 158 = .ok (.iaload, 1) := de46 hX11_mend_157 1 rfl rfl
theorem dX11_mend_159 : decode cX11_mend 159 = .ok (.iastore, 1) := de79 hX11_mend_157 2 rfl rfl
theorem dX11_mend_160 : decode cX11_mend 160 = .ok (.iinc 7 1, 3) := de132 hX11_mend_157 3 rfl rfl rfl rfl
theorem dX11_mend_163 : decode cX11_mend 163 = .ok (.goto (-31), 3) := de167 hX11_mend_157 6 rfl rfl (by decide +kernel)
theorem dX11_mend_166 : decode cX11_mend 166 = .ok (.aload_n 0, 1) := de42 hX11_mend_157 9 rfl rfl
theorem dX11_mend_167 : decode cX11_mend 167 = .ok (.getfield 64, 3) := de180 hX11_mend_157 10 rfl rfl rfl
theorem dX11_mend_170 : decode cX11_mend 170 = .ok (.iload 4, 2) := de21 hX11_mend_157 13 rfl rfl rfl
theorem dX11_mend_172 : decode cX11_mend 172 = .ok (.iload 6, 2) := de21 hX11_mend_157 15 rfl rfl rfl
theorem dX11_mend_174 : decode cX11_mend 174 = .ok (.iadd, 1) := de96 hX11_mend_157 17 rfl rfl
theorem dX11_mend_175 : decode cX11_mend 175 = .ok (.iconst 0, 1) := de3 hX11_mend_157 18 rfl rfl
theorem dX11_mend_176 : decode cX11_mend 176 = .ok (.iastore, 1) := de79 hX11_mend_157 19 rfl rfl
theorem hX11_mend_177 : bHas cX11_mend 177 [4, 172, 42, 180, 0, 67, 21, 6, 46, 54, 7, 21, 5, 54, 8, 21, 8, 21, 6, 162, 0, 35] := bH_c (n := 22) (by decide +kernel)
theorem dX11_mend_177 : decode cX11_mend 177 = .ok (.iconst 1, 1) := de4 hX11_mend_177 0 rfl rfl
theorem dX11_mend_178 : decode cX11_mend 178 = .ok (.ireturn, 1) := de172 hX11_mend_177 1 rfl rfl
theorem dX11_mend_179 : decode cX11_mend 179 = .ok (.aload_n 0, 1) := de42 hX11_mend_177 2 rfl rfl
theorem dX11_mend_180 : decode cX11_mend 180 = .ok (.getfield 67, 3) := de180 hX11_mend_177 3 rfl rfl rfl
theorem dX11_mend_183 : decode cX11_mend 183 = .ok (.iload 6, 2) := de21 hX11_mend_177 6 rfl rfl rfl
theorem dX11_mend_185 : decode cX11_mend 185 = .ok (.iaload, 1) := de46 hX11_mend_177 8 rfl rfl
theorem dX11_mend_186 : decode cX11_mend 186 = .ok (.istore 7, 2) := de54 hX11_mend_177 9 rfl rfl rfl
theorem dX11_mend_188 : decode cX11_mend 188 = .ok (.iload 5, 2) := de21 hX11_mend_177 11 rfl rfl rfl
theorem dX11_mend_190 : decode cX11_mend 190 = .ok (.istore 8, 2) := de54 hX11_mend_177 13 rfl rfl rfl
theorem dX11_mend_192 : decode cX11_mend 192 = .ok (.iload 8, 2) := de21 hX11_mend_177 15 rfl rfl rfl
theorem dX11_mend_194 : decode cX11_mend 194 = .ok (.iload 6, 2) := de21 hX11_mend_177 17 rfl rfl rfl
theorem dX11_mend_196 : decode cX11_mend 196 = .ok (.if_icmp .ge 35, 3) := de162 hX11_mend_177 19 rfl rfl (by decide +kernel)
theorem hX11_mend_199 : bHas cX11_mend 199 [42, 180, 0, 64, 29, 21, 8, 96, 46, 153, 0, 5, 3, 172, 21, 7, 42, 180, 0, 67] := bH_c (n := 20) (by decide +kernel)
theorem dX11_mend_199 : decode cX11_mend 199 = .ok (.aload_n 0, 1) := de42 hX11_mend_199 0 rfl rfl
theorem dX11_mend_200 : decode cX11_mend 200 = .ok (.getfield 64, 3) := de180 hX11_mend_199 1 rfl rfl rfl
theorem dX11_mend_203 : decode cX11_mend 203 = .ok (.iload_n 3, 1) := de29 hX11_mend_199 4 rfl rfl
theorem dX11_mend_204 : decode cX11_mend 204 = .ok (.iload 8, 2) := de21 hX11_mend_199 5 rfl rfl rfl
theorem dX11_mend_206 : decode cX11_mend 206 = .ok (.iadd, 1) := de96 hX11_mend_199 7 rfl rfl
theorem dX11_mend_207 : decode cX11_mend 207 = .ok (.iaload, 1) := de46 hX11_mend_199 8 rfl rfl
theorem dX11_mend_208 : decode cX11_mend 208 = .ok (.ifCond .eq 5, 3) := de153 hX11_mend_199 9 rfl rfl (by decide +kernel)
theorem dX11_mend_211 : decode cX11_mend 211 = .ok (.iconst 0, 1) := de3 hX11_mend_199 12 rfl rfl
theorem dX11_mend_212 : decode cX11_mend 212 = .ok (.ireturn, 1) := de172 hX11_mend_199 13 rfl rfl
theorem dX11_mend_213 : decode cX11_mend 213 = .ok (.iload 7, 2) := de21 hX11_mend_199 14 rfl rfl rfl
theorem dX11_mend_215 : decode cX11_mend 215 = .ok (.aload_n 0, 1) := de42 hX11_mend_199 16 rfl rfl
theorem dX11_mend_216 : decode cX11_mend 216 = .ok (.getfield 67, 3) := de180 hX11_mend_199 17 rfl rfl rfl
theorem hX11_mend_219 : bHas cX11_mend 219 [21, 8, 46, 96, 54, 7, 132, 8, 1, 167, 255, 220, 42, 180, 0, 64, 29, 21, 6, 96, 46] := bH_c (n := 21) (by decide +kernel)
theorem dX11_mend_219 : decode cX11_mend 219 = .ok (.iload 8, 2) := de21 hX11_mend_219 0 rfl rfl rfl
theorem dX11_mend_221 : decode cX11_mend 221 = .ok (.iaload, 1) := de46 hX11_mend_219 2 rfl rfl
theorem dX11_mend_222 : decode cX11_mend 222 = .ok (.iadd, 1) := de96 hX11_mend_219 3 rfl rfl
theorem dX11_mend_223 : decode cX11_mend 223 = .ok (.istore 7, 2) := de54 hX11_mend_219 4 rfl rfl rfl
theorem dX11_mend_225 : decode cX11_mend 225 = .ok (.iinc 8 1, 3) := de132 hX11_mend_219 6 rfl rfl rfl rfl
theorem dX11_mend_228 : decode cX11_mend 228 = .ok (.goto (-36), 3) := de167 hX11_mend_219 9 rfl rfl (by decide +kernel)
theorem dX11_mend_231 : decode cX11_mend 231 = .ok (.aload_n 0, 1) := de42 hX11_mend_219 12 rfl rfl
theorem dX11_mend_232 : decode cX11_mend 232 = .ok (.getfield 64, 3) := de180 hX11_mend_219 13 rfl rfl rfl
theorem dX11_mend_235 : decode cX11_mend 235 = .ok (.iload_n 3, 1) := de29 hX11_mend_219 16 rfl rfl
theorem dX11_mend_236 : decode cX11_mend 236 = .ok (.iload 6, 2) := de21 hX11_mend_219 17 rfl rfl rfl
theorem dX11_mend_238 : decode cX11_mend 238 = .ok (.iadd, 1) := de96 hX11_mend_219 19 rfl rfl
theorem dX11_mend_239 : decode cX11_mend 239 = .ok (.iaload, 1) := de46 hX11_mend_219 20 rfl rfl
theorem hX11_mend_240 : bHas cX11_mend 240 [54, 8, 21, 8, 54, 9, 21, 5, 54, 10, 21, 10, 21, 6, 162, 0, 60, 42, 180, 0, 64, 21, 4, 21, 10] := bH_c (n := 25) (by decide +kernel)
theorem dX11_mend_240 : decode cX11_mend 240 = .ok (.istore 8, 2) := de54 hX11_mend_240 0 rfl rfl rfl
theorem dX11_mend_242 : decode cX11_mend 242 = .ok (.iload 8, 2) := de21 hX11_mend_240 2 rfl rfl rfl
theorem dX11_mend_244 : decode cX11_mend 244 = .ok (.istore 9, 2) := de54 hX11_mend_240 4 rfl rfl rfl
theorem dX11_mend_246 : decode cX11_mend 246 = .ok (.iload 5, 2) := de21 hX11_mend_240 6 rfl rfl rfl
theorem dX11_mend_248 : decode cX11_mend 248 = .ok (.istore 10, 2) := de54 hX11_mend_240 8 rfl rfl rfl
theorem dX11_mend_250 : decode cX11_mend 250 = .ok (.iload 10, 2) := de21 hX11_mend_240 10 rfl rfl rfl
theorem dX11_mend_252 : decode cX11_mend 252 = .ok (.iload 6, 2) := de21 hX11_mend_240 12 rfl rfl rfl
theorem dX11_mend_254 : decode cX11_mend 254 = .ok (.if_icmp .ge 60, 3) := de162 hX11_mend_240 14 rfl rfl (by decide +kernel)
theorem dX11_mend_257 : decode cX11_mend 257 = .ok (.aload_n 0, 1) := de42 hX11_mend_240 17 rfl rfl
theorem dX11_mend_258 : decode cX11_mend 258 = .ok (.getfield 64, 3) := de180 hX11_mend_240 18 rfl rfl rfl
theorem dX11_mend_261 : decode cX11_mend 261 = .ok (.iload 4, 2) := de21 hX11_mend_240 21 rfl rfl rfl
theorem dX11_mend_263 : decode cX11_mend 263 = .ok (.iload 10, 2) := de21 hX11_mend_240 23 rfl rfl rfl
theorem hX11_mend_265 : bHas cX11_mend 265 [96, 21, 7, 154, 0, 7, 3, 167, 0, 20, 21, 8, 133, 42, 180, 0, 67, 21, 10, 46, 133] := bH_c (n := 21) (by decide +kernel)
theorem dX11_mend_265 : decode cX11_mend 265 = .ok (.iadd, 1) := de96 hX11_mend_265 0 rfl rfl
theorem dX11_mend_266 : decode cX11_mend 266 = .ok (.iload 7, 2) := de21 hX11_mend_265 1 rfl rfl rfl
theorem dX11_mend_268 : decode cX11_mend 268 = .ok (.ifCond .ne 7, 3) := de154 hX11_mend_265 3 rfl rfl (by decide +kernel)
theorem dX11_mend_271 : decode cX11_mend 271 = .ok (.iconst 0, 1) := de3 hX11_mend_265 6 rfl rfl
theorem dX11_mend_272 : decode cX11_mend 272 = .ok (.goto 20, 3) := de167 hX11_mend_265 7 rfl rfl (by decide +kernel)
theorem dX11_mend_275 : decode cX11_mend 275 = .ok (.iload 8, 2) := de21 hX11_mend_265 10 rfl rfl rfl
theorem dX11_mend_277 : decode cX11_mend 277 = .ok (.i2l, 1) := de133 hX11_mend_265 12 rfl rfl
theorem dX11_mend_278 : decode cX11_mend 278 = .ok (.aload_n 0, 1) := de42 hX11_mend_265 13 rfl rfl
theorem dX11_mend_279 : decode cX11_mend 279 = .ok (.getfield 67, 3) := de180 hX11_mend_265 14 rfl rfl rfl
theorem dX11_mend_282 : decode cX11_mend 282 = .ok (.iload 10, 2) := de21 hX11_mend_265 17 rfl rfl rfl
theorem dX11_mend_284 : decode cX11_mend 284 = .ok (.iaload, 1) := de46 hX11_mend_265 19 rfl rfl
theorem dX11_mend_285 : decode cX11_mend 285 = .ok (.i2l, 1) := de133 hX11_mend_265 20 rfl rfl
theorem hX11_mend_286 : bHas cX11_mend 286 [105, 21, 7, 133, 109, 136, 79, 21, 9, 42, 180, 0, 64, 21, 4, 21, 10, 96] := bH_c (n := 18) (by decide +kernel)
theorem dX11_mend_286 : decode cX11_mend 286 = .ok (.lmul, 1) := de105 hX11_mend_286 0 rfl rfl
theorem dX11_mend_287 : decode cX11_mend 287 = .ok (.iload 7, 2) := de21 hX11_mend_286 1 rfl rfl rfl
theorem dX11_mend_289 : decode cX11_mend 289 = .ok (.i2l, 1) := de133 hX11_mend_286 3 rfl rfl
theorem dX11_mend_290 : decode cX11_mend 290 = .ok (.ldiv, 1) := de109 hX11_mend_286 4 rfl rfl
theorem dX11_mend_291 : decode cX11_mend 291 = .ok (.l2i, 1) := de136 hX11_mend_286 5 rfl rfl
theorem dX11_mend_292 : decode cX11_mend 292 = .ok (.iastore, 1) := de79 hX11_mend_286 6 rfl rfl
theorem dX11_mend_293 : decode cX11_mend 293 = .ok (.iload 9, 2) := de21 hX11_mend_286 7 rfl rfl rfl
theorem dX11_mend_295 : decode cX11_mend 295 = .ok (.aload_n 0, 1) := de42 hX11_mend_286 9 rfl rfl
theorem dX11_mend_296 : decode cX11_mend 296 = .ok (.getfield 64, 3) := de180 hX11_mend_286 10 rfl rfl rfl
theorem dX11_mend_299 : decode cX11_mend 299 = .ok (.iload 4, 2) := de21 hX11_mend_286 13 rfl rfl rfl
theorem dX11_mend_301 : decode cX11_mend 301 = .ok (.iload 10, 2) := de21 hX11_mend_286 15 rfl rfl rfl
theorem dX11_mend_303 : decode cX11_mend 303 = .ok (.iadd, 1) := de96 hX11_mend_286 17 rfl rfl
theorem hX11_mend_304 : bHas cX11_mend 304 [46, 100, 54, 9, 132, 10, 1, 167, 255, 195, 42, 180, 0, 64, 21, 4, 21, 6, 96, 21, 9, 79] := bH_c (n := 22) (by decide +kernel)
theorem dX11_mend_304 : decode cX11_mend 304 = .ok (.iaload, 1) := de46 hX11_mend_304 0 rfl rfl
theorem dX11_mend_305 : decode cX11_mend 305 = .ok (.isub, 1) := de100 hX11_mend_304 1 rfl rfl
theorem dX11_mend_306 : decode cX11_mend 306 = .ok (.istore 9, 2) := de54 hX11_mend_304 2 rfl rfl rfl
theorem dX11_mend_308 : decode cX11_mend 308 = .ok (.iinc 10 1, 3) := de132 hX11_mend_304 4 rfl rfl rfl rfl
theorem dX11_mend_311 : decode cX11_mend 311 = .ok (.goto (-61), 3) := de167 hX11_mend_304 7 rfl rfl (by decide +kernel)
theorem dX11_mend_314 : decode cX11_mend 314 = .ok (.aload_n 0, 1) := de42 hX11_mend_304 10 rfl rfl
theorem dX11_mend_315 : decode cX11_mend 315 = .ok (.getfield 64, 3) := de180 hX11_mend_304 11 rfl rfl rfl
theorem dX11_mend_318 : decode cX11_mend 318 = .ok (.iload 4, 2) := de21 hX11_mend_304 14 rfl rfl rfl
theorem dX11_mend_320 : decode cX11_mend 320 = .ok (.iload 6, 2) := de21 hX11_mend_304 16 rfl rfl rfl
theorem dX11_mend_322 : decode cX11_mend 322 = .ok (.iadd, 1) := de96 hX11_mend_304 18 rfl rfl
theorem dX11_mend_323 : decode cX11_mend 323 = .ok (.iload 9, 2) := de21 hX11_mend_304 19 rfl rfl rfl
theorem dX11_mend_325 : decode cX11_mend 325 = .ok (.iastore, 1) := de79 hX11_mend_304 21 rfl rfl
theorem hX11_mend_326 : bHas cX11_mend 326 [4, 172] := bH_c (n := 2) (by decide +kernel)
theorem dX11_mend_326 : decode cX11_mend 326 = .ok (.iconst 1, 1) := de4 hX11_mend_326 0 rfl rfl
theorem dX11_mend_327 : decode cX11_mend 327 = .ok (.ireturn, 1) := de172 hX11_mend_326 1 rfl rfl
theorem hX11_misfit_0 : bHas cX11_misfit 0 [3, 61, 3, 62, 29, 16, 7, 162, 0, 32, 28, 42, 180, 0, 64, 16, 7, 27] := bH_c (n := 18) (by decide +kernel)
theorem dX11_misfit_0 : decode cX11_misfit 0 = .ok (.iconst 0, 1) := de3 hX11_misfit_0 0 rfl rfl
theorem dX11_misfit_1 : decode cX11_misfit 1 = .ok (.istore_n 2, 1) := de61 hX11_misfit_0 1 rfl rfl
theorem dX11_misfit_2 : decode cX11_misfit 2 = .ok (.iconst 0, 1) := de3 hX11_misfit_0 2 rfl rfl
theorem dX11_misfit_3 : decode cX11_misfit 3 = .ok (.istore_n 3, 1) := de62 hX11_misfit_0 3 rfl rfl
theorem dX11_misfit_4 : decode cX11_misfit 4 = .ok (.iload_n 3, 1) := de29 hX11_misfit_0 4 rfl rfl
theorem dX11_misfit_5 : decode cX11_misfit 5 = .ok (.bipush 7, 2) := de16 hX11_misfit_0 5 rfl rfl rfl
theorem dX11_misfit_7 : decode cX11_misfit 7 = .ok (.if_icmp .ge 32, 3) := de162 hX11_misfit_0 7 rfl rfl (by decide +kernel)
theorem dX11_misfit_10 : decode cX11_misfit 10 = .ok (.iload_n 2, 1) := de28 hX11_misfit_0 10 rfl rfl
theorem dX11_misfit_11 : decode cX11_misfit 11 = .ok (.aload_n 0, 1) := de42 hX11_misfit_0 11 rfl rfl
theorem dX11_misfit_12 : decode cX11_misfit 12 = .ok (.getfield 64, 3) := de180 hX11_misfit_0 12 rfl rfl rfl
theorem dX11_misfit_15 : decode cX11_misfit 15 = .ok (.bipush 7, 2) := de16 hX11_misfit_0 15 rfl rfl rfl
theorem dX11_misfit_17 : decode cX11_misfit 17 = .ok (.iload_n 1, 1) := de27 hX11_misfit_0 17 rfl rfl
theorem hX11_misfit_18 : bHas cX11_misfit 18 [104, 29, 96, 46, 42, 180, 0, 67, 29, 46, 184, 0, 192, 96, 61, 132, 3, 1] := bH_c (n := 18) (by decide +kernel)
theorem dX11_misfit_18 : decode cX11_misfit 18 = .ok (.imul, 1) := de104 hX11_misfit_18 0 rfl rfl
theorem dX11_misfit_19 : decode cX11_misfit 19 = .ok (.iload_n 3, 1) := de29 hX11_misfit_18 1 rfl rfl
theorem dX11_misfit_20 : decode cX11_misfit 20 = .ok (.iadd, 1) := de96 hX11_misfit_18 2 rfl rfl
theorem dX11_misfit_21 : decode cX11_misfit 21 = .ok (.iaload, 1) := de46 hX11_misfit_18 3 rfl rfl
theorem dX11_misfit_22 : decode cX11_misfit 22 = .ok (.aload_n 0, 1) := de42 hX11_misfit_18 4 rfl rfl
theorem dX11_misfit_23 : decode cX11_misfit 23 = .ok (.getfield 67, 3) := de180 hX11_misfit_18 5 rfl rfl rfl
theorem dX11_misfit_26 : decode cX11_misfit 26 = .ok (.iload_n 3, 1) := de29 hX11_misfit_18 8 rfl rfl
theorem dX11_misfit_27 : decode cX11_misfit 27 = .ok (.iaload, 1) := de46 hX11_misfit_18 9 rfl rfl
theorem dX11_misfit_28 : decode cX11_misfit 28 = .ok (.invokestatic 192, 3) := de184 hX11_misfit_18 10 rfl rfl rfl
theorem dX11_misfit_31 : decode cX11_misfit 31 = .ok (.iadd, 1) := de96 hX11_misfit_18 13 rfl rfl
theorem dX11_misfit_32 : decode cX11_misfit 32 = .ok (.istore_n 2, 1) := de61 hX11_misfit_18 14 rfl rfl
theorem dX11_misfit_33 : decode cX11_misfit 33 = .ok (.iinc 3 1, 3) := de132 hX11_misfit_18 15 rfl rfl rfl rfl
theorem hX11_misfit_36 : bHas cX11_misfit 36 [167, 255, 224, 28, 172] := bH_c (n := 5) (by decide +kernel)
theorem dX11_misfit_36 : decode cX11_misfit 36 = .ok (.goto (-32), 3) := de167 hX11_misfit_36 0 rfl rfl (by decide +kernel)
theorem dX11_misfit_39 : decode cX11_misfit 39 = .ok (.iload_n 2, 1) := de28 hX11_misfit_36 3 rfl rfl
theorem dX11_misfit_40 : decode cX11_misfit 40 = .ok (.ireturn, 1) := de172 hX11_misfit_36 4 rfl rfl
theorem hX11_findWeek_0 : bHas cX11_findWeek 0 [42, 182, 0, 212, 42, 182, 0, 228, 3, 62, 29, 16, 7, 162, 0, 51, 42, 180, 0, 64, 29] := bH_c (n := 21) (by decide +kernel)
theorem dX11_findWeek_0 : decode cX11_findWeek 0 = .ok (.aload_n 0, 1) := de42 hX11_findWeek_0 0 rfl rfl
theorem dX11_findWeek_1 : decode cX11_findWeek 1 = .ok (.invokevirtual 212, 3) := de182 hX11_findWeek_0 1 rfl rfl rfl
theorem dX11_findWeek_4 : decode cX11_findWeek 4 = .ok (.aload_n 0, 1) := de42 hX11_findWeek_0 4 rfl rfl
theorem dX11_findWeek_5 : decode cX11_findWeek 5 = .ok (.invokevirtual 228, 3) := de182 hX11_findWeek_0 5 rfl rfl rfl
theorem dX11_findWeek_8 : decode cX11_findWeek 8 = .ok (.iconst 0, 1) := de3 hX11_findWeek_0 8 rfl rfl
theorem dX11_findWeek_9 : decode cX11_findWeek 9 = .ok (.istore_n 3, 1) := de62 hX11_findWeek_0 9 rfl rfl
theorem dX11_findWeek_10 : decode cX11_findWeek 10 = .ok (.iload_n 3, 1) := de29 hX11_findWeek_0 10 rfl rfl
theorem dX11_findWeek_11 : decode cX11_findWeek 11 = .ok (.bipush 7, 2) := de16 hX11_findWeek_0 11 rfl rfl rfl
theorem dX11_findWeek_13 : decode cX11_findWeek 13 = .ok (.if_icmp .ge 51, 3) := de162 hX11_findWeek_0 13 rfl rfl (by decide +kernel)
theorem dX11_findWeek_16 : decode cX11_findWeek 16 = .ok (.aload_n 0, 1) := de42 hX11_findWeek_0 16 rfl rfl
theorem dX11_findWeek_17 : decode cX11_findWeek 17 = .ok (.getfield 64, 3) := de180 hX11_findWeek_0 17 rfl rfl rfl
theorem dX11_findWeek_20 : decode cX11_findWeek 20 = .ok (.iload_n 3, 1) := de29 hX11_findWeek_0 20 rfl rfl
theorem hX11_findWeek_21 : bHas cX11_findWeek 21 [42, 180, 0, 61, 27, 28, 29, 96, 184, 0, 139, 46, 184, 0, 201, 79, 42, 180, 0, 67] := bH_c (n := 20) (by decide +kernel)
theorem dX11_findWeek_21 : decode cX11_findWeek 21 = .ok (.aload_n 0, 1) := de42 hX11_findWeek_21 0 rfl rfl
theorem dX11_findWeek_22 : decode cX11_findWeek 22 = .ok (.getfield 61, 3) := de180 hX11_findWeek_21 1 rfl rfl rfl
theorem dX11_findWeek_25 : decode cX11_findWeek 25 = .ok (.iload_n 1, 1) := de27 hX11_findWeek_21 4 rfl rfl
theorem dX11_findWeek_26 : decode cX11_findWeek 26 = .ok (.iload_n 2, 1) := de28 hX11_findWeek_21 5 rfl rfl
theorem dX11_findWeek_27 : decode cX11_findWeek 27 = .ok (.iload_n 3, 1) := de29 hX11_findWeek_21 6 rfl rfl
theorem dX11_findWeek_28 : decode cX11_findWeek 28 = .ok (.iadd, 1) := de96 hX11_findWeek_21 7 rfl rfl
theorem dX11_findWeek_29 : decode cX11_findWeek 29 = .ok (.invokestatic 139, 3) := de184 hX11_findWeek_21 8 rfl rfl rfl
theorem dX11_findWeek_32 : decode cX11_findWeek 32 = .ok (.iaload, 1) := de46 hX11_findWeek_21 11 rfl rfl
theorem dX11_findWeek_33 : decode cX11_findWeek 33 = .ok (.invokestatic 201, 3) := de184 hX11_findWeek_21 12 rfl rfl rfl
theorem dX11_findWeek_36 : decode cX11_findWeek 36 = .ok (.iastore, 1) := de79 hX11_findWeek_21 15 rfl rfl
theorem dX11_findWeek_37 : decode cX11_findWeek 37 = .ok (.aload_n 0, 1) := de42 hX11_findWeek_21 16 rfl rfl
theorem dX11_findWeek_38 : decode cX11_findWeek 38 = .ok (.getfield 67, 3) := de180 hX11_findWeek_21 17 rfl rfl rfl
theorem hX11_findWeek_41 : bHas cX11_findWeek 41 [29, 42, 180, 0, 58, 27, 28, 29, 96, 184, 0, 139, 46, 184, 0, 201, 79, 132, 3, 1] := bH_c (n := 20) (by decide +kernel)
theorem dX11_findWeek_41 : decode cX11_findWeek 41 = .ok (.iload_n 3, 1) := de29 hX11_findWeek_41 0 rfl rfl
theorem dX11_findWeek_42 : decode cX11_findWeek 42 = .ok (.aload_n 0, 1) := de42 hX11_findWeek_41 1 rfl rfl
theorem dX11_findWeek_43 : decode cX11_findWeek 43 = .ok (.getfield 58, 3) := de180 hX11_findWeek_41 2 rfl rfl rfl
theorem dX11_findWeek_46 : decode cX11_findWeek 46 = .ok (.iload_n 1, 1) := de27 hX11_findWeek_41 5 rfl rfl
theorem dX11_findWeek_47 : decode cX11_findWeek 47 = .ok (.iload_n 2, 1) := de28 hX11_findWeek_41 6 rfl rfl
theorem dX11_findWeek_48 : decode cX11_findWeek 48 = .ok (.iload_n 3, 1) := de29 hX11_findWeek_41 7 rfl rfl
theorem dX11_findWeek_49 : decode cX11_findWeek 49 = .ok (.iadd, 1) := de96 hX11_findWeek_41 8 rfl rfl
theorem dX11_findWeek_50 : decode cX11_findWeek 50 = .ok (.invokestatic 139, 3) := de184 hX11_findWeek_41 9 rfl rfl rfl
theorem dX11_findWeek_53 : decode cX11_findWeek 53 = .ok (.iaload, 1) := de46 hX11_findWeek_41 12 rfl rfl
theorem dX11_findWeek_54 : decode cX11_findWeek 54 = .ok (.invokestatic 201, 3) := de184 hX11_findWeek_41 13 rfl rfl rfl
theorem dX11_findWeek_57 : decode cX11_findWeek 57 = .ok (.iastore, 1) := de79 hX11_findWeek_41 16 rfl rfl
theorem dX11_findWeek_58 : decode cX11_findWeek 58 = .ok (.iinc 3 1, 3) := de132 hX11_findWeek_41 17 rfl rfl rfl rfl
theorem hX11_findWeek_61 : bHas cX11_findWeek 61 [167, 255, 205, 42, 42, 3, 182, 0, 231, 181, 0, 234, 42, 3, 181, 0, 237, 42, 16, 250, 181, 0, 240] := bH_c (n := 23) (by decide +kernel)
theorem dX11_findWeek_61 : decode cX11_findWeek 61 = .ok (.goto (-51), 3) := de167 hX11_findWeek_61 0 rfl rfl (by decide +kernel)
theorem dX11_findWeek_64 : decode cX11_findWeek 64 = .ok (.aload_n 0, 1) := de42 hX11_findWeek_61 3 rfl rfl
theorem dX11_findWeek_65 : decode cX11_findWeek 65 = .ok (.aload_n 0, 1) := de42 hX11_findWeek_61 4 rfl rfl
theorem dX11_findWeek_66 : decode cX11_findWeek 66 = .ok (.iconst 0, 1) := de3 hX11_findWeek_61 5 rfl rfl
theorem dX11_findWeek_67 : decode cX11_findWeek 67 = .ok (.invokevirtual 231, 3) := de182 hX11_findWeek_61 6 rfl rfl rfl
theorem dX11_findWeek_70 : decode cX11_findWeek 70 = .ok (.putfield 234, 3) := de181 hX11_findWeek_61 9 rfl rfl rfl
theorem dX11_findWeek_73 : decode cX11_findWeek 73 = .ok (.aload_n 0, 1) := de42 hX11_findWeek_61 12 rfl rfl
theorem dX11_findWeek_74 : decode cX11_findWeek 74 = .ok (.iconst 0, 1) := de3 hX11_findWeek_61 13 rfl rfl
theorem dX11_findWeek_75 : decode cX11_findWeek 75 = .ok (.putfield 237, 3) := de181 hX11_findWeek_61 14 rfl rfl rfl
theorem dX11_findWeek_78 : decode cX11_findWeek 78 = .ok (.aload_n 0, 1) := de42 hX11_findWeek_61 17 rfl rfl
theorem dX11_findWeek_79 : decode cX11_findWeek 79 = .ok (.bipush (-6), 2) := de16 hX11_findWeek_61 18 rfl rfl rfl
theorem dX11_findWeek_81 : decode cX11_findWeek 81 = .ok (.putfield 240, 3) := de181 hX11_findWeek_61 20 rfl rfl rfl
theorem hX11_findWeek_84 : bHas cX11_findWeek 84 [42, 16, 250, 181, 0, 243, 3, 62, 29, 16, 38, 162, 0, 59, 42, 3, 29, 182, 0, 246] := bH_c (n := 20) (by decide +kernel)
theorem dX11_findWeek_84 : decode cX11_findWeek 84 = .ok (.aload_n 0, 1) := de42 hX11_findWeek_84 0 rfl rfl
theorem dX11_findWeek_85 : decode cX11_findWeek 85 = .ok (.bipush (-6), 2) := de16 hX11_findWeek_84 1 rfl rfl rfl
theorem dX11_findWeek_87 : decode cX11_findWeek 87 = .ok (.putfield 243, 3) := de181 hX11_findWeek_84 3 rfl rfl rfl
theorem dX11_findWeek_90 : decode cX11_findWeek 90 = .ok (.iconst 0, 1) := de3 hX11_findWeek_84 6 rfl rfl
theorem dX11_findWeek_91 : decode cX11_findWeek 91 = .ok (.istore_n 3, 1) := de62 hX11_findWeek_84 7 rfl rfl
theorem dX11_findWeek_92 : decode cX11_findWeek 92 = .ok (.iload_n 3, 1) := de29 hX11_findWeek_84 8 rfl rfl
theorem dX11_findWeek_93 : decode cX11_findWeek 93 = .ok (.bipush 38, 2) := de16 hX11_findWeek_84 9 rfl rfl rfl
theorem dX11_findWeek_95 : decode cX11_findWeek 95 = .ok (.if_icmp .ge 59, 3) := de162 hX11_findWeek_84 11 rfl rfl (by decide +kernel)
theorem dX11_findWeek_98 : decode cX11_findWeek 98 = .ok (.aload_n 0, 1) := de42 hX11_findWeek_84 14 rfl rfl
theorem dX11_findWeek_99 : decode cX11_findWeek 99 = .ok (.iconst 0, 1) := de3 hX11_findWeek_84 15 rfl rfl
theorem dX11_findWeek_100 : decode cX11_findWeek 100 = .ok (.iload_n 3, 1) := de29 hX11_findWeek_84 16 rfl rfl
theorem dX11_findWeek_101 : decode cX11_findWeek 101 = .ok (.invokevirtual 246, 3) := de182 hX11_findWeek_84 17 rfl rfl rfl
theorem hX11_findWeek_104 : bHas cX11_findWeek 104 [153, 0, 44, 42, 4, 182, 0, 231, 42, 180, 0, 115, 96, 42, 180, 0, 234, 162, 0, 27, 42, 42] := bH_c (n := 22) (by decide +kernel)
theorem dX11_findWeek_104 : decode cX11_findWeek 104 = .ok (.ifCond .eq 44, 3) := de153 hX11_findWeek_104 0 rfl rfl (by decide +kernel)
theorem dX11_findWeek_107 : decode cX11_findWeek 107 = .ok (.aload_n 0, 1) := de42 hX11_findWeek_104 3 rfl rfl
theorem dX11_findWeek_108 : decode cX11_findWeek 108 = .ok (.iconst 1, 1) := de4 hX11_findWeek_104 4 rfl rfl
theorem dX11_findWeek_109 : decode cX11_findWeek 109 = .ok (.invokevirtual 231, 3) := de182 hX11_findWeek_104 5 rfl rfl rfl
theorem dX11_findWeek_112 : decode cX11_findWeek 112 = .ok (.aload_n 0, 1) := de42 hX11_findWeek_104 8 rfl rfl
theorem dX11_findWeek_113 : decode cX11_findWeek 113 = .ok (.getfield 115, 3) := de180 hX11_findWeek_104 9 rfl rfl rfl
theorem dX11_findWeek_116 : decode cX11_findWeek 116 = .ok (.iadd, 1) := de96 hX11_findWeek_104 12 rfl rfl
theorem dX11_findWeek_117 : decode cX11_findWeek 117 = .ok (.aload_n 0, 1) := de42 hX11_findWeek_104 13 rfl rfl
theorem dX11_findWeek_118 : decode cX11_findWeek 118 = .ok (.getfield 234, 3) := de180 hX11_findWeek_104 14 rfl rfl rfl
theorem dX11_findWeek_121 : decode cX11_findWeek 121 = .ok (.if_icmp .ge 27, 3) := de162 hX11_findWeek_104 17 rfl rfl (by decide +kernel)
theorem dX11_findWeek_124 : decode cX11_findWeek 124 = .ok (.aload_n 0, 1) := de42 hX11_findWeek_104 20 rfl rfl
theorem dX11_findWeek_125 : decode cX11_findWeek 125 = .ok (.aload_n 0, 1) := de42 hX11_findWeek_104 21 rfl rfl
theorem hX11_findWeek_126 : bHas cX11_findWeek 126 [4, 182, 0, 231, 42, 180, 0, 115, 96, 181, 0, 234, 42, 4, 181, 0, 237, 42, 29, 181, 0, 240] := bH_c (n := 22) (by decide +kernel)
theorem dX11_findWeek_126 : decode cX11_findWeek 126 = .ok (.iconst 1, 1) := de4 hX11_findWeek_126 0 rfl rfl
theorem dX11_findWeek_127 : decode cX11_findWeek 127 = .ok (.invokevirtual 231, 3) := de182 hX11_findWeek_126 1 rfl rfl rfl
theorem dX11_findWeek_130 : decode cX11_findWeek 130 = .ok (.aload_n 0, 1) := de42 hX11_findWeek_126 4 rfl rfl
theorem dX11_findWeek_131 : decode cX11_findWeek 131 = .ok (.getfield 115, 3) := de180 hX11_findWeek_126 5 rfl rfl rfl
theorem dX11_findWeek_134 : decode cX11_findWeek 134 = .ok (.iadd, 1) := de96 hX11_findWeek_126 8 rfl rfl
theorem dX11_findWeek_135 : decode cX11_findWeek 135 = .ok (.putfield 234, 3) := de181 hX11_findWeek_126 9 rfl rfl rfl
theorem dX11_findWeek_138 : decode cX11_findWeek 138 = .ok (.aload_n 0, 1) := de42 hX11_findWeek_126 12 rfl rfl
theorem dX11_findWeek_139 : decode cX11_findWeek 139 = .ok (.iconst 1, 1) := de4 hX11_findWeek_126 13 rfl rfl
theorem dX11_findWeek_140 : decode cX11_findWeek 140 = .ok (.putfield 237, 3) := de181 hX11_findWeek_126 14 rfl rfl rfl
theorem dX11_findWeek_143 : decode cX11_findWeek 143 = .ok (.aload_n 0, 1) := de42 hX11_findWeek_126 17 rfl rfl
theorem dX11_findWeek_144 : decode cX11_findWeek 144 = .ok (.iload_n 3, 1) := de29 hX11_findWeek_126 18 rfl rfl
theorem dX11_findWeek_145 : decode cX11_findWeek 145 = .ok (.putfield 240, 3) := de181 hX11_findWeek_126 19 rfl rfl rfl
theorem hX11_findWeek_148 : bHas cX11_findWeek 148 [132, 3, 1, 167, 255, 197, 3, 62, 29, 16, 38, 162, 0, 95, 42, 3, 29, 182, 0, 246, 153, 0, 80] := bH_c (n := 23) (by decide +kernel)
theorem dX11_findWeek_148 : decode cX11_findWeek 148 = .ok (.iinc 3 1, 3) := de132 hX11_findWeek_148 0 rfl rfl rfl rfl
theorem dX11_findWeek_151 : decode cX11_findWeek 151 = .ok (.goto (-59), 3) := de167 hX11_findWeek_148 3 rfl rfl (by decide +kernel)
theorem dX11_findWeek_154 : decode cX11_findWeek 154 = .ok (.iconst 0, 1) := de3 hX11_findWeek_148 6 rfl rfl
theorem dX11_findWeek_155 : decode cX11_findWeek 155 = .ok (.istore_n 3, 1) := de62 hX11_findWeek_148 7 rfl rfl
theorem dX11_findWeek_156 : decode cX11_findWeek 156 = .ok (.iload_n 3, 1) := de29 hX11_findWeek_148 8 rfl rfl
theorem dX11_findWeek_157 : decode cX11_findWeek 157 = .ok (.bipush 38, 2) := de16 hX11_findWeek_148 9 rfl rfl rfl
theorem dX11_findWeek_159 : decode cX11_findWeek 159 = .ok (.if_icmp .ge 95, 3) := de162 hX11_findWeek_148 11 rfl rfl (by decide +kernel)
theorem dX11_findWeek_162 : decode cX11_findWeek 162 = .ok (.aload_n 0, 1) := de42 hX11_findWeek_148 14 rfl rfl
theorem dX11_findWeek_163 : decode cX11_findWeek 163 = .ok (.iconst 0, 1) := de3 hX11_findWeek_148 15 rfl rfl
theorem dX11_findWeek_164 : decode cX11_findWeek 164 = .ok (.iload_n 3, 1) := de29 hX11_findWeek_148 16 rfl rfl
theorem dX11_findWeek_165 : decode cX11_findWeek 165 = .ok (.invokevirtual 246, 3) := de182 hX11_findWeek_148 17 rfl rfl rfl
theorem dX11_findWeek_168 : decode cX11_findWeek 168 = .ok (.ifCond .eq 80, 3) := de153 hX11_findWeek_148 20 rfl rfl (by decide +kernel)
theorem hX11_findWeek_171 : bHas cX11_findWeek 171 [3, 54, 4, 21, 4, 16, 38, 162, 0, 70, 42, 4, 21, 4, 182, 0, 246, 153, 0, 54, 42, 5] := bH_c (n := 22) (by decide +kernel)
theorem dX11_findWeek_171 : decode cX11_findWeek 171 = .ok (.iconst 0, 1) := de3 hX11_findWeek_171 0 rfl rfl
theorem dX11_findWeek_172 : decode cX11_findWeek 172 = .ok (.istore 4, 2) := de54 hX11_findWeek_171 1 rfl rfl rfl
theorem dX11_findWeek_174 : decode cX11_findWeek 174 = .ok (.iload 4, 2) := de21 hX11_findWeek_171 3 rfl rfl rfl
theorem dX11_findWeek_176 : decode cX11_findWeek 176 = .ok (.bipush 38, 2) := de16 hX11_findWeek_171 5 rfl rfl rfl
theorem dX11_findWeek_178 : decode cX11_findWeek 178 = .ok (.if_icmp .ge 70, 3) := de162 hX11_findWeek_171 7 rfl rfl (by decide +kernel)
theorem dX11_findWeek_181 : decode cX11_findWeek 181 = .ok (.aload_n 0, 1) := de42 hX11_findWeek_171 10 rfl rfl
theorem dX11_findWeek_182 : decode cX11_findWeek 182 = .ok (.iconst 1, 1) := de4 hX11_findWeek_171 11 rfl rfl
theorem dX11_findWeek_183 : decode cX11_findWeek 183 = .ok (.iload 4, 2) := de21 hX11_findWeek_171 12 rfl rfl rfl
theorem dX11_findWeek_185 : decode cX11_findWeek 185 = .ok (.invokevirtual 246, 3) := de182 hX11_findWeek_171 14 rfl rfl rfl
theorem dX11_findWeek_188 : decode cX11_findWeek 188 = .ok (.ifCond .eq 54, 3) := de153 hX11_findWeek_171 17 rfl rfl (by decide +kernel)
theorem dX11_findWeek_191 : decode cX11_findWeek 191 = .ok (.aload_n 0, 1) := de42 hX11_findWeek_171 20 rfl rfl
theorem dX11_findWeek_192 : decode cX11_findWeek 192 = .ok (.iconst 2, 1) := de5 hX11_findWeek_171 21 rfl rfl
theorem hX11_findWeek_193 : bHas cX11_findWeek 193 [182, 0, 231, 5, 42, 180, 0, 115, 104, 96, 42, 180, 0, 234, 162, 0, 35, 42, 42, 5] := bH_c (n := 20) (by decide +kernel)
theorem dX11_findWeek_193 : decode cX11_findWeek 193 = .ok (.invokevirtual 231, 3) := de182 hX11_findWeek_193 0 rfl rfl rfl
theorem dX11_findWeek_196 : decode cX11_findWeek 196 = .ok (.iconst 2, 1) := de5 hX11_findWeek_193 3 rfl rfl
theorem dX11_findWeek_197 : decode cX11_findWeek 197 = .ok (.aload_n 0, 1) := de42 hX11_findWeek_193 4 rfl rfl
theorem dX11_findWeek_198 : decode cX11_findWeek 198 = .ok (.getfield 115, 3) := de180 hX11_findWeek_193 5 rfl rfl rfl
theorem dX11_findWeek_201 : decode cX11_findWeek 201 = .ok (.imul, 1) := de104 hX11_findWeek_193 8 rfl rfl
theorem dX11_findWeek_202 : decode cX11_findWeek 202 = .ok (.iadd, 1) := de96 hX11_findWeek_193 9 rfl rfl
theorem dX11_findWeek_203 : decode cX11_findWeek 203 = .ok (.aload_n 0, 1) := de42 hX11_findWeek_193 10 rfl rfl
theorem dX11_findWeek_204 : decode cX11_findWeek 204 = .ok (.getfield 234, 3) := de180 hX11_findWeek_193 11 rfl rfl rfl
theorem dX11_findWeek_207 : decode cX11_findWeek 207 = .ok (.if_icmp .ge 35, 3) := de162 hX11_findWeek_193 14 rfl rfl (by decide +kernel)
theorem dX11_findWeek_210 : decode cX11_findWeek 210 = .ok (.aload_n 0, 1) := de42 hX11_findWeek_193 17 rfl rfl
theorem dX11_findWeek_211 : decode cX11_findWeek 211 = .ok (.aload_n 0, 1) := de42 hX11_findWeek_193 18 rfl rfl
theorem dX11_findWeek_212 : decode cX11_findWeek 212 = .ok (.iconst 2, 1) := de5 hX11_findWeek_193 19 rfl rfl
theorem hX11_findWeek_213 : bHas cX11_findWeek 213 [182, 0, 231, 5, 42, 180, 0, 115, 104, 96, 181, 0, 234, 42, 5, 181, 0, 237, 42, 29] := bH_c (n := 20) (by decide +kernel)
theorem dX11_findWeek_213 : decode cX11_findWeek 213 = .ok (.invokevirtual 231, 3) := de182 hX11_findWeek_213 0 rfl rfl rfl
theorem dX11_findWeek_216 : decode cX11_findWeek 216 = .ok (.iconst 2, 1) := de5 hX11_findWeek_213 3 rfl rfl
theorem dX11_findWeek_217 : decode cX11_findWeek 217 = .ok (.aload_n 0, 1) := de42 hX11_findWeek_213 4 rfl rfl
theorem dX11_findWeek_218 : decode cX11_findWeek 218 = .ok (.getfield 115, 3) := de180 hX11_findWeek_213 5 rfl rfl rfl
theorem dX11_findWeek_221 : decode cX11_findWeek 221 = .ok (.imul, 1) := de104 hX11_findWeek_213 8 rfl rfl
theorem dX11_findWeek_222 : decode cX11_findWeek 222 = .ok (.iadd, 1) := de96 hX11_findWeek_213 9 rfl rfl
theorem dX11_findWeek_223 : decode cX11_findWeek 223 = .ok (.putfield 234, 3) := de181 hX11_findWeek_213 10 rfl rfl rfl
theorem dX11_findWeek_226 : decode cX11_findWeek 226 = .ok (.aload_n 0, 1) := de42 hX11_findWeek_213 13 rfl rfl
theorem dX11_findWeek_227 : decode cX11_findWeek 227 = .ok (.iconst 2, 1) := de5 hX11_findWeek_213 14 rfl rfl
theorem dX11_findWeek_228 : decode cX11_findWeek 228 = .ok (.putfield 237, 3) := de181 hX11_findWeek_213 15 rfl rfl rfl
theorem dX11_findWeek_231 : decode cX11_findWeek 231 = .ok (.aload_n 0, 1) := de42 hX11_findWeek_213 18 rfl rfl
theorem dX11_findWeek_232 : decode cX11_findWeek 232 = .ok (.iload_n 3, 1) := de29 hX11_findWeek_213 19 rfl rfl
theorem hX11_findWeek_233 : bHas cX11_findWeek 233 [181, 0, 240, 42, 21, 4, 181, 0, 243, 132, 4, 1, 167, 255, 185, 132, 3, 1, 167, 255, 161, 177] := bH_c (n := 22) (by decide +kernel)
theorem dX11_findWeek_233 : decode cX11_findWeek 233 = .ok (.putfield 240, 3) := de181 hX11_findWeek_233 0 rfl rfl rfl
theorem dX11_findWeek_236 : decode cX11_findWeek 236 = .ok (.aload_n 0, 1) := de42 hX11_findWeek_233 3 rfl rfl
theorem dX11_findWeek_237 : decode cX11_findWeek 237 = .ok (.iload 4, 2) := de21 hX11_findWeek_233 4 rfl rfl rfl
theorem dX11_findWeek_239 : decode cX11_findWeek 239 = .ok (.putfield 243, 3) := de181 hX11_findWeek_233 6 rfl rfl rfl
theorem dX11_findWeek_242 : decode cX11_findWeek 242 = .ok (.iinc 4 1, 3) := de132 hX11_findWeek_233 9 rfl rfl rfl rfl
theorem dX11_findWeek_245 : decode cX11_findWeek 245 = .ok (.goto (-71), 3) := de167 hX11_findWeek_233 12 rfl rfl (by decide +kernel)
theorem dX11_findWeek_248 : decode cX11_findWeek 248 = .ok (.iinc 3 1, 3) := de132 hX11_findWeek_233 15 rfl rfl rfl rfl
theorem dX11_findWeek_251 : decode cX11_findWeek 251 = .ok (.goto (-95), 3) := de167 hX11_findWeek_233 18 rfl rfl (by decide +kernel)
theorem dX11_findWeek_254 : decode cX11_findWeek 254 = .ok (.return_, 1) := de177 hX11_findWeek_233 21 rfl rfl
theorem hX11_week_0 : bHas cX11_week 0 [42, 27, 182, 0, 143, 153, 0, 15, 28, 133, 9, 20, 0, 249, 184, 0, 126, 154, 0, 5, 2, 172] := bH_c (n := 22) (by decide +kernel)
theorem dX11_week_0 : decode cX11_week 0 = .ok (.aload_n 0, 1) := de42 hX11_week_0 0 rfl rfl
theorem dX11_week_1 : decode cX11_week 1 = .ok (.iload_n 1, 1) := de27 hX11_week_0 1 rfl rfl
theorem dX11_week_2 : decode cX11_week 2 = .ok (.invokevirtual 143, 3) := de182 hX11_week_0 2 rfl rfl rfl
theorem dX11_week_5 : decode cX11_week 5 = .ok (.ifCond .eq 15, 3) := de153 hX11_week_0 5 rfl rfl (by decide +kernel)
theorem dX11_week_8 : decode cX11_week 8 = .ok (.iload_n 2, 1) := de28 hX11_week_0 8 rfl rfl
theorem dX11_week_9 : decode cX11_week 9 = .ok (.i2l, 1) := de133 hX11_week_0 9 rfl rfl
theorem dX11_week_10 : decode cX11_week 10 = .ok (.lconst 0, 1) := de9 hX11_week_0 10 rfl rfl
theorem dX11_week_11 : decode cX11_week 11 = .ok (.ldc2_w 249, 3) := de20 hX11_week_0 11 rfl rfl rfl
theorem dX11_week_14 : decode cX11_week 14 = .ok (.invokestatic 126, 3) := de184 hX11_week_0 14 rfl rfl rfl
theorem dX11_week_17 : decode cX11_week 17 = .ok (.ifCond .ne 5, 3) := de154 hX11_week_0 17 rfl rfl (by decide +kernel)
theorem dX11_week_20 : decode cX11_week 20 = .ok (.iconst (-1), 1) := de2 hX11_week_0 20 rfl rfl
theorem dX11_week_21 : decode cX11_week 21 = .ok (.ireturn, 1) := de172 hX11_week_0 21 rfl rfl
theorem hX11_week_22 : bHas cX11_week 22 [29, 133, 9, 20, 0, 215, 184, 0, 126, 154, 0, 6, 16, 254, 172, 42, 27, 28, 182, 0, 251] := bH_c (n := 21) (by decide +kernel)
theorem dX11_week_22 : decode cX11_week 22 = .ok (.iload_n 3, 1) := de29 hX11_week_22 0 rfl rfl
theorem dX11_week_23 : decode cX11_week 23 = .ok (.i2l, 1) := de133 hX11_week_22 1 rfl rfl
theorem dX11_week_24 : decode cX11_week 24 = .ok (.lconst 0, 1) := de9 hX11_week_22 2 rfl rfl
theorem dX11_week_25 : decode cX11_week 25 = .ok (.ldc2_w 215, 3) := de20 hX11_week_22 3 rfl rfl rfl
theorem dX11_week_28 : decode cX11_week 28 = .ok (.invokestatic 126, 3) := de184 hX11_week_22 6 rfl rfl rfl
theorem dX11_week_31 : decode cX11_week 31 = .ok (.ifCond .ne 6, 3) := de154 hX11_week_22 9 rfl rfl (by decide +kernel)
theorem dX11_week_34 : decode cX11_week 34 = .ok (.bipush (-2), 2) := de16 hX11_week_22 12 rfl rfl rfl
theorem dX11_week_36 : decode cX11_week 36 = .ok (.ireturn, 1) := de172 hX11_week_22 14 rfl rfl
theorem dX11_week_37 : decode cX11_week 37 = .ok (.aload_n 0, 1) := de42 hX11_week_22 15 rfl rfl
theorem dX11_week_38 : decode cX11_week 38 = .ok (.iload_n 1, 1) := de27 hX11_week_22 16 rfl rfl
theorem dX11_week_39 : decode cX11_week 39 = .ok (.iload_n 2, 1) := de28 hX11_week_22 17 rfl rfl
theorem dX11_week_40 : decode cX11_week 40 = .ok (.invokevirtual 251, 3) := de182 hX11_week_22 18 rfl rfl rfl
theorem hX11_week_43 : bHas cX11_week 43 [29, 5, 162, 0, 19, 29, 154, 0, 10, 42, 180, 0, 234, 167, 0, 7, 42, 180, 0, 237, 172, 29] := bH_c (n := 22) (by decide +kernel)
theorem dX11_week_43 : decode cX11_week 43 = .ok (.iload_n 3, 1) := de29 hX11_week_43 0 rfl rfl
theorem dX11_week_44 : decode cX11_week 44 = .ok (.iconst 2, 1) := de5 hX11_week_43 1 rfl rfl
theorem dX11_week_45 : decode cX11_week 45 = .ok (.if_icmp .ge 19, 3) := de162 hX11_week_43 2 rfl rfl (by decide +kernel)
theorem dX11_week_48 : decode cX11_week 48 = .ok (.iload_n 3, 1) := de29 hX11_week_43 5 rfl rfl
theorem dX11_week_49 : decode cX11_week 49 = .ok (.ifCond .ne 10, 3) := de154 hX11_week_43 6 rfl rfl (by decide +kernel)
theorem dX11_week_52 : decode cX11_week 52 = .ok (.aload_n 0, 1) := de42 hX11_week_43 9 rfl rfl
theorem dX11_week_53 : decode cX11_week 53 = .ok (.getfield 234, 3) := de180 hX11_week_43 10 rfl rfl rfl
theorem dX11_week_56 : decode cX11_week 56 = .ok (.goto 7, 3) := de167 hX11_week_43 13 rfl rfl (by decide +kernel)
theorem dX11_week_59 : decode cX11_week 59 = .ok (.aload_n 0, 1) := de42 hX11_week_43 16 rfl rfl
theorem dX11_week_60 : decode cX11_week 60 = .ok (.getfield 237, 3) := de180 hX11_week_43 17 rfl rfl rfl
theorem dX11_week_63 : decode cX11_week 63 = .ok (.ireturn, 1) := de172 hX11_week_43 20 rfl rfl
theorem dX11_week_64 : decode cX11_week 64 = .ok (.iload_n 3, 1) := de29 hX11_week_43 21 rfl rfl
theorem hX11_week_65 : bHas cX11_week 65 [5, 160, 0, 10, 42, 180, 0, 240, 167, 0, 7, 42, 180, 0, 243, 54, 4, 21, 4, 156, 0, 8, 16, 250, 167, 0, 32] := bH_c (n := 27) (by decide +kernel)
theorem dX11_week_65 : decode cX11_week 65 = .ok (.iconst 2, 1) := de5 hX11_week_65 0 rfl rfl
theorem dX11_week_66 : decode cX11_week 66 = .ok (.if_icmp .ne 10, 3) := de160 hX11_week_65 1 rfl rfl (by decide +kernel)
theorem dX11_week_69 : decode cX11_week 69 = .ok (.aload_n 0, 1) := de42 hX11_week_65 4 rfl rfl
theorem dX11_week_70 : decode cX11_week 70 = .ok (.getfield 240, 3) := de180 hX11_week_65 5 rfl rfl rfl
theorem dX11_week_73 : decode cX11_week 73 = .ok (.goto 7, 3) := de167 hX11_week_65 8 rfl rfl (by decide +kernel)
theorem dX11_week_76 : decode cX11_week 76 = .ok (.aload_n 0, 1) := de42 hX11_week_65 11 rfl rfl
theorem dX11_week_77 : decode cX11_week 77 = .ok (.getfield 243, 3) := de180 hX11_week_65 12 rfl rfl rfl
theorem dX11_week_80 : decode cX11_week 80 = .ok (.istore 4, 2) := de54 hX11_week_65 15 rfl rfl rfl
theorem dX11_week_82 : decode cX11_week 82 = .ok (.iload 4, 2) := de21 hX11_week_65 17 rfl rfl rfl
theorem dX11_week_84 : decode cX11_week 84 = .ok (.ifCond .ge 8, 3) := de156 hX11_week_65 19 rfl rfl (by decide +kernel)
theorem dX11_week_87 : decode cX11_week 87 = .ok (.bipush (-6), 2) := de16 hX11_week_65 22 rfl rfl rfl
theorem dX11_week_89 : decode cX11_week 89 = .ok (.goto 32, 3) := de167 hX11_week_65 24 rfl rfl (by decide +kernel)
theorem hX11_week_92 : bHas cX11_week 92 [16, 100, 42, 180, 0, 70, 21, 4, 46, 104, 16, 10, 42, 180, 0, 73, 21, 4, 46, 104] := bH_c (n := 20) (by decide +kernel)
theorem dX11_week_92 : decode cX11_week 92 = .ok (.bipush 100, 2) := de16 hX11_week_92 0 rfl rfl rfl
theorem dX11_week_94 : decode cX11_week 94 = .ok (.aload_n 0, 1) := de42 hX11_week_92 2 rfl rfl
theorem dX11_week_95 : decode cX11_week 95 = .ok (.getfield 70, 3) := de180 hX11_week_92 3 rfl rfl rfl
theorem dX11_week_98 : decode cX11_week 98 = .ok (.iload 4, 2) := de21 hX11_week_92 6 rfl rfl rfl
theorem dX11_week_100 : decode cX11_week 100 = .ok (.iaload, 1) := de46 hX11_week_92 8 rfl rfl
theorem dX11_week_101 : decode cX11_week 101 = .ok (.imul, 1) := de104 hX11_week_92 9 rfl rfl
theorem dX11_week_102 : decode cX11_week 102 = .ok (.bipush 10, 2) := de16 hX11_week_92 10 rfl rfl rfl
theorem dX11_week_104 : decode cX11_week 104 = .ok (.aload_n 0, 1) := de42 hX11_week_92 12 rfl rfl
theorem dX11_week_105 : decode cX11_week 105 = .ok (.getfield 73, 3) := de180 hX11_week_92 13 rfl rfl rfl
theorem dX11_week_108 : decode cX11_week 108 = .ok (.iload 4, 2) := de21 hX11_week_92 16 rfl rfl rfl
theorem dX11_week_110 : decode cX11_week 110 = .ok (.iaload, 1) := de46 hX11_week_92 18 rfl rfl
theorem dX11_week_111 : decode cX11_week 111 = .ok (.imul, 1) := de104 hX11_week_92 19 rfl rfl
theorem hX11_week_112 : bHas cX11_week 112 [96, 42, 180, 0, 76, 21, 4, 46, 96, 172] := bH_c (n := 10) (by decide +kernel)
theorem dX11_week_112 : decode cX11_week 112 = .ok (.iadd, 1) := de96 hX11_week_112 0 rfl rfl
theorem dX11_week_113 : decode cX11_week 113 = .ok (.aload_n 0, 1) := de42 hX11_week_112 1 rfl rfl
theorem dX11_week_114 : decode cX11_week 114 = .ok (.getfield 76, 3) := de180 hX11_week_112 2 rfl rfl rfl
theorem dX11_week_117 : decode cX11_week 117 = .ok (.iload 4, 2) := de21 hX11_week_112 5 rfl rfl rfl
theorem dX11_week_119 : decode cX11_week 119 = .ok (.iaload, 1) := de46 hX11_week_112 7 rfl rfl
theorem dX11_week_120 : decode cX11_week 120 = .ok (.iadd, 1) := de96 hX11_week_112 8 rfl rfl
theorem dX11_week_121 : decode cX11_week 121 = .ok (.ireturn, 1) := de172 hX11_week_112 9 rfl rfl
theorem hX11_findDifferences_0 : bHas cX11_findDifferences 0 [42, 182, 0, 212, 42, 3, 181, 0, 255, 3, 61, 28, 16, 28, 162, 0, 85, 42, 180, 0, 61] := bH_c (n := 21) (by decide +kernel)
theorem dX11_findDifferences_0 : decode cX11_findDifferences 0 = .ok (.aload_n 0, 1) := de42 hX11_findDifferences_0 0 rfl rfl
theorem dX11_findDifferences_1 : decode cX11_findDifferences 1 = .ok (.invokevirtual 212, 3) := de182 hX11_findDifferences_0 1 rfl rfl rfl
theorem dX11_findDifferences_4 : decode cX11_findDifferences 4 = .ok (.aload_n 0, 1) := de42 hX11_findDifferences_0 4 rfl rfl
theorem dX11_findDifferences_5 : decode cX11_findDifferences 5 = .ok (.iconst 0, 1) := de3 hX11_findDifferences_0 5 rfl rfl
theorem dX11_findDifferences_6 : decode cX11_findDifferences 6 = .ok (.putfield 255, 3) := de181 hX11_findDifferences_0 6 rfl rfl rfl
theorem dX11_findDifferences_9 : decode cX11_findDifferences 9 = .ok (.iconst 0, 1) := de3 hX11_findDifferences_0 9 rfl rfl
theorem dX11_findDifferences_10 : decode cX11_findDifferences 10 = .ok (.istore_n 2, 1) := de61 hX11_findDifferences_0 10 rfl rfl
theorem dX11_findDifferences_11 : decode cX11_findDifferences 11 = .ok (.iload_n 2, 1) := de28 hX11_findDifferences_0 11 rfl rfl
theorem dX11_findDifferences_12 : decode cX11_findDifferences 12 = .ok (.bipush 28, 2) := de16 hX11_findDifferences_0 12 rfl rfl rfl
theorem dX11_findDifferences_14 : decode cX11_findDifferences 14 = .ok (.if_icmp .ge 85, 3) := de162 hX11_findDifferences_0 14 rfl rfl (by decide +kernel)
theorem dX11_findDifferences_17 : decode cX11_findDifferences 17 = .ok (.aload_n 0, 1) := de42 hX11_findDifferences_0 17 rfl rfl
theorem dX11_findDifferences_18 : decode cX11_findDifferences 18 = .ok (.getfield 61, 3) := de180 hX11_findDifferences_0 18 rfl rfl rfl
theorem hX11_findDifferences_21 : bHas cX11_findDifferences 21 [27, 28, 184, 0, 139, 46, 155, 0, 66, 42, 180, 0, 58, 27, 28, 184, 0, 139, 46, 155, 0, 53] := bH_c (n := 22) (by decide +kernel)
theorem dX11_findDifferences_21 : decode cX11_findDifferences 21 = .ok (.iload_n 1, 1) := de27 hX11_findDifferences_21 0 rfl rfl
theorem dX11_findDifferences_22 : decode cX11_findDifferences 22 = .ok (.iload_n 2, 1) := de28 hX11_findDifferences_21 1 rfl rfl
theorem dX11_findDifferences_23 : decode cX11_findDifferences 23 = .ok (.invokestatic 139, 3) := de184 hX11_findDifferences_21 2 rfl rfl rfl
theorem dX11_findDifferences_26 : decode cX11_findDifferences 26 = .ok (.iaload, 1) := de46 hX11_findDifferences_21 5 rfl rfl
theorem dX11_findDifferences_27 : decode cX11_findDifferences 27 = .ok (.ifCond .lt 66, 3) := de155 hX11_findDifferences_21 6 rfl rfl (by decide +kernel)
theorem dX11_findDifferences_30 : decode cX11_findDifferences 30 = .ok (.aload_n 0, 1) := de42 hX11_findDifferences_21 9 rfl rfl
theorem dX11_findDifferences_31 : decode cX11_findDifferences 31 = .ok (.getfield 58, 3) := de180 hX11_findDifferences_21 10 rfl rfl rfl
theorem dX11_findDifferences_34 : decode cX11_findDifferences 34 = .ok (.iload_n 1, 1) := de27 hX11_findDifferences_21 13 rfl rfl
theorem dX11_findDifferences_35 : decode cX11_findDifferences 35 = .ok (.iload_n 2, 1) := de28 hX11_findDifferences_21 14 rfl rfl
theorem dX11_findDifferences_36 : decode cX11_findDifferences 36 = .ok (.invokestatic 139, 3) := de184 hX11_findDifferences_21 15 rfl rfl rfl
theorem dX11_findDifferences_39 : decode cX11_findDifferences 39 = .ok (.iaload, 1) := de46 hX11_findDifferences_21 18 rfl rfl
theorem dX11_findDifferences_40 : decode cX11_findDifferences 40 = .ok (.ifCond .lt 53, 3) := de155 hX11_findDifferences_21 19 rfl rfl (by decide +kernel)
theorem hX11_findDifferences_43 : bHas cX11_findDifferences 43 [42, 180, 0, 79, 42, 180, 0, 255, 42, 180, 0, 61, 27, 28, 184, 0, 139, 46, 42, 180, 0, 58] := bH_c (n := 22) (by decide +kernel)
theorem dX11_findDifferences_43 : decode cX11_findDifferences 43 = .ok (.aload_n 0, 1) := de42 hX11_findDifferences_43 0 rfl rfl
theorem dX11_findDifferences_44 : decode cX11_findDifferences 44 = .ok (.getfield 79, 3) := de180 hX11_findDifferences_43 1 rfl rfl rfl
theorem dX11_findDifferences_47 : decode cX11_findDifferences 47 = .ok (.aload_n 0, 1) := de42 hX11_findDifferences_43 4 rfl rfl
theorem dX11_findDifferences_48 : decode cX11_findDifferences 48 = .ok (.getfield 255, 3) := de180 hX11_findDifferences_43 5 rfl rfl rfl
theorem dX11_findDifferences_51 : decode cX11_findDifferences 51 = .ok (.aload_n 0, 1) := de42 hX11_findDifferences_43 8 rfl rfl
theorem dX11_findDifferences_52 : decode cX11_findDifferences 52 = .ok (.getfield 61, 3) := de180 hX11_findDifferences_43 9 rfl rfl rfl
theorem dX11_findDifferences_55 : decode cX11_findDifferences 55 = .ok (.iload_n 1, 1) := de27 hX11_findDifferences_43 12 rfl rfl
theorem dX11_findDifferences_56 : decode cX11_findDifferences 56 = .ok (.iload_n 2, 1) := de28 hX11_findDifferences_43 13 rfl rfl
theorem dX11_findDifferences_57 : decode cX11_findDifferences 57 = .ok (.invokestatic 139, 3) := de184 hX11_findDifferences_43 14 rfl rfl rfl
theorem dX11_findDifferences_60 : decode cX11_findDifferences 60 = .ok (.iaload, 1) := de46 hX11_findDifferences_43 17 rfl rfl
theorem dX11_findDifferences_61 : decode cX11_findDifferences 61 = .ok (.aload_n 0, 1) := de42 hX11_findDifferences_43 18 rfl rfl
theorem dX11_findDifferences_62 : decode cX11_findDifferences 62 = .ok (.getfield 58, 3) := de180 hX11_findDifferences_43 19 rfl rfl rfl
theorem hX11_findDifferences_65 : bHas cX11_findDifferences 65 [27, 28, 184, 0, 139, 46, 100, 79, 42, 180, 0, 82, 42, 180, 0, 255, 28, 79] := bH_c (n := 18) (by decide +kernel)
theorem dX11_findDifferences_65 : decode cX11_findDifferences 65 = .ok (.iload_n 1, 1) := de27 hX11_findDifferences_65 0 rfl rfl
theorem dX11_findDifferences_66 : decode cX11_findDifferences 66 = .ok (.iload_n 2, 1) := de28 hX11_findDifferences_65 1 rfl rfl
theorem dX11_findDifferences_67 : decode cX11_findDifferences 67 = .ok (.invokestatic 139, 3) := de184 hX11_findDifferences_65 2 rfl rfl rfl
theorem dX11_findDifferences_70 : decode cX11_findDifferences 70 = .ok (.iaload, 1) := de46 hX11_findDifferences_65 5 rfl rfl
theorem dX11_findDifferences_71 : decode cX11_findDifferences 71 = .ok (.isub, 1) := de100 hX11_findDifferences_65 6 rfl rfl
theorem dX11_findDifferences_72 : decode cX11_findDifferences 72 = .ok (.iastore, 1) := de79 hX11_findDifferences_65 7 rfl rfl
theorem dX11_findDifferences_73 : decode cX11_findDifferences 73 = .ok (.aload_n 0, 1) := de42 hX11_findDifferences_65 8 rfl rfl
theorem dX11_findDifferences_74 : decode cX11_findDifferences 74 = .ok (.getfield 82, 3) := de180 hX11_findDifferences_65 9 rfl rfl rfl
theorem dX11_findDifferences_77 : decode cX11_findDifferences 77 = .ok (.aload_n 0, 1) := de42 hX11_findDifferences_65 12 rfl rfl
theorem dX11_findDifferences_78 : decode cX11_findDifferences 78 = .ok (.getfield 255, 3) := de180 hX11_findDifferences_65 13 rfl rfl rfl
theorem dX11_findDifferences_81 : decode cX11_findDifferences 81 = .ok (.iload_n 2, 1) := de28 hX11_findDifferences_65 16 rfl rfl
theorem dX11_findDifferences_82 : decode cX11_findDifferences 82 = .ok (.iastore, 1) := de79 hX11_findDifferences_65 17 rfl rfl
theorem hX11_findDifferences_83 : bHas cX11_findDifferences 83 [42, 89, 180, 0, 255, 4, 96, 181, 0, 255, 132, 2, 1, 167, 255, 171, 177] := bH_c (n := 17) (by decide +kernel)
theorem dX11_findDifferences_83 : decode cX11_findDifferences 83 = .ok (.aload_n 0, 1) := de42 hX11_findDifferences_83 0 rfl rfl
theorem dX11_findDifferences_84 : decode cX11_findDifferences 84 = .ok (.dup, 1) := de89 hX11_findDifferences_83 1 rfl rfl
theorem dX11_findDifferences_85 : decode cX11_findDifferences 85 = .ok (.getfield 255, 3) := de180 hX11_findDifferences_83 2 rfl rfl rfl
theorem dX11_findDifferences_88 : decode cX11_findDifferences 88 = .ok (.iconst 1, 1) := de4 hX11_findDifferences_83 5 rfl rfl
theorem dX11_findDifferences_89 : decode cX11_findDifferences 89 = .ok (.iadd, 1) := de96 hX11_findDifferences_83 6 rfl rfl
theorem dX11_findDifferences_90 : decode cX11_findDifferences 90 = .ok (.putfield 255, 3) := de181 hX11_findDifferences_83 7 rfl rfl rfl
theorem dX11_findDifferences_93 : decode cX11_findDifferences 93 = .ok (.iinc 2 1, 3) := de132 hX11_findDifferences_83 10 rfl rfl rfl rfl
theorem dX11_findDifferences_96 : decode cX11_findDifferences 96 = .ok (.goto (-85), 3) := de167 hX11_findDifferences_83 13 rfl rfl (by decide +kernel)
theorem dX11_findDifferences_99 : decode cX11_findDifferences 99 = .ok (.return_, 1) := de177 hX11_findDifferences_83 16 rfl rfl
theorem hX11_findPart_0 : bHas cX11_findPart 0 [9, 64, 3, 62, 29, 42, 180, 0, 255, 162, 0, 19, 31, 42, 180, 0, 79, 29] := bH_c (n := 18) (by decide +kernel)
theorem dX11_findPart_0 : decode cX11_findPart 0 = .ok (.lconst 0, 1) := de9 hX11_findPart_0 0 rfl rfl
theorem dX11_findPart_1 : decode cX11_findPart 1 = .ok (.lstore_n 1, 1) := de64 hX11_findPart_0 1 rfl rfl
theorem dX11_findPart_2 : decode cX11_findPart 2 = .ok (.iconst 0, 1) := de3 hX11_findPart_0 2 rfl rfl
theorem dX11_findPart_3 : decode cX11_findPart 3 = .ok (.istore_n 3, 1) := de62 hX11_findPart_0 3 rfl rfl
theorem dX11_findPart_4 : decode cX11_findPart 4 = .ok (.iload_n 3, 1) := de29 hX11_findPart_0 4 rfl rfl
theorem dX11_findPart_5 : decode cX11_findPart 5 = .ok (.aload_n 0, 1) := de42 hX11_findPart_0 5 rfl rfl
theorem dX11_findPart_6 : decode cX11_findPart 6 = .ok (.getfield 255, 3) := de180 hX11_findPart_0 6 rfl rfl rfl
theorem dX11_findPart_9 : decode cX11_findPart 9 = .ok (.if_icmp .ge 19, 3) := de162 hX11_findPart_0 9 rfl rfl (by decide +kernel)
theorem dX11_findPart_12 : decode cX11_findPart 12 = .ok (.lload_n 1, 1) := de31 hX11_findPart_0 12 rfl rfl
theorem dX11_findPart_13 : decode cX11_findPart 13 = .ok (.aload_n 0, 1) := de42 hX11_findPart_0 13 rfl rfl
theorem dX11_findPart_14 : decode cX11_findPart 14 = .ok (.getfield 79, 3) := de180 hX11_findPart_0 14 rfl rfl rfl
theorem dX11_findPart_17 : decode cX11_findPart 17 = .ok (.iload_n 3, 1) := de29 hX11_findPart_0 17 rfl rfl
theorem hX11_findPart_18 : bHas cX11_findPart 18 [46, 133, 97, 64, 132, 3, 1, 167, 255, 235, 42, 16, 250, 181, 1, 2, 9, 66, 3] := bH_c (n := 19) (by decide +kernel)
theorem dX11_findPart_18 : decode cX11_findPart 18 = .ok (.iaload, 1) := de46 hX11_findPart_18 0 rfl rfl
theorem dX11_findPart_19 : decode cX11_findPart 19 = .ok (.i2l, 1) := de133 hX11_findPart_18 1 rfl rfl
theorem dX11_findPart_20 : decode cX11_findPart 20 = .ok (.ladd, 1) := de97 hX11_findPart_18 2 rfl rfl
theorem dX11_findPart_21 : decode cX11_findPart 21 = .ok (.lstore_n 1, 1) := de64 hX11_findPart_18 3 rfl rfl
theorem dX11_findPart_22 : decode cX11_findPart 22 = .ok (.iinc 3 1, 3) := de132 hX11_findPart_18 4 rfl rfl rfl rfl
theorem dX11_findPart_25 : decode cX11_findPart 25 = .ok (.goto (-21), 3) := de167 hX11_findPart_18 7 rfl rfl (by decide +kernel)
theorem dX11_findPart_28 : decode cX11_findPart 28 = .ok (.aload_n 0, 1) := de42 hX11_findPart_18 10 rfl rfl
theorem dX11_findPart_29 : decode cX11_findPart 29 = .ok (.bipush (-6), 2) := de16 hX11_findPart_18 11 rfl rfl rfl
theorem dX11_findPart_31 : decode cX11_findPart 31 = .ok (.putfield 258, 3) := de181 hX11_findPart_18 13 rfl rfl rfl
theorem dX11_findPart_34 : decode cX11_findPart 34 = .ok (.lconst 0, 1) := de9 hX11_findPart_18 16 rfl rfl
theorem dX11_findPart_35 : decode cX11_findPart 35 = .ok (.lstore_n 3, 1) := de66 hX11_findPart_18 17 rfl rfl
theorem dX11_findPart_36 : decode cX11_findPart 36 = .ok (.iconst 0, 1) := de3 hX11_findPart_18 18 rfl rfl
theorem hX11_findPart_37 : bHas cX11_findPart 37 [54, 5, 21, 5, 42, 180, 0, 255, 162, 0, 122, 42, 180, 0, 255, 21, 5, 100, 54, 6, 21, 5, 7] := bH_c (n := 23) (by decide +kernel)
theorem dX11_findPart_37 : decode cX11_findPart 37 = .ok (.istore 5, 2) := de54 hX11_findPart_37 0 rfl rfl rfl
theorem dX11_findPart_39 : decode cX11_findPart 39 = .ok (.iload 5, 2) := de21 hX11_findPart_37 2 rfl rfl rfl
theorem dX11_findPart_41 : decode cX11_findPart 41 = .ok (.aload_n 0, 1) := de42 hX11_findPart_37 4 rfl rfl
theorem dX11_findPart_42 : decode cX11_findPart 42 = .ok (.getfield 255, 3) := de180 hX11_findPart_37 5 rfl rfl rfl
theorem dX11_findPart_45 : decode cX11_findPart 45 = .ok (.if_icmp .ge 122, 3) := de162 hX11_findPart_37 8 rfl rfl (by decide +kernel)
theorem dX11_findPart_48 : decode cX11_findPart 48 = .ok (.aload_n 0, 1) := de42 hX11_findPart_37 11 rfl rfl
theorem dX11_findPart_49 : decode cX11_findPart 49 = .ok (.getfield 255, 3) := de180 hX11_findPart_37 12 rfl rfl rfl
theorem dX11_findPart_52 : decode cX11_findPart 52 = .ok (.iload 5, 2) := de21 hX11_findPart_37 15 rfl rfl rfl
theorem dX11_findPart_54 : decode cX11_findPart 54 = .ok (.isub, 1) := de100 hX11_findPart_37 17 rfl rfl
theorem dX11_findPart_55 : decode cX11_findPart 55 = .ok (.istore 6, 2) := de54 hX11_findPart_37 18 rfl rfl rfl
theorem dX11_findPart_57 : decode cX11_findPart 57 = .ok (.iload 5, 2) := de21 hX11_findPart_37 20 rfl rfl rfl
theorem dX11_findPart_59 : decode cX11_findPart 59 = .ok (.iconst 4, 1) := de7 hX11_findPart_37 22 rfl rfl
theorem hX11_findPart_60 : bHas cX11_findPart 60 [161, 0, 90, 21, 6, 7, 161, 0, 84, 33, 21, 6, 133, 105, 31, 33, 101, 21, 5] := bH_c (n := 19) (by decide +kernel)
theorem dX11_findPart_60 : decode cX11_findPart 60 = .ok (.if_icmp .lt 90, 3) := de161 hX11_findPart_60 0 rfl rfl (by decide +kernel)
theorem dX11_findPart_63 : decode cX11_findPart 63 = .ok (.iload 6, 2) := de21 hX11_findPart_60 3 rfl rfl rfl
theorem dX11_findPart_65 : decode cX11_findPart 65 = .ok (.iconst 4, 1) := de7 hX11_findPart_60 5 rfl rfl
theorem dX11_findPart_66 : decode cX11_findPart 66 = .ok (.if_icmp .lt 84, 3) := de161 hX11_findPart_60 6 rfl rfl (by decide +kernel)
theorem dX11_findPart_69 : decode cX11_findPart 69 = .ok (.lload_n 3, 1) := de33 hX11_findPart_60 9 rfl rfl
theorem dX11_findPart_70 : decode cX11_findPart 70 = .ok (.iload 6, 2) := de21 hX11_findPart_60 10 rfl rfl rfl
theorem dX11_findPart_72 : decode cX11_findPart 72 = .ok (.i2l, 1) := de133 hX11_findPart_60 12 rfl rfl
theorem dX11_findPart_73 : decode cX11_findPart 73 = .ok (.lmul, 1) := de105 hX11_findPart_60 13 rfl rfl
theorem dX11_findPart_74 : decode cX11_findPart 74 = .ok (.lload_n 1, 1) := de31 hX11_findPart_60 14 rfl rfl
theorem dX11_findPart_75 : decode cX11_findPart 75 = .ok (.lload_n 3, 1) := de33 hX11_findPart_60 15 rfl rfl
theorem dX11_findPart_76 : decode cX11_findPart 76 = .ok (.lsub, 1) := de101 hX11_findPart_60 16 rfl rfl
theorem dX11_findPart_77 : decode cX11_findPart 77 = .ok (.iload 5, 2) := de21 hX11_findPart_60 17 rfl rfl rfl
theorem hX11_findPart_79 : bHas cX11_findPart 79 [133, 105, 101, 55, 7, 22, 7, 22, 7, 105, 55, 9, 21, 5, 133, 21, 6, 133] := bH_c (n := 18) (by decide +kernel)
theorem dX11_findPart_79 : decode cX11_findPart 79 = .ok (.i2l, 1) := de133 hX11_findPart_79 0 rfl rfl
theorem dX11_findPart_80 : decode cX11_findPart 80 = .ok (.lmul, 1) := de105 hX11_findPart_79 1 rfl rfl
theorem dX11_findPart_81 : decode cX11_findPart 81 = .ok (.lsub, 1) := de101 hX11_findPart_79 2 rfl rfl
theorem dX11_findPart_82 : decode cX11_findPart 82 = .ok (.lstore 7, 2) := de55 hX11_findPart_79 3 rfl rfl rfl
theorem dX11_findPart_84 : decode cX11_findPart 84 = .ok (.lload 7, 2) := de22 hX11_findPart_79 5 rfl rfl rfl
theorem dX11_findPart_86 : decode cX11_findPart 86 = .ok (.lload 7, 2) := de22 hX11_findPart_79 7 rfl rfl rfl
theorem dX11_findPart_88 : decode cX11_findPart 88 = .ok (.lmul, 1) := de105 hX11_findPart_79 9 rfl rfl
theorem dX11_findPart_89 : decode cX11_findPart 89 = .ok (.lstore 9, 2) := de55 hX11_findPart_79 10 rfl rfl rfl
theorem dX11_findPart_91 : decode cX11_findPart 91 = .ok (.iload 5, 2) := de21 hX11_findPart_79 12 rfl rfl rfl
theorem dX11_findPart_93 : decode cX11_findPart 93 = .ok (.i2l, 1) := de133 hX11_findPart_79 14 rfl rfl
theorem dX11_findPart_94 : decode cX11_findPart 94 = .ok (.iload 6, 2) := de21 hX11_findPart_79 15 rfl rfl rfl
theorem dX11_findPart_96 : decode cX11_findPart 96 = .ok (.i2l, 1) := de133 hX11_findPart_79 17 rfl rfl
theorem hX11_findPart_97 : bHas cX11_findPart 97 [105, 55, 11, 42, 180, 1, 2, 155, 0, 21, 22, 9, 42, 180, 1, 5, 105, 42, 180, 1, 9, 22, 11] := bH_c (n := 23) (by decide +kernel)
theorem dX11_findPart_97 : decode cX11_findPart 97 = .ok (.lmul, 1) := de105 hX11_findPart_97 0 rfl rfl
theorem dX11_findPart_98 : decode cX11_findPart 98 = .ok (.lstore 11, 2) := de55 hX11_findPart_97 1 rfl rfl rfl
theorem dX11_findPart_100 : decode cX11_findPart 100 = .ok (.aload_n 0, 1) := de42 hX11_findPart_97 3 rfl rfl
theorem dX11_findPart_101 : decode cX11_findPart 101 = .ok (.getfield 258, 3) := de180 hX11_findPart_97 4 rfl rfl rfl
theorem dX11_findPart_104 : decode cX11_findPart 104 = .ok (.ifCond .lt 21, 3) := de155 hX11_findPart_97 7 rfl rfl (by decide +kernel)
theorem dX11_findPart_107 : decode cX11_findPart 107 = .ok (.lload 9, 2) := de22 hX11_findPart_97 10 rfl rfl rfl
theorem dX11_findPart_109 : decode cX11_findPart 109 = .ok (.aload_n 0, 1) := de42 hX11_findPart_97 12 rfl rfl
theorem dX11_findPart_110 : decode cX11_findPart 110 = .ok (.getfield 261, 3) := de180 hX11_findPart_97 13 rfl rfl rfl
theorem dX11_findPart_113 : decode cX11_findPart 113 = .ok (.lmul, 1) := de105 hX11_findPart_97 16 rfl rfl
theorem dX11_findPart_114 : decode cX11_findPart 114 = .ok (.aload_n 0, 1) := de42 hX11_findPart_97 17 rfl rfl
theorem dX11_findPart_115 : decode cX11_findPart 115 = .ok (.getfield 265, 3) := de180 hX11_findPart_97 18 rfl rfl rfl
theorem dX11_findPart_118 : decode cX11_findPart 118 = .ok (.lload 11, 2) := de22 hX11_findPart_97 21 rfl rfl rfl
theorem hX11_findPart_120 : bHas cX11_findPart 120 [105, 148, 158, 0, 28, 42, 21, 5, 181, 1, 2, 42, 22, 9, 181, 1, 9, 42, 22, 11, 181, 1, 5] := bH_c (n := 23) (by decide +kernel)
theorem dX11_findPart_120 : decode cX11_findPart 120 = .ok (.lmul, 1) := de105 hX11_findPart_120 0 rfl rfl
theorem dX11_findPart_121 : decode cX11_findPart 121 = .ok (.lcmp, 1) := de148 hX11_findPart_120 1 rfl rfl
theorem dX11_findPart_122 : decode cX11_findPart 122 = .ok (.ifCond .le 28, 3) := de158 hX11_findPart_120 2 rfl rfl (by decide +kernel)
theorem dX11_findPart_125 : decode cX11_findPart 125 = .ok (.aload_n 0, 1) := de42 hX11_findPart_120 5 rfl rfl
theorem dX11_findPart_126 : decode cX11_findPart 126 = .ok (.iload 5, 2) := de21 hX11_findPart_120 6 rfl rfl rfl
theorem dX11_findPart_128 : decode cX11_findPart 128 = .ok (.putfield 258, 3) := de181 hX11_findPart_120 8 rfl rfl rfl
theorem dX11_findPart_131 : decode cX11_findPart 131 = .ok (.aload_n 0, 1) := de42 hX11_findPart_120 11 rfl rfl
theorem dX11_findPart_132 : decode cX11_findPart 132 = .ok (.lload 9, 2) := de22 hX11_findPart_120 12 rfl rfl rfl
theorem dX11_findPart_134 : decode cX11_findPart 134 = .ok (.putfield 265, 3) := de181 hX11_findPart_120 14 rfl rfl rfl
theorem dX11_findPart_137 : decode cX11_findPart 137 = .ok (.aload_n 0, 1) := de42 hX11_findPart_120 17 rfl rfl
theorem dX11_findPart_138 : decode cX11_findPart 138 = .ok (.lload 11, 2) := de22 hX11_findPart_120 18 rfl rfl rfl
theorem dX11_findPart_140 : decode cX11_findPart 140 = .ok (.putfield 261, 3) := de181 hX11_findPart_120 20 rfl rfl rfl
theorem hX11_findPart_143 : bHas cX11_findPart 143 [42, 22, 7, 117, 181, 1, 12, 33, 42, 180, 0, 79, 21, 5, 46, 133, 97, 66] := bH_c (n := 18) (by decide +kernel)
theorem dX11_findPart_143 : decode cX11_findPart 143 = .ok (.aload_n 0, 1) := de42 hX11_findPart_143 0 rfl rfl
theorem dX11_findPart_144 : decode cX11_findPart 144 = .ok (.lload 7, 2) := de22 hX11_findPart_143 1 rfl rfl rfl
theorem dX11_findPart_146 : decode cX11_findPart 146 = .ok (.lneg, 1) := de117 hX11_findPart_143 3 rfl rfl
theorem dX11_findPart_147 : decode cX11_findPart 147 = .ok (.putfield 268, 3) := de181 hX11_findPart_143 4 rfl rfl rfl
theorem dX11_findPart_150 : decode cX11_findPart 150 = .ok (.lload_n 3, 1) := de33 hX11_findPart_143 7 rfl rfl
theorem dX11_findPart_151 : decode cX11_findPart 151 = .ok (.aload_n 0, 1) := de42 hX11_findPart_143 8 rfl rfl
theorem dX11_findPart_152 : decode cX11_findPart 152 = .ok (.getfield 79, 3) := de180 hX11_findPart_143 9 rfl rfl rfl
theorem dX11_findPart_155 : decode cX11_findPart 155 = .ok (.iload 5, 2) := de21 hX11_findPart_143 12 rfl rfl rfl
theorem dX11_findPart_157 : decode cX11_findPart 157 = .ok (.iaload, 1) := de46 hX11_findPart_143 14 rfl rfl
theorem dX11_findPart_158 : decode cX11_findPart 158 = .ok (.i2l, 1) := de133 hX11_findPart_143 15 rfl rfl
theorem dX11_findPart_159 : decode cX11_findPart 159 = .ok (.ladd, 1) := de97 hX11_findPart_143 16 rfl rfl
theorem dX11_findPart_160 : decode cX11_findPart 160 = .ok (.lstore_n 3, 1) := de66 hX11_findPart_143 17 rfl rfl
theorem hX11_findPart_161 : bHas cX11_findPart 161 [132, 5, 1, 167, 255, 131, 177] := bH_c (n := 7) (by decide +kernel)
theorem dX11_findPart_161 : decode cX11_findPart 161 = .ok (.iinc 5 1, 3) := de132 hX11_findPart_161 0 rfl rfl rfl rfl
theorem dX11_findPart_164 : decode cX11_findPart 164 = .ok (.goto (-125), 3) := de167 hX11_findPart_161 3 rfl rfl (by decide +kernel)
theorem dX11_findPart_167 : decode cX11_findPart 167 = .ok (.return_, 1) := de177 hX11_findPart_161 6 rfl rfl
theorem hX11_breaks_0 : bHas cX11_breaks 0 [42, 27, 182, 0, 143, 154, 0, 7, 19, 1, 15, 172, 28, 133, 9, 10, 184, 0, 126, 154, 0, 7] := bH_c (n := 22) (by decide +kernel)
theorem dX11_breaks_0 : decode cX11_breaks 0 = .ok (.aload_n 0, 1) := de42 hX11_breaks_0 0 rfl rfl
theorem dX11_breaks_1 : decode cX11_breaks 1 = .ok (.iload_n 1, 1) := de27 hX11_breaks_0 1 rfl rfl
theorem dX11_breaks_2 : decode cX11_breaks 2 = .ok (.invokevirtual 143, 3) := de182 hX11_breaks_0 2 rfl rfl rfl
theorem dX11_breaks_5 : decode cX11_breaks 5 = .ok (.ifCond .ne 7, 3) := de154 hX11_breaks_0 5 rfl rfl (by decide +kernel)
theorem dX11_breaks_8 : decode cX11_breaks 8 = .ok (.ldc_w 271, 3) := de19 hX11_breaks_0 8 rfl rfl rfl
theorem dX11_breaks_11 : decode cX11_breaks 11 = .ok (.ireturn, 1) := de172 hX11_breaks_0 11 rfl rfl
theorem dX11_breaks_12 : decode cX11_breaks 12 = .ok (.iload_n 2, 1) := de28 hX11_breaks_0 12 rfl rfl
theorem dX11_breaks_13 : decode cX11_breaks 13 = .ok (.i2l, 1) := de133 hX11_breaks_0 13 rfl rfl
theorem dX11_breaks_14 : decode cX11_breaks 14 = .ok (.lconst 0, 1) := de9 hX11_breaks_0 14 rfl rfl
theorem dX11_breaks_15 : decode cX11_breaks 15 = .ok (.lconst 1, 1) := de10 hX11_breaks_0 15 rfl rfl
theorem dX11_breaks_16 : decode cX11_breaks 16 = .ok (.invokestatic 126, 3) := de184 hX11_breaks_0 16 rfl rfl rfl
theorem dX11_breaks_19 : decode cX11_breaks 19 = .ok (.ifCond .ne 7, 3) := de154 hX11_breaks_0 19 rfl rfl (by decide +kernel)
theorem hX11_breaks_22 : bHas cX11_breaks 22 [19, 1, 16, 172, 42, 27, 182, 1, 17, 42, 180, 0, 255, 16, 8, 162, 0, 7, 19, 1, 21, 172, 42] := bH_c (n := 23) (by decide +kernel)
theorem dX11_breaks_22 : decode cX11_breaks 22 = .ok (.ldc_w 272, 3) := de19 hX11_breaks_22 0 rfl rfl rfl
theorem dX11_breaks_25 : decode cX11_breaks 25 = .ok (.ireturn, 1) := de172 hX11_breaks_22 3 rfl rfl
theorem dX11_breaks_26 : decode cX11_breaks 26 = .ok (.aload_n 0, 1) := de42 hX11_breaks_22 4 rfl rfl
theorem dX11_breaks_27 : decode cX11_breaks 27 = .ok (.iload_n 1, 1) := de27 hX11_breaks_22 5 rfl rfl
theorem dX11_breaks_28 : decode cX11_breaks 28 = .ok (.invokevirtual 273, 3) := de182 hX11_breaks_22 6 rfl rfl rfl
theorem dX11_breaks_31 : decode cX11_breaks 31 = .ok (.aload_n 0, 1) := de42 hX11_breaks_22 9 rfl rfl
theorem dX11_breaks_32 : decode cX11_breaks 32 = .ok (.getfield 255, 3) := de180 hX11_breaks_22 10 rfl rfl rfl
theorem dX11_breaks_35 : decode cX11_breaks 35 = .ok (.bipush 8, 2) := de16 hX11_breaks_22 13 rfl rfl rfl
theorem dX11_breaks_37 : decode cX11_breaks 37 = .ok (.if_icmp .ge 7, 3) := de162 hX11_breaks_22 15 rfl rfl (by decide +kernel)
theorem dX11_breaks_40 : decode cX11_breaks 40 = .ok (.ldc_w 277, 3) := de19 hX11_breaks_22 18 rfl rfl rfl
theorem dX11_breaks_43 : decode cX11_breaks 43 = .ok (.ireturn, 1) := de172 hX11_breaks_22 21 rfl rfl
theorem dX11_breaks_44 : decode cX11_breaks 44 = .ok (.aload_n 0, 1) := de42 hX11_breaks_22 22 rfl rfl
theorem hX11_breaks_45 : bHas cX11_breaks 45 [182, 1, 22, 28, 154, 0, 15, 42, 180, 0, 82, 42, 180, 1, 2, 46, 167, 0, 13, 42, 180, 1, 12, 42] := bH_c (n := 24) (by decide +kernel)
theorem dX11_breaks_45 : decode cX11_breaks 45 = .ok (.invokevirtual 278, 3) := de182 hX11_breaks_45 0 rfl rfl rfl
theorem dX11_breaks_48 : decode cX11_breaks 48 = .ok (.iload_n 2, 1) := de28 hX11_breaks_45 3 rfl rfl
theorem dX11_breaks_49 : decode cX11_breaks 49 = .ok (.ifCond .ne 15, 3) := de154 hX11_breaks_45 4 rfl rfl (by decide +kernel)
theorem dX11_breaks_52 : decode cX11_breaks 52 = .ok (.aload_n 0, 1) := de42 hX11_breaks_45 7 rfl rfl
theorem dX11_breaks_53 : decode cX11_breaks 53 = .ok (.getfield 82, 3) := de180 hX11_breaks_45 8 rfl rfl rfl
theorem dX11_breaks_56 : decode cX11_breaks 56 = .ok (.aload_n 0, 1) := de42 hX11_breaks_45 11 rfl rfl
theorem dX11_breaks_57 : decode cX11_breaks 57 = .ok (.getfield 258, 3) := de180 hX11_breaks_45 12 rfl rfl rfl
theorem dX11_breaks_60 : decode cX11_breaks 60 = .ok (.iaload, 1) := de46 hX11_breaks_45 15 rfl rfl
theorem dX11_breaks_61 : decode cX11_breaks 61 = .ok (.goto 13, 3) := de167 hX11_breaks_45 16 rfl rfl (by decide +kernel)
theorem dX11_breaks_64 : decode cX11_breaks 64 = .ok (.aload_n 0, 1) := de42 hX11_breaks_45 19 rfl rfl
theorem dX11_breaks_65 : decode cX11_breaks 65 = .ok (.getfield 268, 3) := de180 hX11_breaks_45 20 rfl rfl rfl
theorem dX11_breaks_68 : decode cX11_breaks 68 = .ok (.aload_n 0, 1) := de42 hX11_breaks_45 23 rfl rfl
theorem hX11_breaks_69 : bHas cX11_breaks 69 [180, 1, 5, 109, 136, 172] := bH_c (n := 6) (by decide +kernel)
theorem dX11_breaks_69 : decode cX11_breaks 69 = .ok (.getfield 261, 3) := de180 hX11_breaks_69 0 rfl rfl rfl
theorem dX11_breaks_72 : decode cX11_breaks 72 = .ok (.ldiv, 1) := de109 hX11_breaks_69 3 rfl rfl
theorem dX11_breaks_73 : decode cX11_breaks 73 = .ok (.l2i, 1) := de136 hX11_breaks_69 4 rfl rfl
theorem dX11_breaks_74 : decode cX11_breaks 74 = .ok (.ireturn, 1) := de172 hX11_breaks_69 5 rfl rfl
theorem hX11_chance_0 : bHas cX11_chance 0 [42, 27, 182, 0, 143, 154, 0, 5, 2, 172, 28, 133, 9, 20, 1, 25, 184, 0, 126, 154, 0, 6] := bH_c (n := 22) (by decide +kernel)
theorem dX11_chance_0 : decode cX11_chance 0 = .ok (.aload_n 0, 1) := de42 hX11_chance_0 0 rfl rfl
theorem dX11_chance_1 : decode cX11_chance 1 = .ok (.iload_n 1, 1) := de27 hX11_chance_0 1 rfl rfl
theorem dX11_chance_2 : decode cX11_chance 2 = .ok (.invokevirtual 143, 3) := de182 hX11_chance_0 2 rfl rfl rfl
theorem dX11_chance_5 : decode cX11_chance 5 = .ok (.ifCond .ne 5, 3) := de154 hX11_chance_0 5 rfl rfl (by decide +kernel)
theorem dX11_chance_8 : decode cX11_chance 8 = .ok (.iconst (-1), 1) := de2 hX11_chance_0 8 rfl rfl
theorem dX11_chance_9 : decode cX11_chance 9 = .ok (.ireturn, 1) := de172 hX11_chance_0 9 rfl rfl
theorem dX11_chance_10 : decode cX11_chance 10 = .ok (.iload_n 2, 1) := de28 hX11_chance_0 10 rfl rfl
theorem dX11_chance_11 : decode cX11_chance 11 = .ok (.i2l, 1) := de133 hX11_chance_0 11 rfl rfl
theorem dX11_chance_12 : decode cX11_chance 12 = .ok (.lconst 0, 1) := de9 hX11_chance_0 12 rfl rfl
theorem dX11_chance_13 : decode cX11_chance 13 = .ok (.ldc2_w 281, 3) := de20 hX11_chance_0 13 rfl rfl rfl
theorem dX11_chance_16 : decode cX11_chance 16 = .ok (.invokestatic 126, 3) := de184 hX11_chance_0 16 rfl rfl rfl
theorem dX11_chance_19 : decode cX11_chance 19 = .ok (.ifCond .ne 6, 3) := de154 hX11_chance_0 19 rfl rfl (by decide +kernel)
theorem hX11_chance_22 : bHas cX11_chance 22 [16, 254, 172, 42, 27, 182, 1, 17, 42, 180, 0, 255, 16, 8, 162, 0, 6, 16, 251, 172, 42] := bH_c (n := 21) (by decide +kernel)
theorem dX11_chance_22 : decode cX11_chance 22 = .ok (.bipush (-2), 2) := de16 hX11_chance_22 0 rfl rfl rfl
theorem dX11_chance_24 : decode cX11_chance 24 = .ok (.ireturn, 1) := de172 hX11_chance_22 2 rfl rfl
theorem dX11_chance_25 : decode cX11_chance 25 = .ok (.aload_n 0, 1) := de42 hX11_chance_22 3 rfl rfl
theorem dX11_chance_26 : decode cX11_chance 26 = .ok (.iload_n 1, 1) := de27 hX11_chance_22 4 rfl rfl
theorem dX11_chance_27 : decode cX11_chance 27 = .ok (.invokevirtual 273, 3) := de182 hX11_chance_22 5 rfl rfl rfl
theorem dX11_chance_30 : decode cX11_chance 30 = .ok (.aload_n 0, 1) := de42 hX11_chance_22 8 rfl rfl
theorem dX11_chance_31 : decode cX11_chance 31 = .ok (.getfield 255, 3) := de180 hX11_chance_22 9 rfl rfl rfl
theorem dX11_chance_34 : decode cX11_chance 34 = .ok (.bipush 8, 2) := de16 hX11_chance_22 12 rfl rfl rfl
theorem dX11_chance_36 : decode cX11_chance 36 = .ok (.if_icmp .ge 6, 3) := de162 hX11_chance_22 14 rfl rfl (by decide +kernel)
theorem dX11_chance_39 : decode cX11_chance 39 = .ok (.bipush (-5), 2) := de16 hX11_chance_22 17 rfl rfl rfl
theorem dX11_chance_41 : decode cX11_chance 41 = .ok (.ireturn, 1) := de172 hX11_chance_22 19 rfl rfl
theorem dX11_chance_42 : decode cX11_chance 42 = .ok (.aload_n 0, 1) := de42 hX11_chance_22 20 rfl rfl
theorem hX11_chance_43 : bHas cX11_chance 43 [182, 1, 22, 42, 180, 1, 9, 66, 42, 180, 1, 5, 55, 5, 3, 54, 7, 28, 54, 8, 3] := bH_c (n := 21) (by decide +kernel)
theorem dX11_chance_43 : decode cX11_chance 43 = .ok (.invokevirtual 278, 3) := de182 hX11_chance_43 0 rfl rfl rfl
theorem dX11_chance_46 : decode cX11_chance 46 = .ok (.aload_n 0, 1) := de42 hX11_chance_43 3 rfl rfl
theorem dX11_chance_47 : decode cX11_chance 47 = .ok (.getfield 265, 3) := de180 hX11_chance_43 4 rfl rfl rfl
theorem dX11_chance_50 : decode cX11_chance 50 = .ok (.lstore_n 3, 1) := de66 hX11_chance_43 7 rfl rfl
theorem dX11_chance_51 : decode cX11_chance 51 = .ok (.aload_n 0, 1) := de42 hX11_chance_43 8 rfl rfl
theorem dX11_chance_52 : decode cX11_chance 52 = .ok (.getfield 261, 3) := de180 hX11_chance_43 9 rfl rfl rfl
theorem dX11_chance_55 : decode cX11_chance 55 = .ok (.lstore 5, 2) := de55 hX11_chance_43 12 rfl rfl rfl
theorem dX11_chance_57 : decode cX11_chance 57 = .ok (.iconst 0, 1) := de3 hX11_chance_43 14 rfl rfl
theorem dX11_chance_58 : decode cX11_chance 58 = .ok (.istore 7, 2) := de54 hX11_chance_43 15 rfl rfl rfl
theorem dX11_chance_60 : decode cX11_chance 60 = .ok (.iload_n 2, 1) := de28 hX11_chance_43 17 rfl rfl
theorem dX11_chance_61 : decode cX11_chance 61 = .ok (.istore 8, 2) := de54 hX11_chance_43 18 rfl rfl rfl
theorem dX11_chance_63 : decode cX11_chance 63 = .ok (.iconst 0, 1) := de3 hX11_chance_43 20 rfl rfl
theorem hX11_chance_64 : bHas cX11_chance 64 [54, 9, 21, 9, 16, 99, 162, 0, 114, 42, 180, 0, 255, 4, 100, 54, 10, 21, 10, 158, 0, 64, 21, 8] := bH_c (n := 24) (by decide +kernel)
theorem dX11_chance_64 : decode cX11_chance 64 = .ok (.istore 9, 2) := de54 hX11_chance_64 0 rfl rfl rfl
theorem dX11_chance_66 : decode cX11_chance 66 = .ok (.iload 9, 2) := de21 hX11_chance_64 2 rfl rfl rfl
theorem dX11_chance_68 : decode cX11_chance 68 = .ok (.bipush 99, 2) := de16 hX11_chance_64 4 rfl rfl rfl
theorem dX11_chance_70 : decode cX11_chance 70 = .ok (.if_icmp .ge 114, 3) := de162 hX11_chance_64 6 rfl rfl (by decide +kernel)
theorem dX11_chance_73 : decode cX11_chance 73 = .ok (.aload_n 0, 1) := de42 hX11_chance_64 9 rfl rfl
theorem dX11_chance_74 : decode cX11_chance 74 = .ok (.getfield 255, 3) := de180 hX11_chance_64 10 rfl rfl rfl
theorem dX11_chance_77 : decode cX11_chance 77 = .ok (.iconst 1, 1) := de4 hX11_chance_64 13 rfl rfl
theorem dX11_chance_78 : decode cX11_chance 78 = .ok (.isub, 1) := de100 hX11_chance_64 14 rfl rfl
theorem dX11_chance_79 : decode cX11_chance 79 = .ok (.istore 10, 2) := de54 hX11_chance_64 15 rfl rfl rfl
theorem dX11_chance_81 : decode cX11_chance 81 = .ok (.iload 10, 2) := de21 hX11_chance_64 17 rfl rfl rfl
theorem dX11_chance_83 : decode cX11_chance 83 = .ok (.ifCond .le 64, 3) := de158 hX11_chance_64 19 rfl rfl (by decide +kernel)
theorem dX11_chance_86 : decode cX11_chance 86 = .ok (.iload 8, 2) := de21 hX11_chance_64 22 rfl rfl rfl
theorem hX11_chance_88 : bHas cX11_chance 88 [16, 75, 104, 16, 74, 96, 19, 1, 27, 112, 54, 8, 21, 8, 21, 10, 4, 96, 112] := bH_c (n := 19) (by decide +kernel)
theorem dX11_chance_88 : decode cX11_chance 88 = .ok (.bipush 75, 2) := de16 hX11_chance_88 0 rfl rfl rfl
theorem dX11_chance_90 : decode cX11_chance 90 = .ok (.imul, 1) := de104 hX11_chance_88 2 rfl rfl
theorem dX11_chance_91 : decode cX11_chance 91 = .ok (.bipush 74, 2) := de16 hX11_chance_88 3 rfl rfl rfl
theorem dX11_chance_93 : decode cX11_chance 93 = .ok (.iadd, 1) := de96 hX11_chance_88 5 rfl rfl
theorem dX11_chance_94 : decode cX11_chance 94 = .ok (.ldc_w 283, 3) := de19 hX11_chance_88 6 rfl rfl rfl
theorem dX11_chance_97 : decode cX11_chance 97 = .ok (.irem, 1) := de112 hX11_chance_88 9 rfl rfl
theorem dX11_chance_98 : decode cX11_chance 98 = .ok (.istore 8, 2) := de54 hX11_chance_88 10 rfl rfl rfl
theorem dX11_chance_100 : decode cX11_chance 100 = .ok (.iload 8, 2) := de21 hX11_chance_88 12 rfl rfl rfl
theorem dX11_chance_102 : decode cX11_chance 102 = .ok (.iload 10, 2) := de21 hX11_chance_88 14 rfl rfl rfl
theorem dX11_chance_104 : decode cX11_chance 104 = .ok (.iconst 1, 1) := de4 hX11_chance_88 16 rfl rfl
theorem dX11_chance_105 : decode cX11_chance 105 = .ok (.iadd, 1) := de96 hX11_chance_88 17 rfl rfl
theorem dX11_chance_106 : decode cX11_chance 106 = .ok (.irem, 1) := de112 hX11_chance_88 18 rfl rfl
theorem hX11_chance_107 : bHas cX11_chance 107 [54, 11, 42, 180, 0, 79, 21, 10, 46, 54, 12, 42, 180, 0, 79, 21, 10, 42, 180, 0, 79, 21, 11] := bH_c (n := 23) (by decide +kernel)
theorem dX11_chance_107 : decode cX11_chance 107 = .ok (.istore 11, 2) := de54 hX11_chance_107 0 rfl rfl rfl
theorem dX11_chance_109 : decode cX11_chance 109 = .ok (.aload_n 0, 1) := de42 hX11_chance_107 2 rfl rfl
theorem dX11_chance_110 : decode cX11_chance 110 = .ok (.getfield 79, 3) := de180 hX11_chance_107 3 rfl rfl rfl
theorem dX11_chance_113 : decode cX11_chance 113 = .ok (.iload 10, 2) := de21 hX11_chance_107 6 rfl rfl rfl
theorem dX11_chance_115 : decode cX11_chance 115 = .ok (.iaload, 1) := de46 hX11_chance_107 8 rfl rfl
theorem dX11_chance_116 : decode cX11_chance 116 = .ok (.istore 12, 2) := de54 hX11_chance_107 9 rfl rfl rfl
theorem dX11_chance_118 : decode cX11_chance 118 = .ok (.aload_n 0, 1) := de42 hX11_chance_107 11 rfl rfl
theorem dX11_chance_119 : decode cX11_chance 119 = .ok (.getfield 79, 3) := de180 hX11_chance_107 12 rfl rfl rfl
theorem dX11_chance_122 : decode cX11_chance 122 = .ok (.iload 10, 2) := de21 hX11_chance_107 15 rfl rfl rfl
theorem dX11_chance_124 : decode cX11_chance 124 = .ok (.aload_n 0, 1) := de42 hX11_chance_107 17 rfl rfl
theorem dX11_chance_125 : decode cX11_chance 125 = .ok (.getfield 79, 3) := de180 hX11_chance_107 18 rfl rfl rfl
theorem dX11_chance_128 : decode cX11_chance 128 = .ok (.iload 11, 2) := de21 hX11_chance_107 21 rfl rfl rfl
theorem hX11_chance_130 : bHas cX11_chance 130 [46, 79, 42, 180, 0, 79, 21, 11, 21, 12, 79, 132, 10, 255, 167, 255, 193, 42, 182, 1, 22, 21, 7] := bH_c (n := 23) (by decide +kernel)
theorem dX11_chance_130 : decode cX11_chance 130 = .ok (.iaload, 1) := de46 hX11_chance_130 0 rfl rfl
theorem dX11_chance_131 : decode cX11_chance 131 = .ok (.iastore, 1) := de79 hX11_chance_130 1 rfl rfl
theorem dX11_chance_132 : decode cX11_chance 132 = .ok (.aload_n 0, 1) := de42 hX11_chance_130 2 rfl rfl
theorem dX11_chance_133 : decode cX11_chance 133 = .ok (.getfield 79, 3) := de180 hX11_chance_130 3 rfl rfl rfl
theorem dX11_chance_136 : decode cX11_chance 136 = .ok (.iload 11, 2) := de21 hX11_chance_130 6 rfl rfl rfl
theorem dX11_chance_138 : decode cX11_chance 138 = .ok (.iload 12, 2) := de21 hX11_chance_130 8 rfl rfl rfl
theorem dX11_chance_140 : decode cX11_chance 140 = .ok (.iastore, 1) := de79 hX11_chance_130 10 rfl rfl
theorem dX11_chance_141 : decode cX11_chance 141 = .ok (.iinc 10 (-1), 3) := de132 hX11_chance_130 11 rfl rfl rfl rfl
theorem dX11_chance_144 : decode cX11_chance 144 = .ok (.goto (-63), 3) := de167 hX11_chance_130 14 rfl rfl (by decide +kernel)
theorem dX11_chance_147 : decode cX11_chance 147 = .ok (.aload_n 0, 1) := de42 hX11_chance_130 17 rfl rfl
theorem dX11_chance_148 : decode cX11_chance 148 = .ok (.invokevirtual 278, 3) := de182 hX11_chance_130 18 rfl rfl rfl
theorem dX11_chance_151 : decode cX11_chance 151 = .ok (.iload 7, 2) := de21 hX11_chance_130 21 rfl rfl rfl
theorem hX11_chance_153 : bHas cX11_chance 153 [42, 180, 1, 9, 22, 5, 105, 33, 42, 180, 1, 5, 105, 148, 155, 0, 7, 4, 167, 0, 4] := bH_c (n := 21) (by decide +kernel)
theorem dX11_chance_153 : decode cX11_chance 153 = .ok (.aload_n 0, 1) := de42 hX11_chance_153 0 rfl rfl
theorem dX11_chance_154 : decode cX11_chance 154 = .ok (.getfield 265, 3) := de180 hX11_chance_153 1 rfl rfl rfl
theorem dX11_chance_157 : decode cX11_chance 157 = .ok (.lload 5, 2) := de22 hX11_chance_153 4 rfl rfl rfl
theorem dX11_chance_159 : decode cX11_chance 159 = .ok (.lmul, 1) := de105 hX11_chance_153 6 rfl rfl
theorem dX11_chance_160 : decode cX11_chance 160 = .ok (.lload_n 3, 1) := de33 hX11_chance_153 7 rfl rfl
theorem dX11_chance_161 : decode cX11_chance 161 = .ok (.aload_n 0, 1) := de42 hX11_chance_153 8 rfl rfl
theorem dX11_chance_162 : decode cX11_chance 162 = .ok (.getfield 261, 3) := de180 hX11_chance_153 9 rfl rfl rfl
theorem dX11_chance_165 : decode cX11_chance 165 = .ok (.lmul, 1) := de105 hX11_chance_153 12 rfl rfl
theorem dX11_chance_166 : decode cX11_chance 166 = .ok (.lcmp, 1) := de148 hX11_chance_153 13 rfl rfl
theorem dX11_chance_167 : decode cX11_chance 167 = .ok (.ifCond .lt 7, 3) := de155 hX11_chance_153 14 rfl rfl (by decide +kernel)
theorem dX11_chance_170 : decode cX11_chance 170 = .ok (.iconst 1, 1) := de4 hX11_chance_153 17 rfl rfl
theorem dX11_chance_171 : decode cX11_chance 171 = .ok (.goto 4, 3) := de167 hX11_chance_153 18 rfl rfl (by decide +kernel)
theorem hX11_chance_174 : bHas cX11_chance 174 [3, 96, 54, 7, 132, 9, 1, 167, 255, 141, 21, 7, 172] := bH_c (n := 13) (by decide +kernel)
theorem dX11_chance_174 : decode cX11_chance 174 = .ok (.iconst 0, 1) := de3 hX11_chance_174 0 rfl rfl
theorem dX11_chance_175 : decode cX11_chance 175 = .ok (.iadd, 1) := de96 hX11_chance_174 1 rfl rfl
theorem dX11_chance_176 : decode cX11_chance 176 = .ok (.istore 7, 2) := de54 hX11_chance_174 2 rfl rfl rfl
theorem dX11_chance_178 : decode cX11_chance 178 = .ok (.iinc 9 1, 3) := de132 hX11_chance_174 4 rfl rfl rfl rfl
theorem dX11_chance_181 : decode cX11_chance 181 = .ok (.goto (-115), 3) := de167 hX11_chance_174 7 rfl rfl (by decide +kernel)
theorem dX11_chance_184 : decode cX11_chance 184 = .ok (.iload 7, 2) := de21 hX11_chance_174 10 rfl rfl rfl
theorem dX11_chance_186 : decode cX11_chance 186 = .ok (.ireturn, 1) := de172 hX11_chance_174 12 rfl rfl
theorem hX11_radar_0 : bHas cX11_radar 0 [27, 184, 0, 151, 154, 0, 5, 2, 172, 28, 29, 184, 0, 135, 153, 0, 29, 21, 4, 133, 9] := bH_c (n := 21) (by decide +kernel)
theorem dX11_radar_0 : decode cX11_radar 0 = .ok (.iload_n 1, 1) := de27 hX11_radar_0 0 rfl rfl
theorem dX11_radar_1 : decode cX11_radar 1 = .ok (.invokestatic 151, 3) := de184 hX11_radar_0 1 rfl rfl rfl
theorem dX11_radar_4 : decode cX11_radar 4 = .ok (.ifCond .ne 5, 3) := de154 hX11_radar_0 4 rfl rfl (by decide +kernel)
theorem dX11_radar_7 : decode cX11_radar 7 = .ok (.iconst (-1), 1) := de2 hX11_radar_0 7 rfl rfl
theorem dX11_radar_8 : decode cX11_radar 8 = .ok (.ireturn, 1) := de172 hX11_radar_0 8 rfl rfl
theorem dX11_radar_9 : decode cX11_radar 9 = .ok (.iload_n 2, 1) := de28 hX11_radar_0 9 rfl rfl
theorem dX11_radar_10 : decode cX11_radar 10 = .ok (.iload_n 3, 1) := de29 hX11_radar_0 10 rfl rfl
theorem dX11_radar_11 : decode cX11_radar 11 = .ok (.invokestatic 135, 3) := de184 hX11_radar_0 11 rfl rfl rfl
theorem dX11_radar_14 : decode cX11_radar 14 = .ok (.ifCond .eq 29, 3) := de153 hX11_radar_0 14 rfl rfl (by decide +kernel)
theorem dX11_radar_17 : decode cX11_radar 17 = .ok (.iload 4, 2) := de21 hX11_radar_0 17 rfl rfl rfl
theorem dX11_radar_19 : decode cX11_radar 19 = .ok (.i2l, 1) := de133 hX11_radar_0 19 rfl rfl
theorem dX11_radar_20 : decode cX11_radar 20 = .ok (.lconst 0, 1) := de9 hX11_radar_0 20 rfl rfl
theorem hX11_radar_21 : bHas cX11_radar 21 [21, 5, 133, 184, 0, 126, 153, 0, 16, 21, 5, 133, 9, 20, 0, 156, 184, 0, 126, 154, 0, 6, 16, 254, 172] := bH_c (n := 25) (by decide +kernel)
theorem dX11_radar_21 : decode cX11_radar 21 = .ok (.iload 5, 2) := de21 hX11_radar_21 0 rfl rfl rfl
theorem dX11_radar_23 : decode cX11_radar 23 = .ok (.i2l, 1) := de133 hX11_radar_21 2 rfl rfl
theorem dX11_radar_24 : decode cX11_radar 24 = .ok (.invokestatic 126, 3) := de184 hX11_radar_21 3 rfl rfl rfl
theorem dX11_radar_27 : decode cX11_radar 27 = .ok (.ifCond .eq 16, 3) := de153 hX11_radar_21 6 rfl rfl (by decide +kernel)
theorem dX11_radar_30 : decode cX11_radar 30 = .ok (.iload 5, 2) := de21 hX11_radar_21 9 rfl rfl rfl
theorem dX11_radar_32 : decode cX11_radar 32 = .ok (.i2l, 1) := de133 hX11_radar_21 11 rfl rfl
theorem dX11_radar_33 : decode cX11_radar 33 = .ok (.lconst 0, 1) := de9 hX11_radar_21 12 rfl rfl
theorem dX11_radar_34 : decode cX11_radar 34 = .ok (.ldc2_w 156, 3) := de20 hX11_radar_21 13 rfl rfl rfl
theorem dX11_radar_37 : decode cX11_radar 37 = .ok (.invokestatic 126, 3) := de184 hX11_radar_21 16 rfl rfl rfl
theorem dX11_radar_40 : decode cX11_radar 40 = .ok (.ifCond .ne 6, 3) := de154 hX11_radar_21 19 rfl rfl (by decide +kernel)
theorem dX11_radar_43 : decode cX11_radar 43 = .ok (.bipush (-2), 2) := de16 hX11_radar_21 22 rfl rfl rfl
theorem dX11_radar_45 : decode cX11_radar 45 = .ok (.ireturn, 1) := de172 hX11_radar_21 24 rfl rfl
theorem hX11_radar_46 : bHas cX11_radar 46 [42, 180, 1, 28, 16, 6, 160, 0, 6, 16, 252, 172, 42, 180, 0, 85, 42, 180, 1, 28, 27, 79] := bH_c (n := 22) (by decide +kernel)
theorem dX11_radar_46 : decode cX11_radar 46 = .ok (.aload_n 0, 1) := de42 hX11_radar_46 0 rfl rfl
theorem dX11_radar_47 : decode cX11_radar 47 = .ok (.getfield 284, 3) := de180 hX11_radar_46 1 rfl rfl rfl
theorem dX11_radar_50 : decode cX11_radar 50 = .ok (.bipush 6, 2) := de16 hX11_radar_46 4 rfl rfl rfl
theorem dX11_radar_52 : decode cX11_radar 52 = .ok (.if_icmp .ne 6, 3) := de160 hX11_radar_46 6 rfl rfl (by decide +kernel)
theorem dX11_radar_55 : decode cX11_radar 55 = .ok (.bipush (-4), 2) := de16 hX11_radar_46 9 rfl rfl rfl
theorem dX11_radar_57 : decode cX11_radar 57 = .ok (.ireturn, 1) := de172 hX11_radar_46 11 rfl rfl
theorem dX11_radar_58 : decode cX11_radar 58 = .ok (.aload_n 0, 1) := de42 hX11_radar_46 12 rfl rfl
theorem dX11_radar_59 : decode cX11_radar 59 = .ok (.getfield 85, 3) := de180 hX11_radar_46 13 rfl rfl rfl
theorem dX11_radar_62 : decode cX11_radar 62 = .ok (.aload_n 0, 1) := de42 hX11_radar_46 16 rfl rfl
theorem dX11_radar_63 : decode cX11_radar 63 = .ok (.getfield 284, 3) := de180 hX11_radar_46 17 rfl rfl rfl
theorem dX11_radar_66 : decode cX11_radar 66 = .ok (.iload_n 1, 1) := de27 hX11_radar_46 20 rfl rfl
theorem dX11_radar_67 : decode cX11_radar 67 = .ok (.iastore, 1) := de79 hX11_radar_46 21 rfl rfl
theorem hX11_radar_68 : bHas cX11_radar 68 [42, 180, 0, 88, 42, 180, 1, 28, 28, 79, 42, 180, 0, 91, 42, 180, 1, 28, 29, 79] := bH_c (n := 20) (by decide +kernel)
theorem dX11_radar_68 : decode cX11_radar 68 = .ok (.aload_n 0, 1) := de42 hX11_radar_68 0 rfl rfl
theorem dX11_radar_69 : decode cX11_radar 69 = .ok (.getfield 88, 3) := de180 hX11_radar_68 1 rfl rfl rfl
theorem dX11_radar_72 : decode cX11_radar 72 = .ok (.aload_n 0, 1) := de42 hX11_radar_68 4 rfl rfl
theorem dX11_radar_73 : decode cX11_radar 73 = .ok (.getfield 284, 3) := de180 hX11_radar_68 5 rfl rfl rfl
theorem dX11_radar_76 : decode cX11_radar 76 = .ok (.iload_n 2, 1) := de28 hX11_radar_68 8 rfl rfl
theorem dX11_radar_77 : decode cX11_radar 77 = .ok (.iastore, 1) := de79 hX11_radar_68 9 rfl rfl
theorem dX11_radar_78 : decode cX11_radar 78 = .ok (.aload_n 0, 1) := de42 hX11_radar_68 10 rfl rfl
theorem dX11_radar_79 : decode cX11_radar 79 = .ok (.getfield 91, 3) := de180 hX11_radar_68 11 rfl rfl rfl
theorem dX11_radar_82 : decode cX11_radar 82 = .ok (.aload_n 0, 1) := de42 hX11_radar_68 14 rfl rfl
theorem dX11_radar_83 : decode cX11_radar 83 = .ok (.getfield 284, 3) := de180 hX11_radar_68 15 rfl rfl rfl
theorem dX11_radar_86 : decode cX11_radar 86 = .ok (.iload_n 3, 1) := de29 hX11_radar_68 18 rfl rfl
theorem dX11_radar_87 : decode cX11_radar 87 = .ok (.iastore, 1) := de79 hX11_radar_68 19 rfl rfl
theorem hX11_radar_88 : bHas cX11_radar 88 [42, 180, 0, 94, 42, 180, 1, 28, 21, 4, 79, 42, 180, 0, 97, 42, 180, 1, 28, 21, 5, 79] := bH_c (n := 22) (by decide +kernel)
theorem dX11_radar_88 : decode cX11_radar 88 = .ok (.aload_n 0, 1) := de42 hX11_radar_88 0 rfl rfl
theorem dX11_radar_89 : decode cX11_radar 89 = .ok (.getfield 94, 3) := de180 hX11_radar_88 1 rfl rfl rfl
theorem dX11_radar_92 : decode cX11_radar 92 = .ok (.aload_n 0, 1) := de42 hX11_radar_88 4 rfl rfl
theorem dX11_radar_93 : decode cX11_radar 93 = .ok (.getfield 284, 3) := de180 hX11_radar_88 5 rfl rfl rfl
theorem dX11_radar_96 : decode cX11_radar 96 = .ok (.iload 4, 2) := de21 hX11_radar_88 8 rfl rfl rfl
theorem dX11_radar_98 : decode cX11_radar 98 = .ok (.iastore, 1) := de79 hX11_radar_88 10 rfl rfl
theorem dX11_radar_99 : decode cX11_radar 99 = .ok (.aload_n 0, 1) := de42 hX11_radar_88 11 rfl rfl
theorem dX11_radar_100 : decode cX11_radar 100 = .ok (.getfield 97, 3) := de180 hX11_radar_88 12 rfl rfl rfl
theorem dX11_radar_103 : decode cX11_radar 103 = .ok (.aload_n 0, 1) := de42 hX11_radar_88 15 rfl rfl
theorem dX11_radar_104 : decode cX11_radar 104 = .ok (.getfield 284, 3) := de180 hX11_radar_88 16 rfl rfl rfl
theorem dX11_radar_107 : decode cX11_radar 107 = .ok (.iload 5, 2) := de21 hX11_radar_88 19 rfl rfl rfl
theorem dX11_radar_109 : decode cX11_radar 109 = .ok (.iastore, 1) := de79 hX11_radar_88 21 rfl rfl
theorem hX11_radar_110 : bHas cX11_radar 110 [42, 89, 180, 1, 28, 4, 96, 181, 1, 28, 42, 180, 1, 28, 4, 100, 172] := bH_c (n := 17) (by decide +kernel)
theorem dX11_radar_110 : decode cX11_radar 110 = .ok (.aload_n 0, 1) := de42 hX11_radar_110 0 rfl rfl
theorem dX11_radar_111 : decode cX11_radar 111 = .ok (.dup, 1) := de89 hX11_radar_110 1 rfl rfl
theorem dX11_radar_112 : decode cX11_radar 112 = .ok (.getfield 284, 3) := de180 hX11_radar_110 2 rfl rfl rfl
theorem dX11_radar_115 : decode cX11_radar 115 = .ok (.iconst 1, 1) := de4 hX11_radar_110 5 rfl rfl
theorem dX11_radar_116 : decode cX11_radar 116 = .ok (.iadd, 1) := de96 hX11_radar_110 6 rfl rfl
theorem dX11_radar_117 : decode cX11_radar 117 = .ok (.putfield 284, 3) := de181 hX11_radar_110 7 rfl rfl rfl
theorem dX11_radar_120 : decode cX11_radar 120 = .ok (.aload_n 0, 1) := de42 hX11_radar_110 10 rfl rfl
theorem dX11_radar_121 : decode cX11_radar 121 = .ok (.getfield 284, 3) := de180 hX11_radar_110 11 rfl rfl rfl
theorem dX11_radar_124 : decode cX11_radar 124 = .ok (.iconst 1, 1) := de4 hX11_radar_110 14 rfl rfl
theorem dX11_radar_125 : decode cX11_radar 125 = .ok (.isub, 1) := de100 hX11_radar_110 15 rfl rfl
theorem dX11_radar_126 : decode cX11_radar 126 = .ok (.ireturn, 1) := de172 hX11_radar_110 16 rfl rfl
theorem hX11_blind_0 : bHas cX11_blind 0 [42, 180, 1, 28, 60, 42, 3, 181, 1, 28, 27, 172] := bH_c (n := 12) (by decide +kernel)
theorem dX11_blind_0 : decode cX11_blind 0 = .ok (.aload_n 0, 1) := de42 hX11_blind_0 0 rfl rfl
theorem dX11_blind_1 : decode cX11_blind 1 = .ok (.getfield 284, 3) := de180 hX11_blind_0 1 rfl rfl rfl
theorem dX11_blind_4 : decode cX11_blind 4 = .ok (.istore_n 1, 1) := de60 hX11_blind_0 4 rfl rfl
theorem dX11_blind_5 : decode cX11_blind 5 = .ok (.aload_n 0, 1) := de42 hX11_blind_0 5 rfl rfl
theorem dX11_blind_6 : decode cX11_blind 6 = .ok (.iconst 0, 1) := de3 hX11_blind_0 6 rfl rfl
theorem dX11_blind_7 : decode cX11_blind 7 = .ok (.putfield 284, 3) := de181 hX11_blind_0 7 rfl rfl rfl
theorem dX11_blind_10 : decode cX11_blind 10 = .ok (.iload_n 1, 1) := de27 hX11_blind_0 10 rfl rfl
theorem dX11_blind_11 : decode cX11_blind 11 = .ok (.ireturn, 1) := de172 hX11_blind_0 11 rfl rfl
theorem hX11_hold_0 : bHas cX11_hold 0 [27, 42, 180, 0, 118, 29, 104, 100, 54, 4, 28, 42, 180, 0, 118, 29, 104] := bH_c (n := 17) (by decide +kernel)
theorem dX11_hold_0 : decode cX11_hold 0 = .ok (.iload_n 1, 1) := de27 hX11_hold_0 0 rfl rfl
theorem dX11_hold_1 : decode cX11_hold 1 = .ok (.aload_n 0, 1) := de42 hX11_hold_0 1 rfl rfl
theorem dX11_hold_2 : decode cX11_hold 2 = .ok (.getfield 118, 3) := de180 hX11_hold_0 2 rfl rfl rfl
theorem dX11_hold_5 : decode cX11_hold 5 = .ok (.iload_n 3, 1) := de29 hX11_hold_0 5 rfl rfl
theorem dX11_hold_6 : decode cX11_hold 6 = .ok (.imul, 1) := de104 hX11_hold_0 6 rfl rfl
theorem dX11_hold_7 : decode cX11_hold 7 = .ok (.isub, 1) := de100 hX11_hold_0 7 rfl rfl
theorem dX11_hold_8 : decode cX11_hold 8 = .ok (.istore 4, 2) := de54 hX11_hold_0 8 rfl rfl rfl
theorem dX11_hold_10 : decode cX11_hold 10 = .ok (.iload_n 2, 1) := de28 hX11_hold_0 10 rfl rfl
theorem dX11_hold_11 : decode cX11_hold 11 = .ok (.aload_n 0, 1) := de42 hX11_hold_0 11 rfl rfl
theorem dX11_hold_12 : decode cX11_hold 12 = .ok (.getfield 118, 3) := de180 hX11_hold_0 12 rfl rfl rfl
theorem dX11_hold_15 : decode cX11_hold 15 = .ok (.iload_n 3, 1) := de29 hX11_hold_0 15 rfl rfl
theorem dX11_hold_16 : decode cX11_hold 16 = .ok (.imul, 1) := de104 hX11_hold_0 16 rfl rfl
theorem hX11_hold_17 : bHas cX11_hold 17 [96, 54, 5, 42, 21, 4, 42, 180, 1, 31, 164, 0, 8, 21, 4, 167, 0, 7, 42, 180, 1, 31, 181, 1, 31] := bH_c (n := 25) (by decide +kernel)
theorem dX11_hold_17 : decode cX11_hold 17 = .ok (.iadd, 1) := de96 hX11_hold_17 0 rfl rfl
theorem dX11_hold_18 : decode cX11_hold 18 = .ok (.istore 5, 2) := de54 hX11_hold_17 1 rfl rfl rfl
theorem dX11_hold_20 : decode cX11_hold 20 = .ok (.aload_n 0, 1) := de42 hX11_hold_17 3 rfl rfl
theorem dX11_hold_21 : decode cX11_hold 21 = .ok (.iload 4, 2) := de21 hX11_hold_17 4 rfl rfl rfl
theorem dX11_hold_23 : decode cX11_hold 23 = .ok (.aload_n 0, 1) := de42 hX11_hold_17 6 rfl rfl
theorem dX11_hold_24 : decode cX11_hold 24 = .ok (.getfield 287, 3) := de180 hX11_hold_17 7 rfl rfl rfl
theorem dX11_hold_27 : decode cX11_hold 27 = .ok (.if_icmp .le 8, 3) := de164 hX11_hold_17 10 rfl rfl (by decide +kernel)
theorem dX11_hold_30 : decode cX11_hold 30 = .ok (.iload 4, 2) := de21 hX11_hold_17 13 rfl rfl rfl
theorem dX11_hold_32 : decode cX11_hold 32 = .ok (.goto 7, 3) := de167 hX11_hold_17 15 rfl rfl (by decide +kernel)
theorem dX11_hold_35 : decode cX11_hold 35 = .ok (.aload_n 0, 1) := de42 hX11_hold_17 18 rfl rfl
theorem dX11_hold_36 : decode cX11_hold 36 = .ok (.getfield 287, 3) := de180 hX11_hold_17 19 rfl rfl rfl
theorem dX11_hold_39 : decode cX11_hold 39 = .ok (.putfield 287, 3) := de181 hX11_hold_17 22 rfl rfl rfl
theorem hX11_hold_42 : bHas cX11_hold 42 [42, 21, 5, 42, 180, 1, 34, 162, 0, 8, 21, 5, 167, 0, 7, 42, 180, 1, 34, 181, 1, 34, 177] := bH_c (n := 23) (by decide +kernel)
theorem dX11_hold_42 : decode cX11_hold 42 = .ok (.aload_n 0, 1) := de42 hX11_hold_42 0 rfl rfl
theorem dX11_hold_43 : decode cX11_hold 43 = .ok (.iload 5, 2) := de21 hX11_hold_42 1 rfl rfl rfl
theorem dX11_hold_45 : decode cX11_hold 45 = .ok (.aload_n 0, 1) := de42 hX11_hold_42 3 rfl rfl
theorem dX11_hold_46 : decode cX11_hold 46 = .ok (.getfield 290, 3) := de180 hX11_hold_42 4 rfl rfl rfl
theorem dX11_hold_49 : decode cX11_hold 49 = .ok (.if_icmp .ge 8, 3) := de162 hX11_hold_42 7 rfl rfl (by decide +kernel)
theorem dX11_hold_52 : decode cX11_hold 52 = .ok (.iload 5, 2) := de21 hX11_hold_42 10 rfl rfl rfl
theorem dX11_hold_54 : decode cX11_hold 54 = .ok (.goto 7, 3) := de167 hX11_hold_42 12 rfl rfl (by decide +kernel)
theorem dX11_hold_57 : decode cX11_hold 57 = .ok (.aload_n 0, 1) := de42 hX11_hold_42 15 rfl rfl
theorem dX11_hold_58 : decode cX11_hold 58 = .ok (.getfield 290, 3) := de180 hX11_hold_42 16 rfl rfl rfl
theorem dX11_hold_61 : decode cX11_hold 61 = .ok (.putfield 290, 3) := de181 hX11_hold_42 19 rfl rfl rfl
theorem dX11_hold_64 : decode cX11_hold 64 = .ok (.return_, 1) := de177 hX11_hold_42 22 rfl rfl
theorem hX11_findBound_0 : bHas cX11_findBound 0 [42, 3, 181, 1, 31, 42, 17, 39, 15, 181, 1, 34, 3, 54, 4, 21, 4, 42, 180, 0, 132, 162, 0, 58] := bH_c (n := 24) (by decide +kernel)
theorem dX11_findBound_0 : decode cX11_findBound 0 = .ok (.aload_n 0, 1) := de42 hX11_findBound_0 0 rfl rfl
theorem dX11_findBound_1 : decode cX11_findBound 1 = .ok (.iconst 0, 1) := de3 hX11_findBound_0 1 rfl rfl
theorem dX11_findBound_2 : decode cX11_findBound 2 = .ok (.putfield 287, 3) := de181 hX11_findBound_0 2 rfl rfl rfl
theorem dX11_findBound_5 : decode cX11_findBound 5 = .ok (.aload_n 0, 1) := de42 hX11_findBound_0 5 rfl rfl
theorem dX11_findBound_6 : decode cX11_findBound 6 = .ok (.sipush 9999, 3) := de17 hX11_findBound_0 6 rfl rfl (by decide +kernel)
theorem dX11_findBound_9 : decode cX11_findBound 9 = .ok (.putfield 290, 3) := de181 hX11_findBound_0 9 rfl rfl rfl
theorem dX11_findBound_12 : decode cX11_findBound 12 = .ok (.iconst 0, 1) := de3 hX11_findBound_0 12 rfl rfl
theorem dX11_findBound_13 : decode cX11_findBound 13 = .ok (.istore 4, 2) := de54 hX11_findBound_0 13 rfl rfl rfl
theorem dX11_findBound_15 : decode cX11_findBound 15 = .ok (.iload 4, 2) := de21 hX11_findBound_0 15 rfl rfl rfl
theorem dX11_findBound_17 : decode cX11_findBound 17 = .ok (.aload_n 0, 1) := de42 hX11_findBound_0 17 rfl rfl
theorem dX11_findBound_18 : decode cX11_findBound 18 = .ok (.getfield 132, 3) := de180 hX11_findBound_0 18 rfl rfl rfl
theorem dX11_findBound_21 : decode cX11_findBound 21 = .ok (.if_icmp .ge 58, 3) := de162 hX11_findBound_0 21 rfl rfl (by decide +kernel)
theorem hX11_findBound_24 : bHas cX11_findBound 24 [42, 180, 0, 61, 21, 4, 27, 184, 0, 139, 46, 54, 5, 21, 5, 155, 0, 34, 42, 21, 5, 21, 5] := bH_c (n := 23) (by decide +kernel)
theorem dX11_findBound_24 : decode cX11_findBound 24 = .ok (.aload_n 0, 1) := de42 hX11_findBound_24 0 rfl rfl
theorem dX11_findBound_25 : decode cX11_findBound 25 = .ok (.getfield 61, 3) := de180 hX11_findBound_24 1 rfl rfl rfl
theorem dX11_findBound_28 : decode cX11_findBound 28 = .ok (.iload 4, 2) := de21 hX11_findBound_24 4 rfl rfl rfl
theorem dX11_findBound_30 : decode cX11_findBound 30 = .ok (.iload_n 1, 1) := de27 hX11_findBound_24 6 rfl rfl
theorem dX11_findBound_31 : decode cX11_findBound 31 = .ok (.invokestatic 139, 3) := de184 hX11_findBound_24 7 rfl rfl rfl
theorem dX11_findBound_34 : decode cX11_findBound 34 = .ok (.iaload, 1) := de46 hX11_findBound_24 10 rfl rfl
theorem dX11_findBound_35 : decode cX11_findBound 35 = .ok (.istore 5, 2) := de54 hX11_findBound_24 11 rfl rfl rfl
theorem dX11_findBound_37 : decode cX11_findBound 37 = .ok (.iload 5, 2) := de21 hX11_findBound_24 13 rfl rfl rfl
theorem dX11_findBound_39 : decode cX11_findBound 39 = .ok (.ifCond .lt 34, 3) := de155 hX11_findBound_24 15 rfl rfl (by decide +kernel)
theorem dX11_findBound_42 : decode cX11_findBound 42 = .ok (.aload_n 0, 1) := de42 hX11_findBound_24 18 rfl rfl
theorem dX11_findBound_43 : decode cX11_findBound 43 = .ok (.iload 5, 2) := de21 hX11_findBound_24 19 rfl rfl rfl
theorem dX11_findBound_45 : decode cX11_findBound 45 = .ok (.iload 5, 2) := de21 hX11_findBound_24 21 rfl rfl rfl
theorem hX11_findBound_47 : bHas cX11_findBound 47 [42, 180, 0, 7, 21, 4, 46, 28, 184, 0, 192, 42, 180, 0, 13, 21, 4, 46, 29, 184, 0, 192] := bH_c (n := 22) (by decide +kernel)
theorem dX11_findBound_47 : decode cX11_findBound 47 = .ok (.aload_n 0, 1) := de42 hX11_findBound_47 0 rfl rfl
theorem dX11_findBound_48 : decode cX11_findBound 48 = .ok (.getfield 7, 3) := de180 hX11_findBound_47 1 rfl rfl rfl
theorem dX11_findBound_51 : decode cX11_findBound 51 = .ok (.iload 4, 2) := de21 hX11_findBound_47 4 rfl rfl rfl
theorem dX11_findBound_53 : decode cX11_findBound 53 = .ok (.iaload, 1) := de46 hX11_findBound_47 6 rfl rfl
theorem dX11_findBound_54 : decode cX11_findBound 54 = .ok (.iload_n 2, 1) := de28 hX11_findBound_47 7 rfl rfl
theorem dX11_findBound_55 : decode cX11_findBound 55 = .ok (.invokestatic 192, 3) := de184 hX11_findBound_47 8 rfl rfl rfl
theorem dX11_findBound_58 : decode cX11_findBound 58 = .ok (.aload_n 0, 1) := de42 hX11_findBound_47 11 rfl rfl
theorem dX11_findBound_59 : decode cX11_findBound 59 = .ok (.getfield 13, 3) := de180 hX11_findBound_47 12 rfl rfl rfl
theorem dX11_findBound_62 : decode cX11_findBound 62 = .ok (.iload 4, 2) := de21 hX11_findBound_47 15 rfl rfl rfl
theorem dX11_findBound_64 : decode cX11_findBound 64 = .ok (.iaload, 1) := de46 hX11_findBound_47 17 rfl rfl
theorem dX11_findBound_65 : decode cX11_findBound 65 = .ok (.iload_n 3, 1) := de29 hX11_findBound_47 18 rfl rfl
theorem dX11_findBound_66 : decode cX11_findBound 66 = .ok (.invokestatic 192, 3) := de184 hX11_findBound_47 19 rfl rfl rfl
theorem hX11_findBound_69 : bHas cX11_findBound 69 [96, 182, 1, 37, 132, 4, 1, 167, 255, 195, 3, 54, 4, 21, 4, 42, 180, 1, 28, 162, 0, 61, 42, 180, 0, 85] := bH_c (n := 26) (by decide +kernel)
theorem dX11_findBound_69 : decode cX11_findBound 69 = .ok (.iadd, 1) := de96 hX11_findBound_69 0 rfl rfl
theorem dX11_findBound_70 : decode cX11_findBound 70 = .ok (.invokevirtual 293, 3) := de182 hX11_findBound_69 1 rfl rfl rfl
theorem dX11_findBound_73 : decode cX11_findBound 73 = .ok (.iinc 4 1, 3) := de132 hX11_findBound_69 4 rfl rfl rfl rfl
theorem dX11_findBound_76 : decode cX11_findBound 76 = .ok (.goto (-61), 3) := de167 hX11_findBound_69 7 rfl rfl (by decide +kernel)
theorem dX11_findBound_79 : decode cX11_findBound 79 = .ok (.iconst 0, 1) := de3 hX11_findBound_69 10 rfl rfl
theorem dX11_findBound_80 : decode cX11_findBound 80 = .ok (.istore 4, 2) := de54 hX11_findBound_69 11 rfl rfl rfl
theorem dX11_findBound_82 : decode cX11_findBound 82 = .ok (.iload 4, 2) := de21 hX11_findBound_69 13 rfl rfl rfl
theorem dX11_findBound_84 : decode cX11_findBound 84 = .ok (.aload_n 0, 1) := de42 hX11_findBound_69 15 rfl rfl
theorem dX11_findBound_85 : decode cX11_findBound 85 = .ok (.getfield 284, 3) := de180 hX11_findBound_69 16 rfl rfl rfl
theorem dX11_findBound_88 : decode cX11_findBound 88 = .ok (.if_icmp .ge 61, 3) := de162 hX11_findBound_69 19 rfl rfl (by decide +kernel)
theorem dX11_findBound_91 : decode cX11_findBound 91 = .ok (.aload_n 0, 1) := de42 hX11_findBound_69 22 rfl rfl
theorem dX11_findBound_92 : decode cX11_findBound 92 = .ok (.getfield 85, 3) := de180 hX11_findBound_69 23 rfl rfl rfl
theorem hX11_findBound_95 : bHas cX11_findBound 95 [21, 4, 46, 27, 160, 0, 44, 42, 42, 180, 0, 94, 21, 4, 46, 42, 180, 0, 97, 21, 4] := bH_c (n := 21) (by decide +kernel)
theorem dX11_findBound_95 : decode cX11_findBound 95 = .ok (.iload 4, 2) := de21 hX11_findBound_95 0 rfl rfl rfl
theorem dX11_findBound_97 : decode cX11_findBound 97 = .ok (.iaload, 1) := de46 hX11_findBound_95 2 rfl rfl
theorem dX11_findBound_98 : decode cX11_findBound 98 = .ok (.iload_n 1, 1) := de27 hX11_findBound_95 3 rfl rfl
theorem dX11_findBound_99 : decode cX11_findBound 99 = .ok (.if_icmp .ne 44, 3) := de160 hX11_findBound_95 4 rfl rfl (by decide +kernel)
theorem dX11_findBound_102 : decode cX11_findBound 102 = .ok (.aload_n 0, 1) := de42 hX11_findBound_95 7 rfl rfl
theorem dX11_findBound_103 : decode cX11_findBound 103 = .ok (.aload_n 0, 1) := de42 hX11_findBound_95 8 rfl rfl
theorem dX11_findBound_104 : decode cX11_findBound 104 = .ok (.getfield 94, 3) := de180 hX11_findBound_95 9 rfl rfl rfl
theorem dX11_findBound_107 : decode cX11_findBound 107 = .ok (.iload 4, 2) := de21 hX11_findBound_95 12 rfl rfl rfl
theorem dX11_findBound_109 : decode cX11_findBound 109 = .ok (.iaload, 1) := de46 hX11_findBound_95 14 rfl rfl
theorem dX11_findBound_110 : decode cX11_findBound 110 = .ok (.aload_n 0, 1) := de42 hX11_findBound_95 15 rfl rfl
theorem dX11_findBound_111 : decode cX11_findBound 111 = .ok (.getfield 97, 3) := de180 hX11_findBound_95 16 rfl rfl rfl
theorem dX11_findBound_114 : decode cX11_findBound 114 = .ok (.iload 4, 2) := de21 hX11_findBound_95 19 rfl rfl rfl
theorem hX11_findBound_116 : bHas cX11_findBound 116 [46, 42, 180, 0, 88, 21, 4, 46, 28, 184, 0, 192, 42, 180, 0, 91, 21, 4, 46, 29] := bH_c (n := 20) (by decide +kernel)
theorem dX11_findBound_116 : decode cX11_findBound 116 = .ok (.iaload, 1) := de46 hX11_findBound_116 0 rfl rfl
theorem dX11_findBound_117 : decode cX11_findBound 117 = .ok (.aload_n 0, 1) := de42 hX11_findBound_116 1 rfl rfl
theorem dX11_findBound_118 : decode cX11_findBound 118 = .ok (.getfield 88, 3) := de180 hX11_findBound_116 2 rfl rfl rfl
theorem dX11_findBound_121 : decode cX11_findBound 121 = .ok (.iload 4, 2) := de21 hX11_findBound_116 5 rfl rfl rfl
theorem dX11_findBound_123 : decode cX11_findBound 123 = .ok (.iaload, 1) := de46 hX11_findBound_116 7 rfl rfl
theorem dX11_findBound_124 : decode cX11_findBound 124 = .ok (.iload_n 2, 1) := de28 hX11_findBound_116 8 rfl rfl
theorem dX11_findBound_125 : decode cX11_findBound 125 = .ok (.invokestatic 192, 3) := de184 hX11_findBound_116 9 rfl rfl rfl
theorem dX11_findBound_128 : decode cX11_findBound 128 = .ok (.aload_n 0, 1) := de42 hX11_findBound_116 12 rfl rfl
theorem dX11_findBound_129 : decode cX11_findBound 129 = .ok (.getfield 91, 3) := de180 hX11_findBound_116 13 rfl rfl rfl
theorem dX11_findBound_132 : decode cX11_findBound 132 = .ok (.iload 4, 2) := de21 hX11_findBound_116 16 rfl rfl rfl
theorem dX11_findBound_134 : decode cX11_findBound 134 = .ok (.iaload, 1) := de46 hX11_findBound_116 18 rfl rfl
theorem dX11_findBound_135 : decode cX11_findBound 135 = .ok (.iload_n 3, 1) := de29 hX11_findBound_116 19 rfl rfl
theorem hX11_findBound_136 : bHas cX11_findBound 136 [184, 0, 192, 96, 182, 1, 37, 132, 4, 1, 167, 255, 192, 42, 180, 1, 31, 42, 180, 1, 34, 163, 0, 7, 4, 167, 0, 4] := bH_c (n := 28) (by decide +kernel)
theorem dX11_findBound_136 : decode cX11_findBound 136 = .ok (.invokestatic 192, 3) := de184 hX11_findBound_136 0 rfl rfl rfl
theorem dX11_findBound_139 : decode cX11_findBound 139 = .ok (.iadd, 1) := de96 hX11_findBound_136 3 rfl rfl
theorem dX11_findBound_140 : decode cX11_findBound 140 = .ok (.invokevirtual 293, 3) := de182 hX11_findBound_136 4 rfl rfl rfl
theorem dX11_findBound_143 : decode cX11_findBound 143 = .ok (.iinc 4 1, 3) := de132 hX11_findBound_136 7 rfl rfl rfl rfl
theorem dX11_findBound_146 : decode cX11_findBound 146 = .ok (.goto (-64), 3) := de167 hX11_findBound_136 10 rfl rfl (by decide +kernel)
theorem dX11_findBound_149 : decode cX11_findBound 149 = .ok (.aload_n 0, 1) := de42 hX11_findBound_136 13 rfl rfl
theorem dX11_findBound_150 : decode cX11_findBound 150 = .ok (.getfield 287, 3) := de180 hX11_findBound_136 14 rfl rfl rfl
theorem dX11_findBound_153 : decode cX11_findBound 153 = .ok (.aload_n 0, 1) := de42 hX11_findBound_136 17 rfl rfl
theorem dX11_findBound_154 : decode cX11_findBound 154 = .ok (.getfield 290, 3) := de180 hX11_findBound_136 18 rfl rfl rfl
theorem dX11_findBound_157 : decode cX11_findBound 157 = .ok (.if_icmp .gt 7, 3) := de163 hX11_findBound_136 21 rfl rfl (by decide +kernel)
theorem dX11_findBound_160 : decode cX11_findBound 160 = .ok (.iconst 1, 1) := de4 hX11_findBound_136 24 rfl rfl
theorem dX11_findBound_161 : decode cX11_findBound 161 = .ok (.goto 4, 3) := de167 hX11_findBound_136 25 rfl rfl (by decide +kernel)
theorem hX11_findBound_164 : bHas cX11_findBound 164 [3, 172] := bH_c (n := 2) (by decide +kernel)
theorem dX11_findBound_164 : decode cX11_findBound 164 = .ok (.iconst 0, 1) := de3 hX11_findBound_164 0 rfl rfl
theorem dX11_findBound_165 : decode cX11_findBound 165 = .ok (.ireturn, 1) := de172 hX11_findBound_164 1 rfl rfl
theorem hX11_bound_0 : bHas cX11_bound 0 [27, 184, 0, 151, 154, 0, 5, 2, 172, 28, 29, 184, 0, 135, 153, 0, 11, 21, 4, 184, 1, 40, 154, 0, 6] := bH_c (n := 25) (by decide +kernel)
theorem dX11_bound_0 : decode cX11_bound 0 = .ok (.iload_n 1, 1) := de27 hX11_bound_0 0 rfl rfl
theorem dX11_bound_1 : decode cX11_bound 1 = .ok (.invokestatic 151, 3) := de184 hX11_bound_0 1 rfl rfl rfl
theorem dX11_bound_4 : decode cX11_bound 4 = .ok (.ifCond .ne 5, 3) := de154 hX11_bound_0 4 rfl rfl (by decide +kernel)
theorem dX11_bound_7 : decode cX11_bound 7 = .ok (.iconst (-1), 1) := de2 hX11_bound_0 7 rfl rfl
theorem dX11_bound_8 : decode cX11_bound 8 = .ok (.ireturn, 1) := de172 hX11_bound_0 8 rfl rfl
theorem dX11_bound_9 : decode cX11_bound 9 = .ok (.iload_n 2, 1) := de28 hX11_bound_0 9 rfl rfl
theorem dX11_bound_10 : decode cX11_bound 10 = .ok (.iload_n 3, 1) := de29 hX11_bound_0 10 rfl rfl
theorem dX11_bound_11 : decode cX11_bound 11 = .ok (.invokestatic 135, 3) := de184 hX11_bound_0 11 rfl rfl rfl
theorem dX11_bound_14 : decode cX11_bound 14 = .ok (.ifCond .eq 11, 3) := de153 hX11_bound_0 14 rfl rfl (by decide +kernel)
theorem dX11_bound_17 : decode cX11_bound 17 = .ok (.iload 4, 2) := de21 hX11_bound_0 17 rfl rfl rfl
theorem dX11_bound_19 : decode cX11_bound 19 = .ok (.invokestatic 296, 3) := de184 hX11_bound_0 19 rfl rfl rfl
theorem dX11_bound_22 : decode cX11_bound 22 = .ok (.ifCond .ne 6, 3) := de154 hX11_bound_0 22 rfl rfl (by decide +kernel)
theorem hX11_bound_25 : bHas cX11_bound 25 [16, 254, 172, 42, 182, 0, 212, 42, 27, 28, 29, 182, 1, 43, 154, 0, 8, 16, 251, 167, 0, 19] := bH_c (n := 22) (by decide +kernel)
theorem dX11_bound_25 : decode cX11_bound 25 = .ok (.bipush (-2), 2) := de16 hX11_bound_25 0 rfl rfl rfl
theorem dX11_bound_27 : decode cX11_bound 27 = .ok (.ireturn, 1) := de172 hX11_bound_25 2 rfl rfl
theorem dX11_bound_28 : decode cX11_bound 28 = .ok (.aload_n 0, 1) := de42 hX11_bound_25 3 rfl rfl
theorem dX11_bound_29 : decode cX11_bound 29 = .ok (.invokevirtual 212, 3) := de182 hX11_bound_25 4 rfl rfl rfl
theorem dX11_bound_32 : decode cX11_bound 32 = .ok (.aload_n 0, 1) := de42 hX11_bound_25 7 rfl rfl
theorem dX11_bound_33 : decode cX11_bound 33 = .ok (.iload_n 1, 1) := de27 hX11_bound_25 8 rfl rfl
theorem dX11_bound_34 : decode cX11_bound 34 = .ok (.iload_n 2, 1) := de28 hX11_bound_25 9 rfl rfl
theorem dX11_bound_35 : decode cX11_bound 35 = .ok (.iload_n 3, 1) := de29 hX11_bound_25 10 rfl rfl
theorem dX11_bound_36 : decode cX11_bound 36 = .ok (.invokevirtual 299, 3) := de182 hX11_bound_25 11 rfl rfl rfl
theorem dX11_bound_39 : decode cX11_bound 39 = .ok (.ifCond .ne 8, 3) := de154 hX11_bound_25 14 rfl rfl (by decide +kernel)
theorem dX11_bound_42 : decode cX11_bound 42 = .ok (.bipush (-5), 2) := de16 hX11_bound_25 17 rfl rfl rfl
theorem dX11_bound_44 : decode cX11_bound 44 = .ok (.goto 19, 3) := de167 hX11_bound_25 19 rfl rfl (by decide +kernel)
theorem hX11_bound_47 : bHas cX11_bound 47 [21, 4, 154, 0, 10, 42, 180, 1, 31, 167, 0, 7, 42, 180, 1, 34, 172] := bH_c (n := 17) (by decide +kernel)
theorem dX11_bound_47 : decode cX11_bound 47 = .ok (.iload 4, 2) := de21 hX11_bound_47 0 rfl rfl rfl
theorem dX11_bound_49 : decode cX11_bound 49 = .ok (.ifCond .ne 10, 3) := de154 hX11_bound_47 2 rfl rfl (by decide +kernel)
theorem dX11_bound_52 : decode cX11_bound 52 = .ok (.aload_n 0, 1) := de42 hX11_bound_47 5 rfl rfl
theorem dX11_bound_53 : decode cX11_bound 53 = .ok (.getfield 287, 3) := de180 hX11_bound_47 6 rfl rfl rfl
theorem dX11_bound_56 : decode cX11_bound 56 = .ok (.goto 7, 3) := de167 hX11_bound_47 9 rfl rfl (by decide +kernel)
theorem dX11_bound_59 : decode cX11_bound 59 = .ok (.aload_n 0, 1) := de42 hX11_bound_47 12 rfl rfl
theorem dX11_bound_60 : decode cX11_bound 60 = .ok (.getfield 290, 3) := de180 hX11_bound_47 13 rfl rfl rfl
theorem dX11_bound_63 : decode cX11_bound 63 = .ok (.ireturn, 1) := de172 hX11_bound_47 16 rfl rfl
theorem hX11_isLand_0 : bHas cX11_isLand 0 [26, 133, 9, 27, 133, 184, 0, 126, 153, 0, 30, 27, 16, 20, 163, 0, 24, 28, 133] := bH_c (n := 19) (by decide +kernel)
theorem dX11_isLand_0 : decode cX11_isLand 0 = .ok (.iload_n 0, 1) := de26 hX11_isLand_0 0 rfl rfl
theorem dX11_isLand_1 : decode cX11_isLand 1 = .ok (.i2l, 1) := de133 hX11_isLand_0 1 rfl rfl
theorem dX11_isLand_2 : decode cX11_isLand 2 = .ok (.lconst 0, 1) := de9 hX11_isLand_0 2 rfl rfl
theorem dX11_isLand_3 : decode cX11_isLand 3 = .ok (.iload_n 1, 1) := de27 hX11_isLand_0 3 rfl rfl
theorem dX11_isLand_4 : decode cX11_isLand 4 = .ok (.i2l, 1) := de133 hX11_isLand_0 4 rfl rfl
theorem dX11_isLand_5 : decode cX11_isLand 5 = .ok (.invokestatic 126, 3) := de184 hX11_isLand_0 5 rfl rfl rfl
theorem dX11_isLand_8 : decode cX11_isLand 8 = .ok (.ifCond .eq 30, 3) := de153 hX11_isLand_0 8 rfl rfl (by decide +kernel)
theorem dX11_isLand_11 : decode cX11_isLand 11 = .ok (.iload_n 1, 1) := de27 hX11_isLand_0 11 rfl rfl
theorem dX11_isLand_12 : decode cX11_isLand 12 = .ok (.bipush 20, 2) := de16 hX11_isLand_0 12 rfl rfl rfl
theorem dX11_isLand_14 : decode cX11_isLand 14 = .ok (.if_icmp .gt 24, 3) := de163 hX11_isLand_0 14 rfl rfl (by decide +kernel)
theorem dX11_isLand_17 : decode cX11_isLand 17 = .ok (.iload_n 2, 1) := de28 hX11_isLand_0 17 rfl rfl
theorem dX11_isLand_18 : decode cX11_isLand 18 = .ok (.i2l, 1) := de133 hX11_isLand_0 18 rfl rfl
theorem hX11_isLand_19 : bHas cX11_isLand 19 [9, 29, 133, 184, 0, 126, 153, 0, 13, 29, 16, 20, 163, 0, 7, 4, 167, 0, 4, 3, 172] := bH_c (n := 21) (by decide +kernel)
theorem dX11_isLand_19 : decode cX11_isLand 19 = .ok (.lconst 0, 1) := de9 hX11_isLand_19 0 rfl rfl
theorem dX11_isLand_20 : decode cX11_isLand 20 = .ok (.iload_n 3, 1) := de29 hX11_isLand_19 1 rfl rfl
theorem dX11_isLand_21 : decode cX11_isLand 21 = .ok (.i2l, 1) := de133 hX11_isLand_19 2 rfl rfl
theorem dX11_isLand_22 : decode cX11_isLand 22 = .ok (.invokestatic 126, 3) := de184 hX11_isLand_19 3 rfl rfl rfl
theorem dX11_isLand_25 : decode cX11_isLand 25 = .ok (.ifCond .eq 13, 3) := de153 hX11_isLand_19 6 rfl rfl (by decide +kernel)
theorem dX11_isLand_28 : decode cX11_isLand 28 = .ok (.iload_n 3, 1) := de29 hX11_isLand_19 9 rfl rfl
theorem dX11_isLand_29 : decode cX11_isLand 29 = .ok (.bipush 20, 2) := de16 hX11_isLand_19 10 rfl rfl rfl
theorem dX11_isLand_31 : decode cX11_isLand 31 = .ok (.if_icmp .gt 7, 3) := de163 hX11_isLand_19 12 rfl rfl (by decide +kernel)
theorem dX11_isLand_34 : decode cX11_isLand 34 = .ok (.iconst 1, 1) := de4 hX11_isLand_19 15 rfl rfl
theorem dX11_isLand_35 : decode cX11_isLand 35 = .ok (.goto 4, 3) := de167 hX11_isLand_19 16 rfl rfl (by decide +kernel)
theorem dX11_isLand_38 : decode cX11_isLand 38 = .ok (.iconst 0, 1) := de3 hX11_isLand_19 19 rfl rfl
theorem dX11_isLand_39 : decode cX11_isLand 39 = .ok (.ireturn, 1) := de172 hX11_isLand_19 20 rfl rfl
theorem hX11_findOver_0 : bHas cX11_findOver 0 [42, 182, 0, 212, 42, 3, 181, 1, 46, 42, 3, 181, 1, 49, 28, 54, 6, 21, 6, 29] := bH_c (n := 20) (by decide +kernel)
theorem dX11_findOver_0 : decode cX11_findOver 0 = .ok (.aload_n 0, 1) := de42 hX11_findOver_0 0 rfl rfl
theorem dX11_findOver_1 : decode cX11_findOver 1 = .ok (.invokevirtual 212, 3) := de182 hX11_findOver_0 1 rfl rfl rfl
theorem dX11_findOver_4 : decode cX11_findOver 4 = .ok (.aload_n 0, 1) := de42 hX11_findOver_0 4 rfl rfl
theorem dX11_findOver_5 : decode cX11_findOver 5 = .ok (.iconst 0, 1) := de3 hX11_findOver_0 5 rfl rfl
theorem dX11_findOver_6 : decode cX11_findOver 6 = .ok (.putfield 302, 3) := de181 hX11_findOver_0 6 rfl rfl rfl
theorem dX11_findOver_9 : decode cX11_findOver 9 = .ok (.aload_n 0, 1) := de42 hX11_findOver_0 9 rfl rfl
theorem dX11_findOver_10 : decode cX11_findOver 10 = .ok (.iconst 0, 1) := de3 hX11_findOver_0 10 rfl rfl
theorem dX11_findOver_11 : decode cX11_findOver 11 = .ok (.putfield 305, 3) := de181 hX11_findOver_0 11 rfl rfl rfl
theorem dX11_findOver_14 : decode cX11_findOver 14 = .ok (.iload_n 2, 1) := de28 hX11_findOver_0 14 rfl rfl
theorem dX11_findOver_15 : decode cX11_findOver 15 = .ok (.istore 6, 2) := de54 hX11_findOver_0 15 rfl rfl rfl
theorem dX11_findOver_17 : decode cX11_findOver 17 = .ok (.iload 6, 2) := de21 hX11_findOver_0 17 rfl rfl rfl
theorem dX11_findOver_19 : decode cX11_findOver 19 = .ok (.iload_n 3, 1) := de29 hX11_findOver_0 19 rfl rfl
theorem hX11_findOver_20 : bHas cX11_findOver 20 [163, 0, 66, 21, 4, 54, 7, 21, 7, 21, 5, 163, 0, 49, 42, 27, 21, 6, 21, 7, 182, 1, 43, 154, 0, 5] := bH_c (n := 26) (by decide +kernel)
theorem dX11_findOver_20 : decode cX11_findOver 20 = .ok (.if_icmp .gt 66, 3) := de163 hX11_findOver_20 0 rfl rfl (by decide +kernel)
theorem dX11_findOver_23 : decode cX11_findOver 23 = .ok (.iload 4, 2) := de21 hX11_findOver_20 3 rfl rfl rfl
theorem dX11_findOver_25 : decode cX11_findOver 25 = .ok (.istore 7, 2) := de54 hX11_findOver_20 5 rfl rfl rfl
theorem dX11_findOver_27 : decode cX11_findOver 27 = .ok (.iload 7, 2) := de21 hX11_findOver_20 7 rfl rfl rfl
theorem dX11_findOver_29 : decode cX11_findOver 29 = .ok (.iload 5, 2) := de21 hX11_findOver_20 9 rfl rfl rfl
theorem dX11_findOver_31 : decode cX11_findOver 31 = .ok (.if_icmp .gt 49, 3) := de163 hX11_findOver_20 11 rfl rfl (by decide +kernel)
theorem dX11_findOver_34 : decode cX11_findOver 34 = .ok (.aload_n 0, 1) := de42 hX11_findOver_20 14 rfl rfl
theorem dX11_findOver_35 : decode cX11_findOver 35 = .ok (.iload_n 1, 1) := de27 hX11_findOver_20 15 rfl rfl
theorem dX11_findOver_36 : decode cX11_findOver 36 = .ok (.iload 6, 2) := de21 hX11_findOver_20 16 rfl rfl rfl
theorem dX11_findOver_38 : decode cX11_findOver 38 = .ok (.iload 7, 2) := de21 hX11_findOver_20 18 rfl rfl rfl
theorem dX11_findOver_40 : decode cX11_findOver 40 = .ok (.invokevirtual 299, 3) := de182 hX11_findOver_20 20 rfl rfl rfl
theorem dX11_findOver_43 : decode cX11_findOver 43 = .ok (.ifCond .ne 5, 3) := de154 hX11_findOver_20 23 rfl rfl (by decide +kernel)
theorem hX11_findOver_46 : bHas cX11_findOver 46 [3, 172, 42, 89, 180, 1, 46, 42, 180, 1, 31, 96, 181, 1, 46, 42, 89, 180, 1, 49] := bH_c (n := 20) (by decide +kernel)
theorem dX11_findOver_46 : decode cX11_findOver 46 = .ok (.iconst 0, 1) := de3 hX11_findOver_46 0 rfl rfl
theorem dX11_findOver_47 : decode cX11_findOver 47 = .ok (.ireturn, 1) := de172 hX11_findOver_46 1 rfl rfl
theorem dX11_findOver_48 : decode cX11_findOver 48 = .ok (.aload_n 0, 1) := de42 hX11_findOver_46 2 rfl rfl
theorem dX11_findOver_49 : decode cX11_findOver 49 = .ok (.dup, 1) := de89 hX11_findOver_46 3 rfl rfl
theorem dX11_findOver_50 : decode cX11_findOver 50 = .ok (.getfield 302, 3) := de180 hX11_findOver_46 4 rfl rfl rfl
theorem dX11_findOver_53 : decode cX11_findOver 53 = .ok (.aload_n 0, 1) := de42 hX11_findOver_46 7 rfl rfl
theorem dX11_findOver_54 : decode cX11_findOver 54 = .ok (.getfield 287, 3) := de180 hX11_findOver_46 8 rfl rfl rfl
theorem dX11_findOver_57 : decode cX11_findOver 57 = .ok (.iadd, 1) := de96 hX11_findOver_46 11 rfl rfl
theorem dX11_findOver_58 : decode cX11_findOver 58 = .ok (.putfield 302, 3) := de181 hX11_findOver_46 12 rfl rfl rfl
theorem dX11_findOver_61 : decode cX11_findOver 61 = .ok (.aload_n 0, 1) := de42 hX11_findOver_46 15 rfl rfl
theorem dX11_findOver_62 : decode cX11_findOver 62 = .ok (.dup, 1) := de89 hX11_findOver_46 16 rfl rfl
theorem dX11_findOver_63 : decode cX11_findOver 63 = .ok (.getfield 305, 3) := de180 hX11_findOver_46 17 rfl rfl rfl
theorem hX11_findOver_66 : bHas cX11_findOver 66 [42, 180, 1, 34, 96, 181, 1, 49, 132, 7, 1, 167, 255, 206, 132, 6, 1, 167, 255, 190, 4, 172] := bH_c (n := 22) (by decide +kernel)
theorem dX11_findOver_66 : decode cX11_findOver 66 = .ok (.aload_n 0, 1) := de42 hX11_findOver_66 0 rfl rfl
theorem dX11_findOver_67 : decode cX11_findOver 67 = .ok (.getfield 290, 3) := de180 hX11_findOver_66 1 rfl rfl rfl
theorem dX11_findOver_70 : decode cX11_findOver 70 = .ok (.iadd, 1) := de96 hX11_findOver_66 4 rfl rfl
theorem dX11_findOver_71 : decode cX11_findOver 71 = .ok (.putfield 305, 3) := de181 hX11_findOver_66 5 rfl rfl rfl
theorem dX11_findOver_74 : decode cX11_findOver 74 = .ok (.iinc 7 1, 3) := de132 hX11_findOver_66 8 rfl rfl rfl rfl
theorem dX11_findOver_77 : decode cX11_findOver 77 = .ok (.goto (-50), 3) := de167 hX11_findOver_66 11 rfl rfl (by decide +kernel)
theorem dX11_findOver_80 : decode cX11_findOver 80 = .ok (.iinc 6 1, 3) := de132 hX11_findOver_66 14 rfl rfl rfl rfl
theorem dX11_findOver_83 : decode cX11_findOver 83 = .ok (.goto (-66), 3) := de167 hX11_findOver_66 17 rfl rfl (by decide +kernel)
theorem dX11_findOver_86 : decode cX11_findOver 86 = .ok (.iconst 1, 1) := de4 hX11_findOver_66 20 rfl rfl
theorem dX11_findOver_87 : decode cX11_findOver 87 = .ok (.ireturn, 1) := de172 hX11_findOver_66 21 rfl rfl
theorem hX11_over_0 : bHas cX11_over 0 [27, 184, 0, 151, 154, 0, 5, 2, 172, 28, 29, 21, 4, 21, 5, 184, 1, 52, 153, 0, 11, 21, 6] := bH_c (n := 23) (by decide +kernel)
theorem dX11_over_0 : decode cX11_over 0 = .ok (.iload_n 1, 1) := de27 hX11_over_0 0 rfl rfl
theorem dX11_over_1 : decode cX11_over 1 = .ok (.invokestatic 151, 3) := de184 hX11_over_0 1 rfl rfl rfl
theorem dX11_over_4 : decode cX11_over 4 = .ok (.ifCond .ne 5, 3) := de154 hX11_over_0 4 rfl rfl (by decide +kernel)
theorem dX11_over_7 : decode cX11_over 7 = .ok (.iconst (-1), 1) := de2 hX11_over_0 7 rfl rfl
theorem dX11_over_8 : decode cX11_over 8 = .ok (.ireturn, 1) := de172 hX11_over_0 8 rfl rfl
theorem dX11_over_9 : decode cX11_over 9 = .ok (.iload_n 2, 1) := de28 hX11_over_0 9 rfl rfl
theorem dX11_over_10 : decode cX11_over 10 = .ok (.iload_n 3, 1) := de29 hX11_over_0 10 rfl rfl
theorem dX11_over_11 : decode cX11_over 11 = .ok (.iload 4, 2) := de21 hX11_over_0 11 rfl rfl rfl
theorem dX11_over_13 : decode cX11_over 13 = .ok (.iload 5, 2) := de21 hX11_over_0 13 rfl rfl rfl
theorem dX11_over_15 : decode cX11_over 15 = .ok (.invokestatic 308, 3) := de184 hX11_over_0 15 rfl rfl rfl
theorem dX11_over_18 : decode cX11_over 18 = .ok (.ifCond .eq 11, 3) := de153 hX11_over_0 18 rfl rfl (by decide +kernel)
theorem dX11_over_21 : decode cX11_over 21 = .ok (.iload 6, 2) := de21 hX11_over_0 21 rfl rfl rfl
theorem hX11_over_23 : bHas cX11_over 23 [184, 1, 40, 154, 0, 6, 16, 254, 172, 42, 27, 28, 29, 21, 4, 21, 5, 182, 1, 56, 154, 0, 8] := bH_c (n := 23) (by decide +kernel)
theorem dX11_over_23 : decode cX11_over 23 = .ok (.invokestatic 296, 3) := de184 hX11_over_23 0 rfl rfl rfl
theorem dX11_over_26 : decode cX11_over 26 = .ok (.ifCond .ne 6, 3) := de154 hX11_over_23 3 rfl rfl (by decide +kernel)
theorem dX11_over_29 : decode cX11_over 29 = .ok (.bipush (-2), 2) := de16 hX11_over_23 6 rfl rfl rfl
theorem dX11_over_31 : decode cX11_over 31 = .ok (.ireturn, 1) := de172 hX11_over_23 8 rfl rfl
theorem dX11_over_32 : decode cX11_over 32 = .ok (.aload_n 0, 1) := de42 hX11_over_23 9 rfl rfl
theorem dX11_over_33 : decode cX11_over 33 = .ok (.iload_n 1, 1) := de27 hX11_over_23 10 rfl rfl
theorem dX11_over_34 : decode cX11_over 34 = .ok (.iload_n 2, 1) := de28 hX11_over_23 11 rfl rfl
theorem dX11_over_35 : decode cX11_over 35 = .ok (.iload_n 3, 1) := de29 hX11_over_23 12 rfl rfl
theorem dX11_over_36 : decode cX11_over 36 = .ok (.iload 4, 2) := de21 hX11_over_23 13 rfl rfl rfl
theorem dX11_over_38 : decode cX11_over 38 = .ok (.iload 5, 2) := de21 hX11_over_23 15 rfl rfl rfl
theorem dX11_over_40 : decode cX11_over 40 = .ok (.invokevirtual 312, 3) := de182 hX11_over_23 17 rfl rfl rfl
theorem dX11_over_43 : decode cX11_over 43 = .ok (.ifCond .ne 8, 3) := de154 hX11_over_23 20 rfl rfl (by decide +kernel)
theorem hX11_over_46 : bHas cX11_over 46 [16, 251, 167, 0, 19, 21, 6, 154, 0, 10, 42, 180, 1, 46, 167, 0, 7, 42, 180, 1, 49, 172] := bH_c (n := 22) (by decide +kernel)
theorem dX11_over_46 : decode cX11_over 46 = .ok (.bipush (-5), 2) := de16 hX11_over_46 0 rfl rfl rfl
theorem dX11_over_48 : decode cX11_over 48 = .ok (.goto 19, 3) := de167 hX11_over_46 2 rfl rfl (by decide +kernel)
theorem dX11_over_51 : decode cX11_over 51 = .ok (.iload 6, 2) := de21 hX11_over_46 5 rfl rfl rfl
theorem dX11_over_53 : decode cX11_over 53 = .ok (.ifCond .ne 10, 3) := de154 hX11_over_46 7 rfl rfl (by decide +kernel)
theorem dX11_over_56 : decode cX11_over 56 = .ok (.aload_n 0, 1) := de42 hX11_over_46 10 rfl rfl
theorem dX11_over_57 : decode cX11_over 57 = .ok (.getfield 302, 3) := de180 hX11_over_46 11 rfl rfl rfl
theorem dX11_over_60 : decode cX11_over 60 = .ok (.goto 7, 3) := de167 hX11_over_46 14 rfl rfl (by decide +kernel)
theorem dX11_over_63 : decode cX11_over 63 = .ok (.aload_n 0, 1) := de42 hX11_over_46 17 rfl rfl
theorem dX11_over_64 : decode cX11_over 64 = .ok (.getfield 305, 3) := de180 hX11_over_46 18 rfl rfl rfl
theorem dX11_over_67 : decode cX11_over 67 = .ok (.ireturn, 1) := de172 hX11_over_46 21 rfl rfl
theorem hX11_flow_0 : bHas cX11_flow 0 [27, 184, 0, 151, 154, 0, 7, 19, 1, 15, 172, 28, 29, 21, 4, 21, 5, 184, 1, 52, 153, 0, 29, 21, 6] := bH_c (n := 25) (by decide +kernel)
theorem dX11_flow_0 : decode cX11_flow 0 = .ok (.iload_n 1, 1) := de27 hX11_flow_0 0 rfl rfl
theorem dX11_flow_1 : decode cX11_flow 1 = .ok (.invokestatic 151, 3) := de184 hX11_flow_0 1 rfl rfl rfl
theorem dX11_flow_4 : decode cX11_flow 4 = .ok (.ifCond .ne 7, 3) := de154 hX11_flow_0 4 rfl rfl (by decide +kernel)
theorem dX11_flow_7 : decode cX11_flow 7 = .ok (.ldc_w 271, 3) := de19 hX11_flow_0 7 rfl rfl rfl
theorem dX11_flow_10 : decode cX11_flow 10 = .ok (.ireturn, 1) := de172 hX11_flow_0 10 rfl rfl
theorem dX11_flow_11 : decode cX11_flow 11 = .ok (.iload_n 2, 1) := de28 hX11_flow_0 11 rfl rfl
theorem dX11_flow_12 : decode cX11_flow 12 = .ok (.iload_n 3, 1) := de29 hX11_flow_0 12 rfl rfl
theorem dX11_flow_13 : decode cX11_flow 13 = .ok (.iload 4, 2) := de21 hX11_flow_0 13 rfl rfl rfl
theorem dX11_flow_15 : decode cX11_flow 15 = .ok (.iload 5, 2) := de21 hX11_flow_0 15 rfl rfl rfl
theorem dX11_flow_17 : decode cX11_flow 17 = .ok (.invokestatic 308, 3) := de184 hX11_flow_0 17 rfl rfl rfl
theorem dX11_flow_20 : decode cX11_flow 20 = .ok (.ifCond .eq 29, 3) := de153 hX11_flow_0 20 rfl rfl (by decide +kernel)
theorem dX11_flow_23 : decode cX11_flow 23 = .ok (.iload 6, 2) := de21 hX11_flow_0 23 rfl rfl rfl
theorem hX11_flow_25 : bHas cX11_flow 25 [133, 9, 20, 1, 60, 184, 0, 126, 153, 0, 16, 21, 7, 133, 9, 20, 1, 62, 184, 0, 126, 154, 0, 7, 19, 1, 16] := bH_c (n := 27) (by decide +kernel)
theorem dX11_flow_25 : decode cX11_flow 25 = .ok (.i2l, 1) := de133 hX11_flow_25 0 rfl rfl
theorem dX11_flow_26 : decode cX11_flow 26 = .ok (.lconst 0, 1) := de9 hX11_flow_25 1 rfl rfl
theorem dX11_flow_27 : decode cX11_flow 27 = .ok (.ldc2_w 316, 3) := de20 hX11_flow_25 2 rfl rfl rfl
theorem dX11_flow_30 : decode cX11_flow 30 = .ok (.invokestatic 126, 3) := de184 hX11_flow_25 5 rfl rfl rfl
theorem dX11_flow_33 : decode cX11_flow 33 = .ok (.ifCond .eq 16, 3) := de153 hX11_flow_25 8 rfl rfl (by decide +kernel)
theorem dX11_flow_36 : decode cX11_flow 36 = .ok (.iload 7, 2) := de21 hX11_flow_25 11 rfl rfl rfl
theorem dX11_flow_38 : decode cX11_flow 38 = .ok (.i2l, 1) := de133 hX11_flow_25 13 rfl rfl
theorem dX11_flow_39 : decode cX11_flow 39 = .ok (.lconst 0, 1) := de9 hX11_flow_25 14 rfl rfl
theorem dX11_flow_40 : decode cX11_flow 40 = .ok (.ldc2_w 318, 3) := de20 hX11_flow_25 15 rfl rfl rfl
theorem dX11_flow_43 : decode cX11_flow 43 = .ok (.invokestatic 126, 3) := de184 hX11_flow_25 18 rfl rfl rfl
theorem dX11_flow_46 : decode cX11_flow 46 = .ok (.ifCond .ne 7, 3) := de154 hX11_flow_25 21 rfl rfl (by decide +kernel)
theorem dX11_flow_49 : decode cX11_flow 49 = .ok (.ldc_w 272, 3) := de19 hX11_flow_25 24 rfl rfl rfl
theorem hX11_flow_52 : bHas cX11_flow 52 [172, 42, 27, 28, 29, 21, 4, 21, 5, 182, 1, 56, 154, 0, 7, 19, 1, 21, 172, 42] := bH_c (n := 20) (by decide +kernel)
theorem dX11_flow_52 : decode cX11_flow 52 = .ok (.ireturn, 1) := de172 hX11_flow_52 0 rfl rfl
theorem dX11_flow_53 : decode cX11_flow 53 = .ok (.aload_n 0, 1) := de42 hX11_flow_52 1 rfl rfl
theorem dX11_flow_54 : decode cX11_flow 54 = .ok (.iload_n 1, 1) := de27 hX11_flow_52 2 rfl rfl
theorem dX11_flow_55 : decode cX11_flow 55 = .ok (.iload_n 2, 1) := de28 hX11_flow_52 3 rfl rfl
theorem dX11_flow_56 : decode cX11_flow 56 = .ok (.iload_n 3, 1) := de29 hX11_flow_52 4 rfl rfl
theorem dX11_flow_57 : decode cX11_flow 57 = .ok (.iload 4, 2) := de21 hX11_flow_52 5 rfl rfl rfl
theorem dX11_flow_59 : decode cX11_flow 59 = .ok (.iload 5, 2) := de21 hX11_flow_52 7 rfl rfl rfl
theorem dX11_flow_61 : decode cX11_flow 61 = .ok (.invokevirtual 312, 3) := de182 hX11_flow_52 9 rfl rfl rfl
theorem dX11_flow_64 : decode cX11_flow 64 = .ok (.ifCond .ne 7, 3) := de154 hX11_flow_52 12 rfl rfl (by decide +kernel)
theorem dX11_flow_67 : decode cX11_flow 67 = .ok (.ldc_w 277, 3) := de19 hX11_flow_52 15 rfl rfl rfl
theorem dX11_flow_70 : decode cX11_flow 70 = .ok (.ireturn, 1) := de172 hX11_flow_52 18 rfl rfl
theorem dX11_flow_71 : decode cX11_flow 71 = .ok (.aload_n 0, 1) := de42 hX11_flow_52 19 rfl rfl
theorem hX11_flow_72 : bHas cX11_flow 72 [180, 1, 46, 133, 16, 100, 21, 6, 100, 133, 105, 20, 1, 60, 109, 136, 54, 8, 21, 7] := bH_c (n := 20) (by decide +kernel)
theorem dX11_flow_72 : decode cX11_flow 72 = .ok (.getfield 302, 3) := de180 hX11_flow_72 0 rfl rfl rfl
theorem dX11_flow_75 : decode cX11_flow 75 = .ok (.i2l, 1) := de133 hX11_flow_72 3 rfl rfl
theorem dX11_flow_76 : decode cX11_flow 76 = .ok (.bipush 100, 2) := de16 hX11_flow_72 4 rfl rfl rfl
theorem dX11_flow_78 : decode cX11_flow 78 = .ok (.iload 6, 2) := de21 hX11_flow_72 6 rfl rfl rfl
theorem dX11_flow_80 : decode cX11_flow 80 = .ok (.isub, 1) := de100 hX11_flow_72 8 rfl rfl
theorem dX11_flow_81 : decode cX11_flow 81 = .ok (.i2l, 1) := de133 hX11_flow_72 9 rfl rfl
theorem dX11_flow_82 : decode cX11_flow 82 = .ok (.lmul, 1) := de105 hX11_flow_72 10 rfl rfl
theorem dX11_flow_83 : decode cX11_flow 83 = .ok (.ldc2_w 316, 3) := de20 hX11_flow_72 11 rfl rfl rfl
theorem dX11_flow_86 : decode cX11_flow 86 = .ok (.ldiv, 1) := de109 hX11_flow_72 14 rfl rfl
theorem dX11_flow_87 : decode cX11_flow 87 = .ok (.l2i, 1) := de136 hX11_flow_72 15 rfl rfl
theorem dX11_flow_88 : decode cX11_flow 88 = .ok (.istore 8, 2) := de54 hX11_flow_72 16 rfl rfl rfl
theorem dX11_flow_90 : decode cX11_flow 90 = .ok (.iload 7, 2) := de21 hX11_flow_72 18 rfl rfl rfl
theorem hX11_flow_92 : bHas cX11_flow 92 [21, 8, 162, 0, 11, 21, 7, 21, 8, 100, 167, 0, 23, 21, 7, 42, 180, 1, 49, 164, 0, 13, 21, 7, 42] := bH_c (n := 25) (by decide +kernel)
theorem dX11_flow_92 : decode cX11_flow 92 = .ok (.iload 8, 2) := de21 hX11_flow_92 0 rfl rfl rfl
theorem dX11_flow_94 : decode cX11_flow 94 = .ok (.if_icmp .ge 11, 3) := de162 hX11_flow_92 2 rfl rfl (by decide +kernel)
theorem dX11_flow_97 : decode cX11_flow 97 = .ok (.iload 7, 2) := de21 hX11_flow_92 5 rfl rfl rfl
theorem dX11_flow_99 : decode cX11_flow 99 = .ok (.iload 8, 2) := de21 hX11_flow_92 7 rfl rfl rfl
theorem dX11_flow_101 : decode cX11_flow 101 = .ok (.isub, 1) := de100 hX11_flow_92 9 rfl rfl
theorem dX11_flow_102 : decode cX11_flow 102 = .ok (.goto 23, 3) := de167 hX11_flow_92 10 rfl rfl (by decide +kernel)
theorem dX11_flow_105 : decode cX11_flow 105 = .ok (.iload 7, 2) := de21 hX11_flow_92 13 rfl rfl rfl
theorem dX11_flow_107 : decode cX11_flow 107 = .ok (.aload_n 0, 1) := de42 hX11_flow_92 15 rfl rfl
theorem dX11_flow_108 : decode cX11_flow 108 = .ok (.getfield 305, 3) := de180 hX11_flow_92 16 rfl rfl rfl
theorem dX11_flow_111 : decode cX11_flow 111 = .ok (.if_icmp .le 13, 3) := de164 hX11_flow_92 19 rfl rfl (by decide +kernel)
theorem dX11_flow_114 : decode cX11_flow 114 = .ok (.iload 7, 2) := de21 hX11_flow_92 22 rfl rfl rfl
theorem dX11_flow_116 : decode cX11_flow 116 = .ok (.aload_n 0, 1) := de42 hX11_flow_92 24 rfl rfl
theorem hX11_flow_117 : bHas cX11_flow 117 [180, 1, 49, 100, 167, 0, 4, 3, 172] := bH_c (n := 9) (by decide +kernel)
theorem dX11_flow_117 : decode cX11_flow 117 = .ok (.getfield 305, 3) := de180 hX11_flow_117 0 rfl rfl rfl
theorem dX11_flow_120 : decode cX11_flow 120 = .ok (.isub, 1) := de100 hX11_flow_117 3 rfl rfl
theorem dX11_flow_121 : decode cX11_flow 121 = .ok (.goto 4, 3) := de167 hX11_flow_117 4 rfl rfl (by decide +kernel)
theorem dX11_flow_124 : decode cX11_flow 124 = .ok (.iconst 0, 1) := de3 hX11_flow_117 7 rfl rfl
theorem dX11_flow_125 : decode cX11_flow 125 = .ok (.ireturn, 1) := de172 hX11_flow_117 8 rfl rfl
theorem hX11_fill_0 : bHas cX11_fill 0 [42, 27, 182, 0, 143, 153, 0, 10, 28, 184, 0, 151, 154, 0, 5, 2, 172, 29, 133, 9] := bH_c (n := 20) (by decide +kernel)
theorem dX11_fill_0 : decode cX11_fill 0 = .ok (.aload_n 0, 1) := de42 hX11_fill_0 0 rfl rfl
theorem dX11_fill_1 : decode cX11_fill 1 = .ok (.iload_n 1, 1) := de27 hX11_fill_0 1 rfl rfl
theorem dX11_fill_2 : decode cX11_fill 2 = .ok (.invokevirtual 143, 3) := de182 hX11_fill_0 2 rfl rfl rfl
theorem dX11_fill_5 : decode cX11_fill 5 = .ok (.ifCond .eq 10, 3) := de153 hX11_fill_0 5 rfl rfl (by decide +kernel)
theorem dX11_fill_8 : decode cX11_fill 8 = .ok (.iload_n 2, 1) := de28 hX11_fill_0 8 rfl rfl
theorem dX11_fill_9 : decode cX11_fill 9 = .ok (.invokestatic 151, 3) := de184 hX11_fill_0 9 rfl rfl rfl
theorem dX11_fill_12 : decode cX11_fill 12 = .ok (.ifCond .ne 5, 3) := de154 hX11_fill_0 12 rfl rfl (by decide +kernel)
theorem dX11_fill_15 : decode cX11_fill 15 = .ok (.iconst (-1), 1) := de2 hX11_fill_0 15 rfl rfl
theorem dX11_fill_16 : decode cX11_fill 16 = .ok (.ireturn, 1) := de172 hX11_fill_0 16 rfl rfl
theorem dX11_fill_17 : decode cX11_fill 17 = .ok (.iload_n 3, 1) := de29 hX11_fill_0 17 rfl rfl
theorem dX11_fill_18 : decode cX11_fill 18 = .ok (.i2l, 1) := de133 hX11_fill_0 18 rfl rfl
theorem dX11_fill_19 : decode cX11_fill 19 = .ok (.lconst 0, 1) := de9 hX11_fill_0 19 rfl rfl
theorem hX11_fill_20 : bHas cX11_fill 20 [10, 184, 0, 126, 154, 0, 6, 16, 254, 172, 42, 182, 0, 212, 42, 180, 0, 61, 27, 28, 184, 0, 139] := bH_c (n := 23) (by decide +kernel)
theorem dX11_fill_20 : decode cX11_fill 20 = .ok (.lconst 1, 1) := de10 hX11_fill_20 0 rfl rfl
theorem dX11_fill_21 : decode cX11_fill 21 = .ok (.invokestatic 126, 3) := de184 hX11_fill_20 1 rfl rfl rfl
theorem dX11_fill_24 : decode cX11_fill 24 = .ok (.ifCond .ne 6, 3) := de154 hX11_fill_20 4 rfl rfl (by decide +kernel)
theorem dX11_fill_27 : decode cX11_fill 27 = .ok (.bipush (-2), 2) := de16 hX11_fill_20 7 rfl rfl rfl
theorem dX11_fill_29 : decode cX11_fill 29 = .ok (.ireturn, 1) := de172 hX11_fill_20 9 rfl rfl
theorem dX11_fill_30 : decode cX11_fill 30 = .ok (.aload_n 0, 1) := de42 hX11_fill_20 10 rfl rfl
theorem dX11_fill_31 : decode cX11_fill 31 = .ok (.invokevirtual 212, 3) := de182 hX11_fill_20 11 rfl rfl rfl
theorem dX11_fill_34 : decode cX11_fill 34 = .ok (.aload_n 0, 1) := de42 hX11_fill_20 14 rfl rfl
theorem dX11_fill_35 : decode cX11_fill 35 = .ok (.getfield 61, 3) := de180 hX11_fill_20 15 rfl rfl rfl
theorem dX11_fill_38 : decode cX11_fill 38 = .ok (.iload_n 1, 1) := de27 hX11_fill_20 18 rfl rfl
theorem dX11_fill_39 : decode cX11_fill 39 = .ok (.iload_n 2, 1) := de28 hX11_fill_20 19 rfl rfl
theorem dX11_fill_40 : decode cX11_fill 40 = .ok (.invokestatic 139, 3) := de184 hX11_fill_20 20 rfl rfl rfl
theorem hX11_fill_43 : bHas cX11_fill 43 [46, 155, 0, 6, 16, 253, 172, 42, 28, 42, 180, 0, 7, 27, 46, 42, 180, 0, 13] := bH_c (n := 19) (by decide +kernel)
theorem dX11_fill_43 : decode cX11_fill 43 = .ok (.iaload, 1) := de46 hX11_fill_43 0 rfl rfl
theorem dX11_fill_44 : decode cX11_fill 44 = .ok (.ifCond .lt 6, 3) := de155 hX11_fill_43 1 rfl rfl (by decide +kernel)
theorem dX11_fill_47 : decode cX11_fill 47 = .ok (.bipush (-3), 2) := de16 hX11_fill_43 4 rfl rfl rfl
theorem dX11_fill_49 : decode cX11_fill 49 = .ok (.ireturn, 1) := de172 hX11_fill_43 6 rfl rfl
theorem dX11_fill_50 : decode cX11_fill 50 = .ok (.aload_n 0, 1) := de42 hX11_fill_43 7 rfl rfl
theorem dX11_fill_51 : decode cX11_fill 51 = .ok (.iload_n 2, 1) := de28 hX11_fill_43 8 rfl rfl
theorem dX11_fill_52 : decode cX11_fill 52 = .ok (.aload_n 0, 1) := de42 hX11_fill_43 9 rfl rfl
theorem dX11_fill_53 : decode cX11_fill 53 = .ok (.getfield 7, 3) := de180 hX11_fill_43 10 rfl rfl rfl
theorem dX11_fill_56 : decode cX11_fill 56 = .ok (.iload_n 1, 1) := de27 hX11_fill_43 13 rfl rfl
theorem dX11_fill_57 : decode cX11_fill 57 = .ok (.iaload, 1) := de46 hX11_fill_43 14 rfl rfl
theorem dX11_fill_58 : decode cX11_fill 58 = .ok (.aload_n 0, 1) := de42 hX11_fill_43 15 rfl rfl
theorem dX11_fill_59 : decode cX11_fill 59 = .ok (.getfield 13, 3) := de180 hX11_fill_43 16 rfl rfl rfl
theorem hX11_fill_62 : bHas cX11_fill 62 [27, 46, 182, 1, 43, 154, 0, 6, 16, 251, 172, 29, 154, 0, 17, 42, 180, 1, 31, 42, 180, 1, 34] := bH_c (n := 23) (by decide +kernel)
theorem dX11_fill_62 : decode cX11_fill 62 = .ok (.iload_n 1, 1) := de27 hX11_fill_62 0 rfl rfl
theorem dX11_fill_63 : decode cX11_fill 63 = .ok (.iaload, 1) := de46 hX11_fill_62 1 rfl rfl
theorem dX11_fill_64 : decode cX11_fill 64 = .ok (.invokevirtual 299, 3) := de182 hX11_fill_62 2 rfl rfl rfl
theorem dX11_fill_67 : decode cX11_fill 67 = .ok (.ifCond .ne 6, 3) := de154 hX11_fill_62 5 rfl rfl (by decide +kernel)
theorem dX11_fill_70 : decode cX11_fill 70 = .ok (.bipush (-5), 2) := de16 hX11_fill_62 8 rfl rfl rfl
theorem dX11_fill_72 : decode cX11_fill 72 = .ok (.ireturn, 1) := de172 hX11_fill_62 10 rfl rfl
theorem dX11_fill_73 : decode cX11_fill 73 = .ok (.iload_n 3, 1) := de29 hX11_fill_62 11 rfl rfl
theorem dX11_fill_74 : decode cX11_fill 74 = .ok (.ifCond .ne 17, 3) := de154 hX11_fill_62 12 rfl rfl (by decide +kernel)
theorem dX11_fill_77 : decode cX11_fill 77 = .ok (.aload_n 0, 1) := de42 hX11_fill_62 15 rfl rfl
theorem dX11_fill_78 : decode cX11_fill 78 = .ok (.getfield 287, 3) := de180 hX11_fill_62 16 rfl rfl rfl
theorem dX11_fill_81 : decode cX11_fill 81 = .ok (.aload_n 0, 1) := de42 hX11_fill_62 19 rfl rfl
theorem dX11_fill_82 : decode cX11_fill 82 = .ok (.getfield 290, 3) := de180 hX11_fill_62 20 rfl rfl rfl
theorem hX11_fill_85 : bHas cX11_fill 85 [96, 5, 108, 167, 0, 16, 42, 180, 1, 34, 42, 180, 1, 31, 100, 5, 108, 4] := bH_c (n := 18) (by decide +kernel)
theorem dX11_fill_85 : decode cX11_fill 85 = .ok (.iadd, 1) := de96 hX11_fill_85 0 rfl rfl
theorem dX11_fill_86 : decode cX11_fill 86 = .ok (.iconst 2, 1) := de5 hX11_fill_85 1 rfl rfl
theorem dX11_fill_87 : decode cX11_fill 87 = .ok (.idiv, 1) := de108 hX11_fill_85 2 rfl rfl
theorem dX11_fill_88 : decode cX11_fill 88 = .ok (.goto 16, 3) := de167 hX11_fill_85 3 rfl rfl (by decide +kernel)
theorem dX11_fill_91 : decode cX11_fill 91 = .ok (.aload_n 0, 1) := de42 hX11_fill_85 6 rfl rfl
theorem dX11_fill_92 : decode cX11_fill 92 = .ok (.getfield 290, 3) := de180 hX11_fill_85 7 rfl rfl rfl
theorem dX11_fill_95 : decode cX11_fill 95 = .ok (.aload_n 0, 1) := de42 hX11_fill_85 10 rfl rfl
theorem dX11_fill_96 : decode cX11_fill 96 = .ok (.getfield 287, 3) := de180 hX11_fill_85 11 rfl rfl rfl
theorem dX11_fill_99 : decode cX11_fill 99 = .ok (.isub, 1) := de100 hX11_fill_85 14 rfl rfl
theorem dX11_fill_100 : decode cX11_fill 100 = .ok (.iconst 2, 1) := de5 hX11_fill_85 15 rfl rfl
theorem dX11_fill_101 : decode cX11_fill 101 = .ok (.idiv, 1) := de108 hX11_fill_85 16 rfl rfl
theorem dX11_fill_102 : decode cX11_fill 102 = .ok (.iconst 1, 1) := de4 hX11_fill_85 17 rfl rfl
theorem hX11_fill_103 : bHas cX11_fill 103 [96, 172] := bH_c (n := 2) (by decide +kernel)
theorem dX11_fill_103 : decode cX11_fill 103 = .ok (.iadd, 1) := de96 hX11_fill_103 0 rfl rfl
theorem dX11_fill_104 : decode cX11_fill 104 = .ok (.ireturn, 1) := de172 hX11_fill_103 1 rfl rfl
theorem hX11_nearest_0 : bHas cX11_nearest 0 [16, 99, 62, 3, 54, 4, 21, 4, 42, 180, 0, 132, 162, 0, 47, 42, 180, 0, 7, 21, 4, 46] := bH_c (n := 22) (by decide +kernel)
theorem dX11_nearest_0 : decode cX11_nearest 0 = .ok (.bipush 99, 2) := de16 hX11_nearest_0 0 rfl rfl rfl
theorem dX11_nearest_2 : decode cX11_nearest 2 = .ok (.istore_n 3, 1) := de62 hX11_nearest_0 2 rfl rfl
theorem dX11_nearest_3 : decode cX11_nearest 3 = .ok (.iconst 0, 1) := de3 hX11_nearest_0 3 rfl rfl
theorem dX11_nearest_4 : decode cX11_nearest 4 = .ok (.istore 4, 2) := de54 hX11_nearest_0 4 rfl rfl rfl
theorem dX11_nearest_6 : decode cX11_nearest 6 = .ok (.iload 4, 2) := de21 hX11_nearest_0 6 rfl rfl rfl
theorem dX11_nearest_8 : decode cX11_nearest 8 = .ok (.aload_n 0, 1) := de42 hX11_nearest_0 8 rfl rfl
theorem dX11_nearest_9 : decode cX11_nearest 9 = .ok (.getfield 132, 3) := de180 hX11_nearest_0 9 rfl rfl rfl
theorem dX11_nearest_12 : decode cX11_nearest 12 = .ok (.if_icmp .ge 47, 3) := de162 hX11_nearest_0 12 rfl rfl (by decide +kernel)
theorem dX11_nearest_15 : decode cX11_nearest 15 = .ok (.aload_n 0, 1) := de42 hX11_nearest_0 15 rfl rfl
theorem dX11_nearest_16 : decode cX11_nearest 16 = .ok (.getfield 7, 3) := de180 hX11_nearest_0 16 rfl rfl rfl
theorem dX11_nearest_19 : decode cX11_nearest 19 = .ok (.iload 4, 2) := de21 hX11_nearest_0 19 rfl rfl rfl
theorem dX11_nearest_21 : decode cX11_nearest 21 = .ok (.iaload, 1) := de46 hX11_nearest_0 21 rfl rfl
theorem hX11_nearest_22 : bHas cX11_nearest 22 [27, 184, 0, 192, 42, 180, 0, 13, 21, 4, 46, 28, 184, 0, 192, 96, 54, 5, 21, 5, 29] := bH_c (n := 21) (by decide +kernel)
theorem dX11_nearest_22 : decode cX11_nearest 22 = .ok (.iload_n 1, 1) := de27 hX11_nearest_22 0 rfl rfl
theorem dX11_nearest_23 : decode cX11_nearest 23 = .ok (.invokestatic 192, 3) := de184 hX11_nearest_22 1 rfl rfl rfl
theorem dX11_nearest_26 : decode cX11_nearest 26 = .ok (.aload_n 0, 1) := de42 hX11_nearest_22 4 rfl rfl
theorem dX11_nearest_27 : decode cX11_nearest 27 = .ok (.getfield 13, 3) := de180 hX11_nearest_22 5 rfl rfl rfl
theorem dX11_nearest_30 : decode cX11_nearest 30 = .ok (.iload 4, 2) := de21 hX11_nearest_22 8 rfl rfl rfl
theorem dX11_nearest_32 : decode cX11_nearest 32 = .ok (.iaload, 1) := de46 hX11_nearest_22 10 rfl rfl
theorem dX11_nearest_33 : decode cX11_nearest 33 = .ok (.iload_n 2, 1) := de28 hX11_nearest_22 11 rfl rfl
theorem dX11_nearest_34 : decode cX11_nearest 34 = .ok (.invokestatic 192, 3) := de184 hX11_nearest_22 12 rfl rfl rfl
theorem dX11_nearest_37 : decode cX11_nearest 37 = .ok (.iadd, 1) := de96 hX11_nearest_22 15 rfl rfl
theorem dX11_nearest_38 : decode cX11_nearest 38 = .ok (.istore 5, 2) := de54 hX11_nearest_22 16 rfl rfl rfl
theorem dX11_nearest_40 : decode cX11_nearest 40 = .ok (.iload 5, 2) := de21 hX11_nearest_22 18 rfl rfl rfl
theorem dX11_nearest_42 : decode cX11_nearest 42 = .ok (.iload_n 3, 1) := de29 hX11_nearest_22 20 rfl rfl
theorem hX11_nearest_43 : bHas cX11_nearest 43 [162, 0, 8, 21, 5, 167, 0, 4, 29, 62, 132, 4, 1, 167, 255, 206, 29, 172] := bH_c (n := 18) (by decide +kernel)
theorem dX11_nearest_43 : decode cX11_nearest 43 = .ok (.if_icmp .ge 8, 3) := de162 hX11_nearest_43 0 rfl rfl (by decide +kernel)
theorem dX11_nearest_46 : decode cX11_nearest 46 = .ok (.iload 5, 2) := de21 hX11_nearest_43 3 rfl rfl rfl
theorem dX11_nearest_48 : decode cX11_nearest 48 = .ok (.goto 4, 3) := de167 hX11_nearest_43 5 rfl rfl (by decide +kernel)
theorem dX11_nearest_51 : decode cX11_nearest 51 = .ok (.iload_n 3, 1) := de29 hX11_nearest_43 8 rfl rfl
theorem dX11_nearest_52 : decode cX11_nearest 52 = .ok (.istore_n 3, 1) := de62 hX11_nearest_43 9 rfl rfl
theorem dX11_nearest_53 : decode cX11_nearest 53 = .ok (.iinc 4 1, 3) := de132 hX11_nearest_43 10 rfl rfl rfl rfl
theorem dX11_nearest_56 : decode cX11_nearest 56 = .ok (.goto (-50), 3) := de167 hX11_nearest_43 13 rfl rfl (by decide +kernel)
theorem dX11_nearest_59 : decode cX11_nearest 59 = .ok (.iload_n 3, 1) := de29 hX11_nearest_43 16 rfl rfl
theorem dX11_nearest_60 : decode cX11_nearest 60 = .ok (.ireturn, 1) := de172 hX11_nearest_43 17 rfl rfl
theorem hX11_place_0 : bHas cX11_place 0 [27, 28, 29, 21, 4, 184, 1, 52, 154, 0, 6, 16, 254, 172, 16, 250, 54, 5, 3, 54, 6] := bH_c (n := 21) (by decide +kernel)
theorem dX11_place_0 : decode cX11_place 0 = .ok (.iload_n 1, 1) := de27 hX11_place_0 0 rfl rfl
theorem dX11_place_1 : decode cX11_place 1 = .ok (.iload_n 2, 1) := de28 hX11_place_0 1 rfl rfl
theorem dX11_place_2 : decode cX11_place 2 = .ok (.iload_n 3, 1) := de29 hX11_place_0 2 rfl rfl
theorem dX11_place_3 : decode cX11_place 3 = .ok (.iload 4, 2) := de21 hX11_place_0 3 rfl rfl rfl
theorem dX11_place_5 : decode cX11_place 5 = .ok (.invokestatic 308, 3) := de184 hX11_place_0 5 rfl rfl rfl
theorem dX11_place_8 : decode cX11_place 8 = .ok (.ifCond .ne 6, 3) := de154 hX11_place_0 8 rfl rfl (by decide +kernel)
theorem dX11_place_11 : decode cX11_place 11 = .ok (.bipush (-2), 2) := de16 hX11_place_0 11 rfl rfl rfl
theorem dX11_place_13 : decode cX11_place 13 = .ok (.ireturn, 1) := de172 hX11_place_0 13 rfl rfl
theorem dX11_place_14 : decode cX11_place 14 = .ok (.bipush (-6), 2) := de16 hX11_place_0 14 rfl rfl rfl
theorem dX11_place_16 : decode cX11_place 16 = .ok (.istore 5, 2) := de54 hX11_place_0 16 rfl rfl rfl
theorem dX11_place_18 : decode cX11_place 18 = .ok (.iconst 0, 1) := de3 hX11_place_0 18 rfl rfl
theorem dX11_place_19 : decode cX11_place 19 = .ok (.istore 6, 2) := de54 hX11_place_0 19 rfl rfl rfl
theorem hX11_place_21 : bHas cX11_place 21 [3, 54, 7, 21, 7, 16, 20, 163, 0, 131, 3, 54, 8, 21, 8, 16, 20, 163, 0, 115, 3, 54, 9] := bH_c (n := 23) (by decide +kernel)
theorem dX11_place_21 : decode cX11_place 21 = .ok (.iconst 0, 1) := de3 hX11_place_21 0 rfl rfl
theorem dX11_place_22 : decode cX11_place 22 = .ok (.istore 7, 2) := de54 hX11_place_21 1 rfl rfl rfl
theorem dX11_place_24 : decode cX11_place 24 = .ok (.iload 7, 2) := de21 hX11_place_21 3 rfl rfl rfl
theorem dX11_place_26 : decode cX11_place 26 = .ok (.bipush 20, 2) := de16 hX11_place_21 5 rfl rfl rfl
theorem dX11_place_28 : decode cX11_place 28 = .ok (.if_icmp .gt 131, 3) := de163 hX11_place_21 7 rfl rfl (by decide +kernel)
theorem dX11_place_31 : decode cX11_place 31 = .ok (.iconst 0, 1) := de3 hX11_place_21 10 rfl rfl
theorem dX11_place_32 : decode cX11_place 32 = .ok (.istore 8, 2) := de54 hX11_place_21 11 rfl rfl rfl
theorem dX11_place_34 : decode cX11_place 34 = .ok (.iload 8, 2) := de21 hX11_place_21 13 rfl rfl rfl
theorem dX11_place_36 : decode cX11_place 36 = .ok (.bipush 20, 2) := de16 hX11_place_21 15 rfl rfl rfl
theorem dX11_place_38 : decode cX11_place 38 = .ok (.if_icmp .gt 115, 3) := de163 hX11_place_21 17 rfl rfl (by decide +kernel)
theorem dX11_place_41 : decode cX11_place 41 = .ok (.iconst 0, 1) := de3 hX11_place_21 20 rfl rfl
theorem dX11_place_42 : decode cX11_place 42 = .ok (.istore 9, 2) := de54 hX11_place_21 21 rfl rfl rfl
theorem hX11_place_44 : bHas cX11_place 44 [27, 54, 10, 21, 10, 28, 163, 0, 71, 29, 54, 11, 21, 11, 21, 4, 163, 0, 55, 21, 7, 21, 10] := bH_c (n := 23) (by decide +kernel)
theorem dX11_place_44 : decode cX11_place 44 = .ok (.iload_n 1, 1) := de27 hX11_place_44 0 rfl rfl
theorem dX11_place_45 : decode cX11_place 45 = .ok (.istore 10, 2) := de54 hX11_place_44 1 rfl rfl rfl
theorem dX11_place_47 : decode cX11_place 47 = .ok (.iload 10, 2) := de21 hX11_place_44 3 rfl rfl rfl
theorem dX11_place_49 : decode cX11_place 49 = .ok (.iload_n 2, 1) := de28 hX11_place_44 5 rfl rfl
theorem dX11_place_50 : decode cX11_place 50 = .ok (.if_icmp .gt 71, 3) := de163 hX11_place_44 6 rfl rfl (by decide +kernel)
theorem dX11_place_53 : decode cX11_place 53 = .ok (.iload_n 3, 1) := de29 hX11_place_44 9 rfl rfl
theorem dX11_place_54 : decode cX11_place 54 = .ok (.istore 11, 2) := de54 hX11_place_44 10 rfl rfl rfl
theorem dX11_place_56 : decode cX11_place 56 = .ok (.iload 11, 2) := de21 hX11_place_44 12 rfl rfl rfl
theorem dX11_place_58 : decode cX11_place 58 = .ok (.iload 4, 2) := de21 hX11_place_44 14 rfl rfl rfl
theorem dX11_place_60 : decode cX11_place 60 = .ok (.if_icmp .gt 55, 3) := de163 hX11_place_44 16 rfl rfl (by decide +kernel)
theorem dX11_place_63 : decode cX11_place 63 = .ok (.iload 7, 2) := de21 hX11_place_44 19 rfl rfl rfl
theorem dX11_place_65 : decode cX11_place 65 = .ok (.iload 10, 2) := de21 hX11_place_44 21 rfl rfl rfl
theorem hX11_place_67 : bHas cX11_place 67 [184, 0, 192, 21, 8, 21, 11, 184, 0, 192, 96, 54, 12, 42, 21, 10, 21, 11, 182, 1, 64, 54, 13, 21, 9] := bH_c (n := 25) (by decide +kernel)
theorem dX11_place_67 : decode cX11_place 67 = .ok (.invokestatic 192, 3) := de184 hX11_place_67 0 rfl rfl rfl
theorem dX11_place_70 : decode cX11_place 70 = .ok (.iload 8, 2) := de21 hX11_place_67 3 rfl rfl rfl
theorem dX11_place_72 : decode cX11_place 72 = .ok (.iload 11, 2) := de21 hX11_place_67 5 rfl rfl rfl
theorem dX11_place_74 : decode cX11_place 74 = .ok (.invokestatic 192, 3) := de184 hX11_place_67 7 rfl rfl rfl
theorem dX11_place_77 : decode cX11_place 77 = .ok (.iadd, 1) := de96 hX11_place_67 10 rfl rfl
theorem dX11_place_78 : decode cX11_place 78 = .ok (.istore 12, 2) := de54 hX11_place_67 11 rfl rfl rfl
theorem dX11_place_80 : decode cX11_place 80 = .ok (.aload_n 0, 1) := de42 hX11_place_67 13 rfl rfl
theorem dX11_place_81 : decode cX11_place 81 = .ok (.iload 10, 2) := de21 hX11_place_67 14 rfl rfl rfl
theorem dX11_place_83 : decode cX11_place 83 = .ok (.iload 11, 2) := de21 hX11_place_67 16 rfl rfl rfl
theorem dX11_place_85 : decode cX11_place 85 = .ok (.invokevirtual 320, 3) := de182 hX11_place_67 18 rfl rfl rfl
theorem dX11_place_88 : decode cX11_place 88 = .ok (.istore 13, 2) := de54 hX11_place_67 21 rfl rfl rfl
theorem dX11_place_90 : decode cX11_place 90 = .ok (.iload 9, 2) := de21 hX11_place_67 23 rfl rfl rfl
theorem hX11_place_92 : bHas cX11_place 92 [21, 12, 21, 13, 162, 0, 8, 21, 12, 167, 0, 5, 21, 13, 96, 54, 9, 132, 11, 1, 167, 255, 200, 132, 10, 1, 167, 255, 185] := bH_c (n := 29) (by decide +kernel)
theorem dX11_place_92 : decode cX11_place 92 = .ok (.iload 12, 2) := de21 hX11_place_92 0 rfl rfl rfl
theorem dX11_place_94 : decode cX11_place 94 = .ok (.iload 13, 2) := de21 hX11_place_92 2 rfl rfl rfl
theorem dX11_place_96 : decode cX11_place 96 = .ok (.if_icmp .ge 8, 3) := de162 hX11_place_92 4 rfl rfl (by decide +kernel)
theorem dX11_place_99 : decode cX11_place 99 = .ok (.iload 12, 2) := de21 hX11_place_92 7 rfl rfl rfl
theorem dX11_place_101 : decode cX11_place 101 = .ok (.goto 5, 3) := de167 hX11_place_92 9 rfl rfl (by decide +kernel)
theorem dX11_place_104 : decode cX11_place 104 = .ok (.iload 13, 2) := de21 hX11_place_92 12 rfl rfl rfl
theorem dX11_place_106 : decode cX11_place 106 = .ok (.iadd, 1) := de96 hX11_place_92 14 rfl rfl
theorem dX11_place_107 : decode cX11_place 107 = .ok (.istore 9, 2) := de54 hX11_place_92 15 rfl rfl rfl
theorem dX11_place_109 : decode cX11_place 109 = .ok (.iinc 11 1, 3) := de132 hX11_place_92 17 rfl rfl rfl rfl
theorem dX11_place_112 : decode cX11_place 112 = .ok (.goto (-56), 3) := de167 hX11_place_92 20 rfl rfl (by decide +kernel)
theorem dX11_place_115 : decode cX11_place 115 = .ok (.iinc 10 1, 3) := de132 hX11_place_92 23 rfl rfl rfl rfl
theorem dX11_place_118 : decode cX11_place 118 = .ok (.goto (-71), 3) := de167 hX11_place_92 26 rfl rfl (by decide +kernel)
theorem hX11_place_121 : bHas cX11_place 121 [21, 5, 155, 0, 10, 21, 9, 21, 6, 162, 0, 17, 16, 100, 21, 7, 104, 21, 8, 96, 54, 5, 21, 9] := bH_c (n := 24) (by decide +kernel)
theorem dX11_place_121 : decode cX11_place 121 = .ok (.iload 5, 2) := de21 hX11_place_121 0 rfl rfl rfl
theorem dX11_place_123 : decode cX11_place 123 = .ok (.ifCond .lt 10, 3) := de155 hX11_place_121 2 rfl rfl (by decide +kernel)
theorem dX11_place_126 : decode cX11_place 126 = .ok (.iload 9, 2) := de21 hX11_place_121 5 rfl rfl rfl
theorem dX11_place_128 : decode cX11_place 128 = .ok (.iload 6, 2) := de21 hX11_place_121 7 rfl rfl rfl
theorem dX11_place_130 : decode cX11_place 130 = .ok (.if_icmp .ge 17, 3) := de162 hX11_place_121 9 rfl rfl (by decide +kernel)
theorem dX11_place_133 : decode cX11_place 133 = .ok (.bipush 100, 2) := de16 hX11_place_121 12 rfl rfl rfl
theorem dX11_place_135 : decode cX11_place 135 = .ok (.iload 7, 2) := de21 hX11_place_121 14 rfl rfl rfl
theorem dX11_place_137 : decode cX11_place 137 = .ok (.imul, 1) := de104 hX11_place_121 16 rfl rfl
theorem dX11_place_138 : decode cX11_place 138 = .ok (.iload 8, 2) := de21 hX11_place_121 17 rfl rfl rfl
theorem dX11_place_140 : decode cX11_place 140 = .ok (.iadd, 1) := de96 hX11_place_121 19 rfl rfl
theorem dX11_place_141 : decode cX11_place 141 = .ok (.istore 5, 2) := de54 hX11_place_121 20 rfl rfl rfl
theorem dX11_place_143 : decode cX11_place 143 = .ok (.iload 9, 2) := de21 hX11_place_121 22 rfl rfl rfl
theorem hX11_place_145 : bHas cX11_place 145 [54, 6, 132, 8, 1, 167, 255, 140, 132, 7, 1, 167, 255, 124, 21, 5, 172] := bH_c (n := 17) (by decide +kernel)
theorem dX11_place_145 : decode cX11_place 145 = .ok (.istore 6, 2) := de54 hX11_place_145 0 rfl rfl rfl
theorem dX11_place_147 : decode cX11_place 147 = .ok (.iinc 8 1, 3) := de132 hX11_place_145 2 rfl rfl rfl rfl
theorem dX11_place_150 : decode cX11_place 150 = .ok (.goto (-116), 3) := de167 hX11_place_145 5 rfl rfl (by decide +kernel)
theorem dX11_place_153 : decode cX11_place 153 = .ok (.iinc 7 1, 3) := de132 hX11_place_145 8 rfl rfl rfl rfl
theorem dX11_place_156 : decode cX11_place 156 = .ok (.goto (-132), 3) := de167 hX11_place_145 11 rfl rfl (by decide +kernel)
theorem dX11_place_159 : decode cX11_place 159 = .ok (.iload 5, 2) := de21 hX11_place_145 14 rfl rfl rfl
theorem dX11_place_161 : decode cX11_place 161 = .ok (.ireturn, 1) := de172 hX11_place_145 16 rfl rfl
theorem hX11_isRow_0 : bHas cX11_isRow 0 [26, 133, 10, 20, 1, 67, 184, 0, 126, 60, 26, 61, 28, 158, 0, 30, 27, 153, 0, 16] := bH_c (n := 20) (by decide +kernel)
theorem dX11_isRow_0 : decode cX11_isRow 0 = .ok (.iload_n 0, 1) := de26 hX11_isRow_0 0 rfl rfl
theorem dX11_isRow_1 : decode cX11_isRow 1 = .ok (.i2l, 1) := de133 hX11_isRow_0 1 rfl rfl
theorem dX11_isRow_2 : decode cX11_isRow 2 = .ok (.lconst 1, 1) := de10 hX11_isRow_0 2 rfl rfl
theorem dX11_isRow_3 : decode cX11_isRow 3 = .ok (.ldc2_w 323, 3) := de20 hX11_isRow_0 3 rfl rfl rfl
theorem dX11_isRow_6 : decode cX11_isRow 6 = .ok (.invokestatic 126, 3) := de184 hX11_isRow_0 6 rfl rfl rfl
theorem dX11_isRow_9 : decode cX11_isRow 9 = .ok (.istore_n 1, 1) := de60 hX11_isRow_0 9 rfl rfl
theorem dX11_isRow_10 : decode cX11_isRow 10 = .ok (.iload_n 0, 1) := de26 hX11_isRow_0 10 rfl rfl
theorem dX11_isRow_11 : decode cX11_isRow 11 = .ok (.istore_n 2, 1) := de61 hX11_isRow_0 11 rfl rfl
theorem dX11_isRow_12 : decode cX11_isRow 12 = .ok (.iload_n 2, 1) := de28 hX11_isRow_0 12 rfl rfl
theorem dX11_isRow_13 : decode cX11_isRow 13 = .ok (.ifCond .le 30, 3) := de158 hX11_isRow_0 13 rfl rfl (by decide +kernel)
theorem dX11_isRow_16 : decode cX11_isRow 16 = .ok (.iload_n 1, 1) := de27 hX11_isRow_0 16 rfl rfl
theorem dX11_isRow_17 : decode cX11_isRow 17 = .ok (.ifCond .eq 16, 3) := de153 hX11_isRow_0 17 rfl rfl (by decide +kernel)
theorem hX11_isRow_20 : bHas cX11_isRow 20 [28, 16, 10, 112, 16, 6, 163, 0, 7, 4, 167, 0, 4, 3, 60, 28, 16, 10, 108] := bH_c (n := 19) (by decide +kernel)
theorem dX11_isRow_20 : decode cX11_isRow 20 = .ok (.iload_n 2, 1) := de28 hX11_isRow_20 0 rfl rfl
theorem dX11_isRow_21 : decode cX11_isRow 21 = .ok (.bipush 10, 2) := de16 hX11_isRow_20 1 rfl rfl rfl
theorem dX11_isRow_23 : decode cX11_isRow 23 = .ok (.irem, 1) := de112 hX11_isRow_20 3 rfl rfl
theorem dX11_isRow_24 : decode cX11_isRow 24 = .ok (.bipush 6, 2) := de16 hX11_isRow_20 4 rfl rfl rfl
theorem dX11_isRow_26 : decode cX11_isRow 26 = .ok (.if_icmp .gt 7, 3) := de163 hX11_isRow_20 6 rfl rfl (by decide +kernel)
theorem dX11_isRow_29 : decode cX11_isRow 29 = .ok (.iconst 1, 1) := de4 hX11_isRow_20 9 rfl rfl
theorem dX11_isRow_30 : decode cX11_isRow 30 = .ok (.goto 4, 3) := de167 hX11_isRow_20 10 rfl rfl (by decide +kernel)
theorem dX11_isRow_33 : decode cX11_isRow 33 = .ok (.iconst 0, 1) := de3 hX11_isRow_20 13 rfl rfl
theorem dX11_isRow_34 : decode cX11_isRow 34 = .ok (.istore_n 1, 1) := de60 hX11_isRow_20 14 rfl rfl
theorem dX11_isRow_35 : decode cX11_isRow 35 = .ok (.iload_n 2, 1) := de28 hX11_isRow_20 15 rfl rfl
theorem dX11_isRow_36 : decode cX11_isRow 36 = .ok (.bipush 10, 2) := de16 hX11_isRow_20 16 rfl rfl rfl
theorem dX11_isRow_38 : decode cX11_isRow 38 = .ok (.idiv, 1) := de108 hX11_isRow_20 18 rfl rfl
theorem hX11_isRow_39 : bHas cX11_isRow 39 [61, 167, 255, 228, 27, 172] := bH_c (n := 6) (by decide +kernel)
theorem dX11_isRow_39 : decode cX11_isRow 39 = .ok (.istore_n 2, 1) := de61 hX11_isRow_39 0 rfl rfl
theorem dX11_isRow_40 : decode cX11_isRow 40 = .ok (.goto (-28), 3) := de167 hX11_isRow_39 1 rfl rfl (by decide +kernel)
theorem dX11_isRow_43 : decode cX11_isRow 43 = .ok (.iload_n 1, 1) := de27 hX11_isRow_39 4 rfl rfl
theorem dX11_isRow_44 : decode cX11_isRow 44 = .ok (.ireturn, 1) := de172 hX11_isRow_39 5 rfl rfl
theorem hX11_toldBy_0 : bHas cX11_toldBy 0 [16, 250, 62, 27, 54, 4, 21, 4, 158, 0, 52, 21, 4, 16, 10, 112, 4, 100, 54, 5] := bH_c (n := 20) (by decide +kernel)
theorem dX11_toldBy_0 : decode cX11_toldBy 0 = .ok (.bipush (-6), 2) := de16 hX11_toldBy_0 0 rfl rfl rfl
theorem dX11_toldBy_2 : decode cX11_toldBy 2 = .ok (.istore_n 3, 1) := de62 hX11_toldBy_0 2 rfl rfl
theorem dX11_toldBy_3 : decode cX11_toldBy 3 = .ok (.iload_n 1, 1) := de27 hX11_toldBy_0 3 rfl rfl
theorem dX11_toldBy_4 : decode cX11_toldBy 4 = .ok (.istore 4, 2) := de54 hX11_toldBy_0 4 rfl rfl rfl
theorem dX11_toldBy_6 : decode cX11_toldBy 6 = .ok (.iload 4, 2) := de21 hX11_toldBy_0 6 rfl rfl rfl
theorem dX11_toldBy_8 : decode cX11_toldBy 8 = .ok (.ifCond .le 52, 3) := de158 hX11_toldBy_0 8 rfl rfl (by decide +kernel)
theorem dX11_toldBy_11 : decode cX11_toldBy 11 = .ok (.iload 4, 2) := de21 hX11_toldBy_0 11 rfl rfl rfl
theorem dX11_toldBy_13 : decode cX11_toldBy 13 = .ok (.bipush 10, 2) := de16 hX11_toldBy_0 13 rfl rfl rfl
theorem dX11_toldBy_15 : decode cX11_toldBy 15 = .ok (.irem, 1) := de112 hX11_toldBy_0 15 rfl rfl
theorem dX11_toldBy_16 : decode cX11_toldBy 16 = .ok (.iconst 1, 1) := de4 hX11_toldBy_0 16 rfl rfl
theorem dX11_toldBy_17 : decode cX11_toldBy 17 = .ok (.isub, 1) := de100 hX11_toldBy_0 17 rfl rfl
theorem dX11_toldBy_18 : decode cX11_toldBy 18 = .ok (.istore 5, 2) := de54 hX11_toldBy_0 18 rfl rfl rfl
theorem hX11_toldBy_20 : bHas cX11_toldBy 20 [42, 21, 5, 182, 0, 143, 153, 0, 22, 42, 180, 0, 61, 21, 5, 28, 184, 0, 139, 46, 155, 0, 8, 21, 5] := bH_c (n := 25) (by decide +kernel)
theorem dX11_toldBy_20 : decode cX11_toldBy 20 = .ok (.aload_n 0, 1) := de42 hX11_toldBy_20 0 rfl rfl
theorem dX11_toldBy_21 : decode cX11_toldBy 21 = .ok (.iload 5, 2) := de21 hX11_toldBy_20 1 rfl rfl rfl
theorem dX11_toldBy_23 : decode cX11_toldBy 23 = .ok (.invokevirtual 143, 3) := de182 hX11_toldBy_20 3 rfl rfl rfl
theorem dX11_toldBy_26 : decode cX11_toldBy 26 = .ok (.ifCond .eq 22, 3) := de153 hX11_toldBy_20 6 rfl rfl (by decide +kernel)
theorem dX11_toldBy_29 : decode cX11_toldBy 29 = .ok (.aload_n 0, 1) := de42 hX11_toldBy_20 9 rfl rfl
theorem dX11_toldBy_30 : decode cX11_toldBy 30 = .ok (.getfield 61, 3) := de180 hX11_toldBy_20 10 rfl rfl rfl
theorem dX11_toldBy_33 : decode cX11_toldBy 33 = .ok (.iload 5, 2) := de21 hX11_toldBy_20 13 rfl rfl rfl
theorem dX11_toldBy_35 : decode cX11_toldBy 35 = .ok (.iload_n 2, 1) := de28 hX11_toldBy_20 15 rfl rfl
theorem dX11_toldBy_36 : decode cX11_toldBy 36 = .ok (.invokestatic 139, 3) := de184 hX11_toldBy_20 16 rfl rfl rfl
theorem dX11_toldBy_39 : decode cX11_toldBy 39 = .ok (.iaload, 1) := de46 hX11_toldBy_20 19 rfl rfl
theorem dX11_toldBy_40 : decode cX11_toldBy 40 = .ok (.ifCond .lt 8, 3) := de155 hX11_toldBy_20 20 rfl rfl (by decide +kernel)
theorem dX11_toldBy_43 : decode cX11_toldBy 43 = .ok (.iload 5, 2) := de21 hX11_toldBy_20 23 rfl rfl rfl
theorem hX11_toldBy_45 : bHas cX11_toldBy 45 [167, 0, 4, 29, 62, 21, 4, 16, 10, 108, 54, 4, 167, 255, 205, 29, 172] := bH_c (n := 17) (by decide +kernel)
theorem dX11_toldBy_45 : decode cX11_toldBy 45 = .ok (.goto 4, 3) := de167 hX11_toldBy_45 0 rfl rfl (by decide +kernel)
theorem dX11_toldBy_48 : decode cX11_toldBy 48 = .ok (.iload_n 3, 1) := de29 hX11_toldBy_45 3 rfl rfl
theorem dX11_toldBy_49 : decode cX11_toldBy 49 = .ok (.istore_n 3, 1) := de62 hX11_toldBy_45 4 rfl rfl
theorem dX11_toldBy_50 : decode cX11_toldBy 50 = .ok (.iload 4, 2) := de21 hX11_toldBy_45 5 rfl rfl rfl
theorem dX11_toldBy_52 : decode cX11_toldBy 52 = .ok (.bipush 10, 2) := de16 hX11_toldBy_45 7 rfl rfl rfl
theorem dX11_toldBy_54 : decode cX11_toldBy 54 = .ok (.idiv, 1) := de108 hX11_toldBy_45 9 rfl rfl
theorem dX11_toldBy_55 : decode cX11_toldBy 55 = .ok (.istore 4, 2) := de54 hX11_toldBy_45 10 rfl rfl rfl
theorem dX11_toldBy_57 : decode cX11_toldBy 57 = .ok (.goto (-51), 3) := de167 hX11_toldBy_45 12 rfl rfl (by decide +kernel)
theorem dX11_toldBy_60 : decode cX11_toldBy 60 = .ok (.iload_n 3, 1) := de29 hX11_toldBy_45 15 rfl rfl
theorem dX11_toldBy_61 : decode cX11_toldBy 61 = .ok (.ireturn, 1) := de172 hX11_toldBy_45 16 rfl rfl
theorem hX11_record_0 : bHas cX11_record 0 [27, 184, 1, 69, 153, 0, 13, 29, 133, 9, 10, 184, 0, 126, 154, 0, 6, 16, 254, 172, 28] := bH_c (n := 21) (by decide +kernel)
theorem dX11_record_0 : decode cX11_record 0 = .ok (.iload_n 1, 1) := de27 hX11_record_0 0 rfl rfl
theorem dX11_record_1 : decode cX11_record 1 = .ok (.invokestatic 325, 3) := de184 hX11_record_0 1 rfl rfl rfl
theorem dX11_record_4 : decode cX11_record 4 = .ok (.ifCond .eq 13, 3) := de153 hX11_record_0 4 rfl rfl (by decide +kernel)
theorem dX11_record_7 : decode cX11_record 7 = .ok (.iload_n 3, 1) := de29 hX11_record_0 7 rfl rfl
theorem dX11_record_8 : decode cX11_record 8 = .ok (.i2l, 1) := de133 hX11_record_0 8 rfl rfl
theorem dX11_record_9 : decode cX11_record 9 = .ok (.lconst 0, 1) := de9 hX11_record_0 9 rfl rfl
theorem dX11_record_10 : decode cX11_record 10 = .ok (.lconst 1, 1) := de10 hX11_record_0 10 rfl rfl
theorem dX11_record_11 : decode cX11_record 11 = .ok (.invokestatic 126, 3) := de184 hX11_record_0 11 rfl rfl rfl
theorem dX11_record_14 : decode cX11_record 14 = .ok (.ifCond .ne 6, 3) := de154 hX11_record_0 14 rfl rfl (by decide +kernel)
theorem dX11_record_17 : decode cX11_record 17 = .ok (.bipush (-2), 2) := de16 hX11_record_0 17 rfl rfl rfl
theorem dX11_record_19 : decode cX11_record 19 = .ok (.ireturn, 1) := de172 hX11_record_0 19 rfl rfl
theorem dX11_record_20 : decode cX11_record 20 = .ok (.iload_n 2, 1) := de28 hX11_record_0 20 rfl rfl
theorem hX11_record_21 : bHas cX11_record 21 [184, 0, 151, 154, 0, 5, 2, 172, 42, 182, 0, 212, 42, 27, 28, 182, 1, 72, 54, 4, 21, 4] := bH_c (n := 22) (by decide +kernel)
theorem dX11_record_21 : decode cX11_record 21 = .ok (.invokestatic 151, 3) := de184 hX11_record_21 0 rfl rfl rfl
theorem dX11_record_24 : decode cX11_record 24 = .ok (.ifCond .ne 5, 3) := de154 hX11_record_21 3 rfl rfl (by decide +kernel)
theorem dX11_record_27 : decode cX11_record 27 = .ok (.iconst (-1), 1) := de2 hX11_record_21 6 rfl rfl
theorem dX11_record_28 : decode cX11_record 28 = .ok (.ireturn, 1) := de172 hX11_record_21 7 rfl rfl
theorem dX11_record_29 : decode cX11_record 29 = .ok (.aload_n 0, 1) := de42 hX11_record_21 8 rfl rfl
theorem dX11_record_30 : decode cX11_record 30 = .ok (.invokevirtual 212, 3) := de182 hX11_record_21 9 rfl rfl rfl
theorem dX11_record_33 : decode cX11_record 33 = .ok (.aload_n 0, 1) := de42 hX11_record_21 12 rfl rfl
theorem dX11_record_34 : decode cX11_record 34 = .ok (.iload_n 1, 1) := de27 hX11_record_21 13 rfl rfl
theorem dX11_record_35 : decode cX11_record 35 = .ok (.iload_n 2, 1) := de28 hX11_record_21 14 rfl rfl
theorem dX11_record_36 : decode cX11_record 36 = .ok (.invokevirtual 328, 3) := de182 hX11_record_21 15 rfl rfl rfl
theorem dX11_record_39 : decode cX11_record 39 = .ok (.istore 4, 2) := de54 hX11_record_21 18 rfl rfl rfl
theorem dX11_record_41 : decode cX11_record 41 = .ok (.iload 4, 2) := de21 hX11_record_21 20 rfl rfl rfl
theorem hX11_record_43 : bHas cX11_record 43 [156, 0, 8, 16, 250, 167, 0, 23, 29, 154, 0, 17, 42, 180, 0, 61, 21, 4, 28, 184, 0, 139, 46, 167, 0, 5] := bH_c (n := 26) (by decide +kernel)
theorem dX11_record_43 : decode cX11_record 43 = .ok (.ifCond .ge 8, 3) := de156 hX11_record_43 0 rfl rfl (by decide +kernel)
theorem dX11_record_46 : decode cX11_record 46 = .ok (.bipush (-6), 2) := de16 hX11_record_43 3 rfl rfl rfl
theorem dX11_record_48 : decode cX11_record 48 = .ok (.goto 23, 3) := de167 hX11_record_43 5 rfl rfl (by decide +kernel)
theorem dX11_record_51 : decode cX11_record 51 = .ok (.iload_n 3, 1) := de29 hX11_record_43 8 rfl rfl
theorem dX11_record_52 : decode cX11_record 52 = .ok (.ifCond .ne 17, 3) := de154 hX11_record_43 9 rfl rfl (by decide +kernel)
theorem dX11_record_55 : decode cX11_record 55 = .ok (.aload_n 0, 1) := de42 hX11_record_43 12 rfl rfl
theorem dX11_record_56 : decode cX11_record 56 = .ok (.getfield 61, 3) := de180 hX11_record_43 13 rfl rfl rfl
theorem dX11_record_59 : decode cX11_record 59 = .ok (.iload 4, 2) := de21 hX11_record_43 16 rfl rfl rfl
theorem dX11_record_61 : decode cX11_record 61 = .ok (.iload_n 2, 1) := de28 hX11_record_43 18 rfl rfl
theorem dX11_record_62 : decode cX11_record 62 = .ok (.invokestatic 139, 3) := de184 hX11_record_43 19 rfl rfl rfl
theorem dX11_record_65 : decode cX11_record 65 = .ok (.iaload, 1) := de46 hX11_record_43 22 rfl rfl
theorem dX11_record_66 : decode cX11_record 66 = .ok (.goto 5, 3) := de167 hX11_record_43 23 rfl rfl (by decide +kernel)
theorem hX11_record_69 : bHas cX11_record 69 [21, 4, 172] := bH_c (n := 3) (by decide +kernel)
theorem dX11_record_69 : decode cX11_record 69 = .ok (.iload 4, 2) := de21 hX11_record_69 0 rfl rfl rfl
theorem dX11_record_71 : decode cX11_record 71 = .ok (.ireturn, 1) := de172 hX11_record_69 2 rfl rfl
theorem hX11_seam_0 : bHas cX11_seam 0 [27, 184, 1, 69, 154, 0, 6, 16, 254, 172, 42, 182, 0, 212, 16, 250, 62, 3, 54, 4, 3] := bH_c (n := 21) (by decide +kernel)
theorem dX11_seam_0 : decode cX11_seam 0 = .ok (.iload_n 1, 1) := de27 hX11_seam_0 0 rfl rfl
theorem dX11_seam_1 : decode cX11_seam 1 = .ok (.invokestatic 325, 3) := de184 hX11_seam_0 1 rfl rfl rfl
theorem dX11_seam_4 : decode cX11_seam 4 = .ok (.ifCond .ne 6, 3) := de154 hX11_seam_0 4 rfl rfl (by decide +kernel)
theorem dX11_seam_7 : decode cX11_seam 7 = .ok (.bipush (-2), 2) := de16 hX11_seam_0 7 rfl rfl rfl
theorem dX11_seam_9 : decode cX11_seam 9 = .ok (.ireturn, 1) := de172 hX11_seam_0 9 rfl rfl
theorem dX11_seam_10 : decode cX11_seam 10 = .ok (.aload_n 0, 1) := de42 hX11_seam_0 10 rfl rfl
theorem dX11_seam_11 : decode cX11_seam 11 = .ok (.invokevirtual 212, 3) := de182 hX11_seam_0 11 rfl rfl rfl
theorem dX11_seam_14 : decode cX11_seam 14 = .ok (.bipush (-6), 2) := de16 hX11_seam_0 14 rfl rfl rfl
theorem dX11_seam_16 : decode cX11_seam 16 = .ok (.istore_n 3, 1) := de62 hX11_seam_0 16 rfl rfl
theorem dX11_seam_17 : decode cX11_seam 17 = .ok (.iconst 0, 1) := de3 hX11_seam_0 17 rfl rfl
theorem dX11_seam_18 : decode cX11_seam 18 = .ok (.istore 4, 2) := de54 hX11_seam_0 18 rfl rfl rfl
theorem dX11_seam_20 : decode cX11_seam 20 = .ok (.iconst 0, 1) := de3 hX11_seam_0 20 rfl rfl
theorem hX11_seam_21 : bHas cX11_seam 21 [54, 5, 16, 250, 54, 6, 3, 54, 7, 21, 7, 16, 28, 162, 0, 71, 42, 27, 21, 7, 182, 1, 72] := bH_c (n := 23) (by decide +kernel)
theorem dX11_seam_21 : decode cX11_seam 21 = .ok (.istore 5, 2) := de54 hX11_seam_21 0 rfl rfl rfl
theorem dX11_seam_23 : decode cX11_seam 23 = .ok (.bipush (-6), 2) := de16 hX11_seam_21 2 rfl rfl rfl
theorem dX11_seam_25 : decode cX11_seam 25 = .ok (.istore 6, 2) := de54 hX11_seam_21 4 rfl rfl rfl
theorem dX11_seam_27 : decode cX11_seam 27 = .ok (.iconst 0, 1) := de3 hX11_seam_21 6 rfl rfl
theorem dX11_seam_28 : decode cX11_seam 28 = .ok (.istore 7, 2) := de54 hX11_seam_21 7 rfl rfl rfl
theorem dX11_seam_30 : decode cX11_seam 30 = .ok (.iload 7, 2) := de21 hX11_seam_21 9 rfl rfl rfl
theorem dX11_seam_32 : decode cX11_seam 32 = .ok (.bipush 28, 2) := de16 hX11_seam_21 11 rfl rfl rfl
theorem dX11_seam_34 : decode cX11_seam 34 = .ok (.if_icmp .ge 71, 3) := de162 hX11_seam_21 13 rfl rfl (by decide +kernel)
theorem dX11_seam_37 : decode cX11_seam 37 = .ok (.aload_n 0, 1) := de42 hX11_seam_21 16 rfl rfl
theorem dX11_seam_38 : decode cX11_seam 38 = .ok (.iload_n 1, 1) := de27 hX11_seam_21 17 rfl rfl
theorem dX11_seam_39 : decode cX11_seam 39 = .ok (.iload 7, 2) := de21 hX11_seam_21 18 rfl rfl rfl
theorem dX11_seam_41 : decode cX11_seam 41 = .ok (.invokevirtual 328, 3) := de182 hX11_seam_21 20 rfl rfl rfl
theorem hX11_seam_44 : bHas cX11_seam 44 [54, 8, 21, 8, 155, 0, 51, 21, 5, 42, 180, 0, 61, 21, 8, 21, 7, 184, 0, 139, 46, 96, 54, 5] := bH_c (n := 24) (by decide +kernel)
theorem dX11_seam_44 : decode cX11_seam 44 = .ok (.istore 8, 2) := de54 hX11_seam_44 0 rfl rfl rfl
theorem dX11_seam_46 : decode cX11_seam 46 = .ok (.iload 8, 2) := de21 hX11_seam_44 2 rfl rfl rfl
theorem dX11_seam_48 : decode cX11_seam 48 = .ok (.ifCond .lt 51, 3) := de155 hX11_seam_44 4 rfl rfl (by decide +kernel)
theorem dX11_seam_51 : decode cX11_seam 51 = .ok (.iload 5, 2) := de21 hX11_seam_44 7 rfl rfl rfl
theorem dX11_seam_53 : decode cX11_seam 53 = .ok (.aload_n 0, 1) := de42 hX11_seam_44 9 rfl rfl
theorem dX11_seam_54 : decode cX11_seam 54 = .ok (.getfield 61, 3) := de180 hX11_seam_44 10 rfl rfl rfl
theorem dX11_seam_57 : decode cX11_seam 57 = .ok (.iload 8, 2) := de21 hX11_seam_44 13 rfl rfl rfl
theorem dX11_seam_59 : decode cX11_seam 59 = .ok (.iload 7, 2) := de21 hX11_seam_44 15 rfl rfl rfl
theorem dX11_seam_61 : decode cX11_seam 61 = .ok (.invokestatic 139, 3) := de184 hX11_seam_44 17 rfl rfl rfl
theorem dX11_seam_64 : decode cX11_seam 64 = .ok (.iaload, 1) := de46 hX11_seam_44 20 rfl rfl
theorem dX11_seam_65 : decode cX11_seam 65 = .ok (.iadd, 1) := de96 hX11_seam_44 21 rfl rfl
theorem dX11_seam_66 : decode cX11_seam 66 = .ok (.istore 5, 2) := de54 hX11_seam_44 22 rfl rfl rfl
theorem hX11_seam_68 : bHas cX11_seam 68 [29, 155, 0, 27, 21, 8, 29, 159, 0, 21, 21, 4, 28, 160, 0, 8, 21, 7, 167, 0, 5, 21, 6, 54, 6] := bH_c (n := 25) (by decide +kernel)
theorem dX11_seam_68 : decode cX11_seam 68 = .ok (.iload_n 3, 1) := de29 hX11_seam_68 0 rfl rfl
theorem dX11_seam_69 : decode cX11_seam 69 = .ok (.ifCond .lt 27, 3) := de155 hX11_seam_68 1 rfl rfl (by decide +kernel)
theorem dX11_seam_72 : decode cX11_seam 72 = .ok (.iload 8, 2) := de21 hX11_seam_68 4 rfl rfl rfl
theorem dX11_seam_74 : decode cX11_seam 74 = .ok (.iload_n 3, 1) := de29 hX11_seam_68 6 rfl rfl
theorem dX11_seam_75 : decode cX11_seam 75 = .ok (.if_icmp .eq 21, 3) := de159 hX11_seam_68 7 rfl rfl (by decide +kernel)
theorem dX11_seam_78 : decode cX11_seam 78 = .ok (.iload 4, 2) := de21 hX11_seam_68 10 rfl rfl rfl
theorem dX11_seam_80 : decode cX11_seam 80 = .ok (.iload_n 2, 1) := de28 hX11_seam_68 12 rfl rfl
theorem dX11_seam_81 : decode cX11_seam 81 = .ok (.if_icmp .ne 8, 3) := de160 hX11_seam_68 13 rfl rfl (by decide +kernel)
theorem dX11_seam_84 : decode cX11_seam 84 = .ok (.iload 7, 2) := de21 hX11_seam_68 16 rfl rfl rfl
theorem dX11_seam_86 : decode cX11_seam 86 = .ok (.goto 5, 3) := de167 hX11_seam_68 18 rfl rfl (by decide +kernel)
theorem dX11_seam_89 : decode cX11_seam 89 = .ok (.iload 6, 2) := de21 hX11_seam_68 21 rfl rfl rfl
theorem dX11_seam_91 : decode cX11_seam 91 = .ok (.istore 6, 2) := de54 hX11_seam_68 23 rfl rfl rfl
theorem hX11_seam_93 : bHas cX11_seam 93 [132, 4, 1, 21, 8, 62, 132, 7, 1, 167, 255, 184, 28, 16, 254, 160, 0, 8, 21, 5, 167, 0, 15, 28, 2] := bH_c (n := 25) (by decide +kernel)
theorem dX11_seam_93 : decode cX11_seam 93 = .ok (.iinc 4 1, 3) := de132 hX11_seam_93 0 rfl rfl rfl rfl
theorem dX11_seam_96 : decode cX11_seam 96 = .ok (.iload 8, 2) := de21 hX11_seam_93 3 rfl rfl rfl
theorem dX11_seam_98 : decode cX11_seam 98 = .ok (.istore_n 3, 1) := de62 hX11_seam_93 5 rfl rfl
theorem dX11_seam_99 : decode cX11_seam 99 = .ok (.iinc 7 1, 3) := de132 hX11_seam_93 6 rfl rfl rfl rfl
theorem dX11_seam_102 : decode cX11_seam 102 = .ok (.goto (-72), 3) := de167 hX11_seam_93 9 rfl rfl (by decide +kernel)
theorem dX11_seam_105 : decode cX11_seam 105 = .ok (.iload_n 2, 1) := de28 hX11_seam_93 12 rfl rfl
theorem dX11_seam_106 : decode cX11_seam 106 = .ok (.bipush (-2), 2) := de16 hX11_seam_93 13 rfl rfl rfl
theorem dX11_seam_108 : decode cX11_seam 108 = .ok (.if_icmp .ne 8, 3) := de160 hX11_seam_93 15 rfl rfl (by decide +kernel)
theorem dX11_seam_111 : decode cX11_seam 111 = .ok (.iload 5, 2) := de21 hX11_seam_93 18 rfl rfl rfl
theorem dX11_seam_113 : decode cX11_seam 113 = .ok (.goto 15, 3) := de167 hX11_seam_93 20 rfl rfl (by decide +kernel)
theorem dX11_seam_116 : decode cX11_seam 116 = .ok (.iload_n 2, 1) := de28 hX11_seam_93 23 rfl rfl
theorem dX11_seam_117 : decode cX11_seam 117 = .ok (.iconst (-1), 1) := de2 hX11_seam_93 24 rfl rfl
theorem hX11_seam_118 : bHas cX11_seam 118 [160, 0, 8, 21, 4, 167, 0, 5, 21, 6, 172] := bH_c (n := 11) (by decide +kernel)
theorem dX11_seam_118 : decode cX11_seam 118 = .ok (.if_icmp .ne 8, 3) := de160 hX11_seam_118 0 rfl rfl (by decide +kernel)
theorem dX11_seam_121 : decode cX11_seam 121 = .ok (.iload 4, 2) := de21 hX11_seam_118 3 rfl rfl rfl
theorem dX11_seam_123 : decode cX11_seam 123 = .ok (.goto 5, 3) := de167 hX11_seam_118 5 rfl rfl (by decide +kernel)
theorem dX11_seam_126 : decode cX11_seam 126 = .ok (.iload 6, 2) := de21 hX11_seam_118 8 rfl rfl rfl
theorem dX11_seam_128 : decode cX11_seam 128 = .ok (.ireturn, 1) := de172 hX11_seam_118 10 rfl rfl
theorem hX11_spanEnd_0 : bHas cX11_spanEnd 0 [27, 16, 10, 42, 180, 0, 121, 96, 104, 16, 10, 108, 172] := bH_c (n := 13) (by decide +kernel)
theorem dX11_spanEnd_0 : decode cX11_spanEnd 0 = .ok (.iload_n 1, 1) := de27 hX11_spanEnd_0 0 rfl rfl
theorem dX11_spanEnd_1 : decode cX11_spanEnd 1 = .ok (.bipush 10, 2) := de16 hX11_spanEnd_0 1 rfl rfl rfl
theorem dX11_spanEnd_3 : decode cX11_spanEnd 3 = .ok (.aload_n 0, 1) := de42 hX11_spanEnd_0 3 rfl rfl
theorem dX11_spanEnd_4 : decode cX11_spanEnd 4 = .ok (.getfield 121, 3) := de180 hX11_spanEnd_0 4 rfl rfl rfl
theorem dX11_spanEnd_7 : decode cX11_spanEnd 7 = .ok (.iadd, 1) := de96 hX11_spanEnd_0 7 rfl rfl
theorem dX11_spanEnd_8 : decode cX11_spanEnd 8 = .ok (.imul, 1) := de104 hX11_spanEnd_0 8 rfl rfl
theorem dX11_spanEnd_9 : decode cX11_spanEnd 9 = .ok (.bipush 10, 2) := de16 hX11_spanEnd_0 9 rfl rfl rfl
theorem dX11_spanEnd_11 : decode cX11_spanEnd 11 = .ok (.idiv, 1) := de108 hX11_spanEnd_0 11 rfl rfl
theorem dX11_spanEnd_12 : decode cX11_spanEnd 12 = .ok (.ireturn, 1) := de172 hX11_spanEnd_0 12 rfl rfl
theorem hX11_claim_0 : bHas cX11_claim 0 [42, 27, 182, 0, 143, 153, 0, 10, 28, 184, 0, 151, 154, 0, 5, 2, 172, 42, 182, 0, 212, 42] := bH_c (n := 22) (by decide +kernel)
theorem dX11_claim_0 : decode cX11_claim 0 = .ok (.aload_n 0, 1) := de42 hX11_claim_0 0 rfl rfl
theorem dX11_claim_1 : decode cX11_claim 1 = .ok (.iload_n 1, 1) := de27 hX11_claim_0 1 rfl rfl
theorem dX11_claim_2 : decode cX11_claim 2 = .ok (.invokevirtual 143, 3) := de182 hX11_claim_0 2 rfl rfl rfl
theorem dX11_claim_5 : decode cX11_claim 5 = .ok (.ifCond .eq 10, 3) := de153 hX11_claim_0 5 rfl rfl (by decide +kernel)
theorem dX11_claim_8 : decode cX11_claim 8 = .ok (.iload_n 2, 1) := de28 hX11_claim_0 8 rfl rfl
theorem dX11_claim_9 : decode cX11_claim 9 = .ok (.invokestatic 151, 3) := de184 hX11_claim_0 9 rfl rfl rfl
theorem dX11_claim_12 : decode cX11_claim 12 = .ok (.ifCond .ne 5, 3) := de154 hX11_claim_0 12 rfl rfl (by decide +kernel)
theorem dX11_claim_15 : decode cX11_claim 15 = .ok (.iconst (-1), 1) := de2 hX11_claim_0 15 rfl rfl
theorem dX11_claim_16 : decode cX11_claim 16 = .ok (.ireturn, 1) := de172 hX11_claim_0 16 rfl rfl
theorem dX11_claim_17 : decode cX11_claim 17 = .ok (.aload_n 0, 1) := de42 hX11_claim_0 17 rfl rfl
theorem dX11_claim_18 : decode cX11_claim 18 = .ok (.invokevirtual 212, 3) := de182 hX11_claim_0 18 rfl rfl rfl
theorem dX11_claim_21 : decode cX11_claim 21 = .ok (.aload_n 0, 1) := de42 hX11_claim_0 21 rfl rfl
theorem hX11_claim_22 : bHas cX11_claim 22 [180, 0, 61, 27, 28, 184, 0, 139, 46, 62, 29, 156, 0, 6, 16, 253, 172, 4, 54, 4] := bH_c (n := 20) (by decide +kernel)
theorem dX11_claim_22 : decode cX11_claim 22 = .ok (.getfield 61, 3) := de180 hX11_claim_22 0 rfl rfl rfl
theorem dX11_claim_25 : decode cX11_claim 25 = .ok (.iload_n 1, 1) := de27 hX11_claim_22 3 rfl rfl
theorem dX11_claim_26 : decode cX11_claim 26 = .ok (.iload_n 2, 1) := de28 hX11_claim_22 4 rfl rfl
theorem dX11_claim_27 : decode cX11_claim 27 = .ok (.invokestatic 139, 3) := de184 hX11_claim_22 5 rfl rfl rfl
theorem dX11_claim_30 : decode cX11_claim 30 = .ok (.iaload, 1) := de46 hX11_claim_22 8 rfl rfl
theorem dX11_claim_31 : decode cX11_claim 31 = .ok (.istore_n 3, 1) := de62 hX11_claim_22 9 rfl rfl
theorem dX11_claim_32 : decode cX11_claim 32 = .ok (.iload_n 3, 1) := de29 hX11_claim_22 10 rfl rfl
theorem dX11_claim_33 : decode cX11_claim 33 = .ok (.ifCond .ge 6, 3) := de156 hX11_claim_22 11 rfl rfl (by decide +kernel)
theorem dX11_claim_36 : decode cX11_claim 36 = .ok (.bipush (-3), 2) := de16 hX11_claim_22 14 rfl rfl rfl
theorem dX11_claim_38 : decode cX11_claim 38 = .ok (.ireturn, 1) := de172 hX11_claim_22 16 rfl rfl
theorem dX11_claim_39 : decode cX11_claim 39 = .ok (.iconst 1, 1) := de4 hX11_claim_22 17 rfl rfl
theorem dX11_claim_40 : decode cX11_claim 40 = .ok (.istore 4, 2) := de54 hX11_claim_22 18 rfl rfl rfl
theorem hX11_claim_42 : bHas cX11_claim 42 [3, 54, 5, 3, 54, 6, 21, 6, 42, 180, 0, 132, 162, 0, 100, 3, 54, 7, 21, 7, 16, 28] := bH_c (n := 22) (by decide +kernel)
theorem dX11_claim_42 : decode cX11_claim 42 = .ok (.iconst 0, 1) := de3 hX11_claim_42 0 rfl rfl
theorem dX11_claim_43 : decode cX11_claim 43 = .ok (.istore 5, 2) := de54 hX11_claim_42 1 rfl rfl rfl
theorem dX11_claim_45 : decode cX11_claim 45 = .ok (.iconst 0, 1) := de3 hX11_claim_42 3 rfl rfl
theorem dX11_claim_46 : decode cX11_claim 46 = .ok (.istore 6, 2) := de54 hX11_claim_42 4 rfl rfl rfl
theorem dX11_claim_48 : decode cX11_claim 48 = .ok (.iload 6, 2) := de21 hX11_claim_42 6 rfl rfl rfl
theorem dX11_claim_50 : decode cX11_claim 50 = .ok (.aload_n 0, 1) := de42 hX11_claim_42 8 rfl rfl
theorem dX11_claim_51 : decode cX11_claim 51 = .ok (.getfield 132, 3) := de180 hX11_claim_42 9 rfl rfl rfl
theorem dX11_claim_54 : decode cX11_claim 54 = .ok (.if_icmp .ge 100, 3) := de162 hX11_claim_42 12 rfl rfl (by decide +kernel)
theorem dX11_claim_57 : decode cX11_claim 57 = .ok (.iconst 0, 1) := de3 hX11_claim_42 15 rfl rfl
theorem dX11_claim_58 : decode cX11_claim 58 = .ok (.istore 7, 2) := de54 hX11_claim_42 16 rfl rfl rfl
theorem dX11_claim_60 : decode cX11_claim 60 = .ok (.iload 7, 2) := de21 hX11_claim_42 18 rfl rfl rfl
theorem dX11_claim_62 : decode cX11_claim 62 = .ok (.bipush 28, 2) := de16 hX11_claim_42 20 rfl rfl rfl
theorem hX11_claim_64 : bHas cX11_claim 64 [162, 0, 84, 42, 180, 0, 61, 21, 6, 21, 7, 184, 0, 139, 46, 54, 8, 21, 8, 155, 0, 59, 21, 6, 27] := bH_c (n := 25) (by decide +kernel)
theorem dX11_claim_64 : decode cX11_claim 64 = .ok (.if_icmp .ge 84, 3) := de162 hX11_claim_64 0 rfl rfl (by decide +kernel)
theorem dX11_claim_67 : decode cX11_claim 67 = .ok (.aload_n 0, 1) := de42 hX11_claim_64 3 rfl rfl
theorem dX11_claim_68 : decode cX11_claim 68 = .ok (.getfield 61, 3) := de180 hX11_claim_64 4 rfl rfl rfl
theorem dX11_claim_71 : decode cX11_claim 71 = .ok (.iload 6, 2) := de21 hX11_claim_64 7 rfl rfl rfl
theorem dX11_claim_73 : decode cX11_claim 73 = .ok (.iload 7, 2) := de21 hX11_claim_64 9 rfl rfl rfl
theorem dX11_claim_75 : decode cX11_claim 75 = .ok (.invokestatic 139, 3) := de184 hX11_claim_64 11 rfl rfl rfl
theorem dX11_claim_78 : decode cX11_claim 78 = .ok (.iaload, 1) := de46 hX11_claim_64 14 rfl rfl
theorem dX11_claim_79 : decode cX11_claim 79 = .ok (.istore 8, 2) := de54 hX11_claim_64 15 rfl rfl rfl
theorem dX11_claim_81 : decode cX11_claim 81 = .ok (.iload 8, 2) := de21 hX11_claim_64 17 rfl rfl rfl
theorem dX11_claim_83 : decode cX11_claim 83 = .ok (.ifCond .lt 59, 3) := de155 hX11_claim_64 19 rfl rfl (by decide +kernel)
theorem dX11_claim_86 : decode cX11_claim 86 = .ok (.iload 6, 2) := de21 hX11_claim_64 22 rfl rfl rfl
theorem dX11_claim_88 : decode cX11_claim 88 = .ok (.iload_n 1, 1) := de27 hX11_claim_64 24 rfl rfl
theorem hX11_claim_89 : bHas cX11_claim 89 [160, 0, 9, 21, 7, 28, 159, 0, 47, 21, 4, 153, 0, 17, 42, 21, 8, 182, 1, 75, 29, 162, 0, 7, 4] := bH_c (n := 25) (by decide +kernel)
theorem dX11_claim_89 : decode cX11_claim 89 = .ok (.if_icmp .ne 9, 3) := de160 hX11_claim_89 0 rfl rfl (by decide +kernel)
theorem dX11_claim_92 : decode cX11_claim 92 = .ok (.iload 7, 2) := de21 hX11_claim_89 3 rfl rfl rfl
theorem dX11_claim_94 : decode cX11_claim 94 = .ok (.iload_n 2, 1) := de28 hX11_claim_89 5 rfl rfl
theorem dX11_claim_95 : decode cX11_claim 95 = .ok (.if_icmp .eq 47, 3) := de159 hX11_claim_89 6 rfl rfl (by decide +kernel)
theorem dX11_claim_98 : decode cX11_claim 98 = .ok (.iload 4, 2) := de21 hX11_claim_89 9 rfl rfl rfl
theorem dX11_claim_100 : decode cX11_claim 100 = .ok (.ifCond .eq 17, 3) := de153 hX11_claim_89 11 rfl rfl (by decide +kernel)
theorem dX11_claim_103 : decode cX11_claim 103 = .ok (.aload_n 0, 1) := de42 hX11_claim_89 14 rfl rfl
theorem dX11_claim_104 : decode cX11_claim 104 = .ok (.iload 8, 2) := de21 hX11_claim_89 15 rfl rfl rfl
theorem dX11_claim_106 : decode cX11_claim 106 = .ok (.invokevirtual 331, 3) := de182 hX11_claim_89 17 rfl rfl rfl
theorem dX11_claim_109 : decode cX11_claim 109 = .ok (.iload_n 3, 1) := de29 hX11_claim_89 20 rfl rfl
theorem dX11_claim_110 : decode cX11_claim 110 = .ok (.if_icmp .ge 7, 3) := de162 hX11_claim_89 21 rfl rfl (by decide +kernel)
theorem dX11_claim_113 : decode cX11_claim 113 = .ok (.iconst 1, 1) := de4 hX11_claim_89 24 rfl rfl
theorem hX11_claim_114 : bHas cX11_claim 114 [167, 0, 4, 3, 54, 4, 21, 5, 154, 0, 13, 21, 8, 42, 29, 182, 1, 75, 164, 0, 7, 4, 167, 0, 4] := bH_c (n := 25) (by decide +kernel)
theorem dX11_claim_114 : decode cX11_claim 114 = .ok (.goto 4, 3) := de167 hX11_claim_114 0 rfl rfl (by decide +kernel)
theorem dX11_claim_117 : decode cX11_claim 117 = .ok (.iconst 0, 1) := de3 hX11_claim_114 3 rfl rfl
theorem dX11_claim_118 : decode cX11_claim 118 = .ok (.istore 4, 2) := de54 hX11_claim_114 4 rfl rfl rfl
theorem dX11_claim_120 : decode cX11_claim 120 = .ok (.iload 5, 2) := de21 hX11_claim_114 6 rfl rfl rfl
theorem dX11_claim_122 : decode cX11_claim 122 = .ok (.ifCond .ne 13, 3) := de154 hX11_claim_114 8 rfl rfl (by decide +kernel)
theorem dX11_claim_125 : decode cX11_claim 125 = .ok (.iload 8, 2) := de21 hX11_claim_114 11 rfl rfl rfl
theorem dX11_claim_127 : decode cX11_claim 127 = .ok (.aload_n 0, 1) := de42 hX11_claim_114 13 rfl rfl
theorem dX11_claim_128 : decode cX11_claim 128 = .ok (.iload_n 3, 1) := de29 hX11_claim_114 14 rfl rfl
theorem dX11_claim_129 : decode cX11_claim 129 = .ok (.invokevirtual 331, 3) := de182 hX11_claim_114 15 rfl rfl rfl
theorem dX11_claim_132 : decode cX11_claim 132 = .ok (.if_icmp .le 7, 3) := de164 hX11_claim_114 18 rfl rfl (by decide +kernel)
theorem dX11_claim_135 : decode cX11_claim 135 = .ok (.iconst 1, 1) := de4 hX11_claim_114 21 rfl rfl
theorem dX11_claim_136 : decode cX11_claim 136 = .ok (.goto 4, 3) := de167 hX11_claim_114 22 rfl rfl (by decide +kernel)
theorem hX11_claim_139 : bHas cX11_claim 139 [3, 54, 5, 132, 7, 1, 167, 255, 171, 132, 6, 1, 167, 255, 153, 21, 4, 153, 0, 7, 5, 167, 0, 13, 21, 5, 153, 0, 7] := bH_c (n := 29) (by decide +kernel)
theorem dX11_claim_139 : decode cX11_claim 139 = .ok (.iconst 0, 1) := de3 hX11_claim_139 0 rfl rfl
theorem dX11_claim_140 : decode cX11_claim 140 = .ok (.istore 5, 2) := de54 hX11_claim_139 1 rfl rfl rfl
theorem dX11_claim_142 : decode cX11_claim 142 = .ok (.iinc 7 1, 3) := de132 hX11_claim_139 3 rfl rfl rfl rfl
theorem dX11_claim_145 : decode cX11_claim 145 = .ok (.goto (-85), 3) := de167 hX11_claim_139 6 rfl rfl (by decide +kernel)
theorem dX11_claim_148 : decode cX11_claim 148 = .ok (.iinc 6 1, 3) := de132 hX11_claim_139 9 rfl rfl rfl rfl
theorem dX11_claim_151 : decode cX11_claim 151 = .ok (.goto (-103), 3) := de167 hX11_claim_139 12 rfl rfl (by decide +kernel)
theorem dX11_claim_154 : decode cX11_claim 154 = .ok (.iload 4, 2) := de21 hX11_claim_139 15 rfl rfl rfl
theorem dX11_claim_156 : decode cX11_claim 156 = .ok (.ifCond .eq 7, 3) := de153 hX11_claim_139 17 rfl rfl (by decide +kernel)
theorem dX11_claim_159 : decode cX11_claim 159 = .ok (.iconst 2, 1) := de5 hX11_claim_139 20 rfl rfl
theorem dX11_claim_160 : decode cX11_claim 160 = .ok (.goto 13, 3) := de167 hX11_claim_139 21 rfl rfl (by decide +kernel)
theorem dX11_claim_163 : decode cX11_claim 163 = .ok (.iload 5, 2) := de21 hX11_claim_139 24 rfl rfl rfl
theorem dX11_claim_165 : decode cX11_claim 165 = .ok (.ifCond .eq 7, 3) := de153 hX11_claim_139 26 rfl rfl (by decide +kernel)
theorem hX11_claim_168 : bHas cX11_claim 168 [3, 167, 0, 4, 4, 172] := bH_c (n := 6) (by decide +kernel)
theorem dX11_claim_168 : decode cX11_claim 168 = .ok (.iconst 0, 1) := de3 hX11_claim_168 0 rfl rfl
theorem dX11_claim_169 : decode cX11_claim 169 = .ok (.goto 4, 3) := de167 hX11_claim_168 1 rfl rfl (by decide +kernel)
theorem dX11_claim_172 : decode cX11_claim 172 = .ok (.iconst 1, 1) := de4 hX11_claim_168 4 rfl rfl
theorem dX11_claim_173 : decode cX11_claim 173 = .ok (.ireturn, 1) := de172 hX11_claim_168 5 rfl rfl
theorem hX11_findFives_0 : bHas cX11_findFives 0 [42, 3, 181, 1, 78, 42, 3, 181, 1, 81, 3, 61, 28, 16, 28, 162, 0, 63, 42] := bH_c (n := 19) (by decide +kernel)
theorem dX11_findFives_0 : decode cX11_findFives 0 = .ok (.aload_n 0, 1) := de42 hX11_findFives_0 0 rfl rfl
theorem dX11_findFives_1 : decode cX11_findFives 1 = .ok (.iconst 0, 1) := de3 hX11_findFives_0 1 rfl rfl
theorem dX11_findFives_2 : decode cX11_findFives 2 = .ok (.putfield 334, 3) := de181 hX11_findFives_0 2 rfl rfl rfl
theorem dX11_findFives_5 : decode cX11_findFives 5 = .ok (.aload_n 0, 1) := de42 hX11_findFives_0 5 rfl rfl
theorem dX11_findFives_6 : decode cX11_findFives 6 = .ok (.iconst 0, 1) := de3 hX11_findFives_0 6 rfl rfl
theorem dX11_findFives_7 : decode cX11_findFives 7 = .ok (.putfield 337, 3) := de181 hX11_findFives_0 7 rfl rfl rfl
theorem dX11_findFives_10 : decode cX11_findFives 10 = .ok (.iconst 0, 1) := de3 hX11_findFives_0 10 rfl rfl
theorem dX11_findFives_11 : decode cX11_findFives 11 = .ok (.istore_n 2, 1) := de61 hX11_findFives_0 11 rfl rfl
theorem dX11_findFives_12 : decode cX11_findFives 12 = .ok (.iload_n 2, 1) := de28 hX11_findFives_0 12 rfl rfl
theorem dX11_findFives_13 : decode cX11_findFives 13 = .ok (.bipush 28, 2) := de16 hX11_findFives_0 13 rfl rfl rfl
theorem dX11_findFives_15 : decode cX11_findFives 15 = .ok (.if_icmp .ge 63, 3) := de162 hX11_findFives_0 15 rfl rfl (by decide +kernel)
theorem dX11_findFives_18 : decode cX11_findFives 18 = .ok (.aload_n 0, 1) := de42 hX11_findFives_0 18 rfl rfl
theorem hX11_findFives_19 : bHas cX11_findFives 19 [180, 1, 81, 16, 26, 162, 0, 54, 42, 180, 0, 22, 27, 28, 184, 0, 139, 46, 62, 29, 158, 0, 33] := bH_c (n := 23) (by decide +kernel)
theorem dX11_findFives_19 : decode cX11_findFives 19 = .ok (.getfield 337, 3) := de180 hX11_findFives_19 0 rfl rfl rfl
theorem dX11_findFives_22 : decode cX11_findFives 22 = .ok (.bipush 26, 2) := de16 hX11_findFives_19 3 rfl rfl rfl
theorem dX11_findFives_24 : decode cX11_findFives 24 = .ok (.if_icmp .ge 54, 3) := de162 hX11_findFives_19 5 rfl rfl (by decide +kernel)
theorem dX11_findFives_27 : decode cX11_findFives 27 = .ok (.aload_n 0, 1) := de42 hX11_findFives_19 8 rfl rfl
theorem dX11_findFives_28 : decode cX11_findFives 28 = .ok (.getfield 22, 3) := de180 hX11_findFives_19 9 rfl rfl rfl
theorem dX11_findFives_31 : decode cX11_findFives 31 = .ok (.iload_n 1, 1) := de27 hX11_findFives_19 12 rfl rfl
theorem dX11_findFives_32 : decode cX11_findFives 32 = .ok (.iload_n 2, 1) := de28 hX11_findFives_19 13 rfl rfl
theorem dX11_findFives_33 : decode cX11_findFives 33 = .ok (.invokestatic 139, 3) := de184 hX11_findFives_19 14 rfl rfl rfl
theorem dX11_findFives_36 : decode cX11_findFives 36 = .ok (.iaload, 1) := de46 hX11_findFives_19 17 rfl rfl
theorem dX11_findFives_37 : decode cX11_findFives 37 = .ok (.istore_n 3, 1) := de62 hX11_findFives_19 18 rfl rfl
theorem dX11_findFives_38 : decode cX11_findFives 38 = .ok (.iload_n 3, 1) := de29 hX11_findFives_19 19 rfl rfl
theorem dX11_findFives_39 : decode cX11_findFives 39 = .ok (.ifCond .le 33, 3) := de158 hX11_findFives_19 20 rfl rfl (by decide +kernel)
theorem hX11_findFives_42 : bHas cX11_findFives 42 [42, 89, 180, 1, 81, 4, 96, 181, 1, 81, 42, 89, 180, 1, 78, 29, 8, 112] := bH_c (n := 18) (by decide +kernel)
theorem dX11_findFives_42 : decode cX11_findFives 42 = .ok (.aload_n 0, 1) := de42 hX11_findFives_42 0 rfl rfl
theorem dX11_findFives_43 : decode cX11_findFives 43 = .ok (.dup, 1) := de89 hX11_findFives_42 1 rfl rfl
theorem dX11_findFives_44 : decode cX11_findFives 44 = .ok (.getfield 337, 3) := de180 hX11_findFives_42 2 rfl rfl rfl
theorem dX11_findFives_47 : decode cX11_findFives 47 = .ok (.iconst 1, 1) := de4 hX11_findFives_42 5 rfl rfl
theorem dX11_findFives_48 : decode cX11_findFives 48 = .ok (.iadd, 1) := de96 hX11_findFives_42 6 rfl rfl
theorem dX11_findFives_49 : decode cX11_findFives 49 = .ok (.putfield 337, 3) := de181 hX11_findFives_42 7 rfl rfl rfl
theorem dX11_findFives_52 : decode cX11_findFives 52 = .ok (.aload_n 0, 1) := de42 hX11_findFives_42 10 rfl rfl
theorem dX11_findFives_53 : decode cX11_findFives 53 = .ok (.dup, 1) := de89 hX11_findFives_42 11 rfl rfl
theorem dX11_findFives_54 : decode cX11_findFives 54 = .ok (.getfield 334, 3) := de180 hX11_findFives_42 12 rfl rfl rfl
theorem dX11_findFives_57 : decode cX11_findFives 57 = .ok (.iload_n 3, 1) := de29 hX11_findFives_42 15 rfl rfl
theorem dX11_findFives_58 : decode cX11_findFives 58 = .ok (.iconst 5, 1) := de8 hX11_findFives_42 16 rfl rfl
theorem dX11_findFives_59 : decode cX11_findFives 59 = .ok (.irem, 1) := de112 hX11_findFives_42 17 rfl rfl
theorem hX11_findFives_60 : bHas cX11_findFives 60 [154, 0, 7, 4, 167, 0, 4, 3, 96, 181, 1, 78, 132, 2, 1, 167, 255, 193, 177] := bH_c (n := 19) (by decide +kernel)
theorem dX11_findFives_60 : decode cX11_findFives 60 = .ok (.ifCond .ne 7, 3) := de154 hX11_findFives_60 0 rfl rfl (by decide +kernel)
theorem dX11_findFives_63 : decode cX11_findFives 63 = .ok (.iconst 1, 1) := de4 hX11_findFives_60 3 rfl rfl
theorem dX11_findFives_64 : decode cX11_findFives 64 = .ok (.goto 4, 3) := de167 hX11_findFives_60 4 rfl rfl (by decide +kernel)
theorem dX11_findFives_67 : decode cX11_findFives 67 = .ok (.iconst 0, 1) := de3 hX11_findFives_60 7 rfl rfl
theorem dX11_findFives_68 : decode cX11_findFives 68 = .ok (.iadd, 1) := de96 hX11_findFives_60 8 rfl rfl
theorem dX11_findFives_69 : decode cX11_findFives 69 = .ok (.putfield 334, 3) := de181 hX11_findFives_60 9 rfl rfl rfl
theorem dX11_findFives_72 : decode cX11_findFives 72 = .ok (.iinc 2 1, 3) := de132 hX11_findFives_60 12 rfl rfl rfl rfl
theorem dX11_findFives_75 : decode cX11_findFives 75 = .ok (.goto (-63), 3) := de167 hX11_findFives_60 15 rfl rfl (by decide +kernel)
theorem dX11_findFives_78 : decode cX11_findFives 78 = .ok (.return_, 1) := de177 hX11_findFives_60 18 rfl rfl
theorem hX11_fives_0 : bHas cX11_fives 0 [42, 27, 182, 0, 143, 154, 0, 5, 2, 172, 28, 133, 9, 10, 184, 0, 126, 154, 0, 6] := bH_c (n := 20) (by decide +kernel)
theorem dX11_fives_0 : decode cX11_fives 0 = .ok (.aload_n 0, 1) := de42 hX11_fives_0 0 rfl rfl
theorem dX11_fives_1 : decode cX11_fives 1 = .ok (.iload_n 1, 1) := de27 hX11_fives_0 1 rfl rfl
theorem dX11_fives_2 : decode cX11_fives 2 = .ok (.invokevirtual 143, 3) := de182 hX11_fives_0 2 rfl rfl rfl
theorem dX11_fives_5 : decode cX11_fives 5 = .ok (.ifCond .ne 5, 3) := de154 hX11_fives_0 5 rfl rfl (by decide +kernel)
theorem dX11_fives_8 : decode cX11_fives 8 = .ok (.iconst (-1), 1) := de2 hX11_fives_0 8 rfl rfl
theorem dX11_fives_9 : decode cX11_fives 9 = .ok (.ireturn, 1) := de172 hX11_fives_0 9 rfl rfl
theorem dX11_fives_10 : decode cX11_fives 10 = .ok (.iload_n 2, 1) := de28 hX11_fives_0 10 rfl rfl
theorem dX11_fives_11 : decode cX11_fives 11 = .ok (.i2l, 1) := de133 hX11_fives_0 11 rfl rfl
theorem dX11_fives_12 : decode cX11_fives 12 = .ok (.lconst 0, 1) := de9 hX11_fives_0 12 rfl rfl
theorem dX11_fives_13 : decode cX11_fives 13 = .ok (.lconst 1, 1) := de10 hX11_fives_0 13 rfl rfl
theorem dX11_fives_14 : decode cX11_fives 14 = .ok (.invokestatic 126, 3) := de184 hX11_fives_0 14 rfl rfl rfl
theorem dX11_fives_17 : decode cX11_fives 17 = .ok (.ifCond .ne 6, 3) := de154 hX11_fives_0 17 rfl rfl (by decide +kernel)
theorem hX11_fives_20 : bHas cX11_fives 20 [16, 254, 172, 42, 27, 182, 1, 84, 28, 154, 0, 10, 42, 180, 1, 78, 167, 0, 7, 42, 180, 1, 81] := bH_c (n := 23) (by decide +kernel)
theorem dX11_fives_20 : decode cX11_fives 20 = .ok (.bipush (-2), 2) := de16 hX11_fives_20 0 rfl rfl rfl
theorem dX11_fives_22 : decode cX11_fives 22 = .ok (.ireturn, 1) := de172 hX11_fives_20 2 rfl rfl
theorem dX11_fives_23 : decode cX11_fives 23 = .ok (.aload_n 0, 1) := de42 hX11_fives_20 3 rfl rfl
theorem dX11_fives_24 : decode cX11_fives 24 = .ok (.iload_n 1, 1) := de27 hX11_fives_20 4 rfl rfl
theorem dX11_fives_25 : decode cX11_fives 25 = .ok (.invokevirtual 340, 3) := de182 hX11_fives_20 5 rfl rfl rfl
theorem dX11_fives_28 : decode cX11_fives 28 = .ok (.iload_n 2, 1) := de28 hX11_fives_20 8 rfl rfl
theorem dX11_fives_29 : decode cX11_fives 29 = .ok (.ifCond .ne 10, 3) := de154 hX11_fives_20 9 rfl rfl (by decide +kernel)
theorem dX11_fives_32 : decode cX11_fives 32 = .ok (.aload_n 0, 1) := de42 hX11_fives_20 12 rfl rfl
theorem dX11_fives_33 : decode cX11_fives 33 = .ok (.getfield 334, 3) := de180 hX11_fives_20 13 rfl rfl rfl
theorem dX11_fives_36 : decode cX11_fives 36 = .ok (.goto 7, 3) := de167 hX11_fives_20 16 rfl rfl (by decide +kernel)
theorem dX11_fives_39 : decode cX11_fives 39 = .ok (.aload_n 0, 1) := de42 hX11_fives_20 19 rfl rfl
theorem dX11_fives_40 : decode cX11_fives 40 = .ok (.getfield 337, 3) := de180 hX11_fives_20 20 rfl rfl rfl
theorem hX11_fives_43 : bHas cX11_fives 43 [172] := bH_c (n := 1) (by decide +kernel)
theorem dX11_fives_43 : decode cX11_fives 43 = .ok (.ireturn, 1) := de172 hX11_fives_43 0 rfl rfl
theorem hX11_odds_0 : bHas cX11_odds 0 [42, 27, 182, 0, 143, 154, 0, 7, 20, 1, 87, 173, 28, 184, 1, 40, 154, 0, 7, 20, 1, 89, 173, 42] := bH_c (n := 24) (by decide +kernel)
theorem dX11_odds_0 : decode cX11_odds 0 = .ok (.aload_n 0, 1) := de42 hX11_odds_0 0 rfl rfl
theorem dX11_odds_1 : decode cX11_odds 1 = .ok (.iload_n 1, 1) := de27 hX11_odds_0 1 rfl rfl
theorem dX11_odds_2 : decode cX11_odds 2 = .ok (.invokevirtual 143, 3) := de182 hX11_odds_0 2 rfl rfl rfl
theorem dX11_odds_5 : decode cX11_odds 5 = .ok (.ifCond .ne 7, 3) := de154 hX11_odds_0 5 rfl rfl (by decide +kernel)
theorem dX11_odds_8 : decode cX11_odds 8 = .ok (.ldc2_w 343, 3) := de20 hX11_odds_0 8 rfl rfl rfl
theorem dX11_odds_11 : decode cX11_odds 11 = .ok (.lreturn, 1) := de173 hX11_odds_0 11 rfl rfl
theorem dX11_odds_12 : decode cX11_odds 12 = .ok (.iload_n 2, 1) := de28 hX11_odds_0 12 rfl rfl
theorem dX11_odds_13 : decode cX11_odds 13 = .ok (.invokestatic 296, 3) := de184 hX11_odds_0 13 rfl rfl rfl
theorem dX11_odds_16 : decode cX11_odds 16 = .ok (.ifCond .ne 7, 3) := de154 hX11_odds_0 16 rfl rfl (by decide +kernel)
theorem dX11_odds_19 : decode cX11_odds 19 = .ok (.ldc2_w 345, 3) := de20 hX11_odds_0 19 rfl rfl rfl
theorem dX11_odds_22 : decode cX11_odds 22 = .ok (.lreturn, 1) := de173 hX11_odds_0 22 rfl rfl
theorem dX11_odds_23 : decode cX11_odds 23 = .ok (.aload_n 0, 1) := de42 hX11_odds_0 23 rfl rfl
theorem hX11_odds_24 : bHas cX11_odds 24 [27, 182, 1, 84, 3, 62, 29, 16, 28, 162, 0, 24, 42, 180, 0, 100, 29, 29, 154, 0, 7] := bH_c (n := 21) (by decide +kernel)
theorem dX11_odds_24 : decode cX11_odds 24 = .ok (.iload_n 1, 1) := de27 hX11_odds_24 0 rfl rfl
theorem dX11_odds_25 : decode cX11_odds 25 = .ok (.invokevirtual 340, 3) := de182 hX11_odds_24 1 rfl rfl rfl
theorem dX11_odds_28 : decode cX11_odds 28 = .ok (.iconst 0, 1) := de3 hX11_odds_24 4 rfl rfl
theorem dX11_odds_29 : decode cX11_odds 29 = .ok (.istore_n 3, 1) := de62 hX11_odds_24 5 rfl rfl
theorem dX11_odds_30 : decode cX11_odds 30 = .ok (.iload_n 3, 1) := de29 hX11_odds_24 6 rfl rfl
theorem dX11_odds_31 : decode cX11_odds 31 = .ok (.bipush 28, 2) := de16 hX11_odds_24 7 rfl rfl rfl
theorem dX11_odds_33 : decode cX11_odds 33 = .ok (.if_icmp .ge 24, 3) := de162 hX11_odds_24 9 rfl rfl (by decide +kernel)
theorem dX11_odds_36 : decode cX11_odds 36 = .ok (.aload_n 0, 1) := de42 hX11_odds_24 12 rfl rfl
theorem dX11_odds_37 : decode cX11_odds 37 = .ok (.getfield 100, 3) := de180 hX11_odds_24 13 rfl rfl rfl
theorem dX11_odds_40 : decode cX11_odds 40 = .ok (.iload_n 3, 1) := de29 hX11_odds_24 16 rfl rfl
theorem dX11_odds_41 : decode cX11_odds 41 = .ok (.iload_n 3, 1) := de29 hX11_odds_24 17 rfl rfl
theorem dX11_odds_42 : decode cX11_odds 42 = .ok (.ifCond .ne 7, 3) := de154 hX11_odds_24 18 rfl rfl (by decide +kernel)
theorem hX11_odds_45 : bHas cX11_odds 45 [10, 167, 0, 4, 9, 80, 132, 3, 1, 167, 255, 232, 10, 66, 3, 54, 5, 21, 5, 42] := bH_c (n := 20) (by decide +kernel)
theorem dX11_odds_45 : decode cX11_odds 45 = .ok (.lconst 1, 1) := de10 hX11_odds_45 0 rfl rfl
theorem dX11_odds_46 : decode cX11_odds 46 = .ok (.goto 4, 3) := de167 hX11_odds_45 1 rfl rfl (by decide +kernel)
theorem dX11_odds_49 : decode cX11_odds 49 = .ok (.lconst 0, 1) := de9 hX11_odds_45 4 rfl rfl
theorem dX11_odds_50 : decode cX11_odds 50 = .ok (.lastore, 1) := de80 hX11_odds_45 5 rfl rfl
theorem dX11_odds_51 : decode cX11_odds 51 = .ok (.iinc 3 1, 3) := de132 hX11_odds_45 6 rfl rfl rfl rfl
theorem dX11_odds_54 : decode cX11_odds 54 = .ok (.goto (-24), 3) := de167 hX11_odds_45 9 rfl rfl (by decide +kernel)
theorem dX11_odds_57 : decode cX11_odds 57 = .ok (.lconst 1, 1) := de10 hX11_odds_45 12 rfl rfl
theorem dX11_odds_58 : decode cX11_odds 58 = .ok (.lstore_n 3, 1) := de66 hX11_odds_45 13 rfl rfl
theorem dX11_odds_59 : decode cX11_odds 59 = .ok (.iconst 0, 1) := de3 hX11_odds_45 14 rfl rfl
theorem dX11_odds_60 : decode cX11_odds 60 = .ok (.istore 5, 2) := de54 hX11_odds_45 15 rfl rfl rfl
theorem dX11_odds_62 : decode cX11_odds 62 = .ok (.iload 5, 2) := de21 hX11_odds_45 17 rfl rfl rfl
theorem dX11_odds_64 : decode cX11_odds 64 = .ok (.aload_n 0, 1) := de42 hX11_odds_45 19 rfl rfl
theorem hX11_odds_65 : bHas cX11_odds 65 [180, 1, 81, 162, 0, 69, 21, 5, 4, 96, 54, 6, 21, 6, 155, 0, 46, 42, 180, 0, 100, 21, 6, 20, 1, 91] := bH_c (n := 26) (by decide +kernel)
theorem dX11_odds_65 : decode cX11_odds 65 = .ok (.getfield 337, 3) := de180 hX11_odds_65 0 rfl rfl rfl
theorem dX11_odds_68 : decode cX11_odds 68 = .ok (.if_icmp .ge 69, 3) := de162 hX11_odds_65 3 rfl rfl (by decide +kernel)
theorem dX11_odds_71 : decode cX11_odds 71 = .ok (.iload 5, 2) := de21 hX11_odds_65 6 rfl rfl rfl
theorem dX11_odds_73 : decode cX11_odds 73 = .ok (.iconst 1, 1) := de4 hX11_odds_65 8 rfl rfl
theorem dX11_odds_74 : decode cX11_odds 74 = .ok (.iadd, 1) := de96 hX11_odds_65 9 rfl rfl
theorem dX11_odds_75 : decode cX11_odds 75 = .ok (.istore 6, 2) := de54 hX11_odds_65 10 rfl rfl rfl
theorem dX11_odds_77 : decode cX11_odds 77 = .ok (.iload 6, 2) := de21 hX11_odds_65 12 rfl rfl rfl
theorem dX11_odds_79 : decode cX11_odds 79 = .ok (.ifCond .lt 46, 3) := de155 hX11_odds_65 14 rfl rfl (by decide +kernel)
theorem dX11_odds_82 : decode cX11_odds 82 = .ok (.aload_n 0, 1) := de42 hX11_odds_65 17 rfl rfl
theorem dX11_odds_83 : decode cX11_odds 83 = .ok (.getfield 100, 3) := de180 hX11_odds_65 18 rfl rfl rfl
theorem dX11_odds_86 : decode cX11_odds 86 = .ok (.iload 6, 2) := de21 hX11_odds_65 21 rfl rfl rfl
theorem dX11_odds_88 : decode cX11_odds 88 = .ok (.ldc2_w 347, 3) := de20 hX11_odds_65 23 rfl rfl rfl
theorem hX11_odds_91 : bHas cX11_odds 91 [42, 180, 0, 100, 21, 6, 47, 105, 21, 6, 158, 0, 15, 42, 180, 0, 100, 21, 6, 4, 100] := bH_c (n := 21) (by decide +kernel)
theorem dX11_odds_91 : decode cX11_odds 91 = .ok (.aload_n 0, 1) := de42 hX11_odds_91 0 rfl rfl
theorem dX11_odds_92 : decode cX11_odds 92 = .ok (.getfield 100, 3) := de180 hX11_odds_91 1 rfl rfl rfl
theorem dX11_odds_95 : decode cX11_odds 95 = .ok (.iload 6, 2) := de21 hX11_odds_91 4 rfl rfl rfl
theorem dX11_odds_97 : decode cX11_odds 97 = .ok (.laload, 1) := de47 hX11_odds_91 6 rfl rfl
theorem dX11_odds_98 : decode cX11_odds 98 = .ok (.lmul, 1) := de105 hX11_odds_91 7 rfl rfl
theorem dX11_odds_99 : decode cX11_odds 99 = .ok (.iload 6, 2) := de21 hX11_odds_91 8 rfl rfl rfl
theorem dX11_odds_101 : decode cX11_odds 101 = .ok (.ifCond .le 15, 3) := de158 hX11_odds_91 10 rfl rfl (by decide +kernel)
theorem dX11_odds_104 : decode cX11_odds 104 = .ok (.aload_n 0, 1) := de42 hX11_odds_91 13 rfl rfl
theorem dX11_odds_105 : decode cX11_odds 105 = .ok (.getfield 100, 3) := de180 hX11_odds_91 14 rfl rfl rfl
theorem dX11_odds_108 : decode cX11_odds 108 = .ok (.iload 6, 2) := de21 hX11_odds_91 17 rfl rfl rfl
theorem dX11_odds_110 : decode cX11_odds 110 = .ok (.iconst 1, 1) := de4 hX11_odds_91 19 rfl rfl
theorem dX11_odds_111 : decode cX11_odds 111 = .ok (.isub, 1) := de100 hX11_odds_91 20 rfl rfl
theorem hX11_odds_112 : bHas cX11_odds 112 [47, 167, 0, 4, 9, 97, 80, 132, 6, 255, 167, 255, 211, 33, 20, 1, 93, 105, 66, 132, 5, 1] := bH_c (n := 22) (by decide +kernel)
theorem dX11_odds_112 : decode cX11_odds 112 = .ok (.laload, 1) := de47 hX11_odds_112 0 rfl rfl
theorem dX11_odds_113 : decode cX11_odds 113 = .ok (.goto 4, 3) := de167 hX11_odds_112 1 rfl rfl (by decide +kernel)
theorem dX11_odds_116 : decode cX11_odds 116 = .ok (.lconst 0, 1) := de9 hX11_odds_112 4 rfl rfl
theorem dX11_odds_117 : decode cX11_odds 117 = .ok (.ladd, 1) := de97 hX11_odds_112 5 rfl rfl
theorem dX11_odds_118 : decode cX11_odds 118 = .ok (.lastore, 1) := de80 hX11_odds_112 6 rfl rfl
theorem dX11_odds_119 : decode cX11_odds 119 = .ok (.iinc 6 (-1), 3) := de132 hX11_odds_112 7 rfl rfl rfl rfl
theorem dX11_odds_122 : decode cX11_odds 122 = .ok (.goto (-45), 3) := de167 hX11_odds_112 10 rfl rfl (by decide +kernel)
theorem dX11_odds_125 : decode cX11_odds 125 = .ok (.lload_n 3, 1) := de33 hX11_odds_112 13 rfl rfl
theorem dX11_odds_126 : decode cX11_odds 126 = .ok (.ldc2_w 349, 3) := de20 hX11_odds_112 14 rfl rfl rfl
theorem dX11_odds_129 : decode cX11_odds 129 = .ok (.lmul, 1) := de105 hX11_odds_112 17 rfl rfl
theorem dX11_odds_130 : decode cX11_odds 130 = .ok (.lstore_n 3, 1) := de66 hX11_odds_112 18 rfl rfl
theorem dX11_odds_131 : decode cX11_odds 131 = .ok (.iinc 5 1, 3) := de132 hX11_odds_112 19 rfl rfl rfl rfl
theorem hX11_odds_134 : bHas cX11_odds 134 [167, 255, 184, 9, 55, 5, 42, 180, 1, 78, 54, 7, 21, 7, 42, 180, 1, 81, 163, 0, 21, 22, 5, 42] := bH_c (n := 24) (by decide +kernel)
theorem dX11_odds_134 : decode cX11_odds 134 = .ok (.goto (-72), 3) := de167 hX11_odds_134 0 rfl rfl (by decide +kernel)
theorem dX11_odds_137 : decode cX11_odds 137 = .ok (.lconst 0, 1) := de9 hX11_odds_134 3 rfl rfl
theorem dX11_odds_138 : decode cX11_odds 138 = .ok (.lstore 5, 2) := de55 hX11_odds_134 4 rfl rfl rfl
theorem dX11_odds_140 : decode cX11_odds 140 = .ok (.aload_n 0, 1) := de42 hX11_odds_134 6 rfl rfl
theorem dX11_odds_141 : decode cX11_odds 141 = .ok (.getfield 334, 3) := de180 hX11_odds_134 7 rfl rfl rfl
theorem dX11_odds_144 : decode cX11_odds 144 = .ok (.istore 7, 2) := de54 hX11_odds_134 10 rfl rfl rfl
theorem dX11_odds_146 : decode cX11_odds 146 = .ok (.iload 7, 2) := de21 hX11_odds_134 12 rfl rfl rfl
theorem dX11_odds_148 : decode cX11_odds 148 = .ok (.aload_n 0, 1) := de42 hX11_odds_134 14 rfl rfl
theorem dX11_odds_149 : decode cX11_odds 149 = .ok (.getfield 337, 3) := de180 hX11_odds_134 15 rfl rfl rfl
theorem dX11_odds_152 : decode cX11_odds 152 = .ok (.if_icmp .gt 21, 3) := de163 hX11_odds_134 18 rfl rfl (by decide +kernel)
theorem dX11_odds_155 : decode cX11_odds 155 = .ok (.lload 5, 2) := de22 hX11_odds_134 21 rfl rfl rfl
theorem dX11_odds_157 : decode cX11_odds 157 = .ok (.aload_n 0, 1) := de42 hX11_odds_134 23 rfl rfl
theorem hX11_odds_158 : bHas cX11_odds 158 [180, 0, 100, 21, 7, 47, 97, 55, 5, 132, 7, 1, 167, 255, 232, 22, 5, 55, 7, 33, 55, 9, 22, 9] := bH_c (n := 24) (by decide +kernel)
theorem dX11_odds_158 : decode cX11_odds 158 = .ok (.getfield 100, 3) := de180 hX11_odds_158 0 rfl rfl rfl
theorem dX11_odds_161 : decode cX11_odds 161 = .ok (.iload 7, 2) := de21 hX11_odds_158 3 rfl rfl rfl
theorem dX11_odds_163 : decode cX11_odds 163 = .ok (.laload, 1) := de47 hX11_odds_158 5 rfl rfl
theorem dX11_odds_164 : decode cX11_odds 164 = .ok (.ladd, 1) := de97 hX11_odds_158 6 rfl rfl
theorem dX11_odds_165 : decode cX11_odds 165 = .ok (.lstore 5, 2) := de55 hX11_odds_158 7 rfl rfl rfl
theorem dX11_odds_167 : decode cX11_odds 167 = .ok (.iinc 7 1, 3) := de132 hX11_odds_158 9 rfl rfl rfl rfl
theorem dX11_odds_170 : decode cX11_odds 170 = .ok (.goto (-24), 3) := de167 hX11_odds_158 12 rfl rfl (by decide +kernel)
theorem dX11_odds_173 : decode cX11_odds 173 = .ok (.lload 5, 2) := de22 hX11_odds_158 15 rfl rfl rfl
theorem dX11_odds_175 : decode cX11_odds 175 = .ok (.lstore 7, 2) := de55 hX11_odds_158 17 rfl rfl rfl
theorem dX11_odds_177 : decode cX11_odds 177 = .ok (.lload_n 3, 1) := de33 hX11_odds_158 19 rfl rfl
theorem dX11_odds_178 : decode cX11_odds 178 = .ok (.lstore 9, 2) := de55 hX11_odds_158 20 rfl rfl rfl
theorem dX11_odds_180 : decode cX11_odds 180 = .ok (.lload 9, 2) := de22 hX11_odds_158 22 rfl rfl rfl
theorem hX11_odds_182 : bHas cX11_odds 182 [9, 148, 153, 0, 21, 22, 7, 22, 9, 113, 55, 11, 22, 9, 55, 7, 22, 11, 55, 9, 167, 255, 234] := bH_c (n := 23) (by decide +kernel)
theorem dX11_odds_182 : decode cX11_odds 182 = .ok (.lconst 0, 1) := de9 hX11_odds_182 0 rfl rfl
theorem dX11_odds_183 : decode cX11_odds 183 = .ok (.lcmp, 1) := de148 hX11_odds_182 1 rfl rfl
theorem dX11_odds_184 : decode cX11_odds 184 = .ok (.ifCond .eq 21, 3) := de153 hX11_odds_182 2 rfl rfl (by decide +kernel)
theorem dX11_odds_187 : decode cX11_odds 187 = .ok (.lload 7, 2) := de22 hX11_odds_182 5 rfl rfl rfl
theorem dX11_odds_189 : decode cX11_odds 189 = .ok (.lload 9, 2) := de22 hX11_odds_182 7 rfl rfl rfl
theorem dX11_odds_191 : decode cX11_odds 191 = .ok (.lrem, 1) := de113 hX11_odds_182 9 rfl rfl
theorem dX11_odds_192 : decode cX11_odds 192 = .ok (.lstore 11, 2) := de55 hX11_odds_182 10 rfl rfl rfl
theorem dX11_odds_194 : decode cX11_odds 194 = .ok (.lload 9, 2) := de22 hX11_odds_182 12 rfl rfl rfl
theorem dX11_odds_196 : decode cX11_odds 196 = .ok (.lstore 7, 2) := de55 hX11_odds_182 14 rfl rfl rfl
theorem dX11_odds_198 : decode cX11_odds 198 = .ok (.lload 11, 2) := de22 hX11_odds_182 16 rfl rfl rfl
theorem dX11_odds_200 : decode cX11_odds 200 = .ok (.lstore 9, 2) := de55 hX11_odds_182 18 rfl rfl rfl
theorem dX11_odds_202 : decode cX11_odds 202 = .ok (.goto (-22), 3) := de167 hX11_odds_182 20 rfl rfl (by decide +kernel)
theorem hX11_odds_205 : bHas cX11_odds 205 [28, 154, 0, 11, 22, 5, 22, 7, 109, 167, 0, 7, 33, 22, 7, 109, 173] := bH_c (n := 17) (by decide +kernel)
theorem dX11_odds_205 : decode cX11_odds 205 = .ok (.iload_n 2, 1) := de28 hX11_odds_205 0 rfl rfl
theorem dX11_odds_206 : decode cX11_odds 206 = .ok (.ifCond .ne 11, 3) := de154 hX11_odds_205 1 rfl rfl (by decide +kernel)
theorem dX11_odds_209 : decode cX11_odds 209 = .ok (.lload 5, 2) := de22 hX11_odds_205 4 rfl rfl rfl
theorem dX11_odds_211 : decode cX11_odds 211 = .ok (.lload 7, 2) := de22 hX11_odds_205 6 rfl rfl rfl
theorem dX11_odds_213 : decode cX11_odds 213 = .ok (.ldiv, 1) := de109 hX11_odds_205 8 rfl rfl
theorem dX11_odds_214 : decode cX11_odds 214 = .ok (.goto 7, 3) := de167 hX11_odds_205 9 rfl rfl (by decide +kernel)
theorem dX11_odds_217 : decode cX11_odds 217 = .ok (.lload_n 3, 1) := de33 hX11_odds_205 12 rfl rfl
theorem dX11_odds_218 : decode cX11_odds 218 = .ok (.lload 7, 2) := de22 hX11_odds_205 13 rfl rfl rfl
theorem dX11_odds_220 : decode cX11_odds 220 = .ok (.ldiv, 1) := de109 hX11_odds_205 15 rfl rfl
theorem dX11_odds_221 : decode cX11_odds 221 = .ok (.lreturn, 1) := de173 hX11_odds_205 16 rfl rfl
theorem hX11_forgets_0 : bHas cX11_forgets 0 [42, 27, 182, 0, 143, 154, 0, 5, 2, 172, 28, 133, 9, 10, 184, 0, 126, 154, 0, 6] := bH_c (n := 20) (by decide +kernel)
theorem dX11_forgets_0 : decode cX11_forgets 0 = .ok (.aload_n 0, 1) := de42 hX11_forgets_0 0 rfl rfl
theorem dX11_forgets_1 : decode cX11_forgets 1 = .ok (.iload_n 1, 1) := de27 hX11_forgets_0 1 rfl rfl
theorem dX11_forgets_2 : decode cX11_forgets 2 = .ok (.invokevirtual 143, 3) := de182 hX11_forgets_0 2 rfl rfl rfl
theorem dX11_forgets_5 : decode cX11_forgets 5 = .ok (.ifCond .ne 5, 3) := de154 hX11_forgets_0 5 rfl rfl (by decide +kernel)
theorem dX11_forgets_8 : decode cX11_forgets 8 = .ok (.iconst (-1), 1) := de2 hX11_forgets_0 8 rfl rfl
theorem dX11_forgets_9 : decode cX11_forgets 9 = .ok (.ireturn, 1) := de172 hX11_forgets_0 9 rfl rfl
theorem dX11_forgets_10 : decode cX11_forgets 10 = .ok (.iload_n 2, 1) := de28 hX11_forgets_0 10 rfl rfl
theorem dX11_forgets_11 : decode cX11_forgets 11 = .ok (.i2l, 1) := de133 hX11_forgets_0 11 rfl rfl
theorem dX11_forgets_12 : decode cX11_forgets 12 = .ok (.lconst 0, 1) := de9 hX11_forgets_0 12 rfl rfl
theorem dX11_forgets_13 : decode cX11_forgets 13 = .ok (.lconst 1, 1) := de10 hX11_forgets_0 13 rfl rfl
theorem dX11_forgets_14 : decode cX11_forgets 14 = .ok (.invokestatic 126, 3) := de184 hX11_forgets_0 14 rfl rfl rfl
theorem dX11_forgets_17 : decode cX11_forgets 17 = .ok (.ifCond .ne 6, 3) := de154 hX11_forgets_0 17 rfl rfl (by decide +kernel)
theorem hX11_forgets_20 : bHas cX11_forgets 20 [16, 254, 172, 3, 62, 16, 250, 54, 4, 3, 54, 5, 21, 5, 16, 7, 162, 0, 67, 3] := bH_c (n := 20) (by decide +kernel)
theorem dX11_forgets_20 : decode cX11_forgets 20 = .ok (.bipush (-2), 2) := de16 hX11_forgets_20 0 rfl rfl rfl
theorem dX11_forgets_22 : decode cX11_forgets 22 = .ok (.ireturn, 1) := de172 hX11_forgets_20 2 rfl rfl
theorem dX11_forgets_23 : decode cX11_forgets 23 = .ok (.iconst 0, 1) := de3 hX11_forgets_20 3 rfl rfl
theorem dX11_forgets_24 : decode cX11_forgets 24 = .ok (.istore_n 3, 1) := de62 hX11_forgets_20 4 rfl rfl
theorem dX11_forgets_25 : decode cX11_forgets 25 = .ok (.bipush (-6), 2) := de16 hX11_forgets_20 5 rfl rfl rfl
theorem dX11_forgets_27 : decode cX11_forgets 27 = .ok (.istore 4, 2) := de54 hX11_forgets_20 7 rfl rfl rfl
theorem dX11_forgets_29 : decode cX11_forgets 29 = .ok (.iconst 0, 1) := de3 hX11_forgets_20 9 rfl rfl
theorem dX11_forgets_30 : decode cX11_forgets 30 = .ok (.istore 5, 2) := de54 hX11_forgets_20 10 rfl rfl rfl
theorem dX11_forgets_32 : decode cX11_forgets 32 = .ok (.iload 5, 2) := de21 hX11_forgets_20 12 rfl rfl rfl
theorem dX11_forgets_34 : decode cX11_forgets 34 = .ok (.bipush 7, 2) := de16 hX11_forgets_20 14 rfl rfl rfl
theorem dX11_forgets_36 : decode cX11_forgets 36 = .ok (.if_icmp .ge 67, 3) := de162 hX11_forgets_20 16 rfl rfl (by decide +kernel)
theorem dX11_forgets_39 : decode cX11_forgets 39 = .ok (.iconst 0, 1) := de3 hX11_forgets_20 19 rfl rfl
theorem hX11_forgets_40 : bHas cX11_forgets 40 [54, 6, 21, 5, 54, 7, 21, 7, 16, 28, 162, 0, 33, 21, 6, 42, 180, 0, 22, 27, 21, 7, 184, 0, 139] := bH_c (n := 25) (by decide +kernel)
theorem dX11_forgets_40 : decode cX11_forgets 40 = .ok (.istore 6, 2) := de54 hX11_forgets_40 0 rfl rfl rfl
theorem dX11_forgets_42 : decode cX11_forgets 42 = .ok (.iload 5, 2) := de21 hX11_forgets_40 2 rfl rfl rfl
theorem dX11_forgets_44 : decode cX11_forgets 44 = .ok (.istore 7, 2) := de54 hX11_forgets_40 4 rfl rfl rfl
theorem dX11_forgets_46 : decode cX11_forgets 46 = .ok (.iload 7, 2) := de21 hX11_forgets_40 6 rfl rfl rfl
theorem dX11_forgets_48 : decode cX11_forgets 48 = .ok (.bipush 28, 2) := de16 hX11_forgets_40 8 rfl rfl rfl
theorem dX11_forgets_50 : decode cX11_forgets 50 = .ok (.if_icmp .ge 33, 3) := de162 hX11_forgets_40 10 rfl rfl (by decide +kernel)
theorem dX11_forgets_53 : decode cX11_forgets 53 = .ok (.iload 6, 2) := de21 hX11_forgets_40 13 rfl rfl rfl
theorem dX11_forgets_55 : decode cX11_forgets 55 = .ok (.aload_n 0, 1) := de42 hX11_forgets_40 15 rfl rfl
theorem dX11_forgets_56 : decode cX11_forgets 56 = .ok (.getfield 22, 3) := de180 hX11_forgets_40 16 rfl rfl rfl
theorem dX11_forgets_59 : decode cX11_forgets 59 = .ok (.iload_n 1, 1) := de27 hX11_forgets_40 19 rfl rfl
theorem dX11_forgets_60 : decode cX11_forgets 60 = .ok (.iload 7, 2) := de21 hX11_forgets_40 20 rfl rfl rfl
theorem dX11_forgets_62 : decode cX11_forgets 62 = .ok (.invokestatic 139, 3) := de184 hX11_forgets_40 22 rfl rfl rfl
theorem hX11_forgets_65 : bHas cX11_forgets 65 [46, 156, 0, 7, 4, 167, 0, 4, 3, 96, 54, 6, 132, 7, 7, 167, 255, 222, 21, 6, 21, 4, 164, 0, 10] := bH_c (n := 25) (by decide +kernel)
theorem dX11_forgets_65 : decode cX11_forgets 65 = .ok (.iaload, 1) := de46 hX11_forgets_65 0 rfl rfl
theorem dX11_forgets_66 : decode cX11_forgets 66 = .ok (.ifCond .ge 7, 3) := de156 hX11_forgets_65 1 rfl rfl (by decide +kernel)
theorem dX11_forgets_69 : decode cX11_forgets 69 = .ok (.iconst 1, 1) := de4 hX11_forgets_65 4 rfl rfl
theorem dX11_forgets_70 : decode cX11_forgets 70 = .ok (.goto 4, 3) := de167 hX11_forgets_65 5 rfl rfl (by decide +kernel)
theorem dX11_forgets_73 : decode cX11_forgets 73 = .ok (.iconst 0, 1) := de3 hX11_forgets_65 8 rfl rfl
theorem dX11_forgets_74 : decode cX11_forgets 74 = .ok (.iadd, 1) := de96 hX11_forgets_65 9 rfl rfl
theorem dX11_forgets_75 : decode cX11_forgets 75 = .ok (.istore 6, 2) := de54 hX11_forgets_65 10 rfl rfl rfl
theorem dX11_forgets_77 : decode cX11_forgets 77 = .ok (.iinc 7 7, 3) := de132 hX11_forgets_65 12 rfl rfl rfl rfl
theorem dX11_forgets_80 : decode cX11_forgets 80 = .ok (.goto (-34), 3) := de167 hX11_forgets_65 15 rfl rfl (by decide +kernel)
theorem dX11_forgets_83 : decode cX11_forgets 83 = .ok (.iload 6, 2) := de21 hX11_forgets_65 18 rfl rfl rfl
theorem dX11_forgets_85 : decode cX11_forgets 85 = .ok (.iload 4, 2) := de21 hX11_forgets_65 20 rfl rfl rfl
theorem dX11_forgets_87 : decode cX11_forgets 87 = .ok (.if_icmp .le 10, 3) := de164 hX11_forgets_65 22 rfl rfl (by decide +kernel)
theorem hX11_forgets_90 : bHas cX11_forgets 90 [21, 5, 62, 21, 6, 54, 4, 132, 5, 1, 167, 255, 188, 28, 154, 0, 7, 29, 167, 0, 5, 21, 4, 172] := bH_c (n := 24) (by decide +kernel)
theorem dX11_forgets_90 : decode cX11_forgets 90 = .ok (.iload 5, 2) := de21 hX11_forgets_90 0 rfl rfl rfl
theorem dX11_forgets_92 : decode cX11_forgets 92 = .ok (.istore_n 3, 1) := de62 hX11_forgets_90 2 rfl rfl
theorem dX11_forgets_93 : decode cX11_forgets 93 = .ok (.iload 6, 2) := de21 hX11_forgets_90 3 rfl rfl rfl
theorem dX11_forgets_95 : decode cX11_forgets 95 = .ok (.istore 4, 2) := de54 hX11_forgets_90 5 rfl rfl rfl
theorem dX11_forgets_97 : decode cX11_forgets 97 = .ok (.iinc 5 1, 3) := de132 hX11_forgets_90 7 rfl rfl rfl rfl
theorem dX11_forgets_100 : decode cX11_forgets 100 = .ok (.goto (-68), 3) := de167 hX11_forgets_90 10 rfl rfl (by decide +kernel)
theorem dX11_forgets_103 : decode cX11_forgets 103 = .ok (.iload_n 2, 1) := de28 hX11_forgets_90 13 rfl rfl
theorem dX11_forgets_104 : decode cX11_forgets 104 = .ok (.ifCond .ne 7, 3) := de154 hX11_forgets_90 14 rfl rfl (by decide +kernel)
theorem dX11_forgets_107 : decode cX11_forgets 107 = .ok (.iload_n 3, 1) := de29 hX11_forgets_90 17 rfl rfl
theorem dX11_forgets_108 : decode cX11_forgets 108 = .ok (.goto 5, 3) := de167 hX11_forgets_90 18 rfl rfl (by decide +kernel)
theorem dX11_forgets_111 : decode cX11_forgets 111 = .ok (.iload 4, 2) := de21 hX11_forgets_90 21 rfl rfl rfl
theorem dX11_forgets_113 : decode cX11_forgets 113 = .ok (.ireturn, 1) := de172 hX11_forgets_90 23 rfl rfl
theorem hX11_pass_0 : bHas cX11_pass 0 [42, 180, 1, 95, 153, 0, 7, 27, 167, 0, 12, 42, 180, 0, 104, 42, 180, 1, 99, 46, 61, 42] := bH_c (n := 22) (by decide +kernel)
theorem dX11_pass_0 : decode cX11_pass 0 = .ok (.aload_n 0, 1) := de42 hX11_pass_0 0 rfl rfl
theorem dX11_pass_1 : decode cX11_pass 1 = .ok (.getfield 351, 3) := de180 hX11_pass_0 1 rfl rfl rfl
theorem dX11_pass_4 : decode cX11_pass 4 = .ok (.ifCond .eq 7, 3) := de153 hX11_pass_0 4 rfl rfl (by decide +kernel)
theorem dX11_pass_7 : decode cX11_pass 7 = .ok (.iload_n 1, 1) := de27 hX11_pass_0 7 rfl rfl
theorem dX11_pass_8 : decode cX11_pass 8 = .ok (.goto 12, 3) := de167 hX11_pass_0 8 rfl rfl (by decide +kernel)
theorem dX11_pass_11 : decode cX11_pass 11 = .ok (.aload_n 0, 1) := de42 hX11_pass_0 11 rfl rfl
theorem dX11_pass_12 : decode cX11_pass 12 = .ok (.getfield 104, 3) := de180 hX11_pass_0 12 rfl rfl rfl
theorem dX11_pass_15 : decode cX11_pass 15 = .ok (.aload_n 0, 1) := de42 hX11_pass_0 15 rfl rfl
theorem dX11_pass_16 : decode cX11_pass 16 = .ok (.getfield 355, 3) := de180 hX11_pass_0 16 rfl rfl rfl
theorem dX11_pass_19 : decode cX11_pass 19 = .ok (.iaload, 1) := de46 hX11_pass_0 19 rfl rfl
theorem dX11_pass_20 : decode cX11_pass 20 = .ok (.istore_n 2, 1) := de61 hX11_pass_0 20 rfl rfl
theorem dX11_pass_21 : decode cX11_pass 21 = .ok (.aload_n 0, 1) := de42 hX11_pass_0 21 rfl rfl
theorem hX11_pass_22 : bHas cX11_pass 22 [180, 0, 104, 42, 180, 1, 99, 28, 79, 42, 89, 180, 1, 99, 4, 96, 181, 1, 99, 28] := bH_c (n := 20) (by decide +kernel)
theorem dX11_pass_22 : decode cX11_pass 22 = .ok (.getfield 104, 3) := de180 hX11_pass_22 0 rfl rfl rfl
theorem dX11_pass_25 : decode cX11_pass 25 = .ok (.aload_n 0, 1) := de42 hX11_pass_22 3 rfl rfl
theorem dX11_pass_26 : decode cX11_pass 26 = .ok (.getfield 355, 3) := de180 hX11_pass_22 4 rfl rfl rfl
theorem dX11_pass_29 : decode cX11_pass 29 = .ok (.iload_n 2, 1) := de28 hX11_pass_22 7 rfl rfl
theorem dX11_pass_30 : decode cX11_pass 30 = .ok (.iastore, 1) := de79 hX11_pass_22 8 rfl rfl
theorem dX11_pass_31 : decode cX11_pass 31 = .ok (.aload_n 0, 1) := de42 hX11_pass_22 9 rfl rfl
theorem dX11_pass_32 : decode cX11_pass 32 = .ok (.dup, 1) := de89 hX11_pass_22 10 rfl rfl
theorem dX11_pass_33 : decode cX11_pass 33 = .ok (.getfield 355, 3) := de180 hX11_pass_22 11 rfl rfl rfl
theorem dX11_pass_36 : decode cX11_pass 36 = .ok (.iconst 1, 1) := de4 hX11_pass_22 14 rfl rfl
theorem dX11_pass_37 : decode cX11_pass 37 = .ok (.iadd, 1) := de96 hX11_pass_22 15 rfl rfl
theorem dX11_pass_38 : decode cX11_pass 38 = .ok (.putfield 355, 3) := de181 hX11_pass_22 16 rfl rfl rfl
theorem dX11_pass_41 : decode cX11_pass 41 = .ok (.iload_n 2, 1) := de28 hX11_pass_22 19 rfl rfl
theorem hX11_pass_42 : bHas cX11_pass 42 [172] := bH_c (n := 1) (by decide +kernel)
theorem dX11_pass_42 : decode cX11_pass 42 = .ok (.ireturn, 1) := de172 hX11_pass_42 0 rfl rfl
theorem hX11_passAll_0 : bHas cX11_passAll 0 [42, 42, 42, 180, 0, 132, 182, 1, 102, 181, 0, 132, 42, 42, 42, 180, 0, 158, 182, 1, 102, 181, 0, 158] := bH_c (n := 24) (by decide +kernel)
theorem dX11_passAll_0 : decode cX11_passAll 0 = .ok (.aload_n 0, 1) := de42 hX11_passAll_0 0 rfl rfl
theorem dX11_passAll_1 : decode cX11_passAll 1 = .ok (.aload_n 0, 1) := de42 hX11_passAll_0 1 rfl rfl
theorem dX11_passAll_2 : decode cX11_passAll 2 = .ok (.aload_n 0, 1) := de42 hX11_passAll_0 2 rfl rfl
theorem dX11_passAll_3 : decode cX11_passAll 3 = .ok (.getfield 132, 3) := de180 hX11_passAll_0 3 rfl rfl rfl
theorem dX11_passAll_6 : decode cX11_passAll 6 = .ok (.invokevirtual 358, 3) := de182 hX11_passAll_0 6 rfl rfl rfl
theorem dX11_passAll_9 : decode cX11_passAll 9 = .ok (.putfield 132, 3) := de181 hX11_passAll_0 9 rfl rfl rfl
theorem dX11_passAll_12 : decode cX11_passAll 12 = .ok (.aload_n 0, 1) := de42 hX11_passAll_0 12 rfl rfl
theorem dX11_passAll_13 : decode cX11_passAll 13 = .ok (.aload_n 0, 1) := de42 hX11_passAll_0 13 rfl rfl
theorem dX11_passAll_14 : decode cX11_passAll 14 = .ok (.aload_n 0, 1) := de42 hX11_passAll_0 14 rfl rfl
theorem dX11_passAll_15 : decode cX11_passAll 15 = .ok (.getfield 158, 3) := de180 hX11_passAll_0 15 rfl rfl rfl
theorem dX11_passAll_18 : decode cX11_passAll 18 = .ok (.invokevirtual 358, 3) := de182 hX11_passAll_0 18 rfl rfl rfl
theorem dX11_passAll_21 : decode cX11_passAll 21 = .ok (.putfield 158, 3) := de181 hX11_passAll_0 21 rfl rfl rfl
theorem hX11_passAll_24 : bHas cX11_passAll 24 [42, 42, 42, 180, 1, 28, 182, 1, 102, 181, 1, 28, 42, 42, 42, 180, 0, 111, 182, 1, 102, 181, 0, 111] := bH_c (n := 24) (by decide +kernel)
theorem dX11_passAll_24 : decode cX11_passAll 24 = .ok (.aload_n 0, 1) := de42 hX11_passAll_24 0 rfl rfl
theorem dX11_passAll_25 : decode cX11_passAll 25 = .ok (.aload_n 0, 1) := de42 hX11_passAll_24 1 rfl rfl
theorem dX11_passAll_26 : decode cX11_passAll 26 = .ok (.aload_n 0, 1) := de42 hX11_passAll_24 2 rfl rfl
theorem dX11_passAll_27 : decode cX11_passAll 27 = .ok (.getfield 284, 3) := de180 hX11_passAll_24 3 rfl rfl rfl
theorem dX11_passAll_30 : decode cX11_passAll 30 = .ok (.invokevirtual 358, 3) := de182 hX11_passAll_24 6 rfl rfl rfl
theorem dX11_passAll_33 : decode cX11_passAll 33 = .ok (.putfield 284, 3) := de181 hX11_passAll_24 9 rfl rfl rfl
theorem dX11_passAll_36 : decode cX11_passAll 36 = .ok (.aload_n 0, 1) := de42 hX11_passAll_24 12 rfl rfl
theorem dX11_passAll_37 : decode cX11_passAll 37 = .ok (.aload_n 0, 1) := de42 hX11_passAll_24 13 rfl rfl
theorem dX11_passAll_38 : decode cX11_passAll 38 = .ok (.aload_n 0, 1) := de42 hX11_passAll_24 14 rfl rfl
theorem dX11_passAll_39 : decode cX11_passAll 39 = .ok (.getfield 111, 3) := de180 hX11_passAll_24 15 rfl rfl rfl
theorem dX11_passAll_42 : decode cX11_passAll 42 = .ok (.invokevirtual 358, 3) := de182 hX11_passAll_24 18 rfl rfl rfl
theorem dX11_passAll_45 : decode cX11_passAll 45 = .ok (.putfield 111, 3) := de181 hX11_passAll_24 21 rfl rfl rfl
theorem hX11_passAll_48 : bHas cX11_passAll 48 [42, 42, 42, 180, 0, 115, 182, 1, 102, 181, 0, 115, 42, 42, 42, 180, 0, 118, 182, 1, 102, 181, 0, 118] := bH_c (n := 24) (by decide +kernel)
theorem dX11_passAll_48 : decode cX11_passAll 48 = .ok (.aload_n 0, 1) := de42 hX11_passAll_48 0 rfl rfl
theorem dX11_passAll_49 : decode cX11_passAll 49 = .ok (.aload_n 0, 1) := de42 hX11_passAll_48 1 rfl rfl
theorem dX11_passAll_50 : decode cX11_passAll 50 = .ok (.aload_n 0, 1) := de42 hX11_passAll_48 2 rfl rfl
theorem dX11_passAll_51 : decode cX11_passAll 51 = .ok (.getfield 115, 3) := de180 hX11_passAll_48 3 rfl rfl rfl
theorem dX11_passAll_54 : decode cX11_passAll 54 = .ok (.invokevirtual 358, 3) := de182 hX11_passAll_48 6 rfl rfl rfl
theorem dX11_passAll_57 : decode cX11_passAll 57 = .ok (.putfield 115, 3) := de181 hX11_passAll_48 9 rfl rfl rfl
theorem dX11_passAll_60 : decode cX11_passAll 60 = .ok (.aload_n 0, 1) := de42 hX11_passAll_48 12 rfl rfl
theorem dX11_passAll_61 : decode cX11_passAll 61 = .ok (.aload_n 0, 1) := de42 hX11_passAll_48 13 rfl rfl
theorem dX11_passAll_62 : decode cX11_passAll 62 = .ok (.aload_n 0, 1) := de42 hX11_passAll_48 14 rfl rfl
theorem dX11_passAll_63 : decode cX11_passAll 63 = .ok (.getfield 118, 3) := de180 hX11_passAll_48 15 rfl rfl rfl
theorem dX11_passAll_66 : decode cX11_passAll 66 = .ok (.invokevirtual 358, 3) := de182 hX11_passAll_48 18 rfl rfl rfl
theorem dX11_passAll_69 : decode cX11_passAll 69 = .ok (.putfield 118, 3) := de181 hX11_passAll_48 21 rfl rfl rfl
theorem hX11_passAll_72 : bHas cX11_passAll 72 [42, 42, 42, 180, 0, 121, 182, 1, 102, 181, 0, 121, 3, 60, 27, 16, 6, 162, 0, 41, 42] := bH_c (n := 21) (by decide +kernel)
theorem dX11_passAll_72 : decode cX11_passAll 72 = .ok (.aload_n 0, 1) := de42 hX11_passAll_72 0 rfl rfl
theorem dX11_passAll_73 : decode cX11_passAll 73 = .ok (.aload_n 0, 1) := de42 hX11_passAll_72 1 rfl rfl
theorem dX11_passAll_74 : decode cX11_passAll 74 = .ok (.aload_n 0, 1) := de42 hX11_passAll_72 2 rfl rfl
theorem dX11_passAll_75 : decode cX11_passAll 75 = .ok (.getfield 121, 3) := de180 hX11_passAll_72 3 rfl rfl rfl
theorem dX11_passAll_78 : decode cX11_passAll 78 = .ok (.invokevirtual 358, 3) := de182 hX11_passAll_72 6 rfl rfl rfl
theorem dX11_passAll_81 : decode cX11_passAll 81 = .ok (.putfield 121, 3) := de181 hX11_passAll_72 9 rfl rfl rfl
theorem dX11_passAll_84 : decode cX11_passAll 84 = .ok (.iconst 0, 1) := de3 hX11_passAll_72 12 rfl rfl
theorem dX11_passAll_85 : decode cX11_passAll 85 = .ok (.istore_n 1, 1) := de60 hX11_passAll_72 13 rfl rfl
theorem dX11_passAll_86 : decode cX11_passAll 86 = .ok (.iload_n 1, 1) := de27 hX11_passAll_72 14 rfl rfl
theorem dX11_passAll_87 : decode cX11_passAll 87 = .ok (.bipush 6, 2) := de16 hX11_passAll_72 15 rfl rfl rfl
theorem dX11_passAll_89 : decode cX11_passAll 89 = .ok (.if_icmp .ge 41, 3) := de162 hX11_passAll_72 17 rfl rfl (by decide +kernel)
theorem dX11_passAll_92 : decode cX11_passAll 92 = .ok (.aload_n 0, 1) := de42 hX11_passAll_72 20 rfl rfl
theorem hX11_passAll_93 : bHas cX11_passAll 93 [180, 0, 7, 27, 42, 42, 180, 0, 7, 27, 46, 182, 1, 102, 79, 42, 180, 0, 13, 27] := bH_c (n := 20) (by decide +kernel)
theorem dX11_passAll_93 : decode cX11_passAll 93 = .ok (.getfield 7, 3) := de180 hX11_passAll_93 0 rfl rfl rfl
theorem dX11_passAll_96 : decode cX11_passAll 96 = .ok (.iload_n 1, 1) := de27 hX11_passAll_93 3 rfl rfl
theorem dX11_passAll_97 : decode cX11_passAll 97 = .ok (.aload_n 0, 1) := de42 hX11_passAll_93 4 rfl rfl
theorem dX11_passAll_98 : decode cX11_passAll 98 = .ok (.aload_n 0, 1) := de42 hX11_passAll_93 5 rfl rfl
theorem dX11_passAll_99 : decode cX11_passAll 99 = .ok (.getfield 7, 3) := de180 hX11_passAll_93 6 rfl rfl rfl
theorem dX11_passAll_102 : decode cX11_passAll 102 = .ok (.iload_n 1, 1) := de27 hX11_passAll_93 9 rfl rfl
theorem dX11_passAll_103 : decode cX11_passAll 103 = .ok (.iaload, 1) := de46 hX11_passAll_93 10 rfl rfl
theorem dX11_passAll_104 : decode cX11_passAll 104 = .ok (.invokevirtual 358, 3) := de182 hX11_passAll_93 11 rfl rfl rfl
theorem dX11_passAll_107 : decode cX11_passAll 107 = .ok (.iastore, 1) := de79 hX11_passAll_93 14 rfl rfl
theorem dX11_passAll_108 : decode cX11_passAll 108 = .ok (.aload_n 0, 1) := de42 hX11_passAll_93 15 rfl rfl
theorem dX11_passAll_109 : decode cX11_passAll 109 = .ok (.getfield 13, 3) := de180 hX11_passAll_93 16 rfl rfl rfl
theorem dX11_passAll_112 : decode cX11_passAll 112 = .ok (.iload_n 1, 1) := de27 hX11_passAll_93 19 rfl rfl
theorem hX11_passAll_113 : bHas cX11_passAll 113 [42, 42, 180, 0, 13, 27, 46, 182, 1, 102, 79, 132, 1, 1, 167, 255, 215, 3, 60, 27] := bH_c (n := 20) (by decide +kernel)
theorem dX11_passAll_113 : decode cX11_passAll 113 = .ok (.aload_n 0, 1) := de42 hX11_passAll_113 0 rfl rfl
theorem dX11_passAll_114 : decode cX11_passAll 114 = .ok (.aload_n 0, 1) := de42 hX11_passAll_113 1 rfl rfl
theorem dX11_passAll_115 : decode cX11_passAll 115 = .ok (.getfield 13, 3) := de180 hX11_passAll_113 2 rfl rfl rfl
theorem dX11_passAll_118 : decode cX11_passAll 118 = .ok (.iload_n 1, 1) := de27 hX11_passAll_113 5 rfl rfl
theorem dX11_passAll_119 : decode cX11_passAll 119 = .ok (.iaload, 1) := de46 hX11_passAll_113 6 rfl rfl
theorem dX11_passAll_120 : decode cX11_passAll 120 = .ok (.invokevirtual 358, 3) := de182 hX11_passAll_113 7 rfl rfl rfl
theorem dX11_passAll_123 : decode cX11_passAll 123 = .ok (.iastore, 1) := de79 hX11_passAll_113 10 rfl rfl
theorem dX11_passAll_124 : decode cX11_passAll 124 = .ok (.iinc 1 1, 3) := de132 hX11_passAll_113 11 rfl rfl rfl rfl
theorem dX11_passAll_127 : decode cX11_passAll 127 = .ok (.goto (-41), 3) := de167 hX11_passAll_113 14 rfl rfl (by decide +kernel)
theorem dX11_passAll_130 : decode cX11_passAll 130 = .ok (.iconst 0, 1) := de3 hX11_passAll_113 17 rfl rfl
theorem dX11_passAll_131 : decode cX11_passAll 131 = .ok (.istore_n 1, 1) := de60 hX11_passAll_113 18 rfl rfl
theorem dX11_passAll_132 : decode cX11_passAll 132 = .ok (.iload_n 1, 1) := de27 hX11_passAll_113 19 rfl rfl
theorem hX11_passAll_133 : bHas cX11_passAll 133 [16, 18, 162, 0, 25, 42, 180, 0, 16, 27, 42, 42, 180, 0, 16, 27, 46, 182, 1, 102, 79] := bH_c (n := 21) (by decide +kernel)
theorem dX11_passAll_133 : decode cX11_passAll 133 = .ok (.bipush 18, 2) := de16 hX11_passAll_133 0 rfl rfl rfl
theorem dX11_passAll_135 : decode cX11_passAll 135 = .ok (.if_icmp .ge 25, 3) := de162 hX11_passAll_133 2 rfl rfl (by decide +kernel)
theorem dX11_passAll_138 : decode cX11_passAll 138 = .ok (.aload_n 0, 1) := de42 hX11_passAll_133 5 rfl rfl
theorem dX11_passAll_139 : decode cX11_passAll 139 = .ok (.getfield 16, 3) := de180 hX11_passAll_133 6 rfl rfl rfl
theorem dX11_passAll_142 : decode cX11_passAll 142 = .ok (.iload_n 1, 1) := de27 hX11_passAll_133 9 rfl rfl
theorem dX11_passAll_143 : decode cX11_passAll 143 = .ok (.aload_n 0, 1) := de42 hX11_passAll_133 10 rfl rfl
theorem dX11_passAll_144 : decode cX11_passAll 144 = .ok (.aload_n 0, 1) := de42 hX11_passAll_133 11 rfl rfl
theorem dX11_passAll_145 : decode cX11_passAll 145 = .ok (.getfield 16, 3) := de180 hX11_passAll_133 12 rfl rfl rfl
theorem dX11_passAll_148 : decode cX11_passAll 148 = .ok (.iload_n 1, 1) := de27 hX11_passAll_133 15 rfl rfl
theorem dX11_passAll_149 : decode cX11_passAll 149 = .ok (.iaload, 1) := de46 hX11_passAll_133 16 rfl rfl
theorem dX11_passAll_150 : decode cX11_passAll 150 = .ok (.invokevirtual 358, 3) := de182 hX11_passAll_133 17 rfl rfl rfl
theorem dX11_passAll_153 : decode cX11_passAll 153 = .ok (.iastore, 1) := de79 hX11_passAll_133 20 rfl rfl
theorem hX11_passAll_154 : bHas cX11_passAll 154 [132, 1, 1, 167, 255, 231, 3, 60, 27, 16, 28, 162, 0, 25, 42, 180, 0, 19, 27, 42, 42] := bH_c (n := 21) (by decide +kernel)
theorem dX11_passAll_154 : decode cX11_passAll 154 = .ok (.iinc 1 1, 3) := de132 hX11_passAll_154 0 rfl rfl rfl rfl
theorem dX11_passAll_157 : decode cX11_passAll 157 = .ok (.goto (-25), 3) := de167 hX11_passAll_154 3 rfl rfl (by decide +kernel)
theorem dX11_passAll_160 : decode cX11_passAll 160 = .ok (.iconst 0, 1) := de3 hX11_passAll_154 6 rfl rfl
theorem dX11_passAll_161 : decode cX11_passAll 161 = .ok (.istore_n 1, 1) := de60 hX11_passAll_154 7 rfl rfl
theorem dX11_passAll_162 : decode cX11_passAll 162 = .ok (.iload_n 1, 1) := de27 hX11_passAll_154 8 rfl rfl
theorem dX11_passAll_163 : decode cX11_passAll 163 = .ok (.bipush 28, 2) := de16 hX11_passAll_154 9 rfl rfl rfl
theorem dX11_passAll_165 : decode cX11_passAll 165 = .ok (.if_icmp .ge 25, 3) := de162 hX11_passAll_154 11 rfl rfl (by decide +kernel)
theorem dX11_passAll_168 : decode cX11_passAll 168 = .ok (.aload_n 0, 1) := de42 hX11_passAll_154 14 rfl rfl
theorem dX11_passAll_169 : decode cX11_passAll 169 = .ok (.getfield 19, 3) := de180 hX11_passAll_154 15 rfl rfl rfl
theorem dX11_passAll_172 : decode cX11_passAll 172 = .ok (.iload_n 1, 1) := de27 hX11_passAll_154 18 rfl rfl
theorem dX11_passAll_173 : decode cX11_passAll 173 = .ok (.aload_n 0, 1) := de42 hX11_passAll_154 19 rfl rfl
theorem dX11_passAll_174 : decode cX11_passAll 174 = .ok (.aload_n 0, 1) := de42 hX11_passAll_154 20 rfl rfl
theorem hX11_passAll_175 : bHas cX11_passAll 175 [180, 0, 19, 27, 46, 182, 1, 102, 79, 132, 1, 1, 167, 255, 231, 3, 60, 27, 17, 0, 168, 162, 0, 73] := bH_c (n := 24) (by decide +kernel)
theorem dX11_passAll_175 : decode cX11_passAll 175 = .ok (.getfield 19, 3) := de180 hX11_passAll_175 0 rfl rfl rfl
theorem dX11_passAll_178 : decode cX11_passAll 178 = .ok (.iload_n 1, 1) := de27 hX11_passAll_175 3 rfl rfl
theorem dX11_passAll_179 : decode cX11_passAll 179 = .ok (.iaload, 1) := de46 hX11_passAll_175 4 rfl rfl
theorem dX11_passAll_180 : decode cX11_passAll 180 = .ok (.invokevirtual 358, 3) := de182 hX11_passAll_175 5 rfl rfl rfl
theorem dX11_passAll_183 : decode cX11_passAll 183 = .ok (.iastore, 1) := de79 hX11_passAll_175 8 rfl rfl
theorem dX11_passAll_184 : decode cX11_passAll 184 = .ok (.iinc 1 1, 3) := de132 hX11_passAll_175 9 rfl rfl rfl rfl
theorem dX11_passAll_187 : decode cX11_passAll 187 = .ok (.goto (-25), 3) := de167 hX11_passAll_175 12 rfl rfl (by decide +kernel)
theorem dX11_passAll_190 : decode cX11_passAll 190 = .ok (.iconst 0, 1) := de3 hX11_passAll_175 15 rfl rfl
theorem dX11_passAll_191 : decode cX11_passAll 191 = .ok (.istore_n 1, 1) := de60 hX11_passAll_175 16 rfl rfl
theorem dX11_passAll_192 : decode cX11_passAll 192 = .ok (.iload_n 1, 1) := de27 hX11_passAll_175 17 rfl rfl
theorem dX11_passAll_193 : decode cX11_passAll 193 = .ok (.sipush 168, 3) := de17 hX11_passAll_175 18 rfl rfl (by decide +kernel)
theorem dX11_passAll_196 : decode cX11_passAll 196 = .ok (.if_icmp .ge 73, 3) := de162 hX11_passAll_175 21 rfl rfl (by decide +kernel)
theorem hX11_passAll_199 : bHas cX11_passAll 199 [42, 180, 0, 22, 27, 42, 42, 180, 0, 22, 27, 46, 182, 1, 102, 79, 42, 180, 0, 37] := bH_c (n := 20) (by decide +kernel)
theorem dX11_passAll_199 : decode cX11_passAll 199 = .ok (.aload_n 0, 1) := de42 hX11_passAll_199 0 rfl rfl
theorem dX11_passAll_200 : decode cX11_passAll 200 = .ok (.getfield 22, 3) := de180 hX11_passAll_199 1 rfl rfl rfl
theorem dX11_passAll_203 : decode cX11_passAll 203 = .ok (.iload_n 1, 1) := de27 hX11_passAll_199 4 rfl rfl
theorem dX11_passAll_204 : decode cX11_passAll 204 = .ok (.aload_n 0, 1) := de42 hX11_passAll_199 5 rfl rfl
theorem dX11_passAll_205 : decode cX11_passAll 205 = .ok (.aload_n 0, 1) := de42 hX11_passAll_199 6 rfl rfl
theorem dX11_passAll_206 : decode cX11_passAll 206 = .ok (.getfield 22, 3) := de180 hX11_passAll_199 7 rfl rfl rfl
theorem dX11_passAll_209 : decode cX11_passAll 209 = .ok (.iload_n 1, 1) := de27 hX11_passAll_199 10 rfl rfl
theorem dX11_passAll_210 : decode cX11_passAll 210 = .ok (.iaload, 1) := de46 hX11_passAll_199 11 rfl rfl
theorem dX11_passAll_211 : decode cX11_passAll 211 = .ok (.invokevirtual 358, 3) := de182 hX11_passAll_199 12 rfl rfl rfl
theorem dX11_passAll_214 : decode cX11_passAll 214 = .ok (.iastore, 1) := de79 hX11_passAll_199 15 rfl rfl
theorem dX11_passAll_215 : decode cX11_passAll 215 = .ok (.aload_n 0, 1) := de42 hX11_passAll_199 16 rfl rfl
theorem dX11_passAll_216 : decode cX11_passAll 216 = .ok (.getfield 37, 3) := de180 hX11_passAll_199 17 rfl rfl rfl
theorem hX11_passAll_219 : bHas cX11_passAll 219 [27, 42, 42, 180, 0, 37, 27, 46, 182, 1, 102, 79, 42, 180, 0, 40, 27, 42] := bH_c (n := 18) (by decide +kernel)
theorem dX11_passAll_219 : decode cX11_passAll 219 = .ok (.iload_n 1, 1) := de27 hX11_passAll_219 0 rfl rfl
theorem dX11_passAll_220 : decode cX11_passAll 220 = .ok (.aload_n 0, 1) := de42 hX11_passAll_219 1 rfl rfl
theorem dX11_passAll_221 : decode cX11_passAll 221 = .ok (.aload_n 0, 1) := de42 hX11_passAll_219 2 rfl rfl
theorem dX11_passAll_222 : decode cX11_passAll 222 = .ok (.getfield 37, 3) := de180 hX11_passAll_219 3 rfl rfl rfl
theorem dX11_passAll_225 : decode cX11_passAll 225 = .ok (.iload_n 1, 1) := de27 hX11_passAll_219 6 rfl rfl
theorem dX11_passAll_226 : decode cX11_passAll 226 = .ok (.iaload, 1) := de46 hX11_passAll_219 7 rfl rfl
theorem dX11_passAll_227 : decode cX11_passAll 227 = .ok (.invokevirtual 358, 3) := de182 hX11_passAll_219 8 rfl rfl rfl
theorem dX11_passAll_230 : decode cX11_passAll 230 = .ok (.iastore, 1) := de79 hX11_passAll_219 11 rfl rfl
theorem dX11_passAll_231 : decode cX11_passAll 231 = .ok (.aload_n 0, 1) := de42 hX11_passAll_219 12 rfl rfl
theorem dX11_passAll_232 : decode cX11_passAll 232 = .ok (.getfield 40, 3) := de180 hX11_passAll_219 13 rfl rfl rfl
theorem dX11_passAll_235 : decode cX11_passAll 235 = .ok (.iload_n 1, 1) := de27 hX11_passAll_219 16 rfl rfl
theorem dX11_passAll_236 : decode cX11_passAll 236 = .ok (.aload_n 0, 1) := de42 hX11_passAll_219 17 rfl rfl
theorem hX11_passAll_237 : bHas cX11_passAll 237 [42, 180, 0, 40, 27, 46, 182, 1, 102, 79, 42, 180, 0, 43, 27, 42, 42, 180, 0, 43] := bH_c (n := 20) (by decide +kernel)
theorem dX11_passAll_237 : decode cX11_passAll 237 = .ok (.aload_n 0, 1) := de42 hX11_passAll_237 0 rfl rfl
theorem dX11_passAll_238 : decode cX11_passAll 238 = .ok (.getfield 40, 3) := de180 hX11_passAll_237 1 rfl rfl rfl
theorem dX11_passAll_241 : decode cX11_passAll 241 = .ok (.iload_n 1, 1) := de27 hX11_passAll_237 4 rfl rfl
theorem dX11_passAll_242 : decode cX11_passAll 242 = .ok (.iaload, 1) := de46 hX11_passAll_237 5 rfl rfl
theorem dX11_passAll_243 : decode cX11_passAll 243 = .ok (.invokevirtual 358, 3) := de182 hX11_passAll_237 6 rfl rfl rfl
theorem dX11_passAll_246 : decode cX11_passAll 246 = .ok (.iastore, 1) := de79 hX11_passAll_237 9 rfl rfl
theorem dX11_passAll_247 : decode cX11_passAll 247 = .ok (.aload_n 0, 1) := de42 hX11_passAll_237 10 rfl rfl
theorem dX11_passAll_248 : decode cX11_passAll 248 = .ok (.getfield 43, 3) := de180 hX11_passAll_237 11 rfl rfl rfl
theorem dX11_passAll_251 : decode cX11_passAll 251 = .ok (.iload_n 1, 1) := de27 hX11_passAll_237 14 rfl rfl
theorem dX11_passAll_252 : decode cX11_passAll 252 = .ok (.aload_n 0, 1) := de42 hX11_passAll_237 15 rfl rfl
theorem dX11_passAll_253 : decode cX11_passAll 253 = .ok (.aload_n 0, 1) := de42 hX11_passAll_237 16 rfl rfl
theorem dX11_passAll_254 : decode cX11_passAll 254 = .ok (.getfield 43, 3) := de180 hX11_passAll_237 17 rfl rfl rfl
theorem hX11_passAll_257 : bHas cX11_passAll 257 [27, 46, 182, 1, 102, 79, 132, 1, 1, 167, 255, 182, 3, 60, 27, 16, 20, 162, 0, 57, 42] := bH_c (n := 21) (by decide +kernel)
theorem dX11_passAll_257 : decode cX11_passAll 257 = .ok (.iload_n 1, 1) := de27 hX11_passAll_257 0 rfl rfl
theorem dX11_passAll_258 : decode cX11_passAll 258 = .ok (.iaload, 1) := de46 hX11_passAll_257 1 rfl rfl
theorem dX11_passAll_259 : decode cX11_passAll 259 = .ok (.invokevirtual 358, 3) := de182 hX11_passAll_257 2 rfl rfl rfl
theorem dX11_passAll_262 : decode cX11_passAll 262 = .ok (.iastore, 1) := de79 hX11_passAll_257 5 rfl rfl
theorem dX11_passAll_263 : decode cX11_passAll 263 = .ok (.iinc 1 1, 3) := de132 hX11_passAll_257 6 rfl rfl rfl rfl
theorem dX11_passAll_266 : decode cX11_passAll 266 = .ok (.goto (-74), 3) := de167 hX11_passAll_257 9 rfl rfl (by decide +kernel)
theorem dX11_passAll_269 : decode cX11_passAll 269 = .ok (.iconst 0, 1) := de3 hX11_passAll_257 12 rfl rfl
theorem dX11_passAll_270 : decode cX11_passAll 270 = .ok (.istore_n 1, 1) := de60 hX11_passAll_257 13 rfl rfl
theorem dX11_passAll_271 : decode cX11_passAll 271 = .ok (.iload_n 1, 1) := de27 hX11_passAll_257 14 rfl rfl
theorem dX11_passAll_272 : decode cX11_passAll 272 = .ok (.bipush 20, 2) := de16 hX11_passAll_257 15 rfl rfl rfl
theorem dX11_passAll_274 : decode cX11_passAll 274 = .ok (.if_icmp .ge 57, 3) := de162 hX11_passAll_257 17 rfl rfl (by decide +kernel)
theorem dX11_passAll_277 : decode cX11_passAll 277 = .ok (.aload_n 0, 1) := de42 hX11_passAll_257 20 rfl rfl
theorem hX11_passAll_278 : bHas cX11_passAll 278 [180, 0, 25, 27, 42, 42, 180, 0, 25, 27, 46, 182, 1, 102, 79, 42, 180, 0, 28, 27] := bH_c (n := 20) (by decide +kernel)
theorem dX11_passAll_278 : decode cX11_passAll 278 = .ok (.getfield 25, 3) := de180 hX11_passAll_278 0 rfl rfl rfl
theorem dX11_passAll_281 : decode cX11_passAll 281 = .ok (.iload_n 1, 1) := de27 hX11_passAll_278 3 rfl rfl
theorem dX11_passAll_282 : decode cX11_passAll 282 = .ok (.aload_n 0, 1) := de42 hX11_passAll_278 4 rfl rfl
theorem dX11_passAll_283 : decode cX11_passAll 283 = .ok (.aload_n 0, 1) := de42 hX11_passAll_278 5 rfl rfl
theorem dX11_passAll_284 : decode cX11_passAll 284 = .ok (.getfield 25, 3) := de180 hX11_passAll_278 6 rfl rfl rfl
theorem dX11_passAll_287 : decode cX11_passAll 287 = .ok (.iload_n 1, 1) := de27 hX11_passAll_278 9 rfl rfl
theorem dX11_passAll_288 : decode cX11_passAll 288 = .ok (.iaload, 1) := de46 hX11_passAll_278 10 rfl rfl
theorem dX11_passAll_289 : decode cX11_passAll 289 = .ok (.invokevirtual 358, 3) := de182 hX11_passAll_278 11 rfl rfl rfl
theorem dX11_passAll_292 : decode cX11_passAll 292 = .ok (.iastore, 1) := de79 hX11_passAll_278 14 rfl rfl
theorem dX11_passAll_293 : decode cX11_passAll 293 = .ok (.aload_n 0, 1) := de42 hX11_passAll_278 15 rfl rfl
theorem dX11_passAll_294 : decode cX11_passAll 294 = .ok (.getfield 28, 3) := de180 hX11_passAll_278 16 rfl rfl rfl
theorem dX11_passAll_297 : decode cX11_passAll 297 = .ok (.iload_n 1, 1) := de27 hX11_passAll_278 19 rfl rfl
theorem hX11_passAll_298 : bHas cX11_passAll 298 [42, 42, 180, 0, 28, 27, 46, 182, 1, 102, 79, 42, 180, 0, 31, 27, 42, 42] := bH_c (n := 18) (by decide +kernel)
theorem dX11_passAll_298 : decode cX11_passAll 298 = .ok (.aload_n 0, 1) := de42 hX11_passAll_298 0 rfl rfl
theorem dX11_passAll_299 : decode cX11_passAll 299 = .ok (.aload_n 0, 1) := de42 hX11_passAll_298 1 rfl rfl
theorem dX11_passAll_300 : decode cX11_passAll 300 = .ok (.getfield 28, 3) := de180 hX11_passAll_298 2 rfl rfl rfl
theorem dX11_passAll_303 : decode cX11_passAll 303 = .ok (.iload_n 1, 1) := de27 hX11_passAll_298 5 rfl rfl
theorem dX11_passAll_304 : decode cX11_passAll 304 = .ok (.iaload, 1) := de46 hX11_passAll_298 6 rfl rfl
theorem dX11_passAll_305 : decode cX11_passAll 305 = .ok (.invokevirtual 358, 3) := de182 hX11_passAll_298 7 rfl rfl rfl
theorem dX11_passAll_308 : decode cX11_passAll 308 = .ok (.iastore, 1) := de79 hX11_passAll_298 10 rfl rfl
theorem dX11_passAll_309 : decode cX11_passAll 309 = .ok (.aload_n 0, 1) := de42 hX11_passAll_298 11 rfl rfl
theorem dX11_passAll_310 : decode cX11_passAll 310 = .ok (.getfield 31, 3) := de180 hX11_passAll_298 12 rfl rfl rfl
theorem dX11_passAll_313 : decode cX11_passAll 313 = .ok (.iload_n 1, 1) := de27 hX11_passAll_298 15 rfl rfl
theorem dX11_passAll_314 : decode cX11_passAll 314 = .ok (.aload_n 0, 1) := de42 hX11_passAll_298 16 rfl rfl
theorem dX11_passAll_315 : decode cX11_passAll 315 = .ok (.aload_n 0, 1) := de42 hX11_passAll_298 17 rfl rfl
theorem hX11_passAll_316 : bHas cX11_passAll 316 [180, 0, 31, 27, 46, 182, 1, 102, 79, 132, 1, 1, 167, 255, 199, 3, 60, 27, 16, 6, 162, 0, 89] := bH_c (n := 23) (by decide +kernel)
theorem dX11_passAll_316 : decode cX11_passAll 316 = .ok (.getfield 31, 3) := de180 hX11_passAll_316 0 rfl rfl rfl
theorem dX11_passAll_319 : decode cX11_passAll 319 = .ok (.iload_n 1, 1) := de27 hX11_passAll_316 3 rfl rfl
theorem dX11_passAll_320 : decode cX11_passAll 320 = .ok (.iaload, 1) := de46 hX11_passAll_316 4 rfl rfl
theorem dX11_passAll_321 : decode cX11_passAll 321 = .ok (.invokevirtual 358, 3) := de182 hX11_passAll_316 5 rfl rfl rfl
theorem dX11_passAll_324 : decode cX11_passAll 324 = .ok (.iastore, 1) := de79 hX11_passAll_316 8 rfl rfl
theorem dX11_passAll_325 : decode cX11_passAll 325 = .ok (.iinc 1 1, 3) := de132 hX11_passAll_316 9 rfl rfl rfl rfl
theorem dX11_passAll_328 : decode cX11_passAll 328 = .ok (.goto (-57), 3) := de167 hX11_passAll_316 12 rfl rfl (by decide +kernel)
theorem dX11_passAll_331 : decode cX11_passAll 331 = .ok (.iconst 0, 1) := de3 hX11_passAll_316 15 rfl rfl
theorem dX11_passAll_332 : decode cX11_passAll 332 = .ok (.istore_n 1, 1) := de60 hX11_passAll_316 16 rfl rfl
theorem dX11_passAll_333 : decode cX11_passAll 333 = .ok (.iload_n 1, 1) := de27 hX11_passAll_316 17 rfl rfl
theorem dX11_passAll_334 : decode cX11_passAll 334 = .ok (.bipush 6, 2) := de16 hX11_passAll_316 18 rfl rfl rfl
theorem dX11_passAll_336 : decode cX11_passAll 336 = .ok (.if_icmp .ge 89, 3) := de162 hX11_passAll_316 20 rfl rfl (by decide +kernel)
theorem hX11_passAll_339 : bHas cX11_passAll 339 [42, 180, 0, 85, 27, 42, 42, 180, 0, 85, 27, 46, 182, 1, 102, 79, 42, 180, 0, 88] := bH_c (n := 20) (by decide +kernel)
theorem dX11_passAll_339 : decode cX11_passAll 339 = .ok (.aload_n 0, 1) := de42 hX11_passAll_339 0 rfl rfl
theorem dX11_passAll_340 : decode cX11_passAll 340 = .ok (.getfield 85, 3) := de180 hX11_passAll_339 1 rfl rfl rfl
theorem dX11_passAll_343 : decode cX11_passAll 343 = .ok (.iload_n 1, 1) := de27 hX11_passAll_339 4 rfl rfl
theorem dX11_passAll_344 : decode cX11_passAll 344 = .ok (.aload_n 0, 1) := de42 hX11_passAll_339 5 rfl rfl
theorem dX11_passAll_345 : decode cX11_passAll 345 = .ok (.aload_n 0, 1) := de42 hX11_passAll_339 6 rfl rfl
theorem dX11_passAll_346 : decode cX11_passAll 346 = .ok (.getfield 85, 3) := de180 hX11_passAll_339 7 rfl rfl rfl
theorem dX11_passAll_349 : decode cX11_passAll 349 = .ok (.iload_n 1, 1) := de27 hX11_passAll_339 10 rfl rfl
theorem dX11_passAll_350 : decode cX11_passAll 350 = .ok (.iaload, 1) := de46 hX11_passAll_339 11 rfl rfl
theorem dX11_passAll_351 : decode cX11_passAll 351 = .ok (.invokevirtual 358, 3) := de182 hX11_passAll_339 12 rfl rfl rfl
theorem dX11_passAll_354 : decode cX11_passAll 354 = .ok (.iastore, 1) := de79 hX11_passAll_339 15 rfl rfl
theorem dX11_passAll_355 : decode cX11_passAll 355 = .ok (.aload_n 0, 1) := de42 hX11_passAll_339 16 rfl rfl
theorem dX11_passAll_356 : decode cX11_passAll 356 = .ok (.getfield 88, 3) := de180 hX11_passAll_339 17 rfl rfl rfl
theorem hX11_passAll_359 : bHas cX11_passAll 359 [27, 42, 42, 180, 0, 88, 27, 46, 182, 1, 102, 79, 42, 180, 0, 91, 27, 42] := bH_c (n := 18) (by decide +kernel)
theorem dX11_passAll_359 : decode cX11_passAll 359 = .ok (.iload_n 1, 1) := de27 hX11_passAll_359 0 rfl rfl
theorem dX11_passAll_360 : decode cX11_passAll 360 = .ok (.aload_n 0, 1) := de42 hX11_passAll_359 1 rfl rfl
theorem dX11_passAll_361 : decode cX11_passAll 361 = .ok (.aload_n 0, 1) := de42 hX11_passAll_359 2 rfl rfl
theorem dX11_passAll_362 : decode cX11_passAll 362 = .ok (.getfield 88, 3) := de180 hX11_passAll_359 3 rfl rfl rfl
theorem dX11_passAll_365 : decode cX11_passAll 365 = .ok (.iload_n 1, 1) := de27 hX11_passAll_359 6 rfl rfl
theorem dX11_passAll_366 : decode cX11_passAll 366 = .ok (.iaload, 1) := de46 hX11_passAll_359 7 rfl rfl
theorem dX11_passAll_367 : decode cX11_passAll 367 = .ok (.invokevirtual 358, 3) := de182 hX11_passAll_359 8 rfl rfl rfl
theorem dX11_passAll_370 : decode cX11_passAll 370 = .ok (.iastore, 1) := de79 hX11_passAll_359 11 rfl rfl
theorem dX11_passAll_371 : decode cX11_passAll 371 = .ok (.aload_n 0, 1) := de42 hX11_passAll_359 12 rfl rfl
theorem dX11_passAll_372 : decode cX11_passAll 372 = .ok (.getfield 91, 3) := de180 hX11_passAll_359 13 rfl rfl rfl
theorem dX11_passAll_375 : decode cX11_passAll 375 = .ok (.iload_n 1, 1) := de27 hX11_passAll_359 16 rfl rfl
theorem dX11_passAll_376 : decode cX11_passAll 376 = .ok (.aload_n 0, 1) := de42 hX11_passAll_359 17 rfl rfl
theorem hX11_passAll_377 : bHas cX11_passAll 377 [42, 180, 0, 91, 27, 46, 182, 1, 102, 79, 42, 180, 0, 94, 27, 42, 42, 180, 0, 94] := bH_c (n := 20) (by decide +kernel)
theorem dX11_passAll_377 : decode cX11_passAll 377 = .ok (.aload_n 0, 1) := de42 hX11_passAll_377 0 rfl rfl
theorem dX11_passAll_378 : decode cX11_passAll 378 = .ok (.getfield 91, 3) := de180 hX11_passAll_377 1 rfl rfl rfl
theorem dX11_passAll_381 : decode cX11_passAll 381 = .ok (.iload_n 1, 1) := de27 hX11_passAll_377 4 rfl rfl
theorem dX11_passAll_382 : decode cX11_passAll 382 = .ok (.iaload, 1) := de46 hX11_passAll_377 5 rfl rfl
theorem dX11_passAll_383 : decode cX11_passAll 383 = .ok (.invokevirtual 358, 3) := de182 hX11_passAll_377 6 rfl rfl rfl
theorem dX11_passAll_386 : decode cX11_passAll 386 = .ok (.iastore, 1) := de79 hX11_passAll_377 9 rfl rfl
theorem dX11_passAll_387 : decode cX11_passAll 387 = .ok (.aload_n 0, 1) := de42 hX11_passAll_377 10 rfl rfl
theorem dX11_passAll_388 : decode cX11_passAll 388 = .ok (.getfield 94, 3) := de180 hX11_passAll_377 11 rfl rfl rfl
theorem dX11_passAll_391 : decode cX11_passAll 391 = .ok (.iload_n 1, 1) := de27 hX11_passAll_377 14 rfl rfl
theorem dX11_passAll_392 : decode cX11_passAll 392 = .ok (.aload_n 0, 1) := de42 hX11_passAll_377 15 rfl rfl
theorem dX11_passAll_393 : decode cX11_passAll 393 = .ok (.aload_n 0, 1) := de42 hX11_passAll_377 16 rfl rfl
theorem dX11_passAll_394 : decode cX11_passAll 394 = .ok (.getfield 94, 3) := de180 hX11_passAll_377 17 rfl rfl rfl
theorem hX11_passAll_397 : bHas cX11_passAll 397 [27, 46, 182, 1, 102, 79, 42, 180, 0, 97, 27, 42, 42, 180, 0, 97, 27, 46] := bH_c (n := 18) (by decide +kernel)
theorem dX11_passAll_397 : decode cX11_passAll 397 = .ok (.iload_n 1, 1) := de27 hX11_passAll_397 0 rfl rfl
theorem dX11_passAll_398 : decode cX11_passAll 398 = .ok (.iaload, 1) := de46 hX11_passAll_397 1 rfl rfl
theorem dX11_passAll_399 : decode cX11_passAll 399 = .ok (.invokevirtual 358, 3) := de182 hX11_passAll_397 2 rfl rfl rfl
theorem dX11_passAll_402 : decode cX11_passAll 402 = .ok (.iastore, 1) := de79 hX11_passAll_397 5 rfl rfl
theorem dX11_passAll_403 : decode cX11_passAll 403 = .ok (.aload_n 0, 1) := de42 hX11_passAll_397 6 rfl rfl
theorem dX11_passAll_404 : decode cX11_passAll 404 = .ok (.getfield 97, 3) := de180 hX11_passAll_397 7 rfl rfl rfl
theorem dX11_passAll_407 : decode cX11_passAll 407 = .ok (.iload_n 1, 1) := de27 hX11_passAll_397 10 rfl rfl
theorem dX11_passAll_408 : decode cX11_passAll 408 = .ok (.aload_n 0, 1) := de42 hX11_passAll_397 11 rfl rfl
theorem dX11_passAll_409 : decode cX11_passAll 409 = .ok (.aload_n 0, 1) := de42 hX11_passAll_397 12 rfl rfl
theorem dX11_passAll_410 : decode cX11_passAll 410 = .ok (.getfield 97, 3) := de180 hX11_passAll_397 13 rfl rfl rfl
theorem dX11_passAll_413 : decode cX11_passAll 413 = .ok (.iload_n 1, 1) := de27 hX11_passAll_397 16 rfl rfl
theorem dX11_passAll_414 : decode cX11_passAll 414 = .ok (.iaload, 1) := de46 hX11_passAll_397 17 rfl rfl
theorem hX11_passAll_415 : bHas cX11_passAll 415 [182, 1, 102, 79, 132, 1, 1, 167, 255, 167, 177] := bH_c (n := 11) (by decide +kernel)
theorem dX11_passAll_415 : decode cX11_passAll 415 = .ok (.invokevirtual 358, 3) := de182 hX11_passAll_415 0 rfl rfl rfl
theorem dX11_passAll_418 : decode cX11_passAll 418 = .ok (.iastore, 1) := de79 hX11_passAll_415 3 rfl rfl
theorem dX11_passAll_419 : decode cX11_passAll 419 = .ok (.iinc 1 1, 3) := de132 hX11_passAll_415 4 rfl rfl rfl rfl
theorem dX11_passAll_422 : decode cX11_passAll 422 = .ok (.goto (-89), 3) := de167 hX11_passAll_415 7 rfl rfl (by decide +kernel)
theorem dX11_passAll_425 : decode cX11_passAll 425 = .ok (.return_, 1) := de177 hX11_passAll_415 10 rfl rfl
theorem hX11_image_0 : bHas cX11_image 0 [27, 133, 9, 10, 184, 0, 126, 154, 0, 6, 16, 254, 172, 42, 17, 3, 132, 27, 104] := bH_c (n := 19) (by decide +kernel)
theorem dX11_image_0 : decode cX11_image 0 = .ok (.iload_n 1, 1) := de27 hX11_image_0 0 rfl rfl
theorem dX11_image_1 : decode cX11_image 1 = .ok (.i2l, 1) := de133 hX11_image_0 1 rfl rfl
theorem dX11_image_2 : decode cX11_image 2 = .ok (.lconst 0, 1) := de9 hX11_image_0 2 rfl rfl
theorem dX11_image_3 : decode cX11_image 3 = .ok (.lconst 1, 1) := de10 hX11_image_0 3 rfl rfl
theorem dX11_image_4 : decode cX11_image 4 = .ok (.invokestatic 126, 3) := de184 hX11_image_0 4 rfl rfl rfl
theorem dX11_image_7 : decode cX11_image 7 = .ok (.ifCond .ne 6, 3) := de154 hX11_image_0 7 rfl rfl (by decide +kernel)
theorem dX11_image_10 : decode cX11_image 10 = .ok (.bipush (-2), 2) := de16 hX11_image_0 10 rfl rfl rfl
theorem dX11_image_12 : decode cX11_image 12 = .ok (.ireturn, 1) := de172 hX11_image_0 12 rfl rfl
theorem dX11_image_13 : decode cX11_image 13 = .ok (.aload_n 0, 1) := de42 hX11_image_0 13 rfl rfl
theorem dX11_image_14 : decode cX11_image 14 = .ok (.sipush 900, 3) := de17 hX11_image_0 14 rfl rfl (by decide +kernel)
theorem dX11_image_17 : decode cX11_image 17 = .ok (.iload_n 1, 1) := de27 hX11_image_0 17 rfl rfl
theorem dX11_image_18 : decode cX11_image 18 = .ok (.imul, 1) := de104 hX11_image_0 18 rfl rfl
theorem hX11_image_19 : bHas cX11_image 19 [181, 1, 99, 42, 4, 181, 1, 95, 42, 182, 1, 105, 42, 180, 0, 107, 27, 4, 84, 4] := bH_c (n := 20) (by decide +kernel)
theorem dX11_image_19 : decode cX11_image 19 = .ok (.putfield 355, 3) := de181 hX11_image_19 0 rfl rfl rfl
theorem dX11_image_22 : decode cX11_image 22 = .ok (.aload_n 0, 1) := de42 hX11_image_19 3 rfl rfl
theorem dX11_image_23 : decode cX11_image 23 = .ok (.iconst 1, 1) := de4 hX11_image_19 4 rfl rfl
theorem dX11_image_24 : decode cX11_image 24 = .ok (.putfield 351, 3) := de181 hX11_image_19 5 rfl rfl rfl
theorem dX11_image_27 : decode cX11_image 27 = .ok (.aload_n 0, 1) := de42 hX11_image_19 8 rfl rfl
theorem dX11_image_28 : decode cX11_image 28 = .ok (.invokevirtual 361, 3) := de182 hX11_image_19 9 rfl rfl rfl
theorem dX11_image_31 : decode cX11_image 31 = .ok (.aload_n 0, 1) := de42 hX11_image_19 12 rfl rfl
theorem dX11_image_32 : decode cX11_image 32 = .ok (.getfield 107, 3) := de180 hX11_image_19 13 rfl rfl rfl
theorem dX11_image_35 : decode cX11_image 35 = .ok (.iload_n 1, 1) := de27 hX11_image_19 16 rfl rfl
theorem dX11_image_36 : decode cX11_image 36 = .ok (.iconst 1, 1) := de4 hX11_image_19 17 rfl rfl
theorem dX11_image_37 : decode cX11_image 37 = .ok (.bastore, 1) := de84 hX11_image_19 18 rfl rfl
theorem dX11_image_38 : decode cX11_image 38 = .ok (.iconst 1, 1) := de4 hX11_image_19 19 rfl rfl
theorem hX11_image_39 : bHas cX11_image 39 [172] := bH_c (n := 1) (by decide +kernel)
theorem dX11_image_39 : decode cX11_image 39 = .ok (.ireturn, 1) := de172 hX11_image_39 0 rfl rfl
theorem hX11_restore_0 : bHas cX11_restore 0 [27, 133, 9, 10, 184, 0, 126, 154, 0, 6, 16, 254, 172, 42, 180, 0, 107, 27, 51] := bH_c (n := 19) (by decide +kernel)
theorem dX11_restore_0 : decode cX11_restore 0 = .ok (.iload_n 1, 1) := de27 hX11_restore_0 0 rfl rfl
theorem dX11_restore_1 : decode cX11_restore 1 = .ok (.i2l, 1) := de133 hX11_restore_0 1 rfl rfl
theorem dX11_restore_2 : decode cX11_restore 2 = .ok (.lconst 0, 1) := de9 hX11_restore_0 2 rfl rfl
theorem dX11_restore_3 : decode cX11_restore 3 = .ok (.lconst 1, 1) := de10 hX11_restore_0 3 rfl rfl
theorem dX11_restore_4 : decode cX11_restore 4 = .ok (.invokestatic 126, 3) := de184 hX11_restore_0 4 rfl rfl rfl
theorem dX11_restore_7 : decode cX11_restore 7 = .ok (.ifCond .ne 6, 3) := de154 hX11_restore_0 7 rfl rfl (by decide +kernel)
theorem dX11_restore_10 : decode cX11_restore 10 = .ok (.bipush (-2), 2) := de16 hX11_restore_0 10 rfl rfl rfl
theorem dX11_restore_12 : decode cX11_restore 12 = .ok (.ireturn, 1) := de172 hX11_restore_0 12 rfl rfl
theorem dX11_restore_13 : decode cX11_restore 13 = .ok (.aload_n 0, 1) := de42 hX11_restore_0 13 rfl rfl
theorem dX11_restore_14 : decode cX11_restore 14 = .ok (.getfield 107, 3) := de180 hX11_restore_0 14 rfl rfl rfl
theorem dX11_restore_17 : decode cX11_restore 17 = .ok (.iload_n 1, 1) := de27 hX11_restore_0 17 rfl rfl
theorem dX11_restore_18 : decode cX11_restore 18 = .ok (.baload, 1) := de51 hX11_restore_0 18 rfl rfl
theorem hX11_restore_19 : bHas cX11_restore 19 [154, 0, 6, 16, 253, 172, 42, 17, 3, 132, 27, 104, 181, 1, 99, 42, 3, 181, 1, 95, 42] := bH_c (n := 21) (by decide +kernel)
theorem dX11_restore_19 : decode cX11_restore 19 = .ok (.ifCond .ne 6, 3) := de154 hX11_restore_19 0 rfl rfl (by decide +kernel)
theorem dX11_restore_22 : decode cX11_restore 22 = .ok (.bipush (-3), 2) := de16 hX11_restore_19 3 rfl rfl rfl
theorem dX11_restore_24 : decode cX11_restore 24 = .ok (.ireturn, 1) := de172 hX11_restore_19 5 rfl rfl
theorem dX11_restore_25 : decode cX11_restore 25 = .ok (.aload_n 0, 1) := de42 hX11_restore_19 6 rfl rfl
theorem dX11_restore_26 : decode cX11_restore 26 = .ok (.sipush 900, 3) := de17 hX11_restore_19 7 rfl rfl (by decide +kernel)
theorem dX11_restore_29 : decode cX11_restore 29 = .ok (.iload_n 1, 1) := de27 hX11_restore_19 10 rfl rfl
theorem dX11_restore_30 : decode cX11_restore 30 = .ok (.imul, 1) := de104 hX11_restore_19 11 rfl rfl
theorem dX11_restore_31 : decode cX11_restore 31 = .ok (.putfield 355, 3) := de181 hX11_restore_19 12 rfl rfl rfl
theorem dX11_restore_34 : decode cX11_restore 34 = .ok (.aload_n 0, 1) := de42 hX11_restore_19 15 rfl rfl
theorem dX11_restore_35 : decode cX11_restore 35 = .ok (.iconst 0, 1) := de3 hX11_restore_19 16 rfl rfl
theorem dX11_restore_36 : decode cX11_restore 36 = .ok (.putfield 351, 3) := de181 hX11_restore_19 17 rfl rfl rfl
theorem dX11_restore_39 : decode cX11_restore 39 = .ok (.aload_n 0, 1) := de42 hX11_restore_19 20 rfl rfl
theorem hX11_restore_40 : bHas cX11_restore 40 [182, 1, 105, 4, 172] := bH_c (n := 5) (by decide +kernel)
theorem dX11_restore_40 : decode cX11_restore 40 = .ok (.invokevirtual 361, 3) := de182 hX11_restore_40 0 rfl rfl rfl
theorem dX11_restore_43 : decode cX11_restore 43 = .ok (.iconst 1, 1) := de4 hX11_restore_40 3 rfl rfl
theorem dX11_restore_44 : decode cX11_restore 44 = .ok (.ireturn, 1) := de172 hX11_restore_40 4 rfl rfl
theorem hX11_told_0 : bHas cX11_told 0 [27, 133, 20, 1, 108, 20, 1, 110, 184, 0, 126, 153, 0, 13, 42, 180, 0, 19, 27, 16, 10, 100, 46] := bH_c (n := 23) (by decide +kernel)
theorem dX11_told_0 : decode cX11_told 0 = .ok (.iload_n 1, 1) := de27 hX11_told_0 0 rfl rfl
theorem dX11_told_1 : decode cX11_told 1 = .ok (.i2l, 1) := de133 hX11_told_0 1 rfl rfl
theorem dX11_told_2 : decode cX11_told 2 = .ok (.ldc2_w 364, 3) := de20 hX11_told_0 2 rfl rfl rfl
theorem dX11_told_5 : decode cX11_told 5 = .ok (.ldc2_w 366, 3) := de20 hX11_told_0 5 rfl rfl rfl
theorem dX11_told_8 : decode cX11_told 8 = .ok (.invokestatic 126, 3) := de184 hX11_told_0 8 rfl rfl rfl
theorem dX11_told_11 : decode cX11_told 11 = .ok (.ifCond .eq 13, 3) := de153 hX11_told_0 11 rfl rfl (by decide +kernel)
theorem dX11_told_14 : decode cX11_told 14 = .ok (.aload_n 0, 1) := de42 hX11_told_0 14 rfl rfl
theorem dX11_told_15 : decode cX11_told 15 = .ok (.getfield 19, 3) := de180 hX11_told_0 15 rfl rfl rfl
theorem dX11_told_18 : decode cX11_told 18 = .ok (.iload_n 1, 1) := de27 hX11_told_0 18 rfl rfl
theorem dX11_told_19 : decode cX11_told 19 = .ok (.bipush 10, 2) := de16 hX11_told_0 19 rfl rfl rfl
theorem dX11_told_21 : decode cX11_told 21 = .ok (.isub, 1) := de100 hX11_told_0 21 rfl rfl
theorem dX11_told_22 : decode cX11_told 22 = .ok (.iaload, 1) := de46 hX11_told_0 22 rfl rfl
theorem hX11_told_23 : bHas cX11_told 23 [172, 27] := bH_c (n := 2) (by decide +kernel)
theorem dX11_told_23 : decode cX11_told 23 = .ok (.ireturn, 1) := de172 hX11_told_23 0 rfl rfl
theorem dX11_told_24 : decode cX11_told 24 = .ok (.iload_n 1, 1) := de27 hX11_told_23 1 rfl rfl
theorem dX11_told_25 : decode cX11_told 25 = .ok (.tableswitch 51 0 3 #[31, 36, 41, 46], 31) := by decide +kernel
theorem hX11_told_56 : bHas cX11_told 56 [42, 180, 0, 132, 172, 42, 180, 0, 158, 172, 42, 180, 0, 165, 172, 42, 180, 1, 28, 172] := bH_c (n := 20) (by decide +kernel)
theorem dX11_told_56 : decode cX11_told 56 = .ok (.aload_n 0, 1) := de42 hX11_told_56 0 rfl rfl
theorem dX11_told_57 : decode cX11_told 57 = .ok (.getfield 132, 3) := de180 hX11_told_56 1 rfl rfl rfl
theorem dX11_told_60 : decode cX11_told 60 = .ok (.ireturn, 1) := de172 hX11_told_56 4 rfl rfl
theorem dX11_told_61 : decode cX11_told 61 = .ok (.aload_n 0, 1) := de42 hX11_told_56 5 rfl rfl
theorem dX11_told_62 : decode cX11_told 62 = .ok (.getfield 158, 3) := de180 hX11_told_56 6 rfl rfl rfl
theorem dX11_told_65 : decode cX11_told 65 = .ok (.ireturn, 1) := de172 hX11_told_56 9 rfl rfl
theorem dX11_told_66 : decode cX11_told 66 = .ok (.aload_n 0, 1) := de42 hX11_told_56 10 rfl rfl
theorem dX11_told_67 : decode cX11_told 67 = .ok (.getfield 165, 3) := de180 hX11_told_56 11 rfl rfl rfl
theorem dX11_told_70 : decode cX11_told 70 = .ok (.ireturn, 1) := de172 hX11_told_56 14 rfl rfl
theorem dX11_told_71 : decode cX11_told 71 = .ok (.aload_n 0, 1) := de42 hX11_told_56 15 rfl rfl
theorem dX11_told_72 : decode cX11_told 72 = .ok (.getfield 284, 3) := de180 hX11_told_56 16 rfl rfl rfl
theorem dX11_told_75 : decode cX11_told 75 = .ok (.ireturn, 1) := de172 hX11_told_56 19 rfl rfl
theorem hX11_told_76 : bHas cX11_told 76 [27, 133, 20, 1, 91, 20, 1, 112, 184, 0, 126, 153, 0, 13, 42, 27, 7, 100, 182, 0, 221, 167, 0, 5] := bH_c (n := 24) (by decide +kernel)
theorem dX11_told_76 : decode cX11_told 76 = .ok (.iload_n 1, 1) := de27 hX11_told_76 0 rfl rfl
theorem dX11_told_77 : decode cX11_told 77 = .ok (.i2l, 1) := de133 hX11_told_76 1 rfl rfl
theorem dX11_told_78 : decode cX11_told 78 = .ok (.ldc2_w 347, 3) := de20 hX11_told_76 2 rfl rfl rfl
theorem dX11_told_81 : decode cX11_told 81 = .ok (.ldc2_w 368, 3) := de20 hX11_told_76 5 rfl rfl rfl
theorem dX11_told_84 : decode cX11_told 84 = .ok (.invokestatic 126, 3) := de184 hX11_told_76 8 rfl rfl rfl
theorem dX11_told_87 : decode cX11_told 87 = .ok (.ifCond .eq 13, 3) := de153 hX11_told_76 11 rfl rfl (by decide +kernel)
theorem dX11_told_90 : decode cX11_told 90 = .ok (.aload_n 0, 1) := de42 hX11_told_76 14 rfl rfl
theorem dX11_told_91 : decode cX11_told 91 = .ok (.iload_n 1, 1) := de27 hX11_told_76 15 rfl rfl
theorem dX11_told_92 : decode cX11_told 92 = .ok (.iconst 4, 1) := de7 hX11_told_76 16 rfl rfl
theorem dX11_told_93 : decode cX11_told 93 = .ok (.isub, 1) := de100 hX11_told_76 17 rfl rfl
theorem dX11_told_94 : decode cX11_told 94 = .ok (.invokevirtual 221, 3) := de182 hX11_told_76 18 rfl rfl rfl
theorem dX11_told_97 : decode cX11_told 97 = .ok (.goto 5, 3) := de167 hX11_told_76 21 rfl rfl (by decide +kernel)
theorem hX11_told_100 : bHas cX11_told 100 [16, 254, 172] := bH_c (n := 3) (by decide +kernel)
theorem dX11_told_100 : decode cX11_told 100 = .ok (.bipush (-2), 2) := de16 hX11_told_100 0 rfl rfl rfl
theorem dX11_told_102 : decode cX11_told 102 = .ok (.ireturn, 1) := de172 hX11_told_100 2 rfl rfl
