theorem dX4_face_0 : decode cX4_face 0 = .ok (.bipush 28, 2) := by decide +kernel
theorem dX4_face_2 : decode cX4_face 2 = .ok (.iload_n 1, 1) := by decide +kernel
theorem dX4_face_3 : decode cX4_face 3 = .ok (.imul, 1) := by decide +kernel
theorem dX4_face_4 : decode cX4_face 4 = .ok (.iload_n 2, 1) := by decide +kernel
theorem dX4_face_5 : decode cX4_face 5 = .ok (.iadd, 1) := by decide +kernel
theorem dX4_face_6 : decode cX4_face 6 = .ok (.iconst 2, 1) := by decide +kernel
theorem dX4_face_7 : decode cX4_face 7 = .ok (.iadd, 1) := by decide +kernel
theorem dX4_face_8 : decode cX4_face 8 = .ok (.istore_n 3, 1) := by decide +kernel
theorem dX4_face_9 : decode cX4_face 9 = .ok (.aload_n 0, 1) := by decide +kernel
theorem dX4_face_10 : decode cX4_face 10 = .ok (.iload_n 3, 1) := by decide +kernel
theorem dX4_face_11 : decode cX4_face 11 = .ok (.iconst 1, 1) := by decide +kernel
theorem dX4_face_12 : decode cX4_face 12 = .ok (.isub, 1) := by decide +kernel
theorem dX4_face_13 : decode cX4_face 13 = .ok (.invokevirtual 89, 3) := by decide +kernel
theorem dX4_face_16 : decode cX4_face 16 = .ok (.aload_n 0, 1) := by decide +kernel
theorem dX4_face_17 : decode cX4_face 17 = .ok (.aload_n 0, 1) := by decide +kernel
theorem dX4_face_18 : decode cX4_face 18 = .ok (.getfield 7, 3) := by decide +kernel
theorem dX4_face_21 : decode cX4_face 21 = .ok (.iload_n 3, 1) := by decide +kernel
theorem dX4_face_22 : decode cX4_face 22 = .ok (.iconst 1, 1) := by decide +kernel
theorem dX4_face_23 : decode cX4_face 23 = .ok (.isub, 1) := by decide +kernel
theorem dX4_face_24 : decode cX4_face 24 = .ok (.daload, 1) := by decide +kernel
theorem dX4_face_25 : decode cX4_face 25 = .ok (.ldc2_w 63, 3) := by decide +kernel
theorem dX4_face_28 : decode cX4_face 28 = .ok (.aload_n 0, 1) := by decide +kernel
theorem dX4_face_29 : decode cX4_face 29 = .ok (.getfield 81, 3) := by decide +kernel
theorem dX4_face_32 : decode cX4_face 32 = .ok (.dmul, 1) := by decide +kernel
theorem dX4_face_33 : decode cX4_face 33 = .ok (.dadd, 1) := by decide +kernel
theorem dX4_face_34 : decode cX4_face 34 = .ok (.putfield 92, 3) := by decide +kernel
theorem dX4_face_37 : decode cX4_face 37 = .ok (.aload_n 0, 1) := by decide +kernel
theorem dX4_face_38 : decode cX4_face 38 = .ok (.aload_n 0, 1) := by decide +kernel
theorem dX4_face_39 : decode cX4_face 39 = .ok (.getfield 13, 3) := by decide +kernel
theorem dX4_face_42 : decode cX4_face 42 = .ok (.iload_n 3, 1) := by decide +kernel
theorem dX4_face_43 : decode cX4_face 43 = .ok (.iconst 1, 1) := by decide +kernel
theorem dX4_face_44 : decode cX4_face 44 = .ok (.isub, 1) := by decide +kernel
theorem dX4_face_45 : decode cX4_face 45 = .ok (.daload, 1) := by decide +kernel
theorem dX4_face_46 : decode cX4_face 46 = .ok (.ldc2_w 63, 3) := by decide +kernel
theorem dX4_face_49 : decode cX4_face 49 = .ok (.aload_n 0, 1) := by decide +kernel
theorem dX4_face_50 : decode cX4_face 50 = .ok (.getfield 84, 3) := by decide +kernel
theorem dX4_face_53 : decode cX4_face 53 = .ok (.dmul, 1) := by decide +kernel
theorem dX4_face_54 : decode cX4_face 54 = .ok (.dadd, 1) := by decide +kernel
theorem dX4_face_55 : decode cX4_face 55 = .ok (.putfield 95, 3) := by decide +kernel
theorem dX4_face_58 : decode cX4_face 58 = .ok (.aload_n 0, 1) := by decide +kernel
theorem dX4_face_59 : decode cX4_face 59 = .ok (.iload_n 3, 1) := by decide +kernel
theorem dX4_face_60 : decode cX4_face 60 = .ok (.invokevirtual 89, 3) := by decide +kernel
theorem dX4_face_63 : decode cX4_face 63 = .ok (.aload_n 0, 1) := by decide +kernel
theorem dX4_face_64 : decode cX4_face 64 = .ok (.aload_n 0, 1) := by decide +kernel
theorem dX4_face_65 : decode cX4_face 65 = .ok (.getfield 7, 3) := by decide +kernel
theorem dX4_face_68 : decode cX4_face 68 = .ok (.iload_n 3, 1) := by decide +kernel
theorem dX4_face_69 : decode cX4_face 69 = .ok (.daload, 1) := by decide +kernel
theorem dX4_face_70 : decode cX4_face 70 = .ok (.ldc2_w 63, 3) := by decide +kernel
theorem dX4_face_73 : decode cX4_face 73 = .ok (.aload_n 0, 1) := by decide +kernel
theorem dX4_face_74 : decode cX4_face 74 = .ok (.getfield 81, 3) := by decide +kernel
theorem dX4_face_77 : decode cX4_face 77 = .ok (.dmul, 1) := by decide +kernel
theorem dX4_face_78 : decode cX4_face 78 = .ok (.dsub, 1) := by decide +kernel
theorem dX4_face_79 : decode cX4_face 79 = .ok (.putfield 98, 3) := by decide +kernel
theorem dX4_face_82 : decode cX4_face 82 = .ok (.aload_n 0, 1) := by decide +kernel
theorem dX4_face_83 : decode cX4_face 83 = .ok (.aload_n 0, 1) := by decide +kernel
theorem dX4_face_84 : decode cX4_face 84 = .ok (.getfield 13, 3) := by decide +kernel
theorem dX4_face_87 : decode cX4_face 87 = .ok (.iload_n 3, 1) := by decide +kernel
theorem dX4_face_88 : decode cX4_face 88 = .ok (.daload, 1) := by decide +kernel
theorem dX4_face_89 : decode cX4_face 89 = .ok (.ldc2_w 63, 3) := by decide +kernel
theorem dX4_face_92 : decode cX4_face 92 = .ok (.aload_n 0, 1) := by decide +kernel
theorem dX4_face_93 : decode cX4_face 93 = .ok (.getfield 84, 3) := by decide +kernel
theorem dX4_face_96 : decode cX4_face 96 = .ok (.dmul, 1) := by decide +kernel
theorem dX4_face_97 : decode cX4_face 97 = .ok (.dsub, 1) := by decide +kernel
theorem dX4_face_98 : decode cX4_face 98 = .ok (.putfield 101, 3) := by decide +kernel
theorem dX4_face_101 : decode cX4_face 101 = .ok (.aload_n 0, 1) := by decide +kernel
theorem dX4_face_102 : decode cX4_face 102 = .ok (.getfield 92, 3) := by decide +kernel
theorem dX4_face_105 : decode cX4_face 105 = .ok (.aload_n 0, 1) := by decide +kernel
theorem dX4_face_106 : decode cX4_face 106 = .ok (.getfield 95, 3) := by decide +kernel
theorem dX4_face_109 : decode cX4_face 109 = .ok (.invokestatic 104, 3) := by decide +kernel
theorem dX4_face_112 : decode cX4_face 112 = .ok (.dstore 4, 2) := by decide +kernel
theorem dX4_face_114 : decode cX4_face 114 = .ok (.aload_n 0, 1) := by decide +kernel
theorem dX4_face_115 : decode cX4_face 115 = .ok (.getfield 98, 3) := by decide +kernel
theorem dX4_face_118 : decode cX4_face 118 = .ok (.aload_n 0, 1) := by decide +kernel
theorem dX4_face_119 : decode cX4_face 119 = .ok (.getfield 101, 3) := by decide +kernel
theorem dX4_face_122 : decode cX4_face 122 = .ok (.invokestatic 104, 3) := by decide +kernel
theorem dX4_face_125 : decode cX4_face 125 = .ok (.dstore 6, 2) := by decide +kernel
theorem dX4_face_127 : decode cX4_face 127 = .ok (.aload_n 0, 1) := by decide +kernel
theorem dX4_face_128 : decode cX4_face 128 = .ok (.getfield 48, 3) := by decide +kernel
theorem dX4_face_131 : decode cX4_face 131 = .ok (.ifCond .ne 77, 3) := by decide +kernel
theorem dX4_face_134 : decode cX4_face 134 = .ok (.aload_n 0, 1) := by decide +kernel
theorem dX4_face_135 : decode cX4_face 135 = .ok (.getfield 92, 3) := by decide +kernel
theorem dX4_face_138 : decode cX4_face 138 = .ok (.aload_n 0, 1) := by decide +kernel
theorem dX4_face_139 : decode cX4_face 139 = .ok (.getfield 95, 3) := by decide +kernel
theorem dX4_face_142 : decode cX4_face 142 = .ok (.invokestatic 107, 3) := by decide +kernel
theorem dX4_face_145 : decode cX4_face 145 = .ok (.aload_n 0, 1) := by decide +kernel
theorem dX4_face_146 : decode cX4_face 146 = .ok (.getfield 98, 3) := by decide +kernel
theorem dX4_face_149 : decode cX4_face 149 = .ok (.aload_n 0, 1) := by decide +kernel
theorem dX4_face_150 : decode cX4_face 150 = .ok (.getfield 101, 3) := by decide +kernel
theorem dX4_face_153 : decode cX4_face 153 = .ok (.invokestatic 107, 3) := by decide +kernel
theorem dX4_face_156 : decode cX4_face 156 = .ok (.invokestatic 110, 3) := by decide +kernel
theorem dX4_face_159 : decode cX4_face 159 = .ok (.dstore 8, 2) := by decide +kernel
theorem dX4_face_161 : decode cX4_face 161 = .ok (.aload_n 0, 1) := by decide +kernel
theorem dX4_face_162 : decode cX4_face 162 = .ok (.aload_n 0, 1) := by decide +kernel
theorem dX4_face_163 : decode cX4_face 163 = .ok (.getfield 95, 3) := by decide +kernel
theorem dX4_face_166 : decode cX4_face 166 = .ok (.aload_n 0, 1) := by decide +kernel
theorem dX4_face_167 : decode cX4_face 167 = .ok (.getfield 101, 3) := by decide +kernel
theorem dX4_face_170 : decode cX4_face 170 = .ok (.dload 8, 2) := by decide +kernel
theorem dX4_face_172 : decode cX4_face 172 = .ok (.aload_n 0, 1) := by decide +kernel
theorem dX4_face_173 : decode cX4_face 173 = .ok (.getfield 92, 3) := by decide +kernel
theorem dX4_face_176 : decode cX4_face 176 = .ok (.aload_n 0, 1) := by decide +kernel
theorem dX4_face_177 : decode cX4_face 177 = .ok (.getfield 98, 3) := by decide +kernel
theorem dX4_face_180 : decode cX4_face 180 = .ok (.invokestatic 113, 3) := by decide +kernel
theorem dX4_face_183 : decode cX4_face 183 = .ok (.putfield 117, 3) := by decide +kernel
theorem dX4_face_186 : decode cX4_face 186 = .ok (.aload_n 0, 1) := by decide +kernel
theorem dX4_face_187 : decode cX4_face 187 = .ok (.dload 4, 2) := by decide +kernel
theorem dX4_face_189 : decode cX4_face 189 = .ok (.dload 6, 2) := by decide +kernel
theorem dX4_face_191 : decode cX4_face 191 = .ok (.dload 8, 2) := by decide +kernel
theorem dX4_face_193 : decode cX4_face 193 = .ok (.aload_n 0, 1) := by decide +kernel
theorem dX4_face_194 : decode cX4_face 194 = .ok (.getfield 95, 3) := by decide +kernel
theorem dX4_face_197 : decode cX4_face 197 = .ok (.aload_n 0, 1) := by decide +kernel
theorem dX4_face_198 : decode cX4_face 198 = .ok (.getfield 101, 3) := by decide +kernel
theorem dX4_face_201 : decode cX4_face 201 = .ok (.invokestatic 113, 3) := by decide +kernel
theorem dX4_face_204 : decode cX4_face 204 = .ok (.putfield 120, 3) := by decide +kernel
theorem dX4_face_207 : decode cX4_face 207 = .ok (.return_, 1) := by decide +kernel
theorem dX4_face_208 : decode cX4_face 208 = .ok (.aload_n 0, 1) := by decide +kernel
theorem dX4_face_209 : decode cX4_face 209 = .ok (.getfield 95, 3) := by decide +kernel
theorem dX4_face_212 : decode cX4_face 212 = .ok (.aload_n 0, 1) := by decide +kernel
theorem dX4_face_213 : decode cX4_face 213 = .ok (.getfield 92, 3) := by decide +kernel
theorem dX4_face_216 : decode cX4_face 216 = .ok (.ddiv, 1) := by decide +kernel
theorem dX4_face_217 : decode cX4_face 217 = .ok (.dstore 8, 2) := by decide +kernel
theorem dX4_face_219 : decode cX4_face 219 = .ok (.aload_n 0, 1) := by decide +kernel
theorem dX4_face_220 : decode cX4_face 220 = .ok (.getfield 101, 3) := by decide +kernel
theorem dX4_face_223 : decode cX4_face 223 = .ok (.aload_n 0, 1) := by decide +kernel
theorem dX4_face_224 : decode cX4_face 224 = .ok (.getfield 98, 3) := by decide +kernel
theorem dX4_face_227 : decode cX4_face 227 = .ok (.ddiv, 1) := by decide +kernel
theorem dX4_face_228 : decode cX4_face 228 = .ok (.dstore 10, 2) := by decide +kernel
theorem dX4_face_230 : decode cX4_face 230 = .ok (.aload_n 0, 1) := by decide +kernel
theorem dX4_face_231 : decode cX4_face 231 = .ok (.getfield 92, 3) := by decide +kernel
theorem dX4_face_234 : decode cX4_face 234 = .ok (.invokestatic 69, 3) := by decide +kernel
theorem dX4_face_237 : decode cX4_face 237 = .ok (.dstore 12, 2) := by decide +kernel
theorem dX4_face_239 : decode cX4_face 239 = .ok (.aload_n 0, 1) := by decide +kernel
theorem dX4_face_240 : decode cX4_face 240 = .ok (.getfield 98, 3) := by decide +kernel
theorem dX4_face_243 : decode cX4_face 243 = .ok (.invokestatic 69, 3) := by decide +kernel
theorem dX4_face_246 : decode cX4_face 246 = .ok (.dstore 14, 2) := by decide +kernel
theorem dX4_face_248 : decode cX4_face 248 = .ok (.dload 8, 2) := by decide +kernel
theorem dX4_face_250 : decode cX4_face 250 = .ok (.dload 12, 2) := by decide +kernel
theorem dX4_face_252 : decode cX4_face 252 = .ok (.dsub, 1) := by decide +kernel
theorem dX4_face_253 : decode cX4_face 253 = .ok (.dload 10, 2) := by decide +kernel
theorem dX4_face_255 : decode cX4_face 255 = .ok (.dload 14, 2) := by decide +kernel
theorem dX4_face_257 : decode cX4_face 257 = .ok (.dsub, 1) := by decide +kernel
theorem dX4_face_258 : decode cX4_face 258 = .ok (.invokestatic 123, 3) := by decide +kernel
theorem dX4_face_261 : decode cX4_face 261 = .ok (.dstore 16, 2) := by decide +kernel
theorem dX4_face_263 : decode cX4_face 263 = .ok (.dload 8, 2) := by decide +kernel
theorem dX4_face_265 : decode cX4_face 265 = .ok (.dload 12, 2) := by decide +kernel
theorem dX4_face_267 : decode cX4_face 267 = .ok (.dadd, 1) := by decide +kernel
theorem dX4_face_268 : decode cX4_face 268 = .ok (.dload 10, 2) := by decide +kernel
theorem dX4_face_270 : decode cX4_face 270 = .ok (.dload 14, 2) := by decide +kernel
theorem dX4_face_272 : decode cX4_face 272 = .ok (.dadd, 1) := by decide +kernel
theorem dX4_face_273 : decode cX4_face 273 = .ok (.invokestatic 110, 3) := by decide +kernel
theorem dX4_face_276 : decode cX4_face 276 = .ok (.dstore 18, 2) := by decide +kernel
theorem dX4_face_278 : decode cX4_face 278 = .ok (.aload_n 0, 1) := by decide +kernel
theorem dX4_face_279 : decode cX4_face 279 = .ok (.aload_n 0, 1) := by decide +kernel
theorem dX4_face_280 : decode cX4_face 280 = .ok (.getfield 95, 3) := by decide +kernel
theorem dX4_face_283 : decode cX4_face 283 = .ok (.aload_n 0, 1) := by decide +kernel
theorem dX4_face_284 : decode cX4_face 284 = .ok (.getfield 101, 3) := by decide +kernel
theorem dX4_face_287 : decode cX4_face 287 = .ok (.dload 16, 2) := by decide +kernel
theorem dX4_face_289 : decode cX4_face 289 = .ok (.dload 18, 2) := by decide +kernel
theorem dX4_face_291 : decode cX4_face 291 = .ok (.aload_n 0, 1) := by decide +kernel
theorem dX4_face_292 : decode cX4_face 292 = .ok (.getfield 92, 3) := by decide +kernel
theorem dX4_face_295 : decode cX4_face 295 = .ok (.aload_n 0, 1) := by decide +kernel
theorem dX4_face_296 : decode cX4_face 296 = .ok (.getfield 98, 3) := by decide +kernel
theorem dX4_face_299 : decode cX4_face 299 = .ok (.invokestatic 126, 3) := by decide +kernel
theorem dX4_face_302 : decode cX4_face 302 = .ok (.putfield 117, 3) := by decide +kernel
theorem dX4_face_305 : decode cX4_face 305 = .ok (.aload_n 0, 1) := by decide +kernel
theorem dX4_face_306 : decode cX4_face 306 = .ok (.dload 4, 2) := by decide +kernel
theorem dX4_face_308 : decode cX4_face 308 = .ok (.dload 6, 2) := by decide +kernel
theorem dX4_face_310 : decode cX4_face 310 = .ok (.dload 16, 2) := by decide +kernel
theorem dX4_face_312 : decode cX4_face 312 = .ok (.dload 18, 2) := by decide +kernel
theorem dX4_face_314 : decode cX4_face 314 = .ok (.aload_n 0, 1) := by decide +kernel
theorem dX4_face_315 : decode cX4_face 315 = .ok (.getfield 95, 3) := by decide +kernel
theorem dX4_face_318 : decode cX4_face 318 = .ok (.aload_n 0, 1) := by decide +kernel
theorem dX4_face_319 : decode cX4_face 319 = .ok (.getfield 101, 3) := by decide +kernel
theorem dX4_face_322 : decode cX4_face 322 = .ok (.invokestatic 126, 3) := by decide +kernel
theorem dX4_face_325 : decode cX4_face 325 = .ok (.putfield 120, 3) := by decide +kernel
theorem dX4_face_328 : decode cX4_face 328 = .ok (.return_, 1) := by decide +kernel
set_option maxRecDepth 20000 in
theorem ggX4_stage_X4_close : GoodIn wsX4_stage wsX4_close := goodIn_r _ [13, 1, 14, 4, 5, 64, 65, 66, 67, 68, 69, 70, 71, 72, 73, 74, 75, 76, 77, 78, 79, 80, 81, 82, 83] (by decide +kernel) (by decide +kernel)
set_option maxRecDepth 20000 in
theorem gX4_stage_X4_close : GoodIn wsX4_stage (wsV RX4 130 RX4 yX4_close wsX4_close) := goodIn_app (goodIn_of _ (by decide +kernel)) ggX4_stage_X4_close
set_option maxRecDepth 20000 in
theorem ggX4_stage_X4_face : GoodIn wsX4_stage wsX4_face := goodIn_r _ [18, 4, 19, 20, 21, 5, 22, 23, 24, 25, 26, 2, 3, 27, 28, 29, 12, 30, 6, 31, 32, 33, 34, 35, 36, 37, 38, 39, 40, 41, 42, 43, 44, 45, 46, 47, 48, 49, 50, 51, 52, 53, 54, 55, 56, 57, 58, 59, 60, 61, 62, 63, 64, 65, 66, 67, 68, 69, 70, 71, 72, 73, 74, 75, 76, 77, 78, 79, 80, 81, 82, 83] (by decide +kernel) (by decide +kernel)
set_option maxRecDepth 20000 in
theorem gX4_stage_X4_face : GoodIn wsX4_stage (wsV RX4 133 RX4 yX4_face wsX4_face) := goodIn_app (goodIn_of _ (by decide +kernel)) ggX4_stage_X4_face
theorem dX4_stage_0 : decode cX4_stage 0 = .ok (.aload_n 0, 1) := by decide +kernel
theorem dX4_stage_1 : decode cX4_stage 1 = .ok (.iload_n 1, 1) := by decide +kernel
theorem dX4_stage_2 : decode cX4_stage 2 = .ok (.invokevirtual 130, 3) := by decide +kernel
theorem dX4_stage_5 : decode cX4_stage 5 = .ok (.aload_n 0, 1) := by decide +kernel
theorem dX4_stage_6 : decode cX4_stage 6 = .ok (.iload_n 1, 1) := by decide +kernel
theorem dX4_stage_7 : decode cX4_stage 7 = .ok (.iconst 0, 1) := by decide +kernel
theorem dX4_stage_8 : decode cX4_stage 8 = .ok (.invokevirtual 133, 3) := by decide +kernel
theorem dX4_stage_11 : decode cX4_stage 11 = .ok (.iconst 1, 1) := by decide +kernel
theorem dX4_stage_12 : decode cX4_stage 12 = .ok (.istore 5, 2) := by decide +kernel
theorem dX4_stage_14 : decode cX4_stage 14 = .ok (.iconst 0, 1) := by decide +kernel
theorem dX4_stage_15 : decode cX4_stage 15 = .ok (.istore 6, 2) := by decide +kernel
theorem dX4_stage_17 : decode cX4_stage 17 = .ok (.iload 6, 2) := by decide +kernel
theorem dX4_stage_19 : decode cX4_stage 19 = .ok (.aload_n 0, 1) := by decide +kernel
theorem dX4_stage_20 : decode cX4_stage 20 = .ok (.getfield 30, 3) := by decide +kernel
theorem dX4_stage_23 : decode cX4_stage 23 = .ok (.if_icmp .ge 154, 3) := by decide +kernel
theorem dX4_stage_26 : decode cX4_stage 26 = .ok (.aload_n 0, 1) := by decide +kernel
theorem dX4_stage_27 : decode cX4_stage 27 = .ok (.getfield 117, 3) := by decide +kernel
theorem dX4_stage_30 : decode cX4_stage 30 = .ok (.dstore 7, 2) := by decide +kernel
theorem dX4_stage_32 : decode cX4_stage 32 = .ok (.aload_n 0, 1) := by decide +kernel
theorem dX4_stage_33 : decode cX4_stage 33 = .ok (.getfield 120, 3) := by decide +kernel
theorem dX4_stage_36 : decode cX4_stage 36 = .ok (.dstore 9, 2) := by decide +kernel
theorem dX4_stage_38 : decode cX4_stage 38 = .ok (.aload_n 0, 1) := by decide +kernel
theorem dX4_stage_39 : decode cX4_stage 39 = .ok (.iload_n 1, 1) := by decide +kernel
theorem dX4_stage_40 : decode cX4_stage 40 = .ok (.iload 6, 2) := by decide +kernel
theorem dX4_stage_42 : decode cX4_stage 42 = .ok (.iconst 1, 1) := by decide +kernel
theorem dX4_stage_43 : decode cX4_stage 43 = .ok (.iadd, 1) := by decide +kernel
theorem dX4_stage_44 : decode cX4_stage 44 = .ok (.invokevirtual 133, 3) := by decide +kernel
theorem dX4_stage_47 : decode cX4_stage 47 = .ok (.bipush 28, 2) := by decide +kernel
theorem dX4_stage_49 : decode cX4_stage 49 = .ok (.iload_n 1, 1) := by decide +kernel
theorem dX4_stage_50 : decode cX4_stage 50 = .ok (.imul, 1) := by decide +kernel
theorem dX4_stage_51 : decode cX4_stage 51 = .ok (.iload 6, 2) := by decide +kernel
theorem dX4_stage_53 : decode cX4_stage 53 = .ok (.iadd, 1) := by decide +kernel
theorem dX4_stage_54 : decode cX4_stage 54 = .ok (.iconst 2, 1) := by decide +kernel
theorem dX4_stage_55 : decode cX4_stage 55 = .ok (.iadd, 1) := by decide +kernel
theorem dX4_stage_56 : decode cX4_stage 56 = .ok (.istore 11, 2) := by decide +kernel
theorem dX4_stage_58 : decode cX4_stage 58 = .ok (.bipush 28, 2) := by decide +kernel
theorem dX4_stage_60 : decode cX4_stage 60 = .ok (.iload_n 2, 1) := by decide +kernel
theorem dX4_stage_61 : decode cX4_stage 61 = .ok (.imul, 1) := by decide +kernel
theorem dX4_stage_62 : decode cX4_stage 62 = .ok (.iload 6, 2) := by decide +kernel
theorem dX4_stage_64 : decode cX4_stage 64 = .ok (.iadd, 1) := by decide +kernel
theorem dX4_stage_65 : decode cX4_stage 65 = .ok (.iconst 2, 1) := by decide +kernel
theorem dX4_stage_66 : decode cX4_stage 66 = .ok (.iadd, 1) := by decide +kernel
theorem dX4_stage_67 : decode cX4_stage 67 = .ok (.istore 12, 2) := by decide +kernel
theorem dX4_stage_69 : decode cX4_stage 69 = .ok (.aload_n 0, 1) := by decide +kernel
theorem dX4_stage_70 : decode cX4_stage 70 = .ok (.getfield 7, 3) := by decide +kernel
theorem dX4_stage_73 : decode cX4_stage 73 = .ok (.iload 12, 2) := by decide +kernel
theorem dX4_stage_75 : decode cX4_stage 75 = .ok (.aload_n 0, 1) := by decide +kernel
theorem dX4_stage_76 : decode cX4_stage 76 = .ok (.getfield 7, 3) := by decide +kernel
theorem dX4_stage_79 : decode cX4_stage 79 = .ok (.iload 11, 2) := by decide +kernel
theorem dX4_stage_81 : decode cX4_stage 81 = .ok (.daload, 1) := by decide +kernel
theorem dX4_stage_82 : decode cX4_stage 82 = .ok (.dload_n 3, 1) := by decide +kernel
theorem dX4_stage_83 : decode cX4_stage 83 = .ok (.aload_n 0, 1) := by decide +kernel
theorem dX4_stage_84 : decode cX4_stage 84 = .ok (.getfield 117, 3) := by decide +kernel
theorem dX4_stage_87 : decode cX4_stage 87 = .ok (.dload 7, 2) := by decide +kernel
theorem dX4_stage_89 : decode cX4_stage 89 = .ok (.dsub, 1) := by decide +kernel
theorem dX4_stage_90 : decode cX4_stage 90 = .ok (.dmul, 1) := by decide +kernel
theorem dX4_stage_91 : decode cX4_stage 91 = .ok (.dsub, 1) := by decide +kernel
theorem dX4_stage_92 : decode cX4_stage 92 = .ok (.dastore, 1) := by decide +kernel
theorem dX4_stage_93 : decode cX4_stage 93 = .ok (.aload_n 0, 1) := by decide +kernel
theorem dX4_stage_94 : decode cX4_stage 94 = .ok (.getfield 13, 3) := by decide +kernel
theorem dX4_stage_97 : decode cX4_stage 97 = .ok (.iload 12, 2) := by decide +kernel
theorem dX4_stage_99 : decode cX4_stage 99 = .ok (.aload_n 0, 1) := by decide +kernel
theorem dX4_stage_100 : decode cX4_stage 100 = .ok (.getfield 13, 3) := by decide +kernel
theorem dX4_stage_103 : decode cX4_stage 103 = .ok (.iload 11, 2) := by decide +kernel
theorem dX4_stage_105 : decode cX4_stage 105 = .ok (.daload, 1) := by decide +kernel
theorem dX4_stage_106 : decode cX4_stage 106 = .ok (.dload_n 3, 1) := by decide +kernel
theorem dX4_stage_107 : decode cX4_stage 107 = .ok (.aload_n 0, 1) := by decide +kernel
theorem dX4_stage_108 : decode cX4_stage 108 = .ok (.getfield 120, 3) := by decide +kernel
theorem dX4_stage_111 : decode cX4_stage 111 = .ok (.dload 9, 2) := by decide +kernel
theorem dX4_stage_113 : decode cX4_stage 113 = .ok (.dsub, 1) := by decide +kernel
theorem dX4_stage_114 : decode cX4_stage 114 = .ok (.dmul, 1) := by decide +kernel
theorem dX4_stage_115 : decode cX4_stage 115 = .ok (.dsub, 1) := by decide +kernel
theorem dX4_stage_116 : decode cX4_stage 116 = .ok (.dastore, 1) := by decide +kernel
theorem dX4_stage_117 : decode cX4_stage 117 = .ok (.iload 5, 2) := by decide +kernel
theorem dX4_stage_119 : decode cX4_stage 119 = .ok (.ifCond .eq 49, 3) := by decide +kernel
theorem dX4_stage_122 : decode cX4_stage 122 = .ok (.aload_n 0, 1) := by decide +kernel
theorem dX4_stage_123 : decode cX4_stage 123 = .ok (.getfield 7, 3) := by decide +kernel
theorem dX4_stage_126 : decode cX4_stage 126 = .ok (.iload 12, 2) := by decide +kernel
theorem dX4_stage_128 : decode cX4_stage 128 = .ok (.daload, 1) := by decide +kernel
theorem dX4_stage_129 : decode cX4_stage 129 = .ok (.ldc2_w 87, 3) := by decide +kernel
theorem dX4_stage_132 : decode cX4_stage 132 = .ok (.dcmp .g, 1) := by decide +kernel
theorem dX4_stage_133 : decode cX4_stage 133 = .ok (.ifCond .lt 35, 3) := by decide +kernel
theorem dX4_stage_136 : decode cX4_stage 136 = .ok (.aload_n 0, 1) := by decide +kernel
theorem dX4_stage_137 : decode cX4_stage 137 = .ok (.getfield 13, 3) := by decide +kernel
theorem dX4_stage_140 : decode cX4_stage 140 = .ok (.iload 12, 2) := by decide +kernel
theorem dX4_stage_142 : decode cX4_stage 142 = .ok (.daload, 1) := by decide +kernel
theorem dX4_stage_143 : decode cX4_stage 143 = .ok (.ldc2_w 137, 3) := by decide +kernel
theorem dX4_stage_146 : decode cX4_stage 146 = .ok (.dcmp .l, 1) := by decide +kernel
theorem dX4_stage_147 : decode cX4_stage 147 = .ok (.ifCond .gt 21, 3) := by decide +kernel
theorem dX4_stage_150 : decode cX4_stage 150 = .ok (.aload_n 0, 1) := by decide +kernel
theorem dX4_stage_151 : decode cX4_stage 151 = .ok (.getfield 13, 3) := by decide +kernel
theorem dX4_stage_154 : decode cX4_stage 154 = .ok (.iload 12, 2) := by decide +kernel
theorem dX4_stage_156 : decode cX4_stage 156 = .ok (.daload, 1) := by decide +kernel
theorem dX4_stage_157 : decode cX4_stage 157 = .ok (.ldc2_w 139, 3) := by decide +kernel
theorem dX4_stage_160 : decode cX4_stage 160 = .ok (.dcmp .g, 1) := by decide +kernel
theorem dX4_stage_161 : decode cX4_stage 161 = .ok (.ifCond .lt 7, 3) := by decide +kernel
theorem dX4_stage_164 : decode cX4_stage 164 = .ok (.iconst 1, 1) := by decide +kernel
theorem dX4_stage_165 : decode cX4_stage 165 = .ok (.goto 4, 3) := by decide +kernel
theorem dX4_stage_168 : decode cX4_stage 168 = .ok (.iconst 0, 1) := by decide +kernel
theorem dX4_stage_169 : decode cX4_stage 169 = .ok (.istore 5, 2) := by decide +kernel
theorem dX4_stage_171 : decode cX4_stage 171 = .ok (.iinc 6 1, 3) := by decide +kernel
theorem dX4_stage_174 : decode cX4_stage 174 = .ok (.goto (-157), 3) := by decide +kernel
theorem dX4_stage_177 : decode cX4_stage 177 = .ok (.iload 5, 2) := by decide +kernel
theorem dX4_stage_179 : decode cX4_stage 179 = .ok (.ireturn, 1) := by decide +kernel
set_option maxRecDepth 20000 in
theorem ggX4_tried_X4_stage : GoodIn wsX4_tried wsX4_stage := goodIn_r _ [10, 2, 11, 12, 3, 5, 13, 14, 15, 16, 17, 18, 9, 19, 20, 21, 22, 23, 24, 4, 25, 26, 27, 28, 29, 30, 31, 32, 33, 34, 35, 36, 37, 38, 39, 40, 41, 42, 43, 44, 45, 46, 47, 48, 49, 50, 51, 52, 53, 54, 55, 56, 57, 58, 59, 60, 61, 62, 63, 64, 65, 66, 67, 68, 69, 70, 71, 72, 73, 74, 75, 76, 77, 78, 79, 80, 81, 82, 83, 84, 85, 86, 87, 88] (by decide +kernel) (by decide +kernel)
set_option maxRecDepth 20000 in
theorem gX4_tried_X4_stage : GoodIn wsX4_tried (wsV RX4 141 RX4 yX4_stage wsX4_stage) := goodIn_app (goodIn_of _ (by decide +kernel)) ggX4_tried_X4_stage
theorem dX4_tried_0 : decode cX4_tried 0 = .ok (.aload_n 0, 1) := by decide +kernel
theorem dX4_tried_1 : decode cX4_tried 1 = .ok (.iconst 0, 1) := by decide +kernel
theorem dX4_tried_2 : decode cX4_tried 2 = .ok (.iconst 1, 1) := by decide +kernel
theorem dX4_tried_3 : decode cX4_tried 3 = .ok (.dload_n 1, 1) := by decide +kernel
theorem dX4_tried_4 : decode cX4_tried 4 = .ok (.invokevirtual 141, 3) := by decide +kernel
theorem dX4_tried_7 : decode cX4_tried 7 = .ok (.ifCond .ne 5, 3) := by decide +kernel
theorem dX4_tried_10 : decode cX4_tried 10 = .ok (.iconst 0, 1) := by decide +kernel
theorem dX4_tried_11 : decode cX4_tried 11 = .ok (.ireturn, 1) := by decide +kernel
theorem dX4_tried_12 : decode cX4_tried 12 = .ok (.aload_n 0, 1) := by decide +kernel
theorem dX4_tried_13 : decode cX4_tried 13 = .ok (.getfield 24, 3) := by decide +kernel
theorem dX4_tried_16 : decode cX4_tried 16 = .ok (.iconst 2, 1) := by decide +kernel
theorem dX4_tried_17 : decode cX4_tried 17 = .ok (.if_icmp .ne 15, 3) := by decide +kernel
theorem dX4_tried_20 : decode cX4_tried 20 = .ok (.aload_n 0, 1) := by decide +kernel
theorem dX4_tried_21 : decode cX4_tried 21 = .ok (.iconst 1, 1) := by decide +kernel
theorem dX4_tried_22 : decode cX4_tried 22 = .ok (.iconst 2, 1) := by decide +kernel
theorem dX4_tried_23 : decode cX4_tried 23 = .ok (.dload_n 1, 1) := by decide +kernel
theorem dX4_tried_24 : decode cX4_tried 24 = .ok (.invokevirtual 141, 3) := by decide +kernel
theorem dX4_tried_27 : decode cX4_tried 27 = .ok (.ifCond .ne 5, 3) := by decide +kernel
theorem dX4_tried_30 : decode cX4_tried 30 = .ok (.iconst 0, 1) := by decide +kernel
theorem dX4_tried_31 : decode cX4_tried 31 = .ok (.ireturn, 1) := by decide +kernel
theorem dX4_tried_32 : decode cX4_tried 32 = .ok (.iconst 2, 1) := by decide +kernel
theorem dX4_tried_33 : decode cX4_tried 33 = .ok (.istore_n 3, 1) := by decide +kernel
theorem dX4_tried_34 : decode cX4_tried 34 = .ok (.iload_n 3, 1) := by decide +kernel
theorem dX4_tried_35 : decode cX4_tried 35 = .ok (.aload_n 0, 1) := by decide +kernel
theorem dX4_tried_36 : decode cX4_tried 36 = .ok (.getfield 30, 3) := by decide +kernel
theorem dX4_tried_39 : decode cX4_tried 39 = .ok (.iconst 2, 1) := by decide +kernel
theorem dX4_tried_40 : decode cX4_tried 40 = .ok (.iadd, 1) := by decide +kernel
theorem dX4_tried_41 : decode cX4_tried 41 = .ok (.if_icmp .ge 101, 3) := by decide +kernel
theorem dX4_tried_44 : decode cX4_tried 44 = .ok (.aload_n 0, 1) := by decide +kernel
theorem dX4_tried_45 : decode cX4_tried 45 = .ok (.getfield 7, 3) := by decide +kernel
theorem dX4_tried_48 : decode cX4_tried 48 = .ok (.iload_n 3, 1) := by decide +kernel
theorem dX4_tried_49 : decode cX4_tried 49 = .ok (.aload_n 0, 1) := by decide +kernel
theorem dX4_tried_50 : decode cX4_tried 50 = .ok (.getfield 24, 3) := by decide +kernel
theorem dX4_tried_53 : decode cX4_tried 53 = .ok (.iconst 1, 1) := by decide +kernel
theorem dX4_tried_54 : decode cX4_tried 54 = .ok (.if_icmp .ne 15, 3) := by decide +kernel
theorem dX4_tried_57 : decode cX4_tried 57 = .ok (.aload_n 0, 1) := by decide +kernel
theorem dX4_tried_58 : decode cX4_tried 58 = .ok (.getfield 7, 3) := by decide +kernel
theorem dX4_tried_61 : decode cX4_tried 61 = .ok (.bipush 28, 2) := by decide +kernel
theorem dX4_tried_63 : decode cX4_tried 63 = .ok (.iload_n 3, 1) := by decide +kernel
theorem dX4_tried_64 : decode cX4_tried 64 = .ok (.iadd, 1) := by decide +kernel
theorem dX4_tried_65 : decode cX4_tried 65 = .ok (.daload, 1) := by decide +kernel
theorem dX4_tried_66 : decode cX4_tried 66 = .ok (.goto 23, 3) := by decide +kernel
theorem dX4_tried_69 : decode cX4_tried 69 = .ok (.ldc2_w 63, 3) := by decide +kernel
theorem dX4_tried_72 : decode cX4_tried 72 = .ok (.aload_n 0, 1) := by decide +kernel
theorem dX4_tried_73 : decode cX4_tried 73 = .ok (.getfield 7, 3) := by decide +kernel
theorem dX4_tried_76 : decode cX4_tried 76 = .ok (.iload_n 3, 1) := by decide +kernel
theorem dX4_tried_77 : decode cX4_tried 77 = .ok (.daload, 1) := by decide +kernel
theorem dX4_tried_78 : decode cX4_tried 78 = .ok (.aload_n 0, 1) := by decide +kernel
theorem dX4_tried_79 : decode cX4_tried 79 = .ok (.getfield 7, 3) := by decide +kernel
theorem dX4_tried_82 : decode cX4_tried 82 = .ok (.bipush 56, 2) := by decide +kernel
theorem dX4_tried_84 : decode cX4_tried 84 = .ok (.iload_n 3, 1) := by decide +kernel
theorem dX4_tried_85 : decode cX4_tried 85 = .ok (.iadd, 1) := by decide +kernel
theorem dX4_tried_86 : decode cX4_tried 86 = .ok (.daload, 1) := by decide +kernel
theorem dX4_tried_87 : decode cX4_tried 87 = .ok (.dadd, 1) := by decide +kernel
theorem dX4_tried_88 : decode cX4_tried 88 = .ok (.dmul, 1) := by decide +kernel
theorem dX4_tried_89 : decode cX4_tried 89 = .ok (.dastore, 1) := by decide +kernel
theorem dX4_tried_90 : decode cX4_tried 90 = .ok (.aload_n 0, 1) := by decide +kernel
theorem dX4_tried_91 : decode cX4_tried 91 = .ok (.getfield 13, 3) := by decide +kernel
theorem dX4_tried_94 : decode cX4_tried 94 = .ok (.iload_n 3, 1) := by decide +kernel
theorem dX4_tried_95 : decode cX4_tried 95 = .ok (.aload_n 0, 1) := by decide +kernel
theorem dX4_tried_96 : decode cX4_tried 96 = .ok (.getfield 24, 3) := by decide +kernel
theorem dX4_tried_99 : decode cX4_tried 99 = .ok (.iconst 1, 1) := by decide +kernel
theorem dX4_tried_100 : decode cX4_tried 100 = .ok (.if_icmp .ne 15, 3) := by decide +kernel
theorem dX4_tried_103 : decode cX4_tried 103 = .ok (.aload_n 0, 1) := by decide +kernel
theorem dX4_tried_104 : decode cX4_tried 104 = .ok (.getfield 13, 3) := by decide +kernel
theorem dX4_tried_107 : decode cX4_tried 107 = .ok (.bipush 28, 2) := by decide +kernel
theorem dX4_tried_109 : decode cX4_tried 109 = .ok (.iload_n 3, 1) := by decide +kernel
theorem dX4_tried_110 : decode cX4_tried 110 = .ok (.iadd, 1) := by decide +kernel
theorem dX4_tried_111 : decode cX4_tried 111 = .ok (.daload, 1) := by decide +kernel
theorem dX4_tried_112 : decode cX4_tried 112 = .ok (.goto 23, 3) := by decide +kernel
theorem dX4_tried_115 : decode cX4_tried 115 = .ok (.ldc2_w 63, 3) := by decide +kernel
theorem dX4_tried_118 : decode cX4_tried 118 = .ok (.aload_n 0, 1) := by decide +kernel
theorem dX4_tried_119 : decode cX4_tried 119 = .ok (.getfield 13, 3) := by decide +kernel
theorem dX4_tried_122 : decode cX4_tried 122 = .ok (.iload_n 3, 1) := by decide +kernel
theorem dX4_tried_123 : decode cX4_tried 123 = .ok (.daload, 1) := by decide +kernel
theorem dX4_tried_124 : decode cX4_tried 124 = .ok (.aload_n 0, 1) := by decide +kernel
theorem dX4_tried_125 : decode cX4_tried 125 = .ok (.getfield 13, 3) := by decide +kernel
theorem dX4_tried_128 : decode cX4_tried 128 = .ok (.bipush 56, 2) := by decide +kernel
theorem dX4_tried_130 : decode cX4_tried 130 = .ok (.iload_n 3, 1) := by decide +kernel
theorem dX4_tried_131 : decode cX4_tried 131 = .ok (.iadd, 1) := by decide +kernel
theorem dX4_tried_132 : decode cX4_tried 132 = .ok (.daload, 1) := by decide +kernel
theorem dX4_tried_133 : decode cX4_tried 133 = .ok (.dadd, 1) := by decide +kernel
theorem dX4_tried_134 : decode cX4_tried 134 = .ok (.dmul, 1) := by decide +kernel
theorem dX4_tried_135 : decode cX4_tried 135 = .ok (.dastore, 1) := by decide +kernel
theorem dX4_tried_136 : decode cX4_tried 136 = .ok (.iinc 3 1, 3) := by decide +kernel
theorem dX4_tried_139 : decode cX4_tried 139 = .ok (.goto (-105), 3) := by decide +kernel
theorem dX4_tried_142 : decode cX4_tried 142 = .ok (.iconst 1, 1) := by decide +kernel
theorem dX4_tried_143 : decode cX4_tried 143 = .ok (.ireturn, 1) := by decide +kernel
set_option maxRecDepth 20000 in
theorem ggX4_bounded_X4_speed : GoodIn wsX4_bounded wsX4_speed := goodIn_r _ [8, 9, 10, 7, 11, 12, 13, 14, 15] (by decide +kernel) (by decide +kernel)
set_option maxRecDepth 20000 in
theorem gX4_bounded_X4_speed : GoodIn wsX4_bounded (va_wsS RX4 107 yX4_speed wsX4_speed) := goodIn_app (goodIn_of _ (by decide +kernel)) ggX4_bounded_X4_speed
set_option maxRecDepth 20000 in
theorem ggX4_bounded_X4_greater : GoodIn wsX4_bounded wsX4_greater := goodIn_r _ [18] (by decide +kernel) (by decide +kernel)
set_option maxRecDepth 20000 in
theorem gX4_bounded_X4_greater : GoodIn wsX4_bounded (va_wsS RX4 110 yX4_greater wsX4_greater) := goodIn_app (goodIn_of _ (by decide +kernel)) ggX4_bounded_X4_greater
theorem dX4_bounded_0 : decode cX4_bounded 0 = .ok (.dconst 0, 1) := by decide +kernel
theorem dX4_bounded_1 : decode cX4_bounded 1 = .ok (.dstore_n 3, 1) := by decide +kernel
theorem dX4_bounded_2 : decode cX4_bounded 2 = .ok (.iconst 2, 1) := by decide +kernel
theorem dX4_bounded_3 : decode cX4_bounded 3 = .ok (.istore 5, 2) := by decide +kernel
theorem dX4_bounded_5 : decode cX4_bounded 5 = .ok (.iload 5, 2) := by decide +kernel
theorem dX4_bounded_7 : decode cX4_bounded 7 = .ok (.aload_n 0, 1) := by decide +kernel
theorem dX4_bounded_8 : decode cX4_bounded 8 = .ok (.getfield 30, 3) := by decide +kernel
theorem dX4_bounded_11 : decode cX4_bounded 11 = .ok (.iconst 2, 1) := by decide +kernel
theorem dX4_bounded_12 : decode cX4_bounded 12 = .ok (.iadd, 1) := by decide +kernel
theorem dX4_bounded_13 : decode cX4_bounded 13 = .ok (.if_icmp .ge 31, 3) := by decide +kernel
theorem dX4_bounded_16 : decode cX4_bounded 16 = .ok (.dload_n 3, 1) := by decide +kernel
theorem dX4_bounded_17 : decode cX4_bounded 17 = .ok (.aload_n 0, 1) := by decide +kernel
theorem dX4_bounded_18 : decode cX4_bounded 18 = .ok (.getfield 7, 3) := by decide +kernel
theorem dX4_bounded_21 : decode cX4_bounded 21 = .ok (.iload 5, 2) := by decide +kernel
theorem dX4_bounded_23 : decode cX4_bounded 23 = .ok (.daload, 1) := by decide +kernel
theorem dX4_bounded_24 : decode cX4_bounded 24 = .ok (.aload_n 0, 1) := by decide +kernel
theorem dX4_bounded_25 : decode cX4_bounded 25 = .ok (.getfield 13, 3) := by decide +kernel
theorem dX4_bounded_28 : decode cX4_bounded 28 = .ok (.iload 5, 2) := by decide +kernel
theorem dX4_bounded_30 : decode cX4_bounded 30 = .ok (.daload, 1) := by decide +kernel
theorem dX4_bounded_31 : decode cX4_bounded 31 = .ok (.invokestatic 107, 3) := by decide +kernel
theorem dX4_bounded_34 : decode cX4_bounded 34 = .ok (.invokestatic 110, 3) := by decide +kernel
theorem dX4_bounded_37 : decode cX4_bounded 37 = .ok (.dstore_n 3, 1) := by decide +kernel
theorem dX4_bounded_38 : decode cX4_bounded 38 = .ok (.iinc 5 1, 3) := by decide +kernel
theorem dX4_bounded_41 : decode cX4_bounded 41 = .ok (.goto (-36), 3) := by decide +kernel
theorem dX4_bounded_44 : decode cX4_bounded 44 = .ok (.ldc2_w 145, 3) := by decide +kernel
theorem dX4_bounded_47 : decode cX4_bounded 47 = .ok (.dload_n 3, 1) := by decide +kernel
theorem dX4_bounded_48 : decode cX4_bounded 48 = .ok (.ddiv, 1) := by decide +kernel
theorem dX4_bounded_49 : decode cX4_bounded 49 = .ok (.dstore 5, 2) := by decide +kernel
theorem dX4_bounded_51 : decode cX4_bounded 51 = .ok (.dload 5, 2) := by decide +kernel
theorem dX4_bounded_53 : decode cX4_bounded 53 = .ok (.dload_n 1, 1) := by decide +kernel
theorem dX4_bounded_54 : decode cX4_bounded 54 = .ok (.dcmp .g, 1) := by decide +kernel
theorem dX4_bounded_55 : decode cX4_bounded 55 = .ok (.ifCond .ge 8, 3) := by decide +kernel
theorem dX4_bounded_58 : decode cX4_bounded 58 = .ok (.dload 5, 2) := by decide +kernel
theorem dX4_bounded_60 : decode cX4_bounded 60 = .ok (.goto 4, 3) := by decide +kernel
theorem dX4_bounded_63 : decode cX4_bounded 63 = .ok (.dload_n 1, 1) := by decide +kernel
theorem dX4_bounded_64 : decode cX4_bounded 64 = .ok (.dreturn, 1) := by decide +kernel
set_option maxRecDepth 20000 in
theorem ggX4_made_X4_bounded : GoodIn wsX4_made wsX4_bounded := goodIn_r _ [10, 11, 12, 13, 14, 15, 16, 9, 17, 18, 19, 20, 21, 22, 23, 4, 24, 25, 26, 82, 83, 84, 85, 86, 87, 88, 89, 90, 91, 92, 93, 94, 95, 96, 97, 98, 99, 100, 101] (by decide +kernel) (by decide +kernel)
set_option maxRecDepth 20000 in
theorem gX4_made_X4_bounded : GoodIn wsX4_made (wsV RX4 147 RX4 yX4_bounded wsX4_bounded) := goodIn_app (goodIn_of _ (by decide +kernel)) ggX4_made_X4_bounded
set_option maxRecDepth 20000 in
theorem ggX4_made_X4_tried : GoodIn wsX4_made wsX4_tried := goodIn_r _ [30, 31, 11, 12, 4, 13, 32, 33, 34, 9, 35, 36, 37, 38, 39, 40, 41, 42, 43, 44, 45, 46, 47, 48, 49, 50, 51, 52, 53, 54, 55, 56, 57, 58, 59, 60, 61, 62, 63, 64, 65, 66, 67, 68, 69, 18, 19, 20, 70, 71, 72, 15, 16, 17, 21, 22, 23, 24, 25, 26, 73, 74, 75, 76, 77, 78, 79, 80, 81, 82, 83, 84, 85, 86, 87, 88, 89, 90, 91, 92, 93, 94, 95, 96, 97, 98, 99, 100, 101] (by decide +kernel) (by decide +kernel)
set_option maxRecDepth 20000 in
theorem gX4_made_X4_tried : GoodIn wsX4_made (wsV RX4 150 RX4 yX4_tried wsX4_tried) := goodIn_app (goodIn_of _ (by decide +kernel)) ggX4_made_X4_tried
theorem dX4_made_0 : decode cX4_made 0 = .ok (.aload_n 0, 1) := by decide +kernel
theorem dX4_made_1 : decode cX4_made 1 = .ok (.dload_n 1, 1) := by decide +kernel
theorem dX4_made_2 : decode cX4_made 2 = .ok (.invokevirtual 147, 3) := by decide +kernel
theorem dX4_made_5 : decode cX4_made 5 = .ok (.dstore_n 3, 1) := by decide +kernel
theorem dX4_made_6 : decode cX4_made 6 = .ok (.iconst 0, 1) := by decide +kernel
theorem dX4_made_7 : decode cX4_made 7 = .ok (.istore 5, 2) := by decide +kernel
theorem dX4_made_9 : decode cX4_made 9 = .ok (.iload 5, 2) := by decide +kernel
theorem dX4_made_11 : decode cX4_made 11 = .ok (.iconst 5, 1) := by decide +kernel
theorem dX4_made_12 : decode cX4_made 12 = .ok (.if_icmp .ge 55, 3) := by decide +kernel
theorem dX4_made_15 : decode cX4_made 15 = .ok (.aload_n 0, 1) := by decide +kernel
theorem dX4_made_16 : decode cX4_made 16 = .ok (.dload_n 3, 1) := by decide +kernel
theorem dX4_made_17 : decode cX4_made 17 = .ok (.invokevirtual 150, 3) := by decide +kernel
theorem dX4_made_20 : decode cX4_made 20 = .ok (.ifCond .eq 25, 3) := by decide +kernel
theorem dX4_made_23 : decode cX4_made 23 = .ok (.aload_n 0, 1) := by decide +kernel
theorem dX4_made_24 : decode cX4_made 24 = .ok (.aload_n 0, 1) := by decide +kernel
theorem dX4_made_25 : decode cX4_made 25 = .ok (.getfield 33, 3) := by decide +kernel
theorem dX4_made_28 : decode cX4_made 28 = .ok (.dload_n 3, 1) := by decide +kernel
theorem dX4_made_29 : decode cX4_made 29 = .ok (.dadd, 1) := by decide +kernel
theorem dX4_made_30 : decode cX4_made 30 = .ok (.putfield 33, 3) := by decide +kernel
theorem dX4_made_33 : decode cX4_made 33 = .ok (.aload_n 0, 1) := by decide +kernel
theorem dX4_made_34 : decode cX4_made 34 = .ok (.dup, 1) := by decide +kernel
theorem dX4_made_35 : decode cX4_made 35 = .ok (.getfield 154, 3) := by decide +kernel
theorem dX4_made_38 : decode cX4_made 38 = .ok (.iconst 1, 1) := by decide +kernel
theorem dX4_made_39 : decode cX4_made 39 = .ok (.iadd, 1) := by decide +kernel
theorem dX4_made_40 : decode cX4_made 40 = .ok (.putfield 154, 3) := by decide +kernel
theorem dX4_made_43 : decode cX4_made 43 = .ok (.dload_n 3, 1) := by decide +kernel
theorem dX4_made_44 : decode cX4_made 44 = .ok (.dreturn, 1) := by decide +kernel
theorem dX4_made_45 : decode cX4_made 45 = .ok (.aload_n 0, 1) := by decide +kernel
theorem dX4_made_46 : decode cX4_made 46 = .ok (.dup, 1) := by decide +kernel
theorem dX4_made_47 : decode cX4_made 47 = .ok (.getfield 157, 3) := by decide +kernel
theorem dX4_made_50 : decode cX4_made 50 = .ok (.iconst 1, 1) := by decide +kernel
theorem dX4_made_51 : decode cX4_made 51 = .ok (.iadd, 1) := by decide +kernel
theorem dX4_made_52 : decode cX4_made 52 = .ok (.putfield 157, 3) := by decide +kernel
theorem dX4_made_55 : decode cX4_made 55 = .ok (.ldc2_w 63, 3) := by decide +kernel
theorem dX4_made_58 : decode cX4_made 58 = .ok (.dload_n 3, 1) := by decide +kernel
theorem dX4_made_59 : decode cX4_made 59 = .ok (.dmul, 1) := by decide +kernel
theorem dX4_made_60 : decode cX4_made 60 = .ok (.dstore_n 3, 1) := by decide +kernel
theorem dX4_made_61 : decode cX4_made 61 = .ok (.iinc 5 1, 3) := by decide +kernel
theorem dX4_made_64 : decode cX4_made 64 = .ok (.goto (-55), 3) := by decide +kernel
theorem dX4_made_67 : decode cX4_made 67 = .ok (.aload_n 0, 1) := by decide +kernel
theorem dX4_made_68 : decode cX4_made 68 = .ok (.dup, 1) := by decide +kernel
theorem dX4_made_69 : decode cX4_made 69 = .ok (.getfield 160, 3) := by decide +kernel
theorem dX4_made_72 : decode cX4_made 72 = .ok (.iconst 1, 1) := by decide +kernel
theorem dX4_made_73 : decode cX4_made 73 = .ok (.iadd, 1) := by decide +kernel
theorem dX4_made_74 : decode cX4_made 74 = .ok (.putfield 160, 3) := by decide +kernel
theorem dX4_made_77 : decode cX4_made 77 = .ok (.dconst 0, 1) := by decide +kernel
theorem dX4_made_78 : decode cX4_made 78 = .ok (.dreturn, 1) := by decide +kernel
theorem dX4_isTime_0 : decode cX4_isTime 0 = .ok (.dload_n 0, 1) := by decide +kernel
theorem dX4_isTime_1 : decode cX4_isTime 1 = .ok (.dconst 0, 1) := by decide +kernel
theorem dX4_isTime_2 : decode cX4_isTime 2 = .ok (.dcmp .l, 1) := by decide +kernel
theorem dX4_isTime_3 : decode cX4_isTime 3 = .ok (.ifCond .le 15, 3) := by decide +kernel
theorem dX4_isTime_6 : decode cX4_isTime 6 = .ok (.dload_n 0, 1) := by decide +kernel
theorem dX4_isTime_7 : decode cX4_isTime 7 = .ok (.ldc2_w 163, 3) := by decide +kernel
theorem dX4_isTime_10 : decode cX4_isTime 10 = .ok (.dcmp .g, 1) := by decide +kernel
theorem dX4_isTime_11 : decode cX4_isTime 11 = .ok (.ifCond .gt 7, 3) := by decide +kernel
theorem dX4_isTime_14 : decode cX4_isTime 14 = .ok (.iconst 1, 1) := by decide +kernel
theorem dX4_isTime_15 : decode cX4_isTime 15 = .ok (.goto 4, 3) := by decide +kernel
theorem dX4_isTime_18 : decode cX4_isTime 18 = .ok (.iconst 0, 1) := by decide +kernel
theorem dX4_isTime_19 : decode cX4_isTime 19 = .ok (.ireturn, 1) := by decide +kernel
set_option maxRecDepth 20000 in
theorem ggX4_step_X4_isTime : GoodIn wsX4_step wsX4_isTime := goodIn_r _ [4, 5] (by decide +kernel) (by decide +kernel)
set_option maxRecDepth 20000 in
theorem gX4_step_X4_isTime : GoodIn wsX4_step (va_wsS RX4 165 yX4_isTime wsX4_isTime) := goodIn_app (goodIn_of _ (by decide +kernel)) ggX4_step_X4_isTime
set_option maxRecDepth 20000 in
theorem ggX4_step_X4_fails : GoodIn wsX4_step wsX4_fails := goodIn_r _ [9, 10, 95, 96, 97, 98, 99, 100, 101, 102, 103, 104, 105, 106, 107, 108, 109, 110, 111, 112, 113, 114] (by decide +kernel) (by decide +kernel)
set_option maxRecDepth 20000 in
theorem gX4_step_X4_fails : GoodIn wsX4_step (wsV RX4 41 RX4 yX4_fails wsX4_fails) := goodIn_app (goodIn_of _ (by decide +kernel)) ggX4_step_X4_fails
set_option maxRecDepth 20000 in
theorem ggX4_step_X4_made : GoodIn wsX4_step wsX4_made := goodIn_r _ [14, 15, 16, 17, 18, 19, 20, 21, 22, 3, 23, 24, 25, 26, 27, 28, 29, 30, 31, 32, 33, 34, 35, 36, 37, 38, 39, 40, 41, 42, 43, 44, 45, 46, 47, 48, 49, 50, 51, 52, 53, 54, 55, 56, 57, 58, 59, 60, 61, 62, 63, 64, 65, 66, 67, 68, 69, 70, 71, 72, 73, 74, 75, 76, 77, 78, 79, 80, 81, 82, 83, 84, 85, 86, 87, 88, 89, 90, 91, 92, 93, 94, 95, 96, 97, 98, 99, 100, 101, 102, 103, 104, 105, 106, 107, 108, 109, 110, 111, 112, 113, 114] (by decide +kernel) (by decide +kernel)
set_option maxRecDepth 20000 in
theorem gX4_step_X4_made : GoodIn wsX4_step (wsV RX4 168 RX4 yX4_made wsX4_made) := goodIn_app (goodIn_of _ (by decide +kernel)) ggX4_step_X4_made
theorem dX4_step_0 : decode cX4_step 0 = .ok (.aload_n 0, 1) := by decide +kernel
theorem dX4_step_1 : decode cX4_step 1 = .ok (.dload_n 1, 1) := by decide +kernel
theorem dX4_step_2 : decode cX4_step 2 = .ok (.invokestatic 165, 3) := by decide +kernel
theorem dX4_step_5 : decode cX4_step 5 = .ok (.ifCond .ne 7, 3) := by decide +kernel
theorem dX4_step_8 : decode cX4_step 8 = .ok (.iconst 1, 1) := by decide +kernel
theorem dX4_step_9 : decode cX4_step 9 = .ok (.goto 4, 3) := by decide +kernel
theorem dX4_step_12 : decode cX4_step 12 = .ok (.iconst 0, 1) := by decide +kernel
theorem dX4_step_13 : decode cX4_step 13 = .ok (.iconst 1, 1) := by decide +kernel
theorem dX4_step_14 : decode cX4_step 14 = .ok (.invokevirtual 41, 3) := by decide +kernel
theorem dX4_step_17 : decode cX4_step 17 = .ok (.ifCond .eq 5, 3) := by decide +kernel
theorem dX4_step_20 : decode cX4_step 20 = .ok (.dconst 0, 1) := by decide +kernel
theorem dX4_step_21 : decode cX4_step 21 = .ok (.dreturn, 1) := by decide +kernel
theorem dX4_step_22 : decode cX4_step 22 = .ok (.aload_n 0, 1) := by decide +kernel
theorem dX4_step_23 : decode cX4_step 23 = .ok (.dload_n 1, 1) := by decide +kernel
theorem dX4_step_24 : decode cX4_step 24 = .ok (.invokevirtual 168, 3) := by decide +kernel
theorem dX4_step_27 : decode cX4_step 27 = .ok (.dstore_n 3, 1) := by decide +kernel
theorem dX4_step_28 : decode cX4_step 28 = .ok (.aload_n 0, 1) := by decide +kernel
theorem dX4_step_29 : decode cX4_step 29 = .ok (.dload_n 3, 1) := by decide +kernel
theorem dX4_step_30 : decode cX4_step 30 = .ok (.dconst 0, 1) := by decide +kernel
theorem dX4_step_31 : decode cX4_step 31 = .ok (.dcmp .l, 1) := by decide +kernel
theorem dX4_step_32 : decode cX4_step 32 = .ok (.ifCond .ne 7, 3) := by decide +kernel
theorem dX4_step_35 : decode cX4_step 35 = .ok (.iconst 1, 1) := by decide +kernel
theorem dX4_step_36 : decode cX4_step 36 = .ok (.goto 4, 3) := by decide +kernel
theorem dX4_step_39 : decode cX4_step 39 = .ok (.iconst 0, 1) := by decide +kernel
theorem dX4_step_40 : decode cX4_step 40 = .ok (.iconst 2, 1) := by decide +kernel
theorem dX4_step_41 : decode cX4_step 41 = .ok (.invokevirtual 41, 3) := by decide +kernel
theorem dX4_step_44 : decode cX4_step 44 = .ok (.ifCond .eq 7, 3) := by decide +kernel
theorem dX4_step_47 : decode cX4_step 47 = .ok (.dconst 0, 1) := by decide +kernel
theorem dX4_step_48 : decode cX4_step 48 = .ok (.goto 4, 3) := by decide +kernel
theorem dX4_step_51 : decode cX4_step 51 = .ok (.dload_n 3, 1) := by decide +kernel
theorem dX4_step_52 : decode cX4_step 52 = .ok (.dreturn, 1) := by decide +kernel
set_option maxRecDepth 20000 in
theorem ggX4_run_X4_isTime : GoodIn wsX4_run wsX4_isTime := goodIn_r _ [5, 6] (by decide +kernel) (by decide +kernel)
set_option maxRecDepth 20000 in
theorem gX4_run_X4_isTime : GoodIn wsX4_run (va_wsS RX4 165 yX4_isTime wsX4_isTime) := goodIn_app (goodIn_of _ (by decide +kernel)) ggX4_run_X4_isTime
set_option maxRecDepth 20000 in
theorem ggX4_run_X4_fails : GoodIn wsX4_run wsX4_fails := goodIn_r _ [10, 11, 96, 97, 98, 99, 100, 101, 102, 103, 104, 105, 106, 107, 108, 109, 110, 111, 112, 113, 114, 115] (by decide +kernel) (by decide +kernel)
set_option maxRecDepth 20000 in
theorem gX4_run_X4_fails : GoodIn wsX4_run (wsV RX4 41 RX4 yX4_fails wsX4_fails) := goodIn_app (goodIn_of _ (by decide +kernel)) ggX4_run_X4_fails
set_option maxRecDepth 20000 in
theorem ggX4_run_X4_made : GoodIn wsX4_run wsX4_made := goodIn_r _ [15, 16, 17, 18, 19, 20, 21, 22, 23, 4, 24, 25, 26, 27, 28, 29, 30, 31, 32, 33, 34, 35, 36, 37, 38, 39, 40, 41, 42, 43, 44, 45, 46, 47, 48, 49, 50, 51, 52, 53, 54, 55, 56, 57, 58, 59, 60, 61, 62, 63, 64, 65, 66, 67, 68, 69, 70, 71, 72, 73, 74, 75, 76, 77, 78, 79, 80, 81, 82, 83, 84, 85, 86, 87, 88, 89, 90, 91, 92, 93, 94, 95, 96, 97, 98, 99, 100, 101, 102, 103, 104, 105, 106, 107, 108, 109, 110, 111, 112, 113, 114, 115] (by decide +kernel) (by decide +kernel)
set_option maxRecDepth 20000 in
theorem gX4_run_X4_made : GoodIn wsX4_run (wsV RX4 168 RX4 yX4_made wsX4_made) := goodIn_app (goodIn_of _ (by decide +kernel)) ggX4_run_X4_made
theorem dX4_run_0 : decode cX4_run 0 = .ok (.aload_n 0, 1) := by decide +kernel
theorem dX4_run_1 : decode cX4_run 1 = .ok (.dload_n 1, 1) := by decide +kernel
theorem dX4_run_2 : decode cX4_run 2 = .ok (.invokestatic 165, 3) := by decide +kernel
theorem dX4_run_5 : decode cX4_run 5 = .ok (.ifCond .ne 7, 3) := by decide +kernel
theorem dX4_run_8 : decode cX4_run 8 = .ok (.iconst 1, 1) := by decide +kernel
