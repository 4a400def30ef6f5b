theorem dX7_init_0 : decode cX7_init 0 = .ok (.aload_n 0, 1) := by decide +kernel
theorem dX7_init_1 : decode cX7_init 1 = .ok (.invokespecial 1, 3) := by decide +kernel
theorem dX7_init_4 : decode cX7_init 4 = .ok (.aload_n 0, 1) := by decide +kernel
theorem dX7_init_5 : decode cX7_init 5 = .ok (.bipush 62, 2) := by decide +kernel
theorem dX7_init_7 : decode cX7_init 7 = .ok (.newarray .boolean, 2) := by decide +kernel
theorem dX7_init_9 : decode cX7_init 9 = .ok (.putfield 7, 3) := by decide +kernel
theorem dX7_init_12 : decode cX7_init 12 = .ok (.aload_n 0, 1) := by decide +kernel
theorem dX7_init_13 : decode cX7_init 13 = .ok (.bipush 62, 2) := by decide +kernel
theorem dX7_init_15 : decode cX7_init 15 = .ok (.newarray .int, 2) := by decide +kernel
theorem dX7_init_17 : decode cX7_init 17 = .ok (.putfield 13, 3) := by decide +kernel
theorem dX7_init_20 : decode cX7_init 20 = .ok (.aload_n 0, 1) := by decide +kernel
theorem dX7_init_21 : decode cX7_init 21 = .ok (.bipush 62, 2) := by decide +kernel
theorem dX7_init_23 : decode cX7_init 23 = .ok (.newarray .int, 2) := by decide +kernel
theorem dX7_init_25 : decode cX7_init 25 = .ok (.putfield 17, 3) := by decide +kernel
theorem dX7_init_28 : decode cX7_init 28 = .ok (.aload_n 0, 1) := by decide +kernel
theorem dX7_init_29 : decode cX7_init 29 = .ok (.bipush 62, 2) := by decide +kernel
theorem dX7_init_31 : decode cX7_init 31 = .ok (.newarray .boolean, 2) := by decide +kernel
theorem dX7_init_33 : decode cX7_init 33 = .ok (.putfield 20, 3) := by decide +kernel
theorem dX7_init_36 : decode cX7_init 36 = .ok (.aload_n 0, 1) := by decide +kernel
theorem dX7_init_37 : decode cX7_init 37 = .ok (.sipush 496, 3) := by decide +kernel
theorem dX7_init_40 : decode cX7_init 40 = .ok (.newarray .int, 2) := by decide +kernel
theorem dX7_init_42 : decode cX7_init 42 = .ok (.putfield 23, 3) := by decide +kernel
theorem dX7_init_45 : decode cX7_init 45 = .ok (.aload_n 0, 1) := by decide +kernel
theorem dX7_init_46 : decode cX7_init 46 = .ok (.sipush 496, 3) := by decide +kernel
theorem dX7_init_49 : decode cX7_init 49 = .ok (.newarray .boolean, 2) := by decide +kernel
theorem dX7_init_51 : decode cX7_init 51 = .ok (.putfield 26, 3) := by decide +kernel
theorem dX7_init_54 : decode cX7_init 54 = .ok (.aload_n 0, 1) := by decide +kernel
theorem dX7_init_55 : decode cX7_init 55 = .ok (.sipush 496, 3) := by decide +kernel
theorem dX7_init_58 : decode cX7_init 58 = .ok (.newarray .int, 2) := by decide +kernel
theorem dX7_init_60 : decode cX7_init 60 = .ok (.putfield 29, 3) := by decide +kernel
theorem dX7_init_63 : decode cX7_init 63 = .ok (.aload_n 0, 1) := by decide +kernel
theorem dX7_init_64 : decode cX7_init 64 = .ok (.sipush 3968, 3) := by decide +kernel
theorem dX7_init_67 : decode cX7_init 67 = .ok (.newarray .int, 2) := by decide +kernel
theorem dX7_init_69 : decode cX7_init 69 = .ok (.putfield 32, 3) := by decide +kernel
theorem dX7_init_72 : decode cX7_init 72 = .ok (.aload_n 0, 1) := by decide +kernel
theorem dX7_init_73 : decode cX7_init 73 = .ok (.bipush 16, 2) := by decide +kernel
theorem dX7_init_75 : decode cX7_init 75 = .ok (.newarray .int, 2) := by decide +kernel
theorem dX7_init_77 : decode cX7_init 77 = .ok (.putfield 35, 3) := by decide +kernel
theorem dX7_init_80 : decode cX7_init 80 = .ok (.aload_n 0, 1) := by decide +kernel
theorem dX7_init_81 : decode cX7_init 81 = .ok (.bipush 16, 2) := by decide +kernel
theorem dX7_init_83 : decode cX7_init 83 = .ok (.newarray .int, 2) := by decide +kernel
theorem dX7_init_85 : decode cX7_init 85 = .ok (.putfield 38, 3) := by decide +kernel
theorem dX7_init_88 : decode cX7_init 88 = .ok (.aload_n 0, 1) := by decide +kernel
theorem dX7_init_89 : decode cX7_init 89 = .ok (.bipush 8, 2) := by decide +kernel
theorem dX7_init_91 : decode cX7_init 91 = .ok (.newarray .int, 2) := by decide +kernel
theorem dX7_init_93 : decode cX7_init 93 = .ok (.putfield 41, 3) := by decide +kernel
theorem dX7_init_96 : decode cX7_init 96 = .ok (.aload_n 0, 1) := by decide +kernel
theorem dX7_init_97 : decode cX7_init 97 = .ok (.bipush 8, 2) := by decide +kernel
theorem dX7_init_99 : decode cX7_init 99 = .ok (.newarray .int, 2) := by decide +kernel
theorem dX7_init_101 : decode cX7_init 101 = .ok (.putfield 44, 3) := by decide +kernel
theorem dX7_init_104 : decode cX7_init 104 = .ok (.aload_n 0, 1) := by decide +kernel
theorem dX7_init_105 : decode cX7_init 105 = .ok (.bipush 8, 2) := by decide +kernel
theorem dX7_init_107 : decode cX7_init 107 = .ok (.newarray .int, 2) := by decide +kernel
theorem dX7_init_109 : decode cX7_init 109 = .ok (.putfield 47, 3) := by decide +kernel
theorem dX7_init_112 : decode cX7_init 112 = .ok (.aload_n 0, 1) := by decide +kernel
theorem dX7_init_113 : decode cX7_init 113 = .ok (.bipush 8, 2) := by decide +kernel
theorem dX7_init_115 : decode cX7_init 115 = .ok (.newarray .int, 2) := by decide +kernel
theorem dX7_init_117 : decode cX7_init 117 = .ok (.putfield 50, 3) := by decide +kernel
theorem dX7_init_120 : decode cX7_init 120 = .ok (.aload_n 0, 1) := by decide +kernel
theorem dX7_init_121 : decode cX7_init 121 = .ok (.bipush 8, 2) := by decide +kernel
theorem dX7_init_123 : decode cX7_init 123 = .ok (.newarray .int, 2) := by decide +kernel
theorem dX7_init_125 : decode cX7_init 125 = .ok (.putfield 53, 3) := by decide +kernel
theorem dX7_init_128 : decode cX7_init 128 = .ok (.aload_n 0, 1) := by decide +kernel
theorem dX7_init_129 : decode cX7_init 129 = .ok (.bipush 8, 2) := by decide +kernel
theorem dX7_init_131 : decode cX7_init 131 = .ok (.newarray .boolean, 2) := by decide +kernel
theorem dX7_init_133 : decode cX7_init 133 = .ok (.putfield 56, 3) := by decide +kernel
theorem dX7_init_136 : decode cX7_init 136 = .ok (.aload_n 0, 1) := by decide +kernel
theorem dX7_init_137 : decode cX7_init 137 = .ok (.bipush 8, 2) := by decide +kernel
theorem dX7_init_139 : decode cX7_init 139 = .ok (.newarray .int, 2) := by decide +kernel
theorem dX7_init_141 : decode cX7_init 141 = .ok (.putfield 59, 3) := by decide +kernel
theorem dX7_init_144 : decode cX7_init 144 = .ok (.aload_n 0, 1) := by decide +kernel
theorem dX7_init_145 : decode cX7_init 145 = .ok (.bipush 8, 2) := by decide +kernel
theorem dX7_init_147 : decode cX7_init 147 = .ok (.newarray .int, 2) := by decide +kernel
theorem dX7_init_149 : decode cX7_init 149 = .ok (.putfield 62, 3) := by decide +kernel
theorem dX7_init_152 : decode cX7_init 152 = .ok (.aload_n 0, 1) := by decide +kernel
theorem dX7_init_153 : decode cX7_init 153 = .ok (.bipush 8, 2) := by decide +kernel
theorem dX7_init_155 : decode cX7_init 155 = .ok (.newarray .int, 2) := by decide +kernel
theorem dX7_init_157 : decode cX7_init 157 = .ok (.putfield 65, 3) := by decide +kernel
theorem dX7_init_160 : decode cX7_init 160 = .ok (.aload_n 0, 1) := by decide +kernel
theorem dX7_init_161 : decode cX7_init 161 = .ok (.bipush 8, 2) := by decide +kernel
theorem dX7_init_163 : decode cX7_init 163 = .ok (.newarray .int, 2) := by decide +kernel
theorem dX7_init_165 : decode cX7_init 165 = .ok (.putfield 68, 3) := by decide +kernel
theorem dX7_init_168 : decode cX7_init 168 = .ok (.aload_n 0, 1) := by decide +kernel
theorem dX7_init_169 : decode cX7_init 169 = .ok (.bipush 8, 2) := by decide +kernel
theorem dX7_init_171 : decode cX7_init 171 = .ok (.newarray .int, 2) := by decide +kernel
theorem dX7_init_173 : decode cX7_init 173 = .ok (.putfield 71, 3) := by decide +kernel
theorem dX7_init_176 : decode cX7_init 176 = .ok (.aload_n 0, 1) := by decide +kernel
theorem dX7_init_177 : decode cX7_init 177 = .ok (.bipush 8, 2) := by decide +kernel
theorem dX7_init_179 : decode cX7_init 179 = .ok (.newarray .int, 2) := by decide +kernel
theorem dX7_init_181 : decode cX7_init 181 = .ok (.putfield 74, 3) := by decide +kernel
theorem dX7_init_184 : decode cX7_init 184 = .ok (.aload_n 0, 1) := by decide +kernel
theorem dX7_init_185 : decode cX7_init 185 = .ok (.bipush 8, 2) := by decide +kernel
theorem dX7_init_187 : decode cX7_init 187 = .ok (.newarray .int, 2) := by decide +kernel
theorem dX7_init_189 : decode cX7_init 189 = .ok (.putfield 77, 3) := by decide +kernel
theorem dX7_init_192 : decode cX7_init 192 = .ok (.aload_n 0, 1) := by decide +kernel
theorem dX7_init_193 : decode cX7_init 193 = .ok (.bipush 8, 2) := by decide +kernel
theorem dX7_init_195 : decode cX7_init 195 = .ok (.newarray .int, 2) := by decide +kernel
theorem dX7_init_197 : decode cX7_init 197 = .ok (.putfield 80, 3) := by decide +kernel
theorem dX7_init_200 : decode cX7_init 200 = .ok (.aload_n 0, 1) := by decide +kernel
theorem dX7_init_201 : decode cX7_init 201 = .ok (.bipush 8, 2) := by decide +kernel
theorem dX7_init_203 : decode cX7_init 203 = .ok (.newarray .int, 2) := by decide +kernel
theorem dX7_init_205 : decode cX7_init 205 = .ok (.putfield 83, 3) := by decide +kernel
theorem dX7_init_208 : decode cX7_init 208 = .ok (.aload_n 0, 1) := by decide +kernel
theorem dX7_init_209 : decode cX7_init 209 = .ok (.bipush 8, 2) := by decide +kernel
theorem dX7_init_211 : decode cX7_init 211 = .ok (.newarray .int, 2) := by decide +kernel
theorem dX7_init_213 : decode cX7_init 213 = .ok (.putfield 86, 3) := by decide +kernel
theorem dX7_init_216 : decode cX7_init 216 = .ok (.aload_n 0, 1) := by decide +kernel
theorem dX7_init_217 : decode cX7_init 217 = .ok (.bipush 8, 2) := by decide +kernel
theorem dX7_init_219 : decode cX7_init 219 = .ok (.newarray .int, 2) := by decide +kernel
theorem dX7_init_221 : decode cX7_init 221 = .ok (.putfield 89, 3) := by decide +kernel
theorem dX7_init_224 : decode cX7_init 224 = .ok (.aload_n 0, 1) := by decide +kernel
theorem dX7_init_225 : decode cX7_init 225 = .ok (.sipush 128, 3) := by decide +kernel
theorem dX7_init_228 : decode cX7_init 228 = .ok (.newarray .int, 2) := by decide +kernel
theorem dX7_init_230 : decode cX7_init 230 = .ok (.putfield 92, 3) := by decide +kernel
theorem dX7_init_233 : decode cX7_init 233 = .ok (.aload_n 0, 1) := by decide +kernel
theorem dX7_init_234 : decode cX7_init 234 = .ok (.bipush 8, 2) := by decide +kernel
theorem dX7_init_236 : decode cX7_init 236 = .ok (.newarray .int, 2) := by decide +kernel
theorem dX7_init_238 : decode cX7_init 238 = .ok (.putfield 95, 3) := by decide +kernel
theorem dX7_init_241 : decode cX7_init 241 = .ok (.aload_n 0, 1) := by decide +kernel
theorem dX7_init_242 : decode cX7_init 242 = .ok (.bipush 8, 2) := by decide +kernel
theorem dX7_init_244 : decode cX7_init 244 = .ok (.newarray .int, 2) := by decide +kernel
theorem dX7_init_246 : decode cX7_init 246 = .ok (.putfield 98, 3) := by decide +kernel
theorem dX7_init_249 : decode cX7_init 249 = .ok (.aload_n 0, 1) := by decide +kernel
theorem dX7_init_250 : decode cX7_init 250 = .ok (.bipush 8, 2) := by decide +kernel
theorem dX7_init_252 : decode cX7_init 252 = .ok (.newarray .int, 2) := by decide +kernel
theorem dX7_init_254 : decode cX7_init 254 = .ok (.putfield 101, 3) := by decide +kernel
theorem dX7_init_257 : decode cX7_init 257 = .ok (.aload_n 0, 1) := by decide +kernel
theorem dX7_init_258 : decode cX7_init 258 = .ok (.iconst (-1), 1) := by decide +kernel
theorem dX7_init_259 : decode cX7_init 259 = .ok (.putfield 104, 3) := by decide +kernel
theorem dX7_init_262 : decode cX7_init 262 = .ok (.aload_n 0, 1) := by decide +kernel
theorem dX7_init_263 : decode cX7_init 263 = .ok (.bipush 64, 2) := by decide +kernel
theorem dX7_init_265 : decode cX7_init 265 = .ok (.newarray .int, 2) := by decide +kernel
theorem dX7_init_267 : decode cX7_init 267 = .ok (.putfield 108, 3) := by decide +kernel
theorem dX7_init_270 : decode cX7_init 270 = .ok (.aload_n 0, 1) := by decide +kernel
theorem dX7_init_271 : decode cX7_init 271 = .ok (.sipush 200, 3) := by decide +kernel
theorem dX7_init_274 : decode cX7_init 274 = .ok (.newarray .int, 2) := by decide +kernel
theorem dX7_init_276 : decode cX7_init 276 = .ok (.putfield 111, 3) := by decide +kernel
theorem dX7_init_279 : decode cX7_init 279 = .ok (.aload_n 0, 1) := by decide +kernel
theorem dX7_init_280 : decode cX7_init 280 = .ok (.sipush 200, 3) := by decide +kernel
theorem dX7_init_283 : decode cX7_init 283 = .ok (.newarray .int, 2) := by decide +kernel
theorem dX7_init_285 : decode cX7_init 285 = .ok (.putfield 114, 3) := by decide +kernel
theorem dX7_init_288 : decode cX7_init 288 = .ok (.iconst 0, 1) := by decide +kernel
theorem dX7_init_289 : decode cX7_init 289 = .ok (.istore_n 1, 1) := by decide +kernel
theorem dX7_init_290 : decode cX7_init 290 = .ok (.iload_n 1, 1) := by decide +kernel
theorem dX7_init_291 : decode cX7_init 291 = .ok (.bipush 8, 2) := by decide +kernel
theorem dX7_init_293 : decode cX7_init 293 = .ok (.if_icmp .ge 23, 3) := by decide +kernel
theorem dX7_init_296 : decode cX7_init 296 = .ok (.aload_n 0, 1) := by decide +kernel
theorem dX7_init_297 : decode cX7_init 297 = .ok (.getfield 44, 3) := by decide +kernel
theorem dX7_init_300 : decode cX7_init 300 = .ok (.iload_n 1, 1) := by decide +kernel
theorem dX7_init_301 : decode cX7_init 301 = .ok (.iconst (-1), 1) := by decide +kernel
theorem dX7_init_302 : decode cX7_init 302 = .ok (.iastore, 1) := by decide +kernel
theorem dX7_init_303 : decode cX7_init 303 = .ok (.aload_n 0, 1) := by decide +kernel
theorem dX7_init_304 : decode cX7_init 304 = .ok (.getfield 53, 3) := by decide +kernel
theorem dX7_init_307 : decode cX7_init 307 = .ok (.iload_n 1, 1) := by decide +kernel
theorem dX7_init_308 : decode cX7_init 308 = .ok (.iconst 1, 1) := by decide +kernel
theorem dX7_init_309 : decode cX7_init 309 = .ok (.iastore, 1) := by decide +kernel
theorem dX7_init_310 : decode cX7_init 310 = .ok (.iinc 1 1, 3) := by decide +kernel
theorem dX7_init_313 : decode cX7_init 313 = .ok (.goto (-23), 3) := by decide +kernel
theorem dX7_init_316 : decode cX7_init 316 = .ok (.iconst 0, 1) := by decide +kernel
theorem dX7_init_317 : decode cX7_init 317 = .ok (.istore_n 1, 1) := by decide +kernel
theorem dX7_init_318 : decode cX7_init 318 = .ok (.iload_n 1, 1) := by decide +kernel
theorem dX7_init_319 : decode cX7_init 319 = .ok (.bipush 64, 2) := by decide +kernel
theorem dX7_init_321 : decode cX7_init 321 = .ok (.if_icmp .ge 16, 3) := by decide +kernel
theorem dX7_init_324 : decode cX7_init 324 = .ok (.aload_n 0, 1) := by decide +kernel
theorem dX7_init_325 : decode cX7_init 325 = .ok (.getfield 108, 3) := by decide +kernel
theorem dX7_init_328 : decode cX7_init 328 = .ok (.iload_n 1, 1) := by decide +kernel
theorem dX7_init_329 : decode cX7_init 329 = .ok (.iconst 1, 1) := by decide +kernel
theorem dX7_init_330 : decode cX7_init 330 = .ok (.iastore, 1) := by decide +kernel
theorem dX7_init_331 : decode cX7_init 331 = .ok (.iinc 1 1, 3) := by decide +kernel
theorem dX7_init_334 : decode cX7_init 334 = .ok (.goto (-16), 3) := by decide +kernel
theorem dX7_init_337 : decode cX7_init 337 = .ok (.return_, 1) := by decide +kernel
theorem dX7_thrown_0 : decode cX7_thrown 0 = .ok (.aload_n 0, 1) := by decide +kernel
theorem dX7_thrown_1 : decode cX7_thrown 1 = .ok (.getfield 117, 3) := by decide +kernel
theorem dX7_thrown_4 : decode cX7_thrown 4 = .ok (.ireturn, 1) := by decide +kernel
theorem dX7_isIn_0 : decode cX7_isIn 0 = .ok (.iload_n 0, 1) := by decide +kernel
theorem dX7_isIn_1 : decode cX7_isIn 1 = .ok (.iload_n 1, 1) := by decide +kernel
theorem dX7_isIn_2 : decode cX7_isIn 2 = .ok (.if_icmp .lt 12, 3) := by decide +kernel
theorem dX7_isIn_5 : decode cX7_isIn 5 = .ok (.iload_n 0, 1) := by decide +kernel
theorem dX7_isIn_6 : decode cX7_isIn 6 = .ok (.iload_n 2, 1) := by decide +kernel
theorem dX7_isIn_7 : decode cX7_isIn 7 = .ok (.if_icmp .gt 7, 3) := by decide +kernel
theorem dX7_isIn_10 : decode cX7_isIn 10 = .ok (.iconst 1, 1) := by decide +kernel
theorem dX7_isIn_11 : decode cX7_isIn 11 = .ok (.goto 4, 3) := by decide +kernel
theorem dX7_isIn_14 : decode cX7_isIn 14 = .ok (.iconst 0, 1) := by decide +kernel
theorem dX7_isIn_15 : decode cX7_isIn 15 = .ok (.ireturn, 1) := by decide +kernel
theorem dX7_isFrame_0 : decode cX7_isFrame 0 = .ok (.iload_n 1, 1) := by decide +kernel
theorem dX7_isFrame_1 : decode cX7_isFrame 1 = .ok (.iconst 0, 1) := by decide +kernel
theorem dX7_isFrame_2 : decode cX7_isFrame 2 = .ok (.bipush 61, 2) := by decide +kernel
theorem dX7_isFrame_4 : decode cX7_isFrame 4 = .ok (.invokestatic 120, 3) := by decide +kernel
theorem dX7_isFrame_7 : decode cX7_isFrame 7 = .ok (.ifCond .eq 16, 3) := by decide +kernel
theorem dX7_isFrame_10 : decode cX7_isFrame 10 = .ok (.aload_n 0, 1) := by decide +kernel
theorem dX7_isFrame_11 : decode cX7_isFrame 11 = .ok (.getfield 7, 3) := by decide +kernel
theorem dX7_isFrame_14 : decode cX7_isFrame 14 = .ok (.iload_n 1, 1) := by decide +kernel
theorem dX7_isFrame_15 : decode cX7_isFrame 15 = .ok (.baload, 1) := by decide +kernel
theorem dX7_isFrame_16 : decode cX7_isFrame 16 = .ok (.ifCond .eq 7, 3) := by decide +kernel
theorem dX7_isFrame_19 : decode cX7_isFrame 19 = .ok (.iconst 1, 1) := by decide +kernel
theorem dX7_isFrame_20 : decode cX7_isFrame 20 = .ok (.goto 4, 3) := by decide +kernel
theorem dX7_isFrame_23 : decode cX7_isFrame 23 = .ok (.iconst 0, 1) := by decide +kernel
theorem dX7_isFrame_24 : decode cX7_isFrame 24 = .ok (.ireturn, 1) := by decide +kernel
theorem dX7_isNode_0 : decode cX7_isNode 0 = .ok (.iload_n 0, 1) := by decide +kernel
theorem dX7_isNode_1 : decode cX7_isNode 1 = .ok (.iconst 0, 1) := by decide +kernel
theorem dX7_isNode_2 : decode cX7_isNode 2 = .ok (.bipush 7, 2) := by decide +kernel
theorem dX7_isNode_4 : decode cX7_isNode 4 = .ok (.invokestatic 120, 3) := by decide +kernel
theorem dX7_isNode_7 : decode cX7_isNode 7 = .ok (.ireturn, 1) := by decide +kernel
theorem dX7_pidOf_0 : decode cX7_pidOf 0 = .ok (.iload_n 0, 1) := by decide +kernel
theorem dX7_pidOf_1 : decode cX7_pidOf 1 = .ok (.iload_n 0, 1) := by decide +kernel
theorem dX7_pidOf_2 : decode cX7_pidOf 2 = .ok (.iconst 1, 1) := by decide +kernel
theorem dX7_pidOf_3 : decode cX7_pidOf 3 = .ok (.ishr, 1) := by decide +kernel
theorem dX7_pidOf_4 : decode cX7_pidOf 4 = .ok (.ixor, 1) := by decide +kernel
theorem dX7_pidOf_5 : decode cX7_pidOf 5 = .ok (.iload_n 0, 1) := by decide +kernel
theorem dX7_pidOf_6 : decode cX7_pidOf 6 = .ok (.iconst 2, 1) := by decide +kernel
theorem dX7_pidOf_7 : decode cX7_pidOf 7 = .ok (.ishr, 1) := by decide +kernel
theorem dX7_pidOf_8 : decode cX7_pidOf 8 = .ok (.ixor, 1) := by decide +kernel
theorem dX7_pidOf_9 : decode cX7_pidOf 9 = .ok (.iload_n 0, 1) := by decide +kernel
theorem dX7_pidOf_10 : decode cX7_pidOf 10 = .ok (.iconst 4, 1) := by decide +kernel
theorem dX7_pidOf_11 : decode cX7_pidOf 11 = .ok (.ishr, 1) := by decide +kernel
theorem dX7_pidOf_12 : decode cX7_pidOf 12 = .ok (.ixor, 1) := by decide +kernel
theorem dX7_pidOf_13 : decode cX7_pidOf 13 = .ok (.istore_n 1, 1) := by decide +kernel
theorem dX7_pidOf_14 : decode cX7_pidOf 14 = .ok (.iconst 1, 1) := by decide +kernel
theorem dX7_pidOf_15 : decode cX7_pidOf 15 = .ok (.iload_n 0, 1) := by decide +kernel
theorem dX7_pidOf_16 : decode cX7_pidOf 16 = .ok (.iconst 1, 1) := by decide +kernel
theorem dX7_pidOf_17 : decode cX7_pidOf 17 = .ok (.ishr, 1) := by decide +kernel
theorem dX7_pidOf_18 : decode cX7_pidOf 18 = .ok (.ixor, 1) := by decide +kernel
theorem dX7_pidOf_19 : decode cX7_pidOf 19 = .ok (.iload_n 0, 1) := by decide +kernel
theorem dX7_pidOf_20 : decode cX7_pidOf 20 = .ok (.iconst 3, 1) := by decide +kernel
theorem dX7_pidOf_21 : decode cX7_pidOf 21 = .ok (.ishr, 1) := by decide +kernel
theorem dX7_pidOf_22 : decode cX7_pidOf 22 = .ok (.ixor, 1) := by decide +kernel
theorem dX7_pidOf_23 : decode cX7_pidOf 23 = .ok (.iload_n 0, 1) := by decide +kernel
theorem dX7_pidOf_24 : decode cX7_pidOf 24 = .ok (.iconst 4, 1) := by decide +kernel
theorem dX7_pidOf_25 : decode cX7_pidOf 25 = .ok (.ishr, 1) := by decide +kernel
theorem dX7_pidOf_26 : decode cX7_pidOf 26 = .ok (.ixor, 1) := by decide +kernel
theorem dX7_pidOf_27 : decode cX7_pidOf 27 = .ok (.iload_n 0, 1) := by decide +kernel
theorem dX7_pidOf_28 : decode cX7_pidOf 28 = .ok (.iconst 5, 1) := by decide +kernel
theorem dX7_pidOf_29 : decode cX7_pidOf 29 = .ok (.ishr, 1) := by decide +kernel
theorem dX7_pidOf_30 : decode cX7_pidOf 30 = .ok (.ixor, 1) := by decide +kernel
theorem dX7_pidOf_31 : decode cX7_pidOf 31 = .ok (.istore_n 2, 1) := by decide +kernel
theorem dX7_pidOf_32 : decode cX7_pidOf 32 = .ok (.iload_n 0, 1) := by decide +kernel
theorem dX7_pidOf_33 : decode cX7_pidOf 33 = .ok (.bipush 64, 2) := by decide +kernel
theorem dX7_pidOf_35 : decode cX7_pidOf 35 = .ok (.iload_n 1, 1) := by decide +kernel
theorem dX7_pidOf_36 : decode cX7_pidOf 36 = .ok (.iconst 1, 1) := by decide +kernel
theorem dX7_pidOf_37 : decode cX7_pidOf 37 = .ok (.iand, 1) := by decide +kernel
theorem dX7_pidOf_38 : decode cX7_pidOf 38 = .ok (.imul, 1) := by decide +kernel
theorem dX7_pidOf_39 : decode cX7_pidOf 39 = .ok (.iadd, 1) := by decide +kernel
theorem dX7_pidOf_40 : decode cX7_pidOf 40 = .ok (.sipush 128, 3) := by decide +kernel
theorem dX7_pidOf_43 : decode cX7_pidOf 43 = .ok (.iload_n 2, 1) := by decide +kernel
theorem dX7_pidOf_44 : decode cX7_pidOf 44 = .ok (.iconst 1, 1) := by decide +kernel
theorem dX7_pidOf_45 : decode cX7_pidOf 45 = .ok (.iand, 1) := by decide +kernel
theorem dX7_pidOf_46 : decode cX7_pidOf 46 = .ok (.imul, 1) := by decide +kernel
theorem dX7_pidOf_47 : decode cX7_pidOf 47 = .ok (.iadd, 1) := by decide +kernel
theorem dX7_pidOf_48 : decode cX7_pidOf 48 = .ok (.ireturn, 1) := by decide +kernel
theorem dX7_checksum_0 : decode cX7_checksum 0 = .ok (.iload_n 3, 1) := by decide +kernel
theorem dX7_checksum_1 : decode cX7_checksum 1 = .ok (.istore 4, 2) := by decide +kernel
theorem dX7_checksum_3 : decode cX7_checksum 3 = .ok (.iconst 0, 1) := by decide +kernel
theorem dX7_checksum_4 : decode cX7_checksum 4 = .ok (.istore 5, 2) := by decide +kernel
theorem dX7_checksum_6 : decode cX7_checksum 6 = .ok (.iload 5, 2) := by decide +kernel
theorem dX7_checksum_8 : decode cX7_checksum 8 = .ok (.iload_n 2, 1) := by decide +kernel
theorem dX7_checksum_9 : decode cX7_checksum 9 = .ok (.if_icmp .ge 41, 3) := by decide +kernel
theorem dX7_checksum_12 : decode cX7_checksum 12 = .ok (.iload 4, 2) := by decide +kernel
theorem dX7_checksum_14 : decode cX7_checksum 14 = .ok (.aload_n 0, 1) := by decide +kernel
theorem dX7_checksum_15 : decode cX7_checksum 15 = .ok (.iload_n 1, 1) := by decide +kernel
theorem dX7_checksum_16 : decode cX7_checksum 16 = .ok (.iload 5, 2) := by decide +kernel
theorem dX7_checksum_18 : decode cX7_checksum 18 = .ok (.iadd, 1) := by decide +kernel
theorem dX7_checksum_19 : decode cX7_checksum 19 = .ok (.iaload, 1) := by decide +kernel
theorem dX7_checksum_20 : decode cX7_checksum 20 = .ok (.iadd, 1) := by decide +kernel
theorem dX7_checksum_21 : decode cX7_checksum 21 = .ok (.istore 4, 2) := by decide +kernel
theorem dX7_checksum_23 : decode cX7_checksum 23 = .ok (.iload 4, 2) := by decide +kernel
theorem dX7_checksum_25 : decode cX7_checksum 25 = .ok (.sipush 255, 3) := by decide +kernel
theorem dX7_checksum_28 : decode cX7_checksum 28 = .ok (.if_icmp .le 12, 3) := by decide +kernel
theorem dX7_checksum_31 : decode cX7_checksum 31 = .ok (.iload 4, 2) := by decide +kernel
theorem dX7_checksum_33 : decode cX7_checksum 33 = .ok (.sipush 255, 3) := by decide +kernel
theorem dX7_checksum_36 : decode cX7_checksum 36 = .ok (.isub, 1) := by decide +kernel
theorem dX7_checksum_37 : decode cX7_checksum 37 = .ok (.goto 5, 3) := by decide +kernel
theorem dX7_checksum_40 : decode cX7_checksum 40 = .ok (.iload 4, 2) := by decide +kernel
theorem dX7_checksum_42 : decode cX7_checksum 42 = .ok (.istore 4, 2) := by decide +kernel
theorem dX7_checksum_44 : decode cX7_checksum 44 = .ok (.iinc 5 1, 3) := by decide +kernel
theorem dX7_checksum_47 : decode cX7_checksum 47 = .ok (.goto (-41), 3) := by decide +kernel
theorem dX7_checksum_50 : decode cX7_checksum 50 = .ok (.sipush 255, 3) := by decide +kernel
theorem dX7_checksum_53 : decode cX7_checksum 53 = .ok (.iload 4, 2) := by decide +kernel
theorem dX7_checksum_55 : decode cX7_checksum 55 = .ok (.isub, 1) := by decide +kernel
theorem dX7_checksum_56 : decode cX7_checksum 56 = .ok (.ireturn, 1) := by decide +kernel
theorem dX7_isEnhanced_0 : decode cX7_isEnhanced 0 = .ok (.aload_n 0, 1) := by decide +kernel
theorem dX7_isEnhanced_1 : decode cX7_isEnhanced 1 = .ok (.getfield 20, 3) := by decide +kernel
theorem dX7_isEnhanced_4 : decode cX7_isEnhanced 4 = .ok (.iload_n 1, 1) := by decide +kernel
theorem dX7_isEnhanced_5 : decode cX7_isEnhanced 5 = .ok (.baload, 1) := by decide +kernel
theorem dX7_isEnhanced_6 : decode cX7_isEnhanced 6 = .ok (.ifCond .eq 13, 3) := by decide +kernel
theorem dX7_isEnhanced_9 : decode cX7_isEnhanced 9 = .ok (.iload_n 1, 1) := by decide +kernel
theorem dX7_isEnhanced_10 : decode cX7_isEnhanced 10 = .ok (.bipush 60, 2) := by decide +kernel
theorem dX7_isEnhanced_12 : decode cX7_isEnhanced 12 = .ok (.if_icmp .ge 7, 3) := by decide +kernel
theorem dX7_isEnhanced_15 : decode cX7_isEnhanced 15 = .ok (.iconst 1, 1) := by decide +kernel
theorem dX7_isEnhanced_16 : decode cX7_isEnhanced 16 = .ok (.goto 4, 3) := by decide +kernel
theorem dX7_isEnhanced_19 : decode cX7_isEnhanced 19 = .ok (.iconst 0, 1) := by decide +kernel
theorem dX7_isEnhanced_20 : decode cX7_isEnhanced 20 = .ok (.ireturn, 1) := by decide +kernel
theorem dX7_frame_0 : decode cX7_frame 0 = .ok (.aload_n 0, 1) := by decide +kernel
theorem dX7_frame_1 : decode cX7_frame 1 = .ok (.iload_n 1, 1) := by decide +kernel
theorem dX7_frame_2 : decode cX7_frame 2 = .ok (.iconst 0, 1) := by decide +kernel
theorem dX7_frame_3 : decode cX7_frame 3 = .ok (.bipush 61, 2) := by decide +kernel
theorem dX7_frame_5 : decode cX7_frame 5 = .ok (.invokestatic 120, 3) := by decide +kernel
theorem dX7_frame_8 : decode cX7_frame 8 = .ok (.ifCond .eq 20, 3) := by decide +kernel
theorem dX7_frame_11 : decode cX7_frame 11 = .ok (.iload_n 2, 1) := by decide +kernel
theorem dX7_frame_12 : decode cX7_frame 12 = .ok (.iconst 1, 1) := by decide +kernel
theorem dX7_frame_13 : decode cX7_frame 13 = .ok (.bipush 8, 2) := by decide +kernel
theorem dX7_frame_15 : decode cX7_frame 15 = .ok (.invokestatic 120, 3) := by decide +kernel
theorem dX7_frame_18 : decode cX7_frame 18 = .ok (.ifCond .eq 10, 3) := by decide +kernel
theorem dX7_frame_21 : decode cX7_frame 21 = .ok (.iload_n 3, 1) := by decide +kernel
theorem dX7_frame_22 : decode cX7_frame 22 = .ok (.invokestatic 124, 3) := by decide +kernel
theorem dX7_frame_25 : decode cX7_frame 25 = .ok (.ifCond .ne 7, 3) := by decide +kernel
theorem dX7_frame_28 : decode cX7_frame 28 = .ok (.iconst 1, 1) := by decide +kernel
theorem dX7_frame_29 : decode cX7_frame 29 = .ok (.goto 15, 3) := by decide +kernel
theorem dX7_frame_32 : decode cX7_frame 32 = .ok (.aload_n 0, 1) := by decide +kernel
theorem dX7_frame_33 : decode cX7_frame 33 = .ok (.getfield 128, 3) := by decide +kernel
theorem dX7_frame_36 : decode cX7_frame 36 = .ok (.ifCond .le 7, 3) := by decide +kernel
theorem dX7_frame_39 : decode cX7_frame 39 = .ok (.iconst 2, 1) := by decide +kernel
theorem dX7_frame_40 : decode cX7_frame 40 = .ok (.goto 4, 3) := by decide +kernel
theorem dX7_frame_43 : decode cX7_frame 43 = .ok (.iconst 0, 1) := by decide +kernel
theorem dX7_frame_44 : decode cX7_frame 44 = .ok (.putfield 117, 3) := by decide +kernel
theorem dX7_frame_47 : decode cX7_frame 47 = .ok (.aload_n 0, 1) := by decide +kernel
theorem dX7_frame_48 : decode cX7_frame 48 = .ok (.getfield 117, 3) := by decide +kernel
theorem dX7_frame_51 : decode cX7_frame 51 = .ok (.ifCond .le 4, 3) := by decide +kernel
theorem dX7_frame_54 : decode cX7_frame 54 = .ok (.return_, 1) := by decide +kernel
theorem dX7_frame_55 : decode cX7_frame 55 = .ok (.aload_n 0, 1) := by decide +kernel
theorem dX7_frame_56 : decode cX7_frame 56 = .ok (.getfield 7, 3) := by decide +kernel
theorem dX7_frame_59 : decode cX7_frame 59 = .ok (.iload_n 1, 1) := by decide +kernel
theorem dX7_frame_60 : decode cX7_frame 60 = .ok (.iconst 1, 1) := by decide +kernel
theorem dX7_frame_61 : decode cX7_frame 61 = .ok (.bastore, 1) := by decide +kernel
theorem dX7_frame_62 : decode cX7_frame 62 = .ok (.aload_n 0, 1) := by decide +kernel
theorem dX7_frame_63 : decode cX7_frame 63 = .ok (.getfield 13, 3) := by decide +kernel
theorem dX7_frame_66 : decode cX7_frame 66 = .ok (.iload_n 1, 1) := by decide +kernel
theorem dX7_frame_67 : decode cX7_frame 67 = .ok (.iload_n 2, 1) := by decide +kernel
theorem dX7_frame_68 : decode cX7_frame 68 = .ok (.iastore, 1) := by decide +kernel
theorem dX7_frame_69 : decode cX7_frame 69 = .ok (.aload_n 0, 1) := by decide +kernel
theorem dX7_frame_70 : decode cX7_frame 70 = .ok (.getfield 17, 3) := by decide +kernel
theorem dX7_frame_73 : decode cX7_frame 73 = .ok (.iload_n 1, 1) := by decide +kernel
theorem dX7_frame_74 : decode cX7_frame 74 = .ok (.iload_n 3, 1) := by decide +kernel
theorem dX7_frame_75 : decode cX7_frame 75 = .ok (.iastore, 1) := by decide +kernel
theorem dX7_frame_76 : decode cX7_frame 76 = .ok (.aload_n 0, 1) := by decide +kernel
theorem dX7_frame_77 : decode cX7_frame 77 = .ok (.getfield 20, 3) := by decide +kernel
theorem dX7_frame_80 : decode cX7_frame 80 = .ok (.iload_n 1, 1) := by decide +kernel
theorem dX7_frame_81 : decode cX7_frame 81 = .ok (.iload 4, 2) := by decide +kernel
theorem dX7_frame_83 : decode cX7_frame 83 = .ok (.bastore, 1) := by decide +kernel
theorem dX7_frame_84 : decode cX7_frame 84 = .ok (.iconst 0, 1) := by decide +kernel
theorem dX7_frame_85 : decode cX7_frame 85 = .ok (.istore 5, 2) := by decide +kernel
theorem dX7_frame_87 : decode cX7_frame 87 = .ok (.iload 5, 2) := by decide +kernel
theorem dX7_frame_89 : decode cX7_frame 89 = .ok (.bipush 8, 2) := by decide +kernel
theorem dX7_frame_91 : decode cX7_frame 91 = .ok (.if_icmp .ge 22, 3) := by decide +kernel
theorem dX7_frame_94 : decode cX7_frame 94 = .ok (.aload_n 0, 1) := by decide +kernel
theorem dX7_frame_95 : decode cX7_frame 95 = .ok (.getfield 23, 3) := by decide +kernel
theorem dX7_frame_98 : decode cX7_frame 98 = .ok (.bipush 8, 2) := by decide +kernel
theorem dX7_frame_100 : decode cX7_frame 100 = .ok (.iload_n 1, 1) := by decide +kernel
theorem dX7_frame_101 : decode cX7_frame 101 = .ok (.imul, 1) := by decide +kernel
theorem dX7_frame_102 : decode cX7_frame 102 = .ok (.iload 5, 2) := by decide +kernel
theorem dX7_frame_104 : decode cX7_frame 104 = .ok (.iadd, 1) := by decide +kernel
theorem dX7_frame_105 : decode cX7_frame 105 = .ok (.iconst 0, 1) := by decide +kernel
theorem dX7_frame_106 : decode cX7_frame 106 = .ok (.iastore, 1) := by decide +kernel
theorem dX7_frame_107 : decode cX7_frame 107 = .ok (.iinc 5 1, 3) := by decide +kernel
theorem dX7_frame_110 : decode cX7_frame 110 = .ok (.goto (-23), 3) := by decide +kernel
theorem dX7_frame_113 : decode cX7_frame 113 = .ok (.iconst 0, 1) := by decide +kernel
theorem dX7_frame_114 : decode cX7_frame 114 = .ok (.istore 5, 2) := by decide +kernel
theorem dX7_frame_116 : decode cX7_frame 116 = .ok (.iload 5, 2) := by decide +kernel
theorem dX7_frame_118 : decode cX7_frame 118 = .ok (.bipush 8, 2) := by decide +kernel
theorem dX7_frame_120 : decode cX7_frame 120 = .ok (.if_icmp .ge 51, 3) := by decide +kernel
theorem dX7_frame_123 : decode cX7_frame 123 = .ok (.aload_n 0, 1) := by decide +kernel
theorem dX7_frame_124 : decode cX7_frame 124 = .ok (.getfield 26, 3) := by decide +kernel
theorem dX7_frame_127 : decode cX7_frame 127 = .ok (.bipush 62, 2) := by decide +kernel
theorem dX7_frame_129 : decode cX7_frame 129 = .ok (.iload 5, 2) := by decide +kernel
theorem dX7_frame_131 : decode cX7_frame 131 = .ok (.imul, 1) := by decide +kernel
theorem dX7_frame_132 : decode cX7_frame 132 = .ok (.iload_n 1, 1) := by decide +kernel
theorem dX7_frame_133 : decode cX7_frame 133 = .ok (.iadd, 1) := by decide +kernel
theorem dX7_frame_134 : decode cX7_frame 134 = .ok (.iconst 0, 1) := by decide +kernel
theorem dX7_frame_135 : decode cX7_frame 135 = .ok (.bastore, 1) := by decide +kernel
theorem dX7_frame_136 : decode cX7_frame 136 = .ok (.aload_n 0, 1) := by decide +kernel
theorem dX7_frame_137 : decode cX7_frame 137 = .ok (.getfield 44, 3) := by decide +kernel
theorem dX7_frame_140 : decode cX7_frame 140 = .ok (.iload 5, 2) := by decide +kernel
theorem dX7_frame_142 : decode cX7_frame 142 = .ok (.aload_n 0, 1) := by decide +kernel
theorem dX7_frame_143 : decode cX7_frame 143 = .ok (.getfield 44, 3) := by decide +kernel
theorem dX7_frame_146 : decode cX7_frame 146 = .ok (.iload 5, 2) := by decide +kernel
theorem dX7_frame_148 : decode cX7_frame 148 = .ok (.iaload, 1) := by decide +kernel
theorem dX7_frame_149 : decode cX7_frame 149 = .ok (.iload_n 1, 1) := by decide +kernel
theorem dX7_frame_150 : decode cX7_frame 150 = .ok (.if_icmp .ne 7, 3) := by decide +kernel
theorem dX7_frame_153 : decode cX7_frame 153 = .ok (.iconst (-1), 1) := by decide +kernel
theorem dX7_frame_154 : decode cX7_frame 154 = .ok (.goto 10, 3) := by decide +kernel
theorem dX7_frame_157 : decode cX7_frame 157 = .ok (.aload_n 0, 1) := by decide +kernel
theorem dX7_frame_158 : decode cX7_frame 158 = .ok (.getfield 44, 3) := by decide +kernel
theorem dX7_frame_161 : decode cX7_frame 161 = .ok (.iload 5, 2) := by decide +kernel
theorem dX7_frame_163 : decode cX7_frame 163 = .ok (.iaload, 1) := by decide +kernel
theorem dX7_frame_164 : decode cX7_frame 164 = .ok (.iastore, 1) := by decide +kernel
theorem dX7_frame_165 : decode cX7_frame 165 = .ok (.iinc 5 1, 3) := by decide +kernel
theorem dX7_frame_168 : decode cX7_frame 168 = .ok (.goto (-52), 3) := by decide +kernel
theorem dX7_frame_171 : decode cX7_frame 171 = .ok (.return_, 1) := by decide +kernel
theorem dX7_listen_0 : decode cX7_listen 0 = .ok (.aload_n 0, 1) := by decide +kernel
theorem dX7_listen_1 : decode cX7_listen 1 = .ok (.iload_n 1, 1) := by decide +kernel
theorem dX7_listen_2 : decode cX7_listen 2 = .ok (.invokestatic 124, 3) := by decide +kernel
theorem dX7_listen_5 : decode cX7_listen 5 = .ok (.ifCond .eq 21, 3) := by decide +kernel
theorem dX7_listen_8 : decode cX7_listen 8 = .ok (.aload_n 0, 1) := by decide +kernel
theorem dX7_listen_9 : decode cX7_listen 9 = .ok (.iload_n 2, 1) := by decide +kernel
theorem dX7_listen_10 : decode cX7_listen 10 = .ok (.invokevirtual 131, 3) := by decide +kernel
theorem dX7_listen_13 : decode cX7_listen 13 = .ok (.ifCond .eq 13, 3) := by decide +kernel
theorem dX7_listen_16 : decode cX7_listen 16 = .ok (.aload_n 0, 1) := by decide +kernel
theorem dX7_listen_17 : decode cX7_listen 17 = .ok (.getfield 17, 3) := by decide +kernel
theorem dX7_listen_20 : decode cX7_listen 20 = .ok (.iload_n 2, 1) := by decide +kernel
theorem dX7_listen_21 : decode cX7_listen 21 = .ok (.iaload, 1) := by decide +kernel
theorem dX7_listen_22 : decode cX7_listen 22 = .ok (.iload_n 1, 1) := by decide +kernel
theorem dX7_listen_23 : decode cX7_listen 23 = .ok (.if_icmp .ne 7, 3) := by decide +kernel
theorem dX7_listen_26 : decode cX7_listen 26 = .ok (.iconst 1, 1) := by decide +kernel
theorem dX7_listen_27 : decode cX7_listen 27 = .ok (.goto 4, 3) := by decide +kernel
theorem dX7_listen_30 : decode cX7_listen 30 = .ok (.iconst 0, 1) := by decide +kernel
theorem dX7_listen_31 : decode cX7_listen 31 = .ok (.putfield 117, 3) := by decide +kernel
theorem dX7_listen_34 : decode cX7_listen 34 = .ok (.aload_n 0, 1) := by decide +kernel
theorem dX7_listen_35 : decode cX7_listen 35 = .ok (.getfield 117, 3) := by decide +kernel
theorem dX7_listen_38 : decode cX7_listen 38 = .ok (.ifCond .le 5, 3) := by decide +kernel
theorem dX7_listen_41 : decode cX7_listen 41 = .ok (.iconst 0, 1) := by decide +kernel
theorem dX7_listen_42 : decode cX7_listen 42 = .ok (.ireturn, 1) := by decide +kernel
theorem dX7_listen_43 : decode cX7_listen 43 = .ok (.bipush 62, 2) := by decide +kernel
theorem dX7_listen_45 : decode cX7_listen 45 = .ok (.iload_n 1, 1) := by decide +kernel
theorem dX7_listen_46 : decode cX7_listen 46 = .ok (.imul, 1) := by decide +kernel
theorem dX7_listen_47 : decode cX7_listen 47 = .ok (.iload_n 2, 1) := by decide +kernel
theorem dX7_listen_48 : decode cX7_listen 48 = .ok (.iadd, 1) := by decide +kernel
theorem dX7_listen_49 : decode cX7_listen 49 = .ok (.istore 4, 2) := by decide +kernel
theorem dX7_listen_51 : decode cX7_listen 51 = .ok (.aload_n 0, 1) := by decide +kernel
theorem dX7_listen_52 : decode cX7_listen 52 = .ok (.getfield 26, 3) := by decide +kernel
theorem dX7_listen_55 : decode cX7_listen 55 = .ok (.iload 4, 2) := by decide +kernel
theorem dX7_listen_57 : decode cX7_listen 57 = .ok (.baload, 1) := by decide +kernel
theorem dX7_listen_58 : decode cX7_listen 58 = .ok (.istore 5, 2) := by decide +kernel
theorem dX7_listen_60 : decode cX7_listen 60 = .ok (.aload_n 0, 1) := by decide +kernel
theorem dX7_listen_61 : decode cX7_listen 61 = .ok (.getfield 26, 3) := by decide +kernel
theorem dX7_listen_64 : decode cX7_listen 64 = .ok (.iload 4, 2) := by decide +kernel
theorem dX7_listen_66 : decode cX7_listen 66 = .ok (.iload_n 3, 1) := by decide +kernel
theorem dX7_listen_67 : decode cX7_listen 67 = .ok (.bastore, 1) := by decide +kernel
theorem dX7_listen_68 : decode cX7_listen 68 = .ok (.iload_n 3, 1) := by decide +kernel
theorem dX7_listen_69 : decode cX7_listen 69 = .ok (.ifCond .eq 46, 3) := by decide +kernel
theorem dX7_listen_72 : decode cX7_listen 72 = .ok (.iload 5, 2) := by decide +kernel
theorem dX7_listen_74 : decode cX7_listen 74 = .ok (.ifCond .ne 41, 3) := by decide +kernel
theorem dX7_listen_77 : decode cX7_listen 77 = .ok (.aload_n 0, 1) := by decide +kernel
theorem dX7_listen_78 : decode cX7_listen 78 = .ok (.getfield 29, 3) := by decide +kernel
theorem dX7_listen_81 : decode cX7_listen 81 = .ok (.iload 4, 2) := by decide +kernel
theorem dX7_listen_83 : decode cX7_listen 83 = .ok (.iconst 0, 1) := by decide +kernel
theorem dX7_listen_84 : decode cX7_listen 84 = .ok (.iastore, 1) := by decide +kernel
theorem dX7_listen_85 : decode cX7_listen 85 = .ok (.iconst 0, 1) := by decide +kernel
theorem dX7_listen_86 : decode cX7_listen 86 = .ok (.istore 6, 2) := by decide +kernel
theorem dX7_listen_88 : decode cX7_listen 88 = .ok (.iload 6, 2) := by decide +kernel
theorem dX7_listen_90 : decode cX7_listen 90 = .ok (.bipush 8, 2) := by decide +kernel
theorem dX7_listen_92 : decode cX7_listen 92 = .ok (.if_icmp .ge 23, 3) := by decide +kernel
theorem dX7_listen_95 : decode cX7_listen 95 = .ok (.aload_n 0, 1) := by decide +kernel
theorem dX7_listen_96 : decode cX7_listen 96 = .ok (.getfield 32, 3) := by decide +kernel
theorem dX7_listen_99 : decode cX7_listen 99 = .ok (.bipush 8, 2) := by decide +kernel
theorem dX7_listen_101 : decode cX7_listen 101 = .ok (.iload 4, 2) := by decide +kernel
theorem dX7_listen_103 : decode cX7_listen 103 = .ok (.imul, 1) := by decide +kernel
theorem dX7_listen_104 : decode cX7_listen 104 = .ok (.iload 6, 2) := by decide +kernel
theorem dX7_listen_106 : decode cX7_listen 106 = .ok (.iadd, 1) := by decide +kernel
theorem dX7_listen_107 : decode cX7_listen 107 = .ok (.iconst 0, 1) := by decide +kernel
theorem dX7_listen_108 : decode cX7_listen 108 = .ok (.iastore, 1) := by decide +kernel
theorem dX7_listen_109 : decode cX7_listen 109 = .ok (.iinc 6 1, 3) := by decide +kernel
theorem dX7_listen_112 : decode cX7_listen 112 = .ok (.goto (-24), 3) := by decide +kernel
theorem dX7_listen_115 : decode cX7_listen 115 = .ok (.iload 5, 2) := by decide +kernel
theorem dX7_listen_117 : decode cX7_listen 117 = .ok (.ireturn, 1) := by decide +kernel
theorem dX7_status_0 : decode cX7_status 0 = .ok (.aload_n 0, 1) := by decide +kernel
theorem dX7_status_1 : decode cX7_status 1 = .ok (.iload_n 1, 1) := by decide +kernel
theorem dX7_status_2 : decode cX7_status 2 = .ok (.invokestatic 124, 3) := by decide +kernel
theorem dX7_status_5 : decode cX7_status 5 = .ok (.ifCond .eq 48, 3) := by decide +kernel
theorem dX7_status_8 : decode cX7_status 8 = .ok (.aload_n 0, 1) := by decide +kernel
theorem dX7_status_9 : decode cX7_status 9 = .ok (.iload_n 2, 1) := by decide +kernel
theorem dX7_status_10 : decode cX7_status 10 = .ok (.invokevirtual 131, 3) := by decide +kernel
theorem dX7_status_13 : decode cX7_status 13 = .ok (.ifCond .eq 40, 3) := by decide +kernel
theorem dX7_status_16 : decode cX7_status 16 = .ok (.aload_n 0, 1) := by decide +kernel
theorem dX7_status_17 : decode cX7_status 17 = .ok (.getfield 17, 3) := by decide +kernel
theorem dX7_status_20 : decode cX7_status 20 = .ok (.iload_n 2, 1) := by decide +kernel
theorem dX7_status_21 : decode cX7_status 21 = .ok (.iaload, 1) := by decide +kernel
theorem dX7_status_22 : decode cX7_status 22 = .ok (.iload_n 1, 1) := by decide +kernel
theorem dX7_status_23 : decode cX7_status 23 = .ok (.if_icmp .ne 30, 3) := by decide +kernel
theorem dX7_status_26 : decode cX7_status 26 = .ok (.iload_n 3, 1) := by decide +kernel
theorem dX7_status_27 : decode cX7_status 27 = .ok (.iconst 0, 1) := by decide +kernel
theorem dX7_status_28 : decode cX7_status 28 = .ok (.aload_n 0, 1) := by decide +kernel
theorem dX7_status_29 : decode cX7_status 29 = .ok (.getfield 13, 3) := by decide +kernel
theorem dX7_status_32 : decode cX7_status 32 = .ok (.iload_n 2, 1) := by decide +kernel
theorem dX7_status_33 : decode cX7_status 33 = .ok (.iaload, 1) := by decide +kernel
theorem dX7_status_34 : decode cX7_status 34 = .ok (.iconst 1, 1) := by decide +kernel
theorem dX7_status_35 : decode cX7_status 35 = .ok (.isub, 1) := by decide +kernel
theorem dX7_status_36 : decode cX7_status 36 = .ok (.invokestatic 120, 3) := by decide +kernel
theorem dX7_status_39 : decode cX7_status 39 = .ok (.ifCond .eq 14, 3) := by decide +kernel
theorem dX7_status_42 : decode cX7_status 42 = .ok (.iload 4, 2) := by decide +kernel
theorem dX7_status_44 : decode cX7_status 44 = .ok (.iconst 0, 1) := by decide +kernel
theorem dX7_status_45 : decode cX7_status 45 = .ok (.bipush 7, 2) := by decide +kernel
theorem dX7_status_47 : decode cX7_status 47 = .ok (.invokestatic 120, 3) := by decide +kernel
theorem dX7_status_50 : decode cX7_status 50 = .ok (.ifCond .ne 7, 3) := by decide +kernel
theorem dX7_status_53 : decode cX7_status 53 = .ok (.iconst 1, 1) := by decide +kernel
theorem dX7_status_54 : decode cX7_status 54 = .ok (.goto 4, 3) := by decide +kernel
theorem dX7_status_57 : decode cX7_status 57 = .ok (.iconst 0, 1) := by decide +kernel
theorem dX7_status_58 : decode cX7_status 58 = .ok (.putfield 117, 3) := by decide +kernel
theorem dX7_status_61 : decode cX7_status 61 = .ok (.aload_n 0, 1) := by decide +kernel
theorem dX7_status_62 : decode cX7_status 62 = .ok (.getfield 117, 3) := by decide +kernel
theorem dX7_status_65 : decode cX7_status 65 = .ok (.ifCond .ne 25, 3) := by decide +kernel
theorem dX7_status_68 : decode cX7_status 68 = .ok (.aload_n 0, 1) := by decide +kernel
theorem dX7_status_69 : decode cX7_status 69 = .ok (.getfield 44, 3) := by decide +kernel
theorem dX7_status_72 : decode cX7_status 72 = .ok (.iload_n 1, 1) := by decide +kernel
theorem dX7_status_73 : decode cX7_status 73 = .ok (.iload_n 2, 1) := by decide +kernel
theorem dX7_status_74 : decode cX7_status 74 = .ok (.iastore, 1) := by decide +kernel
theorem dX7_status_75 : decode cX7_status 75 = .ok (.aload_n 0, 1) := by decide +kernel
theorem dX7_status_76 : decode cX7_status 76 = .ok (.getfield 47, 3) := by decide +kernel
theorem dX7_status_79 : decode cX7_status 79 = .ok (.iload_n 1, 1) := by decide +kernel
theorem dX7_status_80 : decode cX7_status 80 = .ok (.iload_n 3, 1) := by decide +kernel
theorem dX7_status_81 : decode cX7_status 81 = .ok (.iastore, 1) := by decide +kernel
theorem dX7_status_82 : decode cX7_status 82 = .ok (.aload_n 0, 1) := by decide +kernel
theorem dX7_status_83 : decode cX7_status 83 = .ok (.getfield 50, 3) := by decide +kernel
theorem dX7_status_86 : decode cX7_status 86 = .ok (.iload_n 1, 1) := by decide +kernel
theorem dX7_status_87 : decode cX7_status 87 = .ok (.iload 4, 2) := by decide +kernel
theorem dX7_status_89 : decode cX7_status 89 = .ok (.iastore, 1) := by decide +kernel
theorem dX7_status_90 : decode cX7_status 90 = .ok (.return_, 1) := by decide +kernel
theorem dX7_space_0 : decode cX7_space 0 = .ok (.aload_n 0, 1) := by decide +kernel
theorem dX7_space_1 : decode cX7_space 1 = .ok (.iload_n 1, 1) := by decide +kernel
theorem dX7_space_2 : decode cX7_space 2 = .ok (.invokestatic 124, 3) := by decide +kernel
theorem dX7_space_5 : decode cX7_space 5 = .ok (.ifCond .eq 13, 3) := by decide +kernel
theorem dX7_space_8 : decode cX7_space 8 = .ok (.iload_n 2, 1) := by decide +kernel
theorem dX7_space_9 : decode cX7_space 9 = .ok (.iconst 0, 1) := by decide +kernel
theorem dX7_space_10 : decode cX7_space 10 = .ok (.bipush 8, 2) := by decide +kernel
theorem dX7_space_12 : decode cX7_space 12 = .ok (.invokestatic 120, 3) := by decide +kernel
theorem dX7_space_15 : decode cX7_space 15 = .ok (.ifCond .ne 7, 3) := by decide +kernel
theorem dX7_space_18 : decode cX7_space 18 = .ok (.iconst 1, 1) := by decide +kernel
theorem dX7_space_19 : decode cX7_space 19 = .ok (.goto 4, 3) := by decide +kernel
theorem dX7_space_22 : decode cX7_space 22 = .ok (.iconst 0, 1) := by decide +kernel
theorem dX7_space_23 : decode cX7_space 23 = .ok (.putfield 117, 3) := by decide +kernel
theorem dX7_space_26 : decode cX7_space 26 = .ok (.aload_n 0, 1) := by decide +kernel
theorem dX7_space_27 : decode cX7_space 27 = .ok (.getfield 117, 3) := by decide +kernel
theorem dX7_space_30 : decode cX7_space 30 = .ok (.ifCond .le 5, 3) := by decide +kernel
theorem dX7_space_33 : decode cX7_space 33 = .ok (.iconst 0, 1) := by decide +kernel
theorem dX7_space_34 : decode cX7_space 34 = .ok (.ireturn, 1) := by decide +kernel
theorem dX7_space_35 : decode cX7_space 35 = .ok (.aload_n 0, 1) := by decide +kernel
theorem dX7_space_36 : decode cX7_space 36 = .ok (.getfield 41, 3) := by decide +kernel
theorem dX7_space_39 : decode cX7_space 39 = .ok (.iload_n 1, 1) := by decide +kernel
theorem dX7_space_40 : decode cX7_space 40 = .ok (.iaload, 1) := by decide +kernel
theorem dX7_space_41 : decode cX7_space 41 = .ok (.istore_n 3, 1) := by decide +kernel
theorem dX7_space_42 : decode cX7_space 42 = .ok (.aload_n 0, 1) := by decide +kernel
theorem dX7_space_43 : decode cX7_space 43 = .ok (.getfield 41, 3) := by decide +kernel
theorem dX7_space_46 : decode cX7_space 46 = .ok (.iload_n 1, 1) := by decide +kernel
theorem dX7_space_47 : decode cX7_space 47 = .ok (.iload_n 2, 1) := by decide +kernel
theorem dX7_space_48 : decode cX7_space 48 = .ok (.iastore, 1) := by decide +kernel
theorem dX7_space_49 : decode cX7_space 49 = .ok (.iload_n 3, 1) := by decide +kernel
theorem dX7_space_50 : decode cX7_space 50 = .ok (.ireturn, 1) := by decide +kernel
theorem dX7_slot_0 : decode cX7_slot 0 = .ok (.aload_n 0, 1) := by decide +kernel
theorem dX7_slot_1 : decode cX7_slot 1 = .ok (.aload_n 0, 1) := by decide +kernel
theorem dX7_slot_2 : decode cX7_slot 2 = .ok (.iload_n 1, 1) := by decide +kernel
theorem dX7_slot_3 : decode cX7_slot 3 = .ok (.invokevirtual 131, 3) := by decide +kernel
theorem dX7_slot_6 : decode cX7_slot 6 = .ok (.ifCond .eq 15, 3) := by decide +kernel
theorem dX7_slot_9 : decode cX7_slot 9 = .ok (.iload_n 2, 1) := by decide +kernel
theorem dX7_slot_10 : decode cX7_slot 10 = .ok (.bipush 50, 2) := by decide +kernel
theorem dX7_slot_12 : decode cX7_slot 12 = .ok (.sipush 400, 3) := by decide +kernel
theorem dX7_slot_15 : decode cX7_slot 15 = .ok (.invokestatic 120, 3) := by decide +kernel
theorem dX7_slot_18 : decode cX7_slot 18 = .ok (.ifCond .ne 7, 3) := by decide +kernel
theorem dX7_slot_21 : decode cX7_slot 21 = .ok (.iconst 1, 1) := by decide +kernel
theorem dX7_slot_22 : decode cX7_slot 22 = .ok (.goto 24, 3) := by decide +kernel
theorem dX7_slot_25 : decode cX7_slot 25 = .ok (.aload_n 0, 1) := by decide +kernel
theorem dX7_slot_26 : decode cX7_slot 26 = .ok (.getfield 128, 3) := by decide +kernel
theorem dX7_slot_29 : decode cX7_slot 29 = .ok (.ifCond .gt 12, 3) := by decide +kernel
theorem dX7_slot_32 : decode cX7_slot 32 = .ok (.aload_n 0, 1) := by decide +kernel
theorem dX7_slot_33 : decode cX7_slot 33 = .ok (.getfield 134, 3) := by decide +kernel
theorem dX7_slot_36 : decode cX7_slot 36 = .ok (.bipush 16, 2) := by decide +kernel
theorem dX7_slot_38 : decode cX7_slot 38 = .ok (.if_icmp .ne 7, 3) := by decide +kernel
theorem dX7_slot_41 : decode cX7_slot 41 = .ok (.iconst 2, 1) := by decide +kernel
theorem dX7_slot_42 : decode cX7_slot 42 = .ok (.goto 4, 3) := by decide +kernel
theorem dX7_slot_45 : decode cX7_slot 45 = .ok (.iconst 0, 1) := by decide +kernel
theorem dX7_slot_46 : decode cX7_slot 46 = .ok (.putfield 117, 3) := by decide +kernel
theorem dX7_slot_49 : decode cX7_slot 49 = .ok (.aload_n 0, 1) := by decide +kernel
theorem dX7_slot_50 : decode cX7_slot 50 = .ok (.getfield 117, 3) := by decide +kernel
theorem dX7_slot_53 : decode cX7_slot 53 = .ok (.ifCond .le 5, 3) := by decide +kernel
theorem dX7_slot_56 : decode cX7_slot 56 = .ok (.iconst 0, 1) := by decide +kernel
theorem dX7_slot_57 : decode cX7_slot 57 = .ok (.ireturn, 1) := by decide +kernel
theorem dX7_slot_58 : decode cX7_slot 58 = .ok (.aload_n 0, 1) := by decide +kernel
theorem dX7_slot_59 : decode cX7_slot 59 = .ok (.getfield 35, 3) := by decide +kernel
theorem dX7_slot_62 : decode cX7_slot 62 = .ok (.aload_n 0, 1) := by decide +kernel
theorem dX7_slot_63 : decode cX7_slot 63 = .ok (.getfield 134, 3) := by decide +kernel
theorem dX7_slot_66 : decode cX7_slot 66 = .ok (.iload_n 1, 1) := by decide +kernel
theorem dX7_slot_67 : decode cX7_slot 67 = .ok (.iastore, 1) := by decide +kernel
theorem dX7_slot_68 : decode cX7_slot 68 = .ok (.aload_n 0, 1) := by decide +kernel
theorem dX7_slot_69 : decode cX7_slot 69 = .ok (.getfield 38, 3) := by decide +kernel
theorem dX7_slot_72 : decode cX7_slot 72 = .ok (.aload_n 0, 1) := by decide +kernel
theorem dX7_slot_73 : decode cX7_slot 73 = .ok (.getfield 134, 3) := by decide +kernel
theorem dX7_slot_76 : decode cX7_slot 76 = .ok (.iload_n 2, 1) := by decide +kernel
theorem dX7_slot_77 : decode cX7_slot 77 = .ok (.iastore, 1) := by decide +kernel
theorem dX7_slot_78 : decode cX7_slot 78 = .ok (.aload_n 0, 1) := by decide +kernel
theorem dX7_slot_79 : decode cX7_slot 79 = .ok (.dup, 1) := by decide +kernel
theorem dX7_slot_80 : decode cX7_slot 80 = .ok (.getfield 134, 3) := by decide +kernel
theorem dX7_slot_83 : decode cX7_slot 83 = .ok (.iconst 1, 1) := by decide +kernel
theorem dX7_slot_84 : decode cX7_slot 84 = .ok (.iadd, 1) := by decide +kernel
theorem dX7_slot_85 : decode cX7_slot 85 = .ok (.putfield 134, 3) := by decide +kernel
theorem dX7_slot_88 : decode cX7_slot 88 = .ok (.aload_n 0, 1) := by decide +kernel
theorem dX7_slot_89 : decode cX7_slot 89 = .ok (.getfield 134, 3) := by decide +kernel
theorem dX7_slot_92 : decode cX7_slot 92 = .ok (.iconst 1, 1) := by decide +kernel
theorem dX7_slot_93 : decode cX7_slot 93 = .ok (.isub, 1) := by decide +kernel
theorem dX7_slot_94 : decode cX7_slot 94 = .ok (.ireturn, 1) := by decide +kernel
theorem dX7_write_0 : decode cX7_write 0 = .ok (.aload_n 0, 1) := by decide +kernel
theorem dX7_write_1 : decode cX7_write 1 = .ok (.aload_n 0, 1) := by decide +kernel
theorem dX7_write_2 : decode cX7_write 2 = .ok (.iload_n 1, 1) := by decide +kernel
theorem dX7_write_3 : decode cX7_write 3 = .ok (.invokevirtual 131, 3) := by decide +kernel
theorem dX7_write_6 : decode cX7_write 6 = .ok (.ifCond .eq 30, 3) := by decide +kernel
theorem dX7_write_9 : decode cX7_write 9 = .ok (.iload_n 2, 1) := by decide +kernel
theorem dX7_write_10 : decode cX7_write 10 = .ok (.iconst 0, 1) := by decide +kernel
theorem dX7_write_11 : decode cX7_write 11 = .ok (.aload_n 0, 1) := by decide +kernel
theorem dX7_write_12 : decode cX7_write 12 = .ok (.getfield 13, 3) := by decide +kernel
theorem dX7_write_15 : decode cX7_write 15 = .ok (.iload_n 1, 1) := by decide +kernel
theorem dX7_write_16 : decode cX7_write 16 = .ok (.iaload, 1) := by decide +kernel
theorem dX7_write_17 : decode cX7_write 17 = .ok (.iconst 1, 1) := by decide +kernel
theorem dX7_write_18 : decode cX7_write 18 = .ok (.isub, 1) := by decide +kernel
theorem dX7_write_19 : decode cX7_write 19 = .ok (.invokestatic 120, 3) := by decide +kernel
theorem dX7_write_22 : decode cX7_write 22 = .ok (.ifCond .eq 14, 3) := by decide +kernel
theorem dX7_write_25 : decode cX7_write 25 = .ok (.iload_n 3, 1) := by decide +kernel
theorem dX7_write_26 : decode cX7_write 26 = .ok (.iconst 0, 1) := by decide +kernel
theorem dX7_write_27 : decode cX7_write 27 = .ok (.sipush 255, 3) := by decide +kernel
theorem dX7_write_30 : decode cX7_write 30 = .ok (.invokestatic 120, 3) := by decide +kernel
theorem dX7_write_33 : decode cX7_write 33 = .ok (.ifCond .ne 7, 3) := by decide +kernel
theorem dX7_write_36 : decode cX7_write 36 = .ok (.iconst 1, 1) := by decide +kernel
theorem dX7_write_37 : decode cX7_write 37 = .ok (.goto 4, 3) := by decide +kernel
theorem dX7_write_40 : decode cX7_write 40 = .ok (.iconst 0, 1) := by decide +kernel
theorem dX7_write_41 : decode cX7_write 41 = .ok (.putfield 117, 3) := by decide +kernel
theorem dX7_write_44 : decode cX7_write 44 = .ok (.aload_n 0, 1) := by decide +kernel
theorem dX7_write_45 : decode cX7_write 45 = .ok (.getfield 117, 3) := by decide +kernel
theorem dX7_write_48 : decode cX7_write 48 = .ok (.ifCond .le 5, 3) := by decide +kernel
theorem dX7_write_51 : decode cX7_write 51 = .ok (.iconst 0, 1) := by decide +kernel
theorem dX7_write_52 : decode cX7_write 52 = .ok (.ireturn, 1) := by decide +kernel
theorem dX7_write_53 : decode cX7_write 53 = .ok (.aload_n 0, 1) := by decide +kernel
theorem dX7_write_54 : decode cX7_write 54 = .ok (.getfield 23, 3) := by decide +kernel
theorem dX7_write_57 : decode cX7_write 57 = .ok (.bipush 8, 2) := by decide +kernel
theorem dX7_write_59 : decode cX7_write 59 = .ok (.iload_n 1, 1) := by decide +kernel
theorem dX7_write_60 : decode cX7_write 60 = .ok (.imul, 1) := by decide +kernel
theorem dX7_write_61 : decode cX7_write 61 = .ok (.iload_n 2, 1) := by decide +kernel
theorem dX7_write_62 : decode cX7_write 62 = .ok (.iadd, 1) := by decide +kernel
theorem dX7_write_63 : decode cX7_write 63 = .ok (.iaload, 1) := by decide +kernel
theorem dX7_write_64 : decode cX7_write 64 = .ok (.istore 4, 2) := by decide +kernel
theorem dX7_write_66 : decode cX7_write 66 = .ok (.aload_n 0, 1) := by decide +kernel
theorem dX7_write_67 : decode cX7_write 67 = .ok (.getfield 23, 3) := by decide +kernel
theorem dX7_write_70 : decode cX7_write 70 = .ok (.bipush 8, 2) := by decide +kernel
theorem dX7_write_72 : decode cX7_write 72 = .ok (.iload_n 1, 1) := by decide +kernel
theorem dX7_write_73 : decode cX7_write 73 = .ok (.imul, 1) := by decide +kernel
theorem dX7_write_74 : decode cX7_write 74 = .ok (.iload_n 2, 1) := by decide +kernel
theorem dX7_write_75 : decode cX7_write 75 = .ok (.iadd, 1) := by decide +kernel
theorem dX7_write_76 : decode cX7_write 76 = .ok (.iload_n 3, 1) := by decide +kernel
theorem dX7_write_77 : decode cX7_write 77 = .ok (.iastore, 1) := by decide +kernel
theorem dX7_write_78 : decode cX7_write 78 = .ok (.iload 4, 2) := by decide +kernel
theorem dX7_write_80 : decode cX7_write 80 = .ok (.ireturn, 1) := by decide +kernel
theorem dX7_disturb_0 : decode cX7_disturb 0 = .ok (.iconst 0, 1) := by decide +kernel
theorem dX7_disturb_1 : decode cX7_disturb 1 = .ok (.istore_n 3, 1) := by decide +kernel
theorem dX7_disturb_2 : decode cX7_disturb 2 = .ok (.iload_n 3, 1) := by decide +kernel
theorem dX7_disturb_3 : decode cX7_disturb 3 = .ok (.aload_n 0, 1) := by decide +kernel
theorem dX7_disturb_4 : decode cX7_disturb 4 = .ok (.getfield 137, 3) := by decide +kernel
theorem dX7_disturb_7 : decode cX7_disturb 7 = .ok (.if_icmp .ge 24, 3) := by decide +kernel
theorem dX7_disturb_10 : decode cX7_disturb 10 = .ok (.aload_n 0, 1) := by decide +kernel
theorem dX7_disturb_11 : decode cX7_disturb 11 = .ok (.getfield 111, 3) := by decide +kernel
theorem dX7_disturb_14 : decode cX7_disturb 14 = .ok (.iload_n 3, 1) := by decide +kernel
theorem dX7_disturb_15 : decode cX7_disturb 15 = .ok (.iaload, 1) := by decide +kernel
theorem dX7_disturb_16 : decode cX7_disturb 16 = .ok (.aload_n 0, 1) := by decide +kernel
theorem dX7_disturb_17 : decode cX7_disturb 17 = .ok (.getfield 128, 3) := by decide +kernel
theorem dX7_disturb_20 : decode cX7_disturb 20 = .ok (.iload_n 1, 1) := by decide +kernel
theorem dX7_disturb_21 : decode cX7_disturb 21 = .ok (.iadd, 1) := by decide +kernel
theorem dX7_disturb_22 : decode cX7_disturb 22 = .ok (.if_icmp .eq 9, 3) := by decide +kernel
theorem dX7_disturb_25 : decode cX7_disturb 25 = .ok (.iinc 3 1, 3) := by decide +kernel
theorem dX7_disturb_28 : decode cX7_disturb 28 = .ok (.goto (-26), 3) := by decide +kernel
theorem dX7_disturb_31 : decode cX7_disturb 31 = .ok (.aload_n 0, 1) := by decide +kernel
theorem dX7_disturb_32 : decode cX7_disturb 32 = .ok (.iload_n 1, 1) := by decide +kernel
theorem dX7_disturb_33 : decode cX7_disturb 33 = .ok (.iconst 0, 1) := by decide +kernel
theorem dX7_disturb_34 : decode cX7_disturb 34 = .ok (.sipush 4000, 3) := by decide +kernel
theorem dX7_disturb_37 : decode cX7_disturb 37 = .ok (.invokestatic 120, 3) := by decide +kernel
theorem dX7_disturb_40 : decode cX7_disturb 40 = .ok (.ifCond .eq 12, 3) := by decide +kernel
theorem dX7_disturb_43 : decode cX7_disturb 43 = .ok (.iload_n 2, 1) := by decide +kernel
theorem dX7_disturb_44 : decode cX7_disturb 44 = .ok (.iconst 0, 1) := by decide +kernel
theorem dX7_disturb_45 : decode cX7_disturb 45 = .ok (.iconst 1, 1) := by decide +kernel
theorem dX7_disturb_46 : decode cX7_disturb 46 = .ok (.invokestatic 120, 3) := by decide +kernel
theorem dX7_disturb_49 : decode cX7_disturb 49 = .ok (.ifCond .ne 7, 3) := by decide +kernel
theorem dX7_disturb_52 : decode cX7_disturb 52 = .ok (.iconst 1, 1) := by decide +kernel
theorem dX7_disturb_53 : decode cX7_disturb 53 = .ok (.goto 15, 3) := by decide +kernel
theorem dX7_disturb_56 : decode cX7_disturb 56 = .ok (.iload_n 3, 1) := by decide +kernel
theorem dX7_disturb_57 : decode cX7_disturb 57 = .ok (.sipush 200, 3) := by decide +kernel
theorem dX7_disturb_60 : decode cX7_disturb 60 = .ok (.if_icmp .ne 7, 3) := by decide +kernel
theorem dX7_disturb_63 : decode cX7_disturb 63 = .ok (.iconst 2, 1) := by decide +kernel
theorem dX7_disturb_64 : decode cX7_disturb 64 = .ok (.goto 4, 3) := by decide +kernel
theorem dX7_disturb_67 : decode cX7_disturb 67 = .ok (.iconst 0, 1) := by decide +kernel
theorem dX7_disturb_68 : decode cX7_disturb 68 = .ok (.putfield 117, 3) := by decide +kernel
theorem dX7_disturb_71 : decode cX7_disturb 71 = .ok (.aload_n 0, 1) := by decide +kernel
theorem dX7_disturb_72 : decode cX7_disturb 72 = .ok (.getfield 117, 3) := by decide +kernel
theorem dX7_disturb_75 : decode cX7_disturb 75 = .ok (.ifCond .le 4, 3) := by decide +kernel
theorem dX7_disturb_78 : decode cX7_disturb 78 = .ok (.return_, 1) := by decide +kernel
theorem dX7_disturb_79 : decode cX7_disturb 79 = .ok (.aload_n 0, 1) := by decide +kernel
theorem dX7_disturb_80 : decode cX7_disturb 80 = .ok (.getfield 111, 3) := by decide +kernel
theorem dX7_disturb_83 : decode cX7_disturb 83 = .ok (.iload_n 3, 1) := by decide +kernel
theorem dX7_disturb_84 : decode cX7_disturb 84 = .ok (.aload_n 0, 1) := by decide +kernel
theorem dX7_disturb_85 : decode cX7_disturb 85 = .ok (.getfield 128, 3) := by decide +kernel
theorem dX7_disturb_88 : decode cX7_disturb 88 = .ok (.iload_n 1, 1) := by decide +kernel
theorem dX7_disturb_89 : decode cX7_disturb 89 = .ok (.iadd, 1) := by decide +kernel
theorem dX7_disturb_90 : decode cX7_disturb 90 = .ok (.iastore, 1) := by decide +kernel
theorem dX7_disturb_91 : decode cX7_disturb 91 = .ok (.aload_n 0, 1) := by decide +kernel
theorem dX7_disturb_92 : decode cX7_disturb 92 = .ok (.getfield 114, 3) := by decide +kernel
theorem dX7_disturb_95 : decode cX7_disturb 95 = .ok (.iload_n 3, 1) := by decide +kernel
theorem dX7_disturb_96 : decode cX7_disturb 96 = .ok (.iload_n 2, 1) := by decide +kernel
theorem dX7_disturb_97 : decode cX7_disturb 97 = .ok (.iastore, 1) := by decide +kernel
theorem dX7_disturb_98 : decode cX7_disturb 98 = .ok (.aload_n 0, 1) := by decide +kernel
theorem dX7_disturb_99 : decode cX7_disturb 99 = .ok (.iload_n 3, 1) := by decide +kernel
theorem dX7_disturb_100 : decode cX7_disturb 100 = .ok (.aload_n 0, 1) := by decide +kernel
theorem dX7_disturb_101 : decode cX7_disturb 101 = .ok (.getfield 137, 3) := by decide +kernel
theorem dX7_disturb_104 : decode cX7_disturb 104 = .ok (.if_icmp .ne 12, 3) := by decide +kernel
theorem dX7_disturb_107 : decode cX7_disturb 107 = .ok (.aload_n 0, 1) := by decide +kernel
theorem dX7_disturb_108 : decode cX7_disturb 108 = .ok (.getfield 137, 3) := by decide +kernel
theorem dX7_disturb_111 : decode cX7_disturb 111 = .ok (.iconst 1, 1) := by decide +kernel
theorem dX7_disturb_112 : decode cX7_disturb 112 = .ok (.iadd, 1) := by decide +kernel
theorem dX7_disturb_113 : decode cX7_disturb 113 = .ok (.goto 7, 3) := by decide +kernel
theorem dX7_disturb_116 : decode cX7_disturb 116 = .ok (.aload_n 0, 1) := by decide +kernel
theorem dX7_disturb_117 : decode cX7_disturb 117 = .ok (.getfield 137, 3) := by decide +kernel
theorem dX7_disturb_120 : decode cX7_disturb 120 = .ok (.putfield 137, 3) := by decide +kernel
theorem dX7_disturb_123 : decode cX7_disturb 123 = .ok (.return_, 1) := by decide +kernel
theorem dX7_wake_0 : decode cX7_wake 0 = .ok (.aload_n 0, 1) := by decide +kernel
theorem dX7_wake_1 : decode cX7_wake 1 = .ok (.iload_n 1, 1) := by decide +kernel
theorem dX7_wake_2 : decode cX7_wake 2 = .ok (.invokestatic 124, 3) := by decide +kernel
theorem dX7_wake_5 : decode cX7_wake 5 = .ok (.ifCond .eq 7, 3) := by decide +kernel
theorem dX7_wake_8 : decode cX7_wake 8 = .ok (.iconst 0, 1) := by decide +kernel
theorem dX7_wake_9 : decode cX7_wake 9 = .ok (.goto 4, 3) := by decide +kernel
theorem dX7_wake_12 : decode cX7_wake 12 = .ok (.iconst 1, 1) := by decide +kernel
theorem dX7_wake_13 : decode cX7_wake 13 = .ok (.putfield 117, 3) := by decide +kernel
theorem dX7_wake_16 : decode cX7_wake 16 = .ok (.aload_n 0, 1) := by decide +kernel
theorem dX7_wake_17 : decode cX7_wake 17 = .ok (.getfield 117, 3) := by decide +kernel
theorem dX7_wake_20 : decode cX7_wake 20 = .ok (.ifCond .ne 11, 3) := by decide +kernel
theorem dX7_wake_23 : decode cX7_wake 23 = .ok (.aload_n 0, 1) := by decide +kernel
theorem dX7_wake_24 : decode cX7_wake 24 = .ok (.getfield 77, 3) := by decide +kernel
theorem dX7_wake_27 : decode cX7_wake 27 = .ok (.iload_n 1, 1) := by decide +kernel
theorem dX7_wake_28 : decode cX7_wake 28 = .ok (.bipush 8, 2) := by decide +kernel
theorem dX7_wake_30 : decode cX7_wake 30 = .ok (.iastore, 1) := by decide +kernel
theorem dX7_wake_31 : decode cX7_wake 31 = .ok (.return_, 1) := by decide +kernel
theorem dX7_run_0 : decode cX7_run 0 = .ok (.aload_n 0, 1) := by decide +kernel
theorem dX7_run_1 : decode cX7_run 1 = .ok (.iload_n 1, 1) := by decide +kernel
theorem dX7_run_2 : decode cX7_run 2 = .ok (.iconst 1, 1) := by decide +kernel
theorem dX7_run_3 : decode cX7_run 3 = .ok (.sipush 2000, 3) := by decide +kernel
theorem dX7_run_6 : decode cX7_run 6 = .ok (.invokestatic 120, 3) := by decide +kernel
theorem dX7_run_9 : decode cX7_run 9 = .ok (.ifCond .ne 7, 3) := by decide +kernel
theorem dX7_run_12 : decode cX7_run 12 = .ok (.iconst 1, 1) := by decide +kernel
theorem dX7_run_13 : decode cX7_run 13 = .ok (.goto 19, 3) := by decide +kernel
theorem dX7_run_16 : decode cX7_run 16 = .ok (.aload_n 0, 1) := by decide +kernel
theorem dX7_run_17 : decode cX7_run 17 = .ok (.getfield 128, 3) := by decide +kernel
theorem dX7_run_20 : decode cX7_run 20 = .ok (.iload_n 1, 1) := by decide +kernel
theorem dX7_run_21 : decode cX7_run 21 = .ok (.iadd, 1) := by decide +kernel
theorem dX7_run_22 : decode cX7_run 22 = .ok (.ldc 140, 2) := by decide +kernel
theorem dX7_run_24 : decode cX7_run 24 = .ok (.if_icmp .le 7, 3) := by decide +kernel
theorem dX7_run_27 : decode cX7_run 27 = .ok (.iconst 2, 1) := by decide +kernel
theorem dX7_run_28 : decode cX7_run 28 = .ok (.goto 4, 3) := by decide +kernel
theorem dX7_run_31 : decode cX7_run 31 = .ok (.iconst 0, 1) := by decide +kernel
theorem dX7_run_32 : decode cX7_run 32 = .ok (.putfield 117, 3) := by decide +kernel
theorem dX7_run_35 : decode cX7_run 35 = .ok (.aload_n 0, 1) := by decide +kernel
theorem dX7_run_36 : decode cX7_run 36 = .ok (.getfield 117, 3) := by decide +kernel
theorem dX7_run_39 : decode cX7_run 39 = .ok (.ifCond .le 5, 3) := by decide +kernel
theorem dX7_run_42 : decode cX7_run 42 = .ok (.iconst 0, 1) := by decide +kernel
theorem dX7_run_43 : decode cX7_run 43 = .ok (.ireturn, 1) := by decide +kernel
theorem dX7_run_44 : decode cX7_run 44 = .ok (.iconst 0, 1) := by decide +kernel
theorem dX7_run_45 : decode cX7_run 45 = .ok (.istore_n 2, 1) := by decide +kernel
theorem dX7_run_46 : decode cX7_run 46 = .ok (.iload_n 2, 1) := by decide +kernel
theorem dX7_run_47 : decode cX7_run 47 = .ok (.iload_n 1, 1) := by decide +kernel
theorem dX7_run_48 : decode cX7_run 48 = .ok (.if_icmp .ge 13, 3) := by decide +kernel
theorem dX7_run_51 : decode cX7_run 51 = .ok (.aload_n 0, 1) := by decide +kernel
theorem dX7_run_52 : decode cX7_run 52 = .ok (.invokevirtual 141, 3) := by decide +kernel
theorem dX7_run_55 : decode cX7_run 55 = .ok (.iinc 2 1, 3) := by decide +kernel
theorem dX7_run_58 : decode cX7_run 58 = .ok (.goto (-12), 3) := by decide +kernel
theorem dX7_run_61 : decode cX7_run 61 = .ok (.aload_n 0, 1) := by decide +kernel
theorem dX7_run_62 : decode cX7_run 62 = .ok (.getfield 128, 3) := by decide +kernel
theorem dX7_run_65 : decode cX7_run 65 = .ok (.ireturn, 1) := by decide +kernel
theorem dX7_bitTime_0 : decode cX7_bitTime 0 = .ok (.aload_n 0, 1) := by decide +kernel
theorem dX7_bitTime_1 : decode cX7_bitTime 1 = .ok (.invokevirtual 144, 3) := by decide +kernel
theorem dX7_bitTime_4 : decode cX7_bitTime 4 = .ok (.aload_n 0, 1) := by decide +kernel
theorem dX7_bitTime_5 : decode cX7_bitTime 5 = .ok (.getfield 104, 3) := by decide +kernel
theorem dX7_bitTime_8 : decode cX7_bitTime 8 = .ok (.iconst (-1), 1) := by decide +kernel
theorem dX7_bitTime_9 : decode cX7_bitTime 9 = .ok (.if_icmp .eq 33, 3) := by decide +kernel
theorem dX7_bitTime_12 : decode cX7_bitTime 12 = .ok (.aload_n 0, 1) := by decide +kernel
theorem dX7_bitTime_13 : decode cX7_bitTime 13 = .ok (.getfield 128, 3) := by decide +kernel
theorem dX7_bitTime_16 : decode cX7_bitTime 16 = .ok (.aload_n 0, 1) := by decide +kernel
theorem dX7_bitTime_17 : decode cX7_bitTime 17 = .ok (.getfield 147, 3) := by decide +kernel
theorem dX7_bitTime_20 : decode cX7_bitTime 20 = .ok (.isub, 1) := by decide +kernel
theorem dX7_bitTime_21 : decode cX7_bitTime 21 = .ok (.bipush 34, 2) := by decide +kernel
theorem dX7_bitTime_23 : decode cX7_bitTime 23 = .ok (.if_icmp .ge 19, 3) := by decide +kernel
theorem dX7_bitTime_26 : decode cX7_bitTime 26 = .ok (.aload_n 0, 1) := by decide +kernel
theorem dX7_bitTime_27 : decode cX7_bitTime 27 = .ok (.aload_n 0, 1) := by decide +kernel
theorem dX7_bitTime_28 : decode cX7_bitTime 28 = .ok (.getfield 128, 3) := by decide +kernel
theorem dX7_bitTime_31 : decode cX7_bitTime 31 = .ok (.aload_n 0, 1) := by decide +kernel
theorem dX7_bitTime_32 : decode cX7_bitTime 32 = .ok (.getfield 147, 3) := by decide +kernel
theorem dX7_bitTime_35 : decode cX7_bitTime 35 = .ok (.isub, 1) := by decide +kernel
theorem dX7_bitTime_36 : decode cX7_bitTime 36 = .ok (.invokevirtual 150, 3) := by decide +kernel
theorem dX7_bitTime_39 : decode cX7_bitTime 39 = .ok (.goto 4, 3) := by decide +kernel
theorem dX7_bitTime_42 : decode cX7_bitTime 42 = .ok (.iconst 1, 1) := by decide +kernel
theorem dX7_bitTime_43 : decode cX7_bitTime 43 = .ok (.istore_n 1, 1) := by decide +kernel
theorem dX7_bitTime_44 : decode cX7_bitTime 44 = .ok (.iconst 0, 1) := by decide +kernel
theorem dX7_bitTime_45 : decode cX7_bitTime 45 = .ok (.istore_n 2, 1) := by decide +kernel
theorem dX7_bitTime_46 : decode cX7_bitTime 46 = .ok (.iload_n 2, 1) := by decide +kernel
theorem dX7_bitTime_47 : decode cX7_bitTime 47 = .ok (.bipush 8, 2) := by decide +kernel
theorem dX7_bitTime_49 : decode cX7_bitTime 49 = .ok (.if_icmp .ge 59, 3) := by decide +kernel
theorem dX7_bitTime_52 : decode cX7_bitTime 52 = .ok (.aload_n 0, 1) := by decide +kernel
theorem dX7_bitTime_53 : decode cX7_bitTime 53 = .ok (.getfield 77, 3) := by decide +kernel
theorem dX7_bitTime_56 : decode cX7_bitTime 56 = .ok (.iload_n 2, 1) := by decide +kernel
theorem dX7_bitTime_57 : decode cX7_bitTime 57 = .ok (.iaload, 1) := by decide +kernel
theorem dX7_bitTime_58 : decode cX7_bitTime 58 = .ok (.ifCond .le 15, 3) := by decide +kernel
theorem dX7_bitTime_61 : decode cX7_bitTime 61 = .ok (.aload_n 0, 1) := by decide +kernel
theorem dX7_bitTime_62 : decode cX7_bitTime 62 = .ok (.getfield 77, 3) := by decide +kernel
theorem dX7_bitTime_65 : decode cX7_bitTime 65 = .ok (.iload_n 2, 1) := by decide +kernel
theorem dX7_bitTime_66 : decode cX7_bitTime 66 = .ok (.dup2, 1) := by decide +kernel
theorem dX7_bitTime_67 : decode cX7_bitTime 67 = .ok (.iaload, 1) := by decide +kernel
theorem dX7_bitTime_68 : decode cX7_bitTime 68 = .ok (.iconst 1, 1) := by decide +kernel
theorem dX7_bitTime_69 : decode cX7_bitTime 69 = .ok (.isub, 1) := by decide +kernel
theorem dX7_bitTime_70 : decode cX7_bitTime 70 = .ok (.iastore, 1) := by decide +kernel
theorem dX7_bitTime_71 : decode cX7_bitTime 71 = .ok (.iconst 0, 1) := by decide +kernel
theorem dX7_bitTime_72 : decode cX7_bitTime 72 = .ok (.istore_n 1, 1) := by decide +kernel
theorem dX7_bitTime_73 : decode cX7_bitTime 73 = .ok (.aload_n 0, 1) := by decide +kernel
theorem dX7_bitTime_74 : decode cX7_bitTime 74 = .ok (.getfield 53, 3) := by decide +kernel
theorem dX7_bitTime_77 : decode cX7_bitTime 77 = .ok (.iload_n 2, 1) := by decide +kernel
theorem dX7_bitTime_78 : decode cX7_bitTime 78 = .ok (.iaload, 1) := by decide +kernel
theorem dX7_bitTime_79 : decode cX7_bitTime 79 = .ok (.iconst 4, 1) := by decide +kernel
theorem dX7_bitTime_80 : decode cX7_bitTime 80 = .ok (.if_icmp .ne 22, 3) := by decide +kernel
theorem dX7_bitTime_83 : decode cX7_bitTime 83 = .ok (.aload_n 0, 1) := by decide +kernel
theorem dX7_bitTime_84 : decode cX7_bitTime 84 = .ok (.getfield 98, 3) := by decide +kernel
theorem dX7_bitTime_87 : decode cX7_bitTime 87 = .ok (.iload_n 2, 1) := by decide +kernel
theorem dX7_bitTime_88 : decode cX7_bitTime 88 = .ok (.iaload, 1) := by decide +kernel
theorem dX7_bitTime_89 : decode cX7_bitTime 89 = .ok (.ifCond .ne 13, 3) := by decide +kernel
theorem dX7_bitTime_92 : decode cX7_bitTime 92 = .ok (.aload_n 0, 1) := by decide +kernel
theorem dX7_bitTime_93 : decode cX7_bitTime 93 = .ok (.iload_n 2, 1) := by decide +kernel
theorem dX7_bitTime_94 : decode cX7_bitTime 94 = .ok (.invokevirtual 154, 3) := by decide +kernel
theorem dX7_bitTime_97 : decode cX7_bitTime 97 = .ok (.ifCond .ne 5, 3) := by decide +kernel
theorem dX7_bitTime_100 : decode cX7_bitTime 100 = .ok (.iconst 0, 1) := by decide +kernel
theorem dX7_bitTime_101 : decode cX7_bitTime 101 = .ok (.istore_n 1, 1) := by decide +kernel
theorem dX7_bitTime_102 : decode cX7_bitTime 102 = .ok (.iinc 2 1, 3) := by decide +kernel
theorem dX7_bitTime_105 : decode cX7_bitTime 105 = .ok (.goto (-59), 3) := by decide +kernel
theorem dX7_bitTime_108 : decode cX7_bitTime 108 = .ok (.iconst 0, 1) := by decide +kernel
theorem dX7_bitTime_109 : decode cX7_bitTime 109 = .ok (.istore_n 2, 1) := by decide +kernel
theorem dX7_bitTime_110 : decode cX7_bitTime 110 = .ok (.iload_n 2, 1) := by decide +kernel
theorem dX7_bitTime_111 : decode cX7_bitTime 111 = .ok (.aload_n 0, 1) := by decide +kernel
theorem dX7_bitTime_112 : decode cX7_bitTime 112 = .ok (.getfield 137, 3) := by decide +kernel
theorem dX7_bitTime_115 : decode cX7_bitTime 115 = .ok (.if_icmp .ge 74, 3) := by decide +kernel
theorem dX7_bitTime_118 : decode cX7_bitTime 118 = .ok (.aload_n 0, 1) := by decide +kernel
theorem dX7_bitTime_119 : decode cX7_bitTime 119 = .ok (.getfield 111, 3) := by decide +kernel
theorem dX7_bitTime_122 : decode cX7_bitTime 122 = .ok (.iload_n 2, 1) := by decide +kernel
theorem dX7_bitTime_123 : decode cX7_bitTime 123 = .ok (.iaload, 1) := by decide +kernel
theorem dX7_bitTime_124 : decode cX7_bitTime 124 = .ok (.aload_n 0, 1) := by decide +kernel
theorem dX7_bitTime_125 : decode cX7_bitTime 125 = .ok (.getfield 128, 3) := by decide +kernel
theorem dX7_bitTime_128 : decode cX7_bitTime 128 = .ok (.if_icmp .ne 55, 3) := by decide +kernel
theorem dX7_bitTime_131 : decode cX7_bitTime 131 = .ok (.aload_n 0, 1) := by decide +kernel
theorem dX7_bitTime_132 : decode cX7_bitTime 132 = .ok (.getfield 114, 3) := by decide +kernel
theorem dX7_bitTime_135 : decode cX7_bitTime 135 = .ok (.iload_n 2, 1) := by decide +kernel
theorem dX7_bitTime_136 : decode cX7_bitTime 136 = .ok (.iaload, 1) := by decide +kernel
theorem dX7_bitTime_137 : decode cX7_bitTime 137 = .ok (.istore_n 1, 1) := by decide +kernel
theorem dX7_bitTime_138 : decode cX7_bitTime 138 = .ok (.aload_n 0, 1) := by decide +kernel
theorem dX7_bitTime_139 : decode cX7_bitTime 139 = .ok (.dup, 1) := by decide +kernel
theorem dX7_bitTime_140 : decode cX7_bitTime 140 = .ok (.getfield 137, 3) := by decide +kernel
theorem dX7_bitTime_143 : decode cX7_bitTime 143 = .ok (.iconst 1, 1) := by decide +kernel
theorem dX7_bitTime_144 : decode cX7_bitTime 144 = .ok (.isub, 1) := by decide +kernel
theorem dX7_bitTime_145 : decode cX7_bitTime 145 = .ok (.putfield 137, 3) := by decide +kernel
theorem dX7_bitTime_148 : decode cX7_bitTime 148 = .ok (.aload_n 0, 1) := by decide +kernel
theorem dX7_bitTime_149 : decode cX7_bitTime 149 = .ok (.getfield 111, 3) := by decide +kernel
theorem dX7_bitTime_152 : decode cX7_bitTime 152 = .ok (.iload_n 2, 1) := by decide +kernel
theorem dX7_bitTime_153 : decode cX7_bitTime 153 = .ok (.aload_n 0, 1) := by decide +kernel
theorem dX7_bitTime_154 : decode cX7_bitTime 154 = .ok (.getfield 111, 3) := by decide +kernel
theorem dX7_bitTime_157 : decode cX7_bitTime 157 = .ok (.aload_n 0, 1) := by decide +kernel
theorem dX7_bitTime_158 : decode cX7_bitTime 158 = .ok (.getfield 137, 3) := by decide +kernel
theorem dX7_bitTime_161 : decode cX7_bitTime 161 = .ok (.iaload, 1) := by decide +kernel
theorem dX7_bitTime_162 : decode cX7_bitTime 162 = .ok (.iastore, 1) := by decide +kernel
theorem dX7_bitTime_163 : decode cX7_bitTime 163 = .ok (.aload_n 0, 1) := by decide +kernel
theorem dX7_bitTime_164 : decode cX7_bitTime 164 = .ok (.getfield 114, 3) := by decide +kernel
theorem dX7_bitTime_167 : decode cX7_bitTime 167 = .ok (.iload_n 2, 1) := by decide +kernel
theorem dX7_bitTime_168 : decode cX7_bitTime 168 = .ok (.aload_n 0, 1) := by decide +kernel
theorem dX7_bitTime_169 : decode cX7_bitTime 169 = .ok (.getfield 114, 3) := by decide +kernel
theorem dX7_bitTime_172 : decode cX7_bitTime 172 = .ok (.aload_n 0, 1) := by decide +kernel
theorem dX7_bitTime_173 : decode cX7_bitTime 173 = .ok (.getfield 137, 3) := by decide +kernel
theorem dX7_bitTime_176 : decode cX7_bitTime 176 = .ok (.iaload, 1) := by decide +kernel
theorem dX7_bitTime_177 : decode cX7_bitTime 177 = .ok (.iastore, 1) := by decide +kernel
theorem dX7_bitTime_178 : decode cX7_bitTime 178 = .ok (.aload_n 0, 1) := by decide +kernel
theorem dX7_bitTime_179 : decode cX7_bitTime 179 = .ok (.getfield 137, 3) := by decide +kernel
theorem dX7_bitTime_182 : decode cX7_bitTime 182 = .ok (.istore_n 2, 1) := by decide +kernel
theorem dX7_bitTime_183 : decode cX7_bitTime 183 = .ok (.iinc 2 1, 3) := by decide +kernel
theorem dX7_bitTime_186 : decode cX7_bitTime 186 = .ok (.goto (-76), 3) := by decide +kernel
theorem dX7_bitTime_189 : decode cX7_bitTime 189 = .ok (.aload_n 0, 1) := by decide +kernel
theorem dX7_bitTime_190 : decode cX7_bitTime 190 = .ok (.getfield 108, 3) := by decide +kernel
theorem dX7_bitTime_193 : decode cX7_bitTime 193 = .ok (.aload_n 0, 1) := by decide +kernel
theorem dX7_bitTime_194 : decode cX7_bitTime 194 = .ok (.getfield 128, 3) := by decide +kernel
theorem dX7_bitTime_197 : decode cX7_bitTime 197 = .ok (.bipush 64, 2) := by decide +kernel
theorem dX7_bitTime_199 : decode cX7_bitTime 199 = .ok (.irem, 1) := by decide +kernel
theorem dX7_bitTime_200 : decode cX7_bitTime 200 = .ok (.iload_n 1, 1) := by decide +kernel
theorem dX7_bitTime_201 : decode cX7_bitTime 201 = .ok (.iastore, 1) := by decide +kernel
theorem dX7_bitTime_202 : decode cX7_bitTime 202 = .ok (.iconst 0, 1) := by decide +kernel
theorem dX7_bitTime_203 : decode cX7_bitTime 203 = .ok (.istore_n 2, 1) := by decide +kernel
theorem dX7_bitTime_204 : decode cX7_bitTime 204 = .ok (.iload_n 2, 1) := by decide +kernel
theorem dX7_bitTime_205 : decode cX7_bitTime 205 = .ok (.bipush 8, 2) := by decide +kernel
theorem dX7_bitTime_207 : decode cX7_bitTime 207 = .ok (.if_icmp .ge 15, 3) := by decide +kernel
theorem dX7_bitTime_210 : decode cX7_bitTime 210 = .ok (.aload_n 0, 1) := by decide +kernel
theorem dX7_bitTime_211 : decode cX7_bitTime 211 = .ok (.iload_n 2, 1) := by decide +kernel
theorem dX7_bitTime_212 : decode cX7_bitTime 212 = .ok (.iload_n 1, 1) := by decide +kernel
theorem dX7_bitTime_213 : decode cX7_bitTime 213 = .ok (.invokevirtual 157, 3) := by decide +kernel
theorem dX7_bitTime_216 : decode cX7_bitTime 216 = .ok (.iinc 2 1, 3) := by decide +kernel
theorem dX7_bitTime_219 : decode cX7_bitTime 219 = .ok (.goto (-15), 3) := by decide +kernel
theorem dX7_bitTime_222 : decode cX7_bitTime 222 = .ok (.aload_n 0, 1) := by decide +kernel
theorem dX7_bitTime_223 : decode cX7_bitTime 223 = .ok (.dup, 1) := by decide +kernel
theorem dX7_bitTime_224 : decode cX7_bitTime 224 = .ok (.getfield 128, 3) := by decide +kernel
theorem dX7_bitTime_227 : decode cX7_bitTime 227 = .ok (.iconst 1, 1) := by decide +kernel
theorem dX7_bitTime_228 : decode cX7_bitTime 228 = .ok (.iadd, 1) := by decide +kernel
theorem dX7_bitTime_229 : decode cX7_bitTime 229 = .ok (.putfield 128, 3) := by decide +kernel
theorem dX7_bitTime_232 : decode cX7_bitTime 232 = .ok (.return_, 1) := by decide +kernel
theorem dX7_schedule_0 : decode cX7_schedule 0 = .ok (.aload_n 0, 1) := by decide +kernel
theorem dX7_schedule_1 : decode cX7_schedule 1 = .ok (.getfield 53, 3) := by decide +kernel
theorem dX7_schedule_4 : decode cX7_schedule 4 = .ok (.iconst 0, 1) := by decide +kernel
theorem dX7_schedule_5 : decode cX7_schedule 5 = .ok (.iaload, 1) := by decide +kernel
theorem dX7_schedule_6 : decode cX7_schedule 6 = .ok (.ifCond .eq 10, 3) := by decide +kernel
theorem dX7_schedule_9 : decode cX7_schedule 9 = .ok (.aload_n 0, 1) := by decide +kernel
theorem dX7_schedule_10 : decode cX7_schedule 10 = .ok (.getfield 134, 3) := by decide +kernel
theorem dX7_schedule_13 : decode cX7_schedule 13 = .ok (.ifCond .ne 4, 3) := by decide +kernel
theorem dX7_schedule_16 : decode cX7_schedule 16 = .ok (.return_, 1) := by decide +kernel
theorem dX7_schedule_17 : decode cX7_schedule 17 = .ok (.aload_n 0, 1) := by decide +kernel
theorem dX7_schedule_18 : decode cX7_schedule 18 = .ok (.getfield 104, 3) := by decide +kernel
theorem dX7_schedule_21 : decode cX7_schedule 21 = .ok (.iconst (-1), 1) := by decide +kernel
theorem dX7_schedule_22 : decode cX7_schedule 22 = .ok (.if_icmp .ne 22, 3) := by decide +kernel
theorem dX7_schedule_25 : decode cX7_schedule 25 = .ok (.aload_n 0, 1) := by decide +kernel
theorem dX7_schedule_26 : decode cX7_schedule 26 = .ok (.getfield 128, 3) := by decide +kernel
theorem dX7_schedule_29 : decode cX7_schedule 29 = .ok (.aload_n 0, 1) := by decide +kernel
theorem dX7_schedule_30 : decode cX7_schedule 30 = .ok (.getfield 161, 3) := by decide +kernel
theorem dX7_schedule_33 : decode cX7_schedule 33 = .ok (.if_icmp .lt 11, 3) := by decide +kernel
theorem dX7_schedule_36 : decode cX7_schedule 36 = .ok (.aload_n 0, 1) := by decide +kernel
theorem dX7_schedule_37 : decode cX7_schedule 37 = .ok (.iconst 0, 1) := by decide +kernel
theorem dX7_schedule_38 : decode cX7_schedule 38 = .ok (.invokevirtual 164, 3) := by decide +kernel
theorem dX7_schedule_41 : decode cX7_schedule 41 = .ok (.goto 47, 3) := by decide +kernel
theorem dX7_schedule_44 : decode cX7_schedule 44 = .ok (.aload_n 0, 1) := by decide +kernel
theorem dX7_schedule_45 : decode cX7_schedule 45 = .ok (.getfield 104, 3) := by decide +kernel
theorem dX7_schedule_48 : decode cX7_schedule 48 = .ok (.iconst (-1), 1) := by decide +kernel
theorem dX7_schedule_49 : decode cX7_schedule 49 = .ok (.if_icmp .eq 39, 3) := by decide +kernel
theorem dX7_schedule_52 : decode cX7_schedule 52 = .ok (.aload_n 0, 1) := by decide +kernel
theorem dX7_schedule_53 : decode cX7_schedule 53 = .ok (.getfield 128, 3) := by decide +kernel
theorem dX7_schedule_56 : decode cX7_schedule 56 = .ok (.aload_n 0, 1) := by decide +kernel
theorem dX7_schedule_57 : decode cX7_schedule 57 = .ok (.getfield 147, 3) := by decide +kernel
theorem dX7_schedule_60 : decode cX7_schedule 60 = .ok (.isub, 1) := by decide +kernel
theorem dX7_schedule_61 : decode cX7_schedule 61 = .ok (.aload_n 0, 1) := by decide +kernel
theorem dX7_schedule_62 : decode cX7_schedule 62 = .ok (.getfield 38, 3) := by decide +kernel
theorem dX7_schedule_65 : decode cX7_schedule 65 = .ok (.aload_n 0, 1) := by decide +kernel
theorem dX7_schedule_66 : decode cX7_schedule 66 = .ok (.getfield 104, 3) := by decide +kernel
theorem dX7_schedule_69 : decode cX7_schedule 69 = .ok (.iaload, 1) := by decide +kernel
theorem dX7_schedule_70 : decode cX7_schedule 70 = .ok (.if_icmp .lt 18, 3) := by decide +kernel
theorem dX7_schedule_73 : decode cX7_schedule 73 = .ok (.aload_n 0, 1) := by decide +kernel
theorem dX7_schedule_74 : decode cX7_schedule 74 = .ok (.aload_n 0, 1) := by decide +kernel
theorem dX7_schedule_75 : decode cX7_schedule 75 = .ok (.getfield 104, 3) := by decide +kernel
theorem dX7_schedule_78 : decode cX7_schedule 78 = .ok (.iconst 1, 1) := by decide +kernel
theorem dX7_schedule_79 : decode cX7_schedule 79 = .ok (.iadd, 1) := by decide +kernel
theorem dX7_schedule_80 : decode cX7_schedule 80 = .ok (.aload_n 0, 1) := by decide +kernel
theorem dX7_schedule_81 : decode cX7_schedule 81 = .ok (.getfield 134, 3) := by decide +kernel
theorem dX7_schedule_84 : decode cX7_schedule 84 = .ok (.irem, 1) := by decide +kernel
theorem dX7_schedule_85 : decode cX7_schedule 85 = .ok (.invokevirtual 164, 3) := by decide +kernel
theorem dX7_schedule_88 : decode cX7_schedule 88 = .ok (.return_, 1) := by decide +kernel
theorem dX7_begin_0 : decode cX7_begin 0 = .ok (.aload_n 0, 1) := by decide +kernel
theorem dX7_begin_1 : decode cX7_begin 1 = .ok (.iload_n 1, 1) := by decide +kernel
theorem dX7_begin_2 : decode cX7_begin 2 = .ok (.putfield 104, 3) := by decide +kernel
theorem dX7_begin_5 : decode cX7_begin 5 = .ok (.aload_n 0, 1) := by decide +kernel
theorem dX7_begin_6 : decode cX7_begin 6 = .ok (.aload_n 0, 1) := by decide +kernel
theorem dX7_begin_7 : decode cX7_begin 7 = .ok (.getfield 128, 3) := by decide +kernel
theorem dX7_begin_10 : decode cX7_begin 10 = .ok (.putfield 147, 3) := by decide +kernel
theorem dX7_begin_13 : decode cX7_begin 13 = .ok (.aload_n 0, 1) := by decide +kernel
theorem dX7_begin_14 : decode cX7_begin 14 = .ok (.dup, 1) := by decide +kernel
theorem dX7_begin_15 : decode cX7_begin 15 = .ok (.getfield 168, 3) := by decide +kernel
theorem dX7_begin_18 : decode cX7_begin 18 = .ok (.iconst 1, 1) := by decide +kernel
theorem dX7_begin_19 : decode cX7_begin 19 = .ok (.iadd, 1) := by decide +kernel
theorem dX7_begin_20 : decode cX7_begin 20 = .ok (.putfield 168, 3) := by decide +kernel
theorem dX7_begin_23 : decode cX7_begin 23 = .ok (.return_, 1) := by decide +kernel
theorem dX7_characterBit_0 : decode cX7_characterBit 0 = .ok (.iload_n 1, 1) := by decide +kernel
theorem dX7_characterBit_1 : decode cX7_characterBit 1 = .ok (.ifCond .ne 7, 3) := by decide +kernel
theorem dX7_characterBit_4 : decode cX7_characterBit 4 = .ok (.iconst 0, 1) := by decide +kernel
theorem dX7_characterBit_5 : decode cX7_characterBit 5 = .ok (.goto 20, 3) := by decide +kernel
theorem dX7_characterBit_8 : decode cX7_characterBit 8 = .ok (.iload_n 1, 1) := by decide +kernel
theorem dX7_characterBit_9 : decode cX7_characterBit 9 = .ok (.bipush 9, 2) := by decide +kernel
theorem dX7_characterBit_11 : decode cX7_characterBit 11 = .ok (.if_icmp .ne 7, 3) := by decide +kernel
theorem dX7_characterBit_14 : decode cX7_characterBit 14 = .ok (.iconst 1, 1) := by decide +kernel
theorem dX7_characterBit_15 : decode cX7_characterBit 15 = .ok (.goto 10, 3) := by decide +kernel
theorem dX7_characterBit_18 : decode cX7_characterBit 18 = .ok (.iload_n 0, 1) := by decide +kernel
theorem dX7_characterBit_19 : decode cX7_characterBit 19 = .ok (.iload_n 1, 1) := by decide +kernel
theorem dX7_characterBit_20 : decode cX7_characterBit 20 = .ok (.iconst 1, 1) := by decide +kernel
theorem dX7_characterBit_21 : decode cX7_characterBit 21 = .ok (.isub, 1) := by decide +kernel
theorem dX7_characterBit_22 : decode cX7_characterBit 22 = .ok (.ishr, 1) := by decide +kernel
theorem dX7_characterBit_23 : decode cX7_characterBit 23 = .ok (.iconst 1, 1) := by decide +kernel
theorem dX7_characterBit_24 : decode cX7_characterBit 24 = .ok (.iand, 1) := by decide +kernel
theorem dX7_characterBit_25 : decode cX7_characterBit 25 = .ok (.ireturn, 1) := by decide +kernel
theorem dX7_headerBit_0 : decode cX7_headerBit 0 = .ok (.iload_n 1, 1) := by decide +kernel
theorem dX7_headerBit_1 : decode cX7_headerBit 1 = .ok (.bipush 13, 2) := by decide +kernel
theorem dX7_headerBit_3 : decode cX7_headerBit 3 = .ok (.if_icmp .ge 7, 3) := by decide +kernel
theorem dX7_headerBit_6 : decode cX7_headerBit 6 = .ok (.iconst 0, 1) := by decide +kernel
theorem dX7_headerBit_7 : decode cX7_headerBit 7 = .ok (.goto 50, 3) := by decide +kernel
theorem dX7_headerBit_10 : decode cX7_headerBit 10 = .ok (.iload_n 1, 1) := by decide +kernel
theorem dX7_headerBit_11 : decode cX7_headerBit 11 = .ok (.bipush 13, 2) := by decide +kernel
theorem dX7_headerBit_13 : decode cX7_headerBit 13 = .ok (.if_icmp .ne 7, 3) := by decide +kernel
theorem dX7_headerBit_16 : decode cX7_headerBit 16 = .ok (.iconst 1, 1) := by decide +kernel
theorem dX7_headerBit_17 : decode cX7_headerBit 17 = .ok (.goto 40, 3) := by decide +kernel
theorem dX7_headerBit_20 : decode cX7_headerBit 20 = .ok (.iload_n 1, 1) := by decide +kernel
theorem dX7_headerBit_21 : decode cX7_headerBit 21 = .ok (.bipush 24, 2) := by decide +kernel
theorem dX7_headerBit_23 : decode cX7_headerBit 23 = .ok (.if_icmp .ge 15, 3) := by decide +kernel
theorem dX7_headerBit_26 : decode cX7_headerBit 26 = .ok (.bipush 85, 2) := by decide +kernel
theorem dX7_headerBit_28 : decode cX7_headerBit 28 = .ok (.iload_n 1, 1) := by decide +kernel
theorem dX7_headerBit_29 : decode cX7_headerBit 29 = .ok (.bipush 14, 2) := by decide +kernel
theorem dX7_headerBit_31 : decode cX7_headerBit 31 = .ok (.isub, 1) := by decide +kernel
theorem dX7_headerBit_32 : decode cX7_headerBit 32 = .ok (.invokestatic 171, 3) := by decide +kernel
theorem dX7_headerBit_35 : decode cX7_headerBit 35 = .ok (.goto 22, 3) := by decide +kernel
theorem dX7_headerBit_38 : decode cX7_headerBit 38 = .ok (.aload_n 0, 1) := by decide +kernel
theorem dX7_headerBit_39 : decode cX7_headerBit 39 = .ok (.getfield 35, 3) := by decide +kernel
theorem dX7_headerBit_42 : decode cX7_headerBit 42 = .ok (.aload_n 0, 1) := by decide +kernel
theorem dX7_headerBit_43 : decode cX7_headerBit 43 = .ok (.getfield 104, 3) := by decide +kernel
theorem dX7_headerBit_46 : decode cX7_headerBit 46 = .ok (.iaload, 1) := by decide +kernel
theorem dX7_headerBit_47 : decode cX7_headerBit 47 = .ok (.invokestatic 175, 3) := by decide +kernel
theorem dX7_headerBit_50 : decode cX7_headerBit 50 = .ok (.iload_n 1, 1) := by decide +kernel
theorem dX7_headerBit_51 : decode cX7_headerBit 51 = .ok (.bipush 24, 2) := by decide +kernel
theorem dX7_headerBit_53 : decode cX7_headerBit 53 = .ok (.isub, 1) := by decide +kernel
theorem dX7_headerBit_54 : decode cX7_headerBit 54 = .ok (.invokestatic 171, 3) := by decide +kernel
theorem dX7_headerBit_57 : decode cX7_headerBit 57 = .ok (.ireturn, 1) := by decide +kernel
theorem dX7_sayingBit_0 : decode cX7_sayingBit 0 = .ok (.aload_n 0, 1) := by decide +kernel
theorem dX7_sayingBit_1 : decode cX7_sayingBit 1 = .ok (.getfield 92, 3) := by decide +kernel
theorem dX7_sayingBit_4 : decode cX7_sayingBit 4 = .ok (.bipush 16, 2) := by decide +kernel
theorem dX7_sayingBit_6 : decode cX7_sayingBit 6 = .ok (.iload_n 1, 1) := by decide +kernel
theorem dX7_sayingBit_7 : decode cX7_sayingBit 7 = .ok (.imul, 1) := by decide +kernel
theorem dX7_sayingBit_8 : decode cX7_sayingBit 8 = .ok (.aload_n 0, 1) := by decide +kernel
theorem dX7_sayingBit_9 : decode cX7_sayingBit 9 = .ok (.getfield 95, 3) := by decide +kernel
theorem dX7_sayingBit_12 : decode cX7_sayingBit 12 = .ok (.iload_n 1, 1) := by decide +kernel
theorem dX7_sayingBit_13 : decode cX7_sayingBit 13 = .ok (.iaload, 1) := by decide +kernel
theorem dX7_sayingBit_14 : decode cX7_sayingBit 14 = .ok (.bipush 10, 2) := by decide +kernel
theorem dX7_sayingBit_16 : decode cX7_sayingBit 16 = .ok (.idiv, 1) := by decide +kernel
theorem dX7_sayingBit_17 : decode cX7_sayingBit 17 = .ok (.iadd, 1) := by decide +kernel
theorem dX7_sayingBit_18 : decode cX7_sayingBit 18 = .ok (.iaload, 1) := by decide +kernel
theorem dX7_sayingBit_19 : decode cX7_sayingBit 19 = .ok (.aload_n 0, 1) := by decide +kernel
theorem dX7_sayingBit_20 : decode cX7_sayingBit 20 = .ok (.getfield 95, 3) := by decide +kernel
theorem dX7_sayingBit_23 : decode cX7_sayingBit 23 = .ok (.iload_n 1, 1) := by decide +kernel
theorem dX7_sayingBit_24 : decode cX7_sayingBit 24 = .ok (.iaload, 1) := by decide +kernel
theorem dX7_sayingBit_25 : decode cX7_sayingBit 25 = .ok (.bipush 10, 2) := by decide +kernel
theorem dX7_sayingBit_27 : decode cX7_sayingBit 27 = .ok (.irem, 1) := by decide +kernel
theorem dX7_sayingBit_28 : decode cX7_sayingBit 28 = .ok (.invokestatic 171, 3) := by decide +kernel
theorem dX7_sayingBit_31 : decode cX7_sayingBit 31 = .ok (.ireturn, 1) := by decide +kernel
theorem dX7_error_0 : decode cX7_error 0 = .ok (.aload_n 0, 1) := by decide +kernel
theorem dX7_error_1 : decode cX7_error 1 = .ok (.getfield 56, 3) := by decide +kernel
theorem dX7_error_4 : decode cX7_error 4 = .ok (.iload_n 1, 1) := by decide +kernel
theorem dX7_error_5 : decode cX7_error 5 = .ok (.iconst 1, 1) := by decide +kernel
theorem dX7_error_6 : decode cX7_error 6 = .ok (.bastore, 1) := by decide +kernel
theorem dX7_error_7 : decode cX7_error 7 = .ok (.aload_n 0, 1) := by decide +kernel
theorem dX7_error_8 : decode cX7_error 8 = .ok (.getfield 68, 3) := by decide +kernel
theorem dX7_error_11 : decode cX7_error 11 = .ok (.iload_n 1, 1) := by decide +kernel
theorem dX7_error_12 : decode cX7_error 12 = .ok (.dup2, 1) := by decide +kernel
theorem dX7_error_13 : decode cX7_error 13 = .ok (.iaload, 1) := by decide +kernel
theorem dX7_error_14 : decode cX7_error 14 = .ok (.iconst 1, 1) := by decide +kernel
theorem dX7_error_15 : decode cX7_error 15 = .ok (.iadd, 1) := by decide +kernel
theorem dX7_error_16 : decode cX7_error 16 = .ok (.iastore, 1) := by decide +kernel
theorem dX7_error_17 : decode cX7_error 17 = .ok (.return_, 1) := by decide +kernel
theorem dX7_look_0 : decode cX7_look 0 = .ok (.aload_n 0, 1) := by decide +kernel
theorem dX7_look_1 : decode cX7_look 1 = .ok (.getfield 71, 3) := by decide +kernel
theorem dX7_look_4 : decode cX7_look 4 = .ok (.iload_n 1, 1) := by decide +kernel
theorem dX7_look_5 : decode cX7_look 5 = .ok (.iaload, 1) := by decide +kernel
theorem dX7_look_6 : decode cX7_look 6 = .ok (.istore_n 3, 1) := by decide +kernel
theorem dX7_look_7 : decode cX7_look 7 = .ok (.aload_n 0, 1) := by decide +kernel
theorem dX7_look_8 : decode cX7_look 8 = .ok (.getfield 71, 3) := by decide +kernel
theorem dX7_look_11 : decode cX7_look 11 = .ok (.iload_n 1, 1) := by decide +kernel
theorem dX7_look_12 : decode cX7_look 12 = .ok (.iload_n 2, 1) := by decide +kernel
theorem dX7_look_13 : decode cX7_look 13 = .ok (.ifCond .ne 14, 3) := by decide +kernel
theorem dX7_look_16 : decode cX7_look 16 = .ok (.aload_n 0, 1) := by decide +kernel
theorem dX7_look_17 : decode cX7_look 17 = .ok (.getfield 71, 3) := by decide +kernel
theorem dX7_look_20 : decode cX7_look 20 = .ok (.iload_n 1, 1) := by decide +kernel
theorem dX7_look_21 : decode cX7_look 21 = .ok (.iaload, 1) := by decide +kernel
theorem dX7_look_22 : decode cX7_look 22 = .ok (.iconst 1, 1) := by decide +kernel
theorem dX7_look_23 : decode cX7_look 23 = .ok (.iadd, 1) := by decide +kernel
theorem dX7_look_24 : decode cX7_look 24 = .ok (.goto 4, 3) := by decide +kernel
theorem dX7_look_27 : decode cX7_look 27 = .ok (.iconst 0, 1) := by decide +kernel
theorem dX7_look_28 : decode cX7_look 28 = .ok (.iastore, 1) := by decide +kernel
theorem dX7_look_29 : decode cX7_look 29 = .ok (.aload_n 0, 1) := by decide +kernel
theorem dX7_look_30 : decode cX7_look 30 = .ok (.getfield 53, 3) := by decide +kernel
theorem dX7_look_33 : decode cX7_look 33 = .ok (.iload_n 1, 1) := by decide +kernel
theorem dX7_look_34 : decode cX7_look 34 = .ok (.iaload, 1) := by decide +kernel
theorem dX7_look_35 : decode cX7_look 35 = .ok (.ifCond .ne 50, 3) := by decide +kernel
theorem dX7_look_38 : decode cX7_look 38 = .ok (.iload_n 2, 1) := by decide +kernel
theorem dX7_look_39 : decode cX7_look 39 = .ok (.iconst 1, 1) := by decide +kernel
theorem dX7_look_40 : decode cX7_look 40 = .ok (.if_icmp .ne 44, 3) := by decide +kernel
theorem dX7_look_43 : decode cX7_look 43 = .ok (.iload_n 3, 1) := by decide +kernel
theorem dX7_look_44 : decode cX7_look 44 = .ok (.iconst 5, 1) := by decide +kernel
theorem dX7_look_45 : decode cX7_look 45 = .ok (.if_icmp .lt 39, 3) := by decide +kernel
theorem dX7_look_48 : decode cX7_look 48 = .ok (.aload_n 0, 1) := by decide +kernel
theorem dX7_look_49 : decode cX7_look 49 = .ok (.getfield 53, 3) := by decide +kernel
theorem dX7_look_52 : decode cX7_look 52 = .ok (.iload_n 1, 1) := by decide +kernel
theorem dX7_look_53 : decode cX7_look 53 = .ok (.iconst 1, 1) := by decide +kernel
theorem dX7_look_54 : decode cX7_look 54 = .ok (.iastore, 1) := by decide +kernel
theorem dX7_look_55 : decode cX7_look 55 = .ok (.aload_n 0, 1) := by decide +kernel
theorem dX7_look_56 : decode cX7_look 56 = .ok (.getfield 74, 3) := by decide +kernel
theorem dX7_look_59 : decode cX7_look 59 = .ok (.iload_n 1, 1) := by decide +kernel
theorem dX7_look_60 : decode cX7_look 60 = .ok (.iconst 0, 1) := by decide +kernel
theorem dX7_look_61 : decode cX7_look 61 = .ok (.iastore, 1) := by decide +kernel
theorem dX7_look_62 : decode cX7_look 62 = .ok (.aload_n 0, 1) := by decide +kernel
theorem dX7_look_63 : decode cX7_look 63 = .ok (.iload_n 1, 1) := by decide +kernel
theorem dX7_look_64 : decode cX7_look 64 = .ok (.ifCond .ne 13, 3) := by decide +kernel
theorem dX7_look_67 : decode cX7_look 67 = .ok (.aload_n 0, 1) := by decide +kernel
theorem dX7_look_68 : decode cX7_look 68 = .ok (.getfield 128, 3) := by decide +kernel
theorem dX7_look_71 : decode cX7_look 71 = .ok (.bipush 51, 2) := by decide +kernel
theorem dX7_look_73 : decode cX7_look 73 = .ok (.iadd, 1) := by decide +kernel
theorem dX7_look_74 : decode cX7_look 74 = .ok (.goto 7, 3) := by decide +kernel
theorem dX7_look_77 : decode cX7_look 77 = .ok (.aload_n 0, 1) := by decide +kernel
theorem dX7_look_78 : decode cX7_look 78 = .ok (.getfield 161, 3) := by decide +kernel
theorem dX7_look_81 : decode cX7_look 81 = .ok (.putfield 161, 3) := by decide +kernel
theorem dX7_look_84 : decode cX7_look 84 = .ok (.return_, 1) := by decide +kernel
theorem dX7_look_85 : decode cX7_look 85 = .ok (.aload_n 0, 1) := by decide +kernel
theorem dX7_look_86 : decode cX7_look 86 = .ok (.getfield 74, 3) := by decide +kernel
theorem dX7_look_89 : decode cX7_look 89 = .ok (.iload_n 1, 1) := by decide +kernel
theorem dX7_look_90 : decode cX7_look 90 = .ok (.iload_n 2, 1) := by decide +kernel
theorem dX7_look_91 : decode cX7_look 91 = .ok (.iconst 1, 1) := by decide +kernel
theorem dX7_look_92 : decode cX7_look 92 = .ok (.if_icmp .ne 14, 3) := by decide +kernel
theorem dX7_look_95 : decode cX7_look 95 = .ok (.aload_n 0, 1) := by decide +kernel
theorem dX7_look_96 : decode cX7_look 96 = .ok (.getfield 74, 3) := by decide +kernel
theorem dX7_look_99 : decode cX7_look 99 = .ok (.iload_n 1, 1) := by decide +kernel
theorem dX7_look_100 : decode cX7_look 100 = .ok (.iaload, 1) := by decide +kernel
theorem dX7_look_101 : decode cX7_look 101 = .ok (.iconst 1, 1) := by decide +kernel
theorem dX7_look_102 : decode cX7_look 102 = .ok (.iadd, 1) := by decide +kernel
theorem dX7_look_103 : decode cX7_look 103 = .ok (.goto 4, 3) := by decide +kernel
theorem dX7_look_106 : decode cX7_look 106 = .ok (.iconst 0, 1) := by decide +kernel
theorem dX7_look_107 : decode cX7_look 107 = .ok (.iastore, 1) := by decide +kernel
theorem dX7_look_108 : decode cX7_look 108 = .ok (.aload_n 0, 1) := by decide +kernel
theorem dX7_look_109 : decode cX7_look 109 = .ok (.getfield 71, 3) := by decide +kernel
theorem dX7_look_112 : decode cX7_look 112 = .ok (.iload_n 1, 1) := by decide +kernel
theorem dX7_look_113 : decode cX7_look 113 = .ok (.iaload, 1) := by decide +kernel
theorem dX7_look_114 : decode cX7_look 114 = .ok (.bipush 11, 2) := by decide +kernel
theorem dX7_look_116 : decode cX7_look 116 = .ok (.if_icmp .ne 28, 3) := by decide +kernel
theorem dX7_look_119 : decode cX7_look 119 = .ok (.aload_n 0, 1) := by decide +kernel
theorem dX7_look_120 : decode cX7_look 120 = .ok (.getfield 53, 3) := by decide +kernel
theorem dX7_look_123 : decode cX7_look 123 = .ok (.iload_n 1, 1) := by decide +kernel
theorem dX7_look_124 : decode cX7_look 124 = .ok (.iaload, 1) := by decide +kernel
theorem dX7_look_125 : decode cX7_look 125 = .ok (.iconst 5, 1) := by decide +kernel
theorem dX7_look_126 : decode cX7_look 126 = .ok (.if_icmp .ne 8, 3) := by decide +kernel
theorem dX7_look_129 : decode cX7_look 129 = .ok (.aload_n 0, 1) := by decide +kernel
theorem dX7_look_130 : decode cX7_look 130 = .ok (.iload_n 1, 1) := by decide +kernel
theorem dX7_look_131 : decode cX7_look 131 = .ok (.invokevirtual 178, 3) := by decide +kernel
theorem dX7_look_134 : decode cX7_look 134 = .ok (.aload_n 0, 1) := by decide +kernel
theorem dX7_look_135 : decode cX7_look 135 = .ok (.getfield 53, 3) := by decide +kernel
theorem dX7_look_138 : decode cX7_look 138 = .ok (.iload_n 1, 1) := by decide +kernel
theorem dX7_look_139 : decode cX7_look 139 = .ok (.iconst 2, 1) := by decide +kernel
theorem dX7_look_140 : decode cX7_look 140 = .ok (.iastore, 1) := by decide +kernel
theorem dX7_look_141 : decode cX7_look 141 = .ok (.goto 96, 3) := by decide +kernel
theorem dX7_look_144 : decode cX7_look 144 = .ok (.aload_n 0, 1) := by decide +kernel
theorem dX7_look_145 : decode cX7_look 145 = .ok (.getfield 53, 3) := by decide +kernel
theorem dX7_look_148 : decode cX7_look 148 = .ok (.iload_n 1, 1) := by decide +kernel
theorem dX7_look_149 : decode cX7_look 149 = .ok (.iaload, 1) := by decide +kernel
theorem dX7_look_150 : decode cX7_look 150 = .ok (.iconst 2, 1) := by decide +kernel
theorem dX7_look_151 : decode cX7_look 151 = .ok (.if_icmp .ne 32, 3) := by decide +kernel
theorem dX7_look_154 : decode cX7_look 154 = .ok (.iload_n 2, 1) := by decide +kernel
theorem dX7_look_155 : decode cX7_look 155 = .ok (.iconst 1, 1) := by decide +kernel
theorem dX7_look_156 : decode cX7_look 156 = .ok (.if_icmp .ne 81, 3) := by decide +kernel
theorem dX7_look_159 : decode cX7_look 159 = .ok (.aload_n 0, 1) := by decide +kernel
theorem dX7_look_160 : decode cX7_look 160 = .ok (.getfield 53, 3) := by decide +kernel
theorem dX7_look_163 : decode cX7_look 163 = .ok (.iload_n 1, 1) := by decide +kernel
theorem dX7_look_164 : decode cX7_look 164 = .ok (.iconst 3, 1) := by decide +kernel
theorem dX7_look_165 : decode cX7_look 165 = .ok (.iastore, 1) := by decide +kernel
theorem dX7_look_166 : decode cX7_look 166 = .ok (.aload_n 0, 1) := by decide +kernel
theorem dX7_look_167 : decode cX7_look 167 = .ok (.getfield 86, 3) := by decide +kernel
theorem dX7_look_170 : decode cX7_look 170 = .ok (.iload_n 1, 1) := by decide +kernel
theorem dX7_look_171 : decode cX7_look 171 = .ok (.iconst 0, 1) := by decide +kernel
theorem dX7_look_172 : decode cX7_look 172 = .ok (.iastore, 1) := by decide +kernel
theorem dX7_look_173 : decode cX7_look 173 = .ok (.aload_n 0, 1) := by decide +kernel
theorem dX7_look_174 : decode cX7_look 174 = .ok (.getfield 80, 3) := by decide +kernel
theorem dX7_look_177 : decode cX7_look 177 = .ok (.iload_n 1, 1) := by decide +kernel
theorem dX7_look_178 : decode cX7_look 178 = .ok (.iconst 0, 1) := by decide +kernel
theorem dX7_look_179 : decode cX7_look 179 = .ok (.iastore, 1) := by decide +kernel
theorem dX7_look_180 : decode cX7_look 180 = .ok (.goto 57, 3) := by decide +kernel
theorem dX7_look_183 : decode cX7_look 183 = .ok (.aload_n 0, 1) := by decide +kernel
theorem dX7_look_184 : decode cX7_look 184 = .ok (.getfield 53, 3) := by decide +kernel
theorem dX7_look_187 : decode cX7_look 187 = .ok (.iload_n 1, 1) := by decide +kernel
theorem dX7_look_188 : decode cX7_look 188 = .ok (.iaload, 1) := by decide +kernel
theorem dX7_look_189 : decode cX7_look 189 = .ok (.iconst 3, 1) := by decide +kernel
theorem dX7_look_190 : decode cX7_look 190 = .ok (.if_icmp .ne 12, 3) := by decide +kernel
theorem dX7_look_193 : decode cX7_look 193 = .ok (.aload_n 0, 1) := by decide +kernel
theorem dX7_look_194 : decode cX7_look 194 = .ok (.iload_n 1, 1) := by decide +kernel
theorem dX7_look_195 : decode cX7_look 195 = .ok (.iload_n 2, 1) := by decide +kernel
theorem dX7_look_196 : decode cX7_look 196 = .ok (.invokevirtual 181, 3) := by decide +kernel
theorem dX7_look_199 : decode cX7_look 199 = .ok (.goto 38, 3) := by decide +kernel
theorem dX7_look_202 : decode cX7_look 202 = .ok (.aload_n 0, 1) := by decide +kernel
theorem dX7_look_203 : decode cX7_look 203 = .ok (.getfield 53, 3) := by decide +kernel
theorem dX7_look_206 : decode cX7_look 206 = .ok (.iload_n 1, 1) := by decide +kernel
theorem dX7_look_207 : decode cX7_look 207 = .ok (.iaload, 1) := by decide +kernel
theorem dX7_look_208 : decode cX7_look 208 = .ok (.iconst 4, 1) := by decide +kernel
theorem dX7_look_209 : decode cX7_look 209 = .ok (.if_icmp .ne 12, 3) := by decide +kernel
theorem dX7_look_212 : decode cX7_look 212 = .ok (.aload_n 0, 1) := by decide +kernel
theorem dX7_look_213 : decode cX7_look 213 = .ok (.iload_n 1, 1) := by decide +kernel
theorem dX7_look_214 : decode cX7_look 214 = .ok (.iload_n 2, 1) := by decide +kernel
theorem dX7_look_215 : decode cX7_look 215 = .ok (.invokevirtual 184, 3) := by decide +kernel
theorem dX7_look_218 : decode cX7_look 218 = .ok (.goto 19, 3) := by decide +kernel
theorem dX7_look_221 : decode cX7_look 221 = .ok (.aload_n 0, 1) := by decide +kernel
theorem dX7_look_222 : decode cX7_look 222 = .ok (.getfield 53, 3) := by decide +kernel
theorem dX7_look_225 : decode cX7_look 225 = .ok (.iload_n 1, 1) := by decide +kernel
theorem dX7_look_226 : decode cX7_look 226 = .ok (.iaload, 1) := by decide +kernel
theorem dX7_look_227 : decode cX7_look 227 = .ok (.iconst 5, 1) := by decide +kernel
theorem dX7_look_228 : decode cX7_look 228 = .ok (.if_icmp .ne 9, 3) := by decide +kernel
theorem dX7_look_231 : decode cX7_look 231 = .ok (.aload_n 0, 1) := by decide +kernel
theorem dX7_look_232 : decode cX7_look 232 = .ok (.iload_n 1, 1) := by decide +kernel
theorem dX7_look_233 : decode cX7_look 233 = .ok (.iload_n 2, 1) := by decide +kernel
theorem dX7_look_234 : decode cX7_look 234 = .ok (.invokevirtual 187, 3) := by decide +kernel
theorem dX7_look_237 : decode cX7_look 237 = .ok (.aload_n 0, 1) := by decide +kernel
theorem dX7_look_238 : decode cX7_look 238 = .ok (.getfield 53, 3) := by decide +kernel
theorem dX7_look_241 : decode cX7_look 241 = .ok (.iload_n 1, 1) := by decide +kernel
theorem dX7_look_242 : decode cX7_look 242 = .ok (.iaload, 1) := by decide +kernel
theorem dX7_look_243 : decode cX7_look 243 = .ok (.ifCond .eq 20, 3) := by decide +kernel
theorem dX7_look_246 : decode cX7_look 246 = .ok (.aload_n 0, 1) := by decide +kernel
theorem dX7_look_247 : decode cX7_look 247 = .ok (.getfield 74, 3) := by decide +kernel
theorem dX7_look_250 : decode cX7_look 250 = .ok (.iload_n 1, 1) := by decide +kernel
theorem dX7_look_251 : decode cX7_look 251 = .ok (.iaload, 1) := by decide +kernel
theorem dX7_look_252 : decode cX7_look 252 = .ok (.sipush 3000, 3) := by decide +kernel
theorem dX7_look_255 : decode cX7_look 255 = .ok (.if_icmp .ne 8, 3) := by decide +kernel
theorem dX7_look_258 : decode cX7_look 258 = .ok (.aload_n 0, 1) := by decide +kernel
theorem dX7_look_259 : decode cX7_look 259 = .ok (.iload_n 1, 1) := by decide +kernel
theorem dX7_look_260 : decode cX7_look 260 = .ok (.invokevirtual 190, 3) := by decide +kernel
theorem dX7_look_263 : decode cX7_look 263 = .ok (.return_, 1) := by decide +kernel
theorem dX7_sleep_0 : decode cX7_sleep 0 = .ok (.aload_n 0, 1) := by decide +kernel
theorem dX7_sleep_1 : decode cX7_sleep 1 = .ok (.getfield 53, 3) := by decide +kernel
theorem dX7_sleep_4 : decode cX7_sleep 4 = .ok (.iload_n 1, 1) := by decide +kernel
theorem dX7_sleep_5 : decode cX7_sleep 5 = .ok (.iconst 0, 1) := by decide +kernel
theorem dX7_sleep_6 : decode cX7_sleep 6 = .ok (.iastore, 1) := by decide +kernel
theorem dX7_sleep_7 : decode cX7_sleep 7 = .ok (.aload_n 0, 1) := by decide +kernel
theorem dX7_sleep_8 : decode cX7_sleep 8 = .ok (.iload_n 1, 1) := by decide +kernel
theorem dX7_sleep_9 : decode cX7_sleep 9 = .ok (.ifCond .ne 7, 3) := by decide +kernel
theorem dX7_sleep_12 : decode cX7_sleep 12 = .ok (.iconst (-1), 1) := by decide +kernel
theorem dX7_sleep_13 : decode cX7_sleep 13 = .ok (.goto 7, 3) := by decide +kernel
theorem dX7_sleep_16 : decode cX7_sleep 16 = .ok (.aload_n 0, 1) := by decide +kernel
theorem dX7_sleep_17 : decode cX7_sleep 17 = .ok (.getfield 104, 3) := by decide +kernel
theorem dX7_sleep_20 : decode cX7_sleep 20 = .ok (.putfield 104, 3) := by decide +kernel
theorem dX7_sleep_23 : decode cX7_sleep 23 = .ok (.return_, 1) := by decide +kernel
theorem dX7_collects_0 : decode cX7_collects 0 = .ok (.aload_n 0, 1) := by decide +kernel
theorem dX7_collects_1 : decode cX7_collects 1 = .ok (.getfield 80, 3) := by decide +kernel
theorem dX7_collects_4 : decode cX7_collects 4 = .ok (.iload_n 1, 1) := by decide +kernel
theorem dX7_collects_5 : decode cX7_collects 5 = .ok (.iaload, 1) := by decide +kernel
theorem dX7_collects_6 : decode cX7_collects 6 = .ok (.ifCond .ne 23, 3) := by decide +kernel
theorem dX7_collects_9 : decode cX7_collects 9 = .ok (.iload_n 2, 1) := by decide +kernel
theorem dX7_collects_10 : decode cX7_collects 10 = .ok (.ifCond .ne 17, 3) := by decide +kernel
theorem dX7_collects_13 : decode cX7_collects 13 = .ok (.aload_n 0, 1) := by decide +kernel
theorem dX7_collects_14 : decode cX7_collects 14 = .ok (.getfield 80, 3) := by decide +kernel
theorem dX7_collects_17 : decode cX7_collects 17 = .ok (.iload_n 1, 1) := by decide +kernel
theorem dX7_collects_18 : decode cX7_collects 18 = .ok (.iconst 1, 1) := by decide +kernel
theorem dX7_collects_19 : decode cX7_collects 19 = .ok (.iastore, 1) := by decide +kernel
theorem dX7_collects_20 : decode cX7_collects 20 = .ok (.aload_n 0, 1) := by decide +kernel
theorem dX7_collects_21 : decode cX7_collects 21 = .ok (.getfield 83, 3) := by decide +kernel
theorem dX7_collects_24 : decode cX7_collects 24 = .ok (.iload_n 1, 1) := by decide +kernel
theorem dX7_collects_25 : decode cX7_collects 25 = .ok (.iconst 0, 1) := by decide +kernel
theorem dX7_collects_26 : decode cX7_collects 26 = .ok (.iastore, 1) := by decide +kernel
theorem dX7_collects_27 : decode cX7_collects 27 = .ok (.iconst 0, 1) := by decide +kernel
theorem dX7_collects_28 : decode cX7_collects 28 = .ok (.ireturn, 1) := by decide +kernel
theorem dX7_collects_29 : decode cX7_collects 29 = .ok (.aload_n 0, 1) := by decide +kernel
theorem dX7_collects_30 : decode cX7_collects 30 = .ok (.getfield 83, 3) := by decide +kernel
theorem dX7_collects_33 : decode cX7_collects 33 = .ok (.iload_n 1, 1) := by decide +kernel
theorem dX7_collects_34 : decode cX7_collects 34 = .ok (.dup2, 1) := by decide +kernel
theorem dX7_collects_35 : decode cX7_collects 35 = .ok (.iaload, 1) := by decide +kernel
theorem dX7_collects_36 : decode cX7_collects 36 = .ok (.iload_n 2, 1) := by decide +kernel
theorem dX7_collects_37 : decode cX7_collects 37 = .ok (.aload_n 0, 1) := by decide +kernel
theorem dX7_collects_38 : decode cX7_collects 38 = .ok (.getfield 80, 3) := by decide +kernel
theorem dX7_collects_41 : decode cX7_collects 41 = .ok (.iload_n 1, 1) := by decide +kernel
theorem dX7_collects_42 : decode cX7_collects 42 = .ok (.iaload, 1) := by decide +kernel
theorem dX7_collects_43 : decode cX7_collects 43 = .ok (.iconst 1, 1) := by decide +kernel
theorem dX7_collects_44 : decode cX7_collects 44 = .ok (.isub, 1) := by decide +kernel
theorem dX7_collects_45 : decode cX7_collects 45 = .ok (.ishl, 1) := by decide +kernel
theorem dX7_collects_46 : decode cX7_collects 46 = .ok (.ior, 1) := by decide +kernel
theorem dX7_collects_47 : decode cX7_collects 47 = .ok (.iastore, 1) := by decide +kernel
theorem dX7_collects_48 : decode cX7_collects 48 = .ok (.aload_n 0, 1) := by decide +kernel
theorem dX7_collects_49 : decode cX7_collects 49 = .ok (.getfield 80, 3) := by decide +kernel
theorem dX7_collects_52 : decode cX7_collects 52 = .ok (.iload_n 1, 1) := by decide +kernel
theorem dX7_collects_53 : decode cX7_collects 53 = .ok (.dup2, 1) := by decide +kernel
theorem dX7_collects_54 : decode cX7_collects 54 = .ok (.iaload, 1) := by decide +kernel
theorem dX7_collects_55 : decode cX7_collects 55 = .ok (.iconst 1, 1) := by decide +kernel
theorem dX7_collects_56 : decode cX7_collects 56 = .ok (.iadd, 1) := by decide +kernel
theorem dX7_collects_57 : decode cX7_collects 57 = .ok (.iastore, 1) := by decide +kernel
theorem dX7_collects_58 : decode cX7_collects 58 = .ok (.aload_n 0, 1) := by decide +kernel
theorem dX7_collects_59 : decode cX7_collects 59 = .ok (.getfield 80, 3) := by decide +kernel
theorem dX7_collects_62 : decode cX7_collects 62 = .ok (.iload_n 1, 1) := by decide +kernel
theorem dX7_collects_63 : decode cX7_collects 63 = .ok (.iaload, 1) := by decide +kernel
theorem dX7_collects_64 : decode cX7_collects 64 = .ok (.bipush 10, 2) := by decide +kernel
theorem dX7_collects_66 : decode cX7_collects 66 = .ok (.if_icmp .ge 5, 3) := by decide +kernel
theorem dX7_collects_69 : decode cX7_collects 69 = .ok (.iconst 0, 1) := by decide +kernel
theorem dX7_collects_70 : decode cX7_collects 70 = .ok (.ireturn, 1) := by decide +kernel
theorem dX7_collects_71 : decode cX7_collects 71 = .ok (.aload_n 0, 1) := by decide +kernel
theorem dX7_collects_72 : decode cX7_collects 72 = .ok (.getfield 80, 3) := by decide +kernel
theorem dX7_collects_75 : decode cX7_collects 75 = .ok (.iload_n 1, 1) := by decide +kernel
theorem dX7_collects_76 : decode cX7_collects 76 = .ok (.iconst 0, 1) := by decide +kernel
theorem dX7_collects_77 : decode cX7_collects 77 = .ok (.iastore, 1) := by decide +kernel
theorem dX7_collects_78 : decode cX7_collects 78 = .ok (.iconst 1, 1) := by decide +kernel
theorem dX7_collects_79 : decode cX7_collects 79 = .ok (.ireturn, 1) := by decide +kernel
theorem dX7_header_0 : decode cX7_header 0 = .ok (.aload_n 0, 1) := by decide +kernel
theorem dX7_header_1 : decode cX7_header 1 = .ok (.iload_n 1, 1) := by decide +kernel
theorem dX7_header_2 : decode cX7_header 2 = .ok (.iload_n 2, 1) := by decide +kernel
theorem dX7_header_3 : decode cX7_header 3 = .ok (.invokevirtual 193, 3) := by decide +kernel
theorem dX7_header_6 : decode cX7_header 6 = .ok (.ifCond .ne 4, 3) := by decide +kernel
theorem dX7_header_9 : decode cX7_header 9 = .ok (.return_, 1) := by decide +kernel
theorem dX7_header_10 : decode cX7_header 10 = .ok (.aload_n 0, 1) := by decide +kernel
theorem dX7_header_11 : decode cX7_header 11 = .ok (.getfield 83, 3) := by decide +kernel
theorem dX7_header_14 : decode cX7_header 14 = .ok (.iload_n 1, 1) := by decide +kernel
theorem dX7_header_15 : decode cX7_header 15 = .ok (.iaload, 1) := by decide +kernel
theorem dX7_header_16 : decode cX7_header 16 = .ok (.sipush 255, 3) := by decide +kernel
theorem dX7_header_19 : decode cX7_header 19 = .ok (.iand, 1) := by decide +kernel
theorem dX7_header_20 : decode cX7_header 20 = .ok (.istore_n 3, 1) := by decide +kernel
theorem dX7_header_21 : decode cX7_header 21 = .ok (.iload_n 2, 1) := by decide +kernel
theorem dX7_header_22 : decode cX7_header 22 = .ok (.iconst 1, 1) := by decide +kernel
theorem dX7_header_23 : decode cX7_header 23 = .ok (.if_icmp .ne 45, 3) := by decide +kernel
theorem dX7_header_26 : decode cX7_header 26 = .ok (.aload_n 0, 1) := by decide +kernel
theorem dX7_header_27 : decode cX7_header 27 = .ok (.getfield 86, 3) := by decide +kernel
theorem dX7_header_30 : decode cX7_header 30 = .ok (.iload_n 1, 1) := by decide +kernel
theorem dX7_header_31 : decode cX7_header 31 = .ok (.iaload, 1) := by decide +kernel
theorem dX7_header_32 : decode cX7_header 32 = .ok (.ifCond .ne 12, 3) := by decide +kernel
theorem dX7_header_35 : decode cX7_header 35 = .ok (.iload_n 3, 1) := by decide +kernel
theorem dX7_header_36 : decode cX7_header 36 = .ok (.bipush 85, 2) := by decide +kernel
theorem dX7_header_38 : decode cX7_header 38 = .ok (.if_icmp .ne 30, 3) := by decide +kernel
theorem dX7_header_41 : decode cX7_header 41 = .ok (.goto 23, 3) := by decide +kernel
theorem dX7_header_44 : decode cX7_header 44 = .ok (.iload_n 3, 1) := by decide +kernel
theorem dX7_header_45 : decode cX7_header 45 = .ok (.bipush 63, 2) := by decide +kernel
theorem dX7_header_47 : decode cX7_header 47 = .ok (.iand, 1) := by decide +kernel
theorem dX7_header_48 : decode cX7_header 48 = .ok (.bipush 62, 2) := by decide +kernel
theorem dX7_header_50 : decode cX7_header 50 = .ok (.if_icmp .ge 18, 3) := by decide +kernel
theorem dX7_header_53 : decode cX7_header 53 = .ok (.iload_n 3, 1) := by decide +kernel
theorem dX7_header_54 : decode cX7_header 54 = .ok (.bipush 63, 2) := by decide +kernel
theorem dX7_header_56 : decode cX7_header 56 = .ok (.iand, 1) := by decide +kernel
theorem dX7_header_57 : decode cX7_header 57 = .ok (.invokestatic 175, 3) := by decide +kernel
theorem dX7_header_60 : decode cX7_header 60 = .ok (.iload_n 3, 1) := by decide +kernel
theorem dX7_header_61 : decode cX7_header 61 = .ok (.if_icmp .ne 7, 3) := by decide +kernel
theorem dX7_header_64 : decode cX7_header 64 = .ok (.iconst 1, 1) := by decide +kernel
theorem dX7_header_65 : decode cX7_header 65 = .ok (.goto 4, 3) := by decide +kernel
theorem dX7_header_68 : decode cX7_header 68 = .ok (.iconst 0, 1) := by decide +kernel
theorem dX7_header_69 : decode cX7_header 69 = .ok (.istore 4, 2) := by decide +kernel
theorem dX7_header_71 : decode cX7_header 71 = .ok (.iload 4, 2) := by decide +kernel
theorem dX7_header_73 : decode cX7_header 73 = .ok (.ifCond .ne 21, 3) := by decide +kernel
theorem dX7_header_76 : decode cX7_header 76 = .ok (.aload_n 0, 1) := by decide +kernel
theorem dX7_header_77 : decode cX7_header 77 = .ok (.getfield 59, 3) := by decide +kernel
theorem dX7_header_80 : decode cX7_header 80 = .ok (.iload_n 1, 1) := by decide +kernel
theorem dX7_header_81 : decode cX7_header 81 = .ok (.dup2, 1) := by decide +kernel
theorem dX7_header_82 : decode cX7_header 82 = .ok (.iaload, 1) := by decide +kernel
theorem dX7_header_83 : decode cX7_header 83 = .ok (.iconst 1, 1) := by decide +kernel
theorem dX7_header_84 : decode cX7_header 84 = .ok (.iadd, 1) := by decide +kernel
theorem dX7_header_85 : decode cX7_header 85 = .ok (.iastore, 1) := by decide +kernel
theorem dX7_header_86 : decode cX7_header 86 = .ok (.aload_n 0, 1) := by decide +kernel
theorem dX7_header_87 : decode cX7_header 87 = .ok (.getfield 53, 3) := by decide +kernel
theorem dX7_header_90 : decode cX7_header 90 = .ok (.iload_n 1, 1) := by decide +kernel
theorem dX7_header_91 : decode cX7_header 91 = .ok (.iconst 1, 1) := by decide +kernel
theorem dX7_header_92 : decode cX7_header 92 = .ok (.iastore, 1) := by decide +kernel
theorem dX7_header_93 : decode cX7_header 93 = .ok (.return_, 1) := by decide +kernel
theorem dX7_header_94 : decode cX7_header 94 = .ok (.aload_n 0, 1) := by decide +kernel
theorem dX7_header_95 : decode cX7_header 95 = .ok (.getfield 86, 3) := by decide +kernel
theorem dX7_header_98 : decode cX7_header 98 = .ok (.iload_n 1, 1) := by decide +kernel
theorem dX7_header_99 : decode cX7_header 99 = .ok (.dup2, 1) := by decide +kernel
theorem dX7_header_100 : decode cX7_header 100 = .ok (.iaload, 1) := by decide +kernel
theorem dX7_header_101 : decode cX7_header 101 = .ok (.iconst 1, 1) := by decide +kernel
theorem dX7_header_102 : decode cX7_header 102 = .ok (.iadd, 1) := by decide +kernel
theorem dX7_header_103 : decode cX7_header 103 = .ok (.iastore, 1) := by decide +kernel
theorem dX7_header_104 : decode cX7_header 104 = .ok (.aload_n 0, 1) := by decide +kernel
theorem dX7_header_105 : decode cX7_header 105 = .ok (.getfield 86, 3) := by decide +kernel
theorem dX7_header_108 : decode cX7_header 108 = .ok (.iload_n 1, 1) := by decide +kernel
theorem dX7_header_109 : decode cX7_header 109 = .ok (.iaload, 1) := by decide +kernel
theorem dX7_header_110 : decode cX7_header 110 = .ok (.iconst 2, 1) := by decide +kernel
theorem dX7_header_111 : decode cX7_header 111 = .ok (.if_icmp .ne 12, 3) := by decide +kernel
theorem dX7_header_114 : decode cX7_header 114 = .ok (.aload_n 0, 1) := by decide +kernel
theorem dX7_header_115 : decode cX7_header 115 = .ok (.iload_n 1, 1) := by decide +kernel
theorem dX7_header_116 : decode cX7_header 116 = .ok (.iload_n 3, 1) := by decide +kernel
theorem dX7_header_117 : decode cX7_header 117 = .ok (.bipush 63, 2) := by decide +kernel
theorem dX7_header_119 : decode cX7_header 119 = .ok (.iand, 1) := by decide +kernel
theorem dX7_header_120 : decode cX7_header 120 = .ok (.invokevirtual 197, 3) := by decide +kernel
theorem dX7_header_123 : decode cX7_header 123 = .ok (.return_, 1) := by decide +kernel
theorem dX7_respond_0 : decode cX7_respond 0 = .ok (.aload_n 0, 1) := by decide +kernel
theorem dX7_respond_1 : decode cX7_respond 1 = .ok (.getfield 53, 3) := by decide +kernel
theorem dX7_respond_4 : decode cX7_respond 4 = .ok (.iload_n 1, 1) := by decide +kernel
theorem dX7_respond_5 : decode cX7_respond 5 = .ok (.iconst 1, 1) := by decide +kernel
theorem dX7_respond_6 : decode cX7_respond 6 = .ok (.iastore, 1) := by decide +kernel
theorem dX7_respond_7 : decode cX7_respond 7 = .ok (.aload_n 0, 1) := by decide +kernel
theorem dX7_respond_8 : decode cX7_respond 8 = .ok (.iload_n 2, 1) := by decide +kernel
theorem dX7_respond_9 : decode cX7_respond 9 = .ok (.invokevirtual 131, 3) := by decide +kernel
theorem dX7_respond_12 : decode cX7_respond 12 = .ok (.ifCond .ne 4, 3) := by decide +kernel
theorem dX7_respond_15 : decode cX7_respond 15 = .ok (.return_, 1) := by decide +kernel
theorem dX7_respond_16 : decode cX7_respond 16 = .ok (.aload_n 0, 1) := by decide +kernel
theorem dX7_respond_17 : decode cX7_respond 17 = .ok (.getfield 89, 3) := by decide +kernel
theorem dX7_respond_20 : decode cX7_respond 20 = .ok (.iload_n 1, 1) := by decide +kernel
theorem dX7_respond_21 : decode cX7_respond 21 = .ok (.iload_n 2, 1) := by decide +kernel
theorem dX7_respond_22 : decode cX7_respond 22 = .ok (.iastore, 1) := by decide +kernel
theorem dX7_respond_23 : decode cX7_respond 23 = .ok (.aload_n 0, 1) := by decide +kernel
theorem dX7_respond_24 : decode cX7_respond 24 = .ok (.getfield 86, 3) := by decide +kernel
theorem dX7_respond_27 : decode cX7_respond 27 = .ok (.iload_n 1, 1) := by decide +kernel
theorem dX7_respond_28 : decode cX7_respond 28 = .ok (.iconst 0, 1) := by decide +kernel
theorem dX7_respond_29 : decode cX7_respond 29 = .ok (.iastore, 1) := by decide +kernel
theorem dX7_respond_30 : decode cX7_respond 30 = .ok (.aload_n 0, 1) := by decide +kernel
theorem dX7_respond_31 : decode cX7_respond 31 = .ok (.getfield 101, 3) := by decide +kernel
theorem dX7_respond_34 : decode cX7_respond 34 = .ok (.iload_n 1, 1) := by decide +kernel
theorem dX7_respond_35 : decode cX7_respond 35 = .ok (.iconst 0, 1) := by decide +kernel
theorem dX7_respond_36 : decode cX7_respond 36 = .ok (.iastore, 1) := by decide +kernel
theorem dX7_respond_37 : decode cX7_respond 37 = .ok (.aload_n 0, 1) := by decide +kernel
theorem dX7_respond_38 : decode cX7_respond 38 = .ok (.getfield 17, 3) := by decide +kernel
theorem dX7_respond_41 : decode cX7_respond 41 = .ok (.iload_n 2, 1) := by decide +kernel
theorem dX7_respond_42 : decode cX7_respond 42 = .ok (.iaload, 1) := by decide +kernel
theorem dX7_respond_43 : decode cX7_respond 43 = .ok (.iload_n 1, 1) := by decide +kernel
theorem dX7_respond_44 : decode cX7_respond 44 = .ok (.if_icmp .ne 192, 3) := by decide +kernel
theorem dX7_respond_47 : decode cX7_respond 47 = .ok (.aload_n 0, 1) := by decide +kernel
theorem dX7_respond_48 : decode cX7_respond 48 = .ok (.getfield 53, 3) := by decide +kernel
theorem dX7_respond_51 : decode cX7_respond 51 = .ok (.iload_n 1, 1) := by decide +kernel
theorem dX7_respond_52 : decode cX7_respond 52 = .ok (.iconst 4, 1) := by decide +kernel
theorem dX7_respond_53 : decode cX7_respond 53 = .ok (.iastore, 1) := by decide +kernel
theorem dX7_respond_54 : decode cX7_respond 54 = .ok (.aload_n 0, 1) := by decide +kernel
theorem dX7_respond_55 : decode cX7_respond 55 = .ok (.getfield 98, 3) := by decide +kernel
theorem dX7_respond_58 : decode cX7_respond 58 = .ok (.iload_n 1, 1) := by decide +kernel
theorem dX7_respond_59 : decode cX7_respond 59 = .ok (.aload_n 0, 1) := by decide +kernel
theorem dX7_respond_60 : decode cX7_respond 60 = .ok (.getfield 41, 3) := by decide +kernel
theorem dX7_respond_63 : decode cX7_respond 63 = .ok (.iload_n 1, 1) := by decide +kernel
theorem dX7_respond_64 : decode cX7_respond 64 = .ok (.iaload, 1) := by decide +kernel
theorem dX7_respond_65 : decode cX7_respond 65 = .ok (.iastore, 1) := by decide +kernel
theorem dX7_respond_66 : decode cX7_respond 66 = .ok (.aload_n 0, 1) := by decide +kernel
theorem dX7_respond_67 : decode cX7_respond 67 = .ok (.getfield 95, 3) := by decide +kernel
theorem dX7_respond_70 : decode cX7_respond 70 = .ok (.iload_n 1, 1) := by decide +kernel
theorem dX7_respond_71 : decode cX7_respond 71 = .ok (.iconst 0, 1) := by decide +kernel
theorem dX7_respond_72 : decode cX7_respond 72 = .ok (.iastore, 1) := by decide +kernel
theorem dX7_respond_73 : decode cX7_respond 73 = .ok (.iconst 0, 1) := by decide +kernel
theorem dX7_respond_74 : decode cX7_respond 74 = .ok (.istore_n 3, 1) := by decide +kernel
theorem dX7_respond_75 : decode cX7_respond 75 = .ok (.iload_n 3, 1) := by decide +kernel
theorem dX7_respond_76 : decode cX7_respond 76 = .ok (.aload_n 0, 1) := by decide +kernel
theorem dX7_respond_77 : decode cX7_respond 77 = .ok (.getfield 13, 3) := by decide +kernel
theorem dX7_respond_80 : decode cX7_respond 80 = .ok (.iload_n 2, 1) := by decide +kernel
theorem dX7_respond_81 : decode cX7_respond 81 = .ok (.iaload, 1) := by decide +kernel
theorem dX7_respond_82 : decode cX7_respond 82 = .ok (.if_icmp .ge 31, 3) := by decide +kernel
theorem dX7_respond_85 : decode cX7_respond 85 = .ok (.aload_n 0, 1) := by decide +kernel
theorem dX7_respond_86 : decode cX7_respond 86 = .ok (.getfield 92, 3) := by decide +kernel
theorem dX7_respond_89 : decode cX7_respond 89 = .ok (.bipush 16, 2) := by decide +kernel
theorem dX7_respond_91 : decode cX7_respond 91 = .ok (.iload_n 1, 1) := by decide +kernel
theorem dX7_respond_92 : decode cX7_respond 92 = .ok (.imul, 1) := by decide +kernel
theorem dX7_respond_93 : decode cX7_respond 93 = .ok (.iload_n 3, 1) := by decide +kernel
theorem dX7_respond_94 : decode cX7_respond 94 = .ok (.iadd, 1) := by decide +kernel
theorem dX7_respond_95 : decode cX7_respond 95 = .ok (.aload_n 0, 1) := by decide +kernel
theorem dX7_respond_96 : decode cX7_respond 96 = .ok (.getfield 23, 3) := by decide +kernel
theorem dX7_respond_99 : decode cX7_respond 99 = .ok (.bipush 8, 2) := by decide +kernel
theorem dX7_respond_101 : decode cX7_respond 101 = .ok (.iload_n 2, 1) := by decide +kernel
theorem dX7_respond_102 : decode cX7_respond 102 = .ok (.imul, 1) := by decide +kernel
theorem dX7_respond_103 : decode cX7_respond 103 = .ok (.iload_n 3, 1) := by decide +kernel
theorem dX7_respond_104 : decode cX7_respond 104 = .ok (.iadd, 1) := by decide +kernel
theorem dX7_respond_105 : decode cX7_respond 105 = .ok (.iaload, 1) := by decide +kernel
theorem dX7_respond_106 : decode cX7_respond 106 = .ok (.iastore, 1) := by decide +kernel
theorem dX7_respond_107 : decode cX7_respond 107 = .ok (.iinc 3 1, 3) := by decide +kernel
theorem dX7_respond_110 : decode cX7_respond 110 = .ok (.goto (-35), 3) := by decide +kernel
theorem dX7_respond_113 : decode cX7_respond 113 = .ok (.aload_n 0, 1) := by decide +kernel
theorem dX7_respond_114 : decode cX7_respond 114 = .ok (.getfield 44, 3) := by decide +kernel
theorem dX7_respond_117 : decode cX7_respond 117 = .ok (.iload_n 1, 1) := by decide +kernel
theorem dX7_respond_118 : decode cX7_respond 118 = .ok (.iaload, 1) := by decide +kernel
theorem dX7_respond_119 : decode cX7_respond 119 = .ok (.iload_n 2, 1) := by decide +kernel
theorem dX7_respond_120 : decode cX7_respond 120 = .ok (.if_icmp .ne 64, 3) := by decide +kernel
theorem dX7_respond_123 : decode cX7_respond 123 = .ok (.iconst 1, 1) := by decide +kernel
theorem dX7_respond_124 : decode cX7_respond 124 = .ok (.aload_n 0, 1) := by decide +kernel
theorem dX7_respond_125 : decode cX7_respond 125 = .ok (.getfield 50, 3) := by decide +kernel
theorem dX7_respond_128 : decode cX7_respond 128 = .ok (.iload_n 1, 1) := by decide +kernel
theorem dX7_respond_129 : decode cX7_respond 129 = .ok (.iaload, 1) := by decide +kernel
theorem dX7_respond_130 : decode cX7_respond 130 = .ok (.ishl, 1) := by decide +kernel
theorem dX7_respond_131 : decode cX7_respond 131 = .ok (.istore_n 3, 1) := by decide +kernel
theorem dX7_respond_132 : decode cX7_respond 132 = .ok (.bipush 16, 2) := by decide +kernel
theorem dX7_respond_134 : decode cX7_respond 134 = .ok (.iload_n 1, 1) := by decide +kernel
theorem dX7_respond_135 : decode cX7_respond 135 = .ok (.imul, 1) := by decide +kernel
theorem dX7_respond_136 : decode cX7_respond 136 = .ok (.aload_n 0, 1) := by decide +kernel
theorem dX7_respond_137 : decode cX7_respond 137 = .ok (.getfield 47, 3) := by decide +kernel
theorem dX7_respond_140 : decode cX7_respond 140 = .ok (.iload_n 1, 1) := by decide +kernel
theorem dX7_respond_141 : decode cX7_respond 141 = .ok (.iaload, 1) := by decide +kernel
theorem dX7_respond_142 : decode cX7_respond 142 = .ok (.iadd, 1) := by decide +kernel
theorem dX7_respond_143 : decode cX7_respond 143 = .ok (.istore 4, 2) := by decide +kernel
theorem dX7_respond_145 : decode cX7_respond 145 = .ok (.aload_n 0, 1) := by decide +kernel
theorem dX7_respond_146 : decode cX7_respond 146 = .ok (.getfield 92, 3) := by decide +kernel
theorem dX7_respond_149 : decode cX7_respond 149 = .ok (.iload 4, 2) := by decide +kernel
theorem dX7_respond_151 : decode cX7_respond 151 = .ok (.aload_n 0, 1) := by decide +kernel
theorem dX7_respond_152 : decode cX7_respond 152 = .ok (.getfield 56, 3) := by decide +kernel
theorem dX7_respond_155 : decode cX7_respond 155 = .ok (.iload_n 1, 1) := by decide +kernel
theorem dX7_respond_156 : decode cX7_respond 156 = .ok (.baload, 1) := by decide +kernel
theorem dX7_respond_157 : decode cX7_respond 157 = .ok (.ifCond .eq 15, 3) := by decide +kernel
theorem dX7_respond_160 : decode cX7_respond 160 = .ok (.aload_n 0, 1) := by decide +kernel
theorem dX7_respond_161 : decode cX7_respond 161 = .ok (.getfield 92, 3) := by decide +kernel
theorem dX7_respond_164 : decode cX7_respond 164 = .ok (.iload 4, 2) := by decide +kernel
theorem dX7_respond_166 : decode cX7_respond 166 = .ok (.iaload, 1) := by decide +kernel
theorem dX7_respond_167 : decode cX7_respond 167 = .ok (.iload_n 3, 1) := by decide +kernel
theorem dX7_respond_168 : decode cX7_respond 168 = .ok (.ior, 1) := by decide +kernel
theorem dX7_respond_169 : decode cX7_respond 169 = .ok (.goto 14, 3) := by decide +kernel
theorem dX7_respond_172 : decode cX7_respond 172 = .ok (.aload_n 0, 1) := by decide +kernel
theorem dX7_respond_173 : decode cX7_respond 173 = .ok (.getfield 92, 3) := by decide +kernel
theorem dX7_respond_176 : decode cX7_respond 176 = .ok (.iload 4, 2) := by decide +kernel
theorem dX7_respond_178 : decode cX7_respond 178 = .ok (.iaload, 1) := by decide +kernel
theorem dX7_respond_179 : decode cX7_respond 179 = .ok (.iload_n 3, 1) := by decide +kernel
theorem dX7_respond_180 : decode cX7_respond 180 = .ok (.iconst (-1), 1) := by decide +kernel
theorem dX7_respond_181 : decode cX7_respond 181 = .ok (.ixor, 1) := by decide +kernel
theorem dX7_respond_182 : decode cX7_respond 182 = .ok (.iand, 1) := by decide +kernel
theorem dX7_respond_183 : decode cX7_respond 183 = .ok (.iastore, 1) := by decide +kernel
theorem dX7_respond_184 : decode cX7_respond 184 = .ok (.aload_n 0, 1) := by decide +kernel
theorem dX7_respond_185 : decode cX7_respond 185 = .ok (.getfield 92, 3) := by decide +kernel
theorem dX7_respond_188 : decode cX7_respond 188 = .ok (.bipush 16, 2) := by decide +kernel
theorem dX7_respond_190 : decode cX7_respond 190 = .ok (.iload_n 1, 1) := by decide +kernel
theorem dX7_respond_191 : decode cX7_respond 191 = .ok (.imul, 1) := by decide +kernel
theorem dX7_respond_192 : decode cX7_respond 192 = .ok (.aload_n 0, 1) := by decide +kernel
theorem dX7_respond_193 : decode cX7_respond 193 = .ok (.getfield 13, 3) := by decide +kernel
theorem dX7_respond_196 : decode cX7_respond 196 = .ok (.iload_n 2, 1) := by decide +kernel
theorem dX7_respond_197 : decode cX7_respond 197 = .ok (.iaload, 1) := by decide +kernel
theorem dX7_respond_198 : decode cX7_respond 198 = .ok (.iadd, 1) := by decide +kernel
theorem dX7_respond_199 : decode cX7_respond 199 = .ok (.aload_n 0, 1) := by decide +kernel
theorem dX7_respond_200 : decode cX7_respond 200 = .ok (.getfield 92, 3) := by decide +kernel
theorem dX7_respond_203 : decode cX7_respond 203 = .ok (.bipush 16, 2) := by decide +kernel
theorem dX7_respond_205 : decode cX7_respond 205 = .ok (.iload_n 1, 1) := by decide +kernel
theorem dX7_respond_206 : decode cX7_respond 206 = .ok (.imul, 1) := by decide +kernel
theorem dX7_respond_207 : decode cX7_respond 207 = .ok (.aload_n 0, 1) := by decide +kernel
theorem dX7_respond_208 : decode cX7_respond 208 = .ok (.getfield 13, 3) := by decide +kernel
theorem dX7_respond_211 : decode cX7_respond 211 = .ok (.iload_n 2, 1) := by decide +kernel
theorem dX7_respond_212 : decode cX7_respond 212 = .ok (.iaload, 1) := by decide +kernel
theorem dX7_respond_213 : decode cX7_respond 213 = .ok (.aload_n 0, 1) := by decide +kernel
theorem dX7_respond_214 : decode cX7_respond 214 = .ok (.iload_n 2, 1) := by decide +kernel
theorem dX7_respond_215 : decode cX7_respond 215 = .ok (.invokevirtual 200, 3) := by decide +kernel
theorem dX7_respond_218 : decode cX7_respond 218 = .ok (.ifCond .eq 10, 3) := by decide +kernel
theorem dX7_respond_221 : decode cX7_respond 221 = .ok (.iload_n 2, 1) := by decide +kernel
theorem dX7_respond_222 : decode cX7_respond 222 = .ok (.invokestatic 175, 3) := by decide +kernel
theorem dX7_respond_225 : decode cX7_respond 225 = .ok (.goto 4, 3) := by decide +kernel
theorem dX7_respond_228 : decode cX7_respond 228 = .ok (.iconst 0, 1) := by decide +kernel
theorem dX7_respond_229 : decode cX7_respond 229 = .ok (.invokestatic 203, 3) := by decide +kernel
theorem dX7_respond_232 : decode cX7_respond 232 = .ok (.iastore, 1) := by decide +kernel
theorem dX7_respond_233 : decode cX7_respond 233 = .ok (.goto 24, 3) := by decide +kernel
theorem dX7_respond_236 : decode cX7_respond 236 = .ok (.aload_n 0, 1) := by decide +kernel
theorem dX7_respond_237 : decode cX7_respond 237 = .ok (.getfield 26, 3) := by decide +kernel
theorem dX7_respond_240 : decode cX7_respond 240 = .ok (.bipush 62, 2) := by decide +kernel
theorem dX7_respond_242 : decode cX7_respond 242 = .ok (.iload_n 1, 1) := by decide +kernel
theorem dX7_respond_243 : decode cX7_respond 243 = .ok (.imul, 1) := by decide +kernel
theorem dX7_respond_244 : decode cX7_respond 244 = .ok (.iload_n 2, 1) := by decide +kernel
theorem dX7_respond_245 : decode cX7_respond 245 = .ok (.iadd, 1) := by decide +kernel
theorem dX7_respond_246 : decode cX7_respond 246 = .ok (.baload, 1) := by decide +kernel
theorem dX7_respond_247 : decode cX7_respond 247 = .ok (.ifCond .eq 10, 3) := by decide +kernel
theorem dX7_respond_250 : decode cX7_respond 250 = .ok (.aload_n 0, 1) := by decide +kernel
theorem dX7_respond_251 : decode cX7_respond 251 = .ok (.getfield 53, 3) := by decide +kernel
theorem dX7_respond_254 : decode cX7_respond 254 = .ok (.iload_n 1, 1) := by decide +kernel
theorem dX7_respond_255 : decode cX7_respond 255 = .ok (.iconst 5, 1) := by decide +kernel
theorem dX7_respond_256 : decode cX7_respond 256 = .ok (.iastore, 1) := by decide +kernel
theorem dX7_respond_257 : decode cX7_respond 257 = .ok (.return_, 1) := by decide +kernel
theorem dX7_saying_0 : decode cX7_saying 0 = .ok (.aload_n 0, 1) := by decide +kernel
theorem dX7_saying_1 : decode cX7_saying 1 = .ok (.getfield 98, 3) := by decide +kernel
theorem dX7_saying_4 : decode cX7_saying 4 = .ok (.iload_n 1, 1) := by decide +kernel
theorem dX7_saying_5 : decode cX7_saying 5 = .ok (.iaload, 1) := by decide +kernel
theorem dX7_saying_6 : decode cX7_saying 6 = .ok (.ifCond .le 7, 3) := by decide +kernel
theorem dX7_saying_9 : decode cX7_saying 9 = .ok (.iconst 1, 1) := by decide +kernel
theorem dX7_saying_10 : decode cX7_saying 10 = .ok (.goto 8, 3) := by decide +kernel
theorem dX7_saying_13 : decode cX7_saying 13 = .ok (.aload_n 0, 1) := by decide +kernel
theorem dX7_saying_14 : decode cX7_saying 14 = .ok (.iload_n 1, 1) := by decide +kernel
theorem dX7_saying_15 : decode cX7_saying 15 = .ok (.invokevirtual 154, 3) := by decide +kernel
theorem dX7_saying_18 : decode cX7_saying 18 = .ok (.istore_n 3, 1) := by decide +kernel
theorem dX7_saying_19 : decode cX7_saying 19 = .ok (.aload_n 0, 1) := by decide +kernel
theorem dX7_saying_20 : decode cX7_saying 20 = .ok (.getfield 98, 3) := by decide +kernel
theorem dX7_saying_23 : decode cX7_saying 23 = .ok (.iload_n 1, 1) := by decide +kernel
theorem dX7_saying_24 : decode cX7_saying 24 = .ok (.iaload, 1) := by decide +kernel
theorem dX7_saying_25 : decode cX7_saying 25 = .ok (.ifCond .le 19, 3) := by decide +kernel
theorem dX7_saying_28 : decode cX7_saying 28 = .ok (.iload_n 2, 1) := by decide +kernel
theorem dX7_saying_29 : decode cX7_saying 29 = .ok (.iconst 1, 1) := by decide +kernel
theorem dX7_saying_30 : decode cX7_saying 30 = .ok (.if_icmp .ne 14, 3) := by decide +kernel
theorem dX7_saying_33 : decode cX7_saying 33 = .ok (.aload_n 0, 1) := by decide +kernel
theorem dX7_saying_34 : decode cX7_saying 34 = .ok (.getfield 98, 3) := by decide +kernel
theorem dX7_saying_37 : decode cX7_saying 37 = .ok (.iload_n 1, 1) := by decide +kernel
theorem dX7_saying_38 : decode cX7_saying 38 = .ok (.dup2, 1) := by decide +kernel
theorem dX7_saying_39 : decode cX7_saying 39 = .ok (.iaload, 1) := by decide +kernel
theorem dX7_saying_40 : decode cX7_saying 40 = .ok (.iconst 1, 1) := by decide +kernel
theorem dX7_saying_41 : decode cX7_saying 41 = .ok (.isub, 1) := by decide +kernel
theorem dX7_saying_42 : decode cX7_saying 42 = .ok (.iastore, 1) := by decide +kernel
theorem dX7_saying_43 : decode cX7_saying 43 = .ok (.return_, 1) := by decide +kernel
theorem dX7_saying_44 : decode cX7_saying 44 = .ok (.iload_n 3, 1) := by decide +kernel
theorem dX7_saying_45 : decode cX7_saying 45 = .ok (.iload_n 2, 1) := by decide +kernel
theorem dX7_saying_46 : decode cX7_saying 46 = .ok (.if_icmp .eq 16, 3) := by decide +kernel
theorem dX7_saying_49 : decode cX7_saying 49 = .ok (.aload_n 0, 1) := by decide +kernel
theorem dX7_saying_50 : decode cX7_saying 50 = .ok (.iload_n 1, 1) := by decide +kernel
theorem dX7_saying_51 : decode cX7_saying 51 = .ok (.invokevirtual 178, 3) := by decide +kernel
theorem dX7_saying_54 : decode cX7_saying 54 = .ok (.aload_n 0, 1) := by decide +kernel
theorem dX7_saying_55 : decode cX7_saying 55 = .ok (.getfield 53, 3) := by decide +kernel
theorem dX7_saying_58 : decode cX7_saying 58 = .ok (.iload_n 1, 1) := by decide +kernel
theorem dX7_saying_59 : decode cX7_saying 59 = .ok (.iconst 1, 1) := by decide +kernel
theorem dX7_saying_60 : decode cX7_saying 60 = .ok (.iastore, 1) := by decide +kernel
theorem dX7_saying_61 : decode cX7_saying 61 = .ok (.return_, 1) := by decide +kernel
theorem dX7_saying_62 : decode cX7_saying 62 = .ok (.aload_n 0, 1) := by decide +kernel
theorem dX7_saying_63 : decode cX7_saying 63 = .ok (.getfield 95, 3) := by decide +kernel
theorem dX7_saying_66 : decode cX7_saying 66 = .ok (.iload_n 1, 1) := by decide +kernel
theorem dX7_saying_67 : decode cX7_saying 67 = .ok (.dup2, 1) := by decide +kernel
theorem dX7_saying_68 : decode cX7_saying 68 = .ok (.iaload, 1) := by decide +kernel
theorem dX7_saying_69 : decode cX7_saying 69 = .ok (.iconst 1, 1) := by decide +kernel
theorem dX7_saying_70 : decode cX7_saying 70 = .ok (.iadd, 1) := by decide +kernel
theorem dX7_saying_71 : decode cX7_saying 71 = .ok (.iastore, 1) := by decide +kernel
theorem dX7_saying_72 : decode cX7_saying 72 = .ok (.aload_n 0, 1) := by decide +kernel
theorem dX7_saying_73 : decode cX7_saying 73 = .ok (.getfield 89, 3) := by decide +kernel
theorem dX7_saying_76 : decode cX7_saying 76 = .ok (.iload_n 1, 1) := by decide +kernel
theorem dX7_saying_77 : decode cX7_saying 77 = .ok (.iaload, 1) := by decide +kernel
theorem dX7_saying_78 : decode cX7_saying 78 = .ok (.istore 4, 2) := by decide +kernel
theorem dX7_saying_80 : decode cX7_saying 80 = .ok (.aload_n 0, 1) := by decide +kernel
theorem dX7_saying_81 : decode cX7_saying 81 = .ok (.getfield 95, 3) := by decide +kernel
theorem dX7_saying_84 : decode cX7_saying 84 = .ok (.iload_n 1, 1) := by decide +kernel
theorem dX7_saying_85 : decode cX7_saying 85 = .ok (.iaload, 1) := by decide +kernel
theorem dX7_saying_86 : decode cX7_saying 86 = .ok (.bipush 10, 2) := by decide +kernel
theorem dX7_saying_88 : decode cX7_saying 88 = .ok (.aload_n 0, 1) := by decide +kernel
theorem dX7_saying_89 : decode cX7_saying 89 = .ok (.getfield 13, 3) := by decide +kernel
theorem dX7_saying_92 : decode cX7_saying 92 = .ok (.iload 4, 2) := by decide +kernel
theorem dX7_saying_94 : decode cX7_saying 94 = .ok (.iaload, 1) := by decide +kernel
theorem dX7_saying_95 : decode cX7_saying 95 = .ok (.iconst 1, 1) := by decide +kernel
theorem dX7_saying_96 : decode cX7_saying 96 = .ok (.iadd, 1) := by decide +kernel
theorem dX7_saying_97 : decode cX7_saying 97 = .ok (.imul, 1) := by decide +kernel
theorem dX7_saying_98 : decode cX7_saying 98 = .ok (.if_icmp .ne 58, 3) := by decide +kernel
theorem dX7_saying_101 : decode cX7_saying 101 = .ok (.aload_n 0, 1) := by decide +kernel
theorem dX7_saying_102 : decode cX7_saying 102 = .ok (.getfield 62, 3) := by decide +kernel
theorem dX7_saying_105 : decode cX7_saying 105 = .ok (.iload_n 1, 1) := by decide +kernel
theorem dX7_saying_106 : decode cX7_saying 106 = .ok (.dup2, 1) := by decide +kernel
theorem dX7_saying_107 : decode cX7_saying 107 = .ok (.iaload, 1) := by decide +kernel
theorem dX7_saying_108 : decode cX7_saying 108 = .ok (.iconst 1, 1) := by decide +kernel
theorem dX7_saying_109 : decode cX7_saying 109 = .ok (.iadd, 1) := by decide +kernel
theorem dX7_saying_110 : decode cX7_saying 110 = .ok (.iastore, 1) := by decide +kernel
theorem dX7_saying_111 : decode cX7_saying 111 = .ok (.aload_n 0, 1) := by decide +kernel
theorem dX7_saying_112 : decode cX7_saying 112 = .ok (.getfield 56, 3) := by decide +kernel
theorem dX7_saying_115 : decode cX7_saying 115 = .ok (.iload_n 1, 1) := by decide +kernel
theorem dX7_saying_116 : decode cX7_saying 116 = .ok (.aload_n 0, 1) := by decide +kernel
theorem dX7_saying_117 : decode cX7_saying 117 = .ok (.getfield 56, 3) := by decide +kernel
theorem dX7_saying_120 : decode cX7_saying 120 = .ok (.iload_n 1, 1) := by decide +kernel
theorem dX7_saying_121 : decode cX7_saying 121 = .ok (.baload, 1) := by decide +kernel
theorem dX7_saying_122 : decode cX7_saying 122 = .ok (.ifCond .eq 18, 3) := by decide +kernel
theorem dX7_saying_125 : decode cX7_saying 125 = .ok (.aload_n 0, 1) := by decide +kernel
theorem dX7_saying_126 : decode cX7_saying 126 = .ok (.getfield 44, 3) := by decide +kernel
theorem dX7_saying_129 : decode cX7_saying 129 = .ok (.iload_n 1, 1) := by decide +kernel
theorem dX7_saying_130 : decode cX7_saying 130 = .ok (.iaload, 1) := by decide +kernel
theorem dX7_saying_131 : decode cX7_saying 131 = .ok (.iload 4, 2) := by decide +kernel
theorem dX7_saying_133 : decode cX7_saying 133 = .ok (.if_icmp .eq 7, 3) := by decide +kernel
theorem dX7_saying_136 : decode cX7_saying 136 = .ok (.iconst 1, 1) := by decide +kernel
theorem dX7_saying_137 : decode cX7_saying 137 = .ok (.goto 4, 3) := by decide +kernel
theorem dX7_saying_140 : decode cX7_saying 140 = .ok (.iconst 0, 1) := by decide +kernel
theorem dX7_saying_141 : decode cX7_saying 141 = .ok (.bastore, 1) := by decide +kernel
theorem dX7_saying_142 : decode cX7_saying 142 = .ok (.aload_n 0, 1) := by decide +kernel
theorem dX7_saying_143 : decode cX7_saying 143 = .ok (.getfield 53, 3) := by decide +kernel
theorem dX7_saying_146 : decode cX7_saying 146 = .ok (.iload_n 1, 1) := by decide +kernel
theorem dX7_saying_147 : decode cX7_saying 147 = .ok (.iconst 1, 1) := by decide +kernel
theorem dX7_saying_148 : decode cX7_saying 148 = .ok (.iastore, 1) := by decide +kernel
theorem dX7_saying_149 : decode cX7_saying 149 = .ok (.aload_n 0, 1) := by decide +kernel
theorem dX7_saying_150 : decode cX7_saying 150 = .ok (.iload_n 1, 1) := by decide +kernel
theorem dX7_saying_151 : decode cX7_saying 151 = .ok (.iload 4, 2) := by decide +kernel
theorem dX7_saying_153 : decode cX7_saying 153 = .ok (.invokevirtual 207, 3) := by decide +kernel
theorem dX7_saying_156 : decode cX7_saying 156 = .ok (.return_, 1) := by decide +kernel
theorem dX7_rests_0 : decode cX7_rests 0 = .ok (.iload_n 2, 1) := by decide +kernel
theorem dX7_rests_1 : decode cX7_rests 1 = .ok (.bipush 60, 2) := by decide +kernel
theorem dX7_rests_3 : decode cX7_rests 3 = .ok (.if_icmp .ne 20, 3) := by decide +kernel
theorem dX7_rests_6 : decode cX7_rests 6 = .ok (.aload_n 0, 1) := by decide +kernel
theorem dX7_rests_7 : decode cX7_rests 7 = .ok (.getfield 92, 3) := by decide +kernel
theorem dX7_rests_10 : decode cX7_rests 10 = .ok (.bipush 16, 2) := by decide +kernel
theorem dX7_rests_12 : decode cX7_rests 12 = .ok (.iload_n 1, 1) := by decide +kernel
theorem dX7_rests_13 : decode cX7_rests 13 = .ok (.imul, 1) := by decide +kernel
theorem dX7_rests_14 : decode cX7_rests 14 = .ok (.iaload, 1) := by decide +kernel
theorem dX7_rests_15 : decode cX7_rests 15 = .ok (.ifCond .ne 8, 3) := by decide +kernel
theorem dX7_rests_18 : decode cX7_rests 18 = .ok (.aload_n 0, 1) := by decide +kernel
theorem dX7_rests_19 : decode cX7_rests 19 = .ok (.iload_n 1, 1) := by decide +kernel
theorem dX7_rests_20 : decode cX7_rests 20 = .ok (.invokevirtual 190, 3) := by decide +kernel
theorem dX7_rests_23 : decode cX7_rests 23 = .ok (.return_, 1) := by decide +kernel
theorem dX7_taking_0 : decode cX7_taking 0 = .ok (.aload_n 0, 1) := by decide +kernel
theorem dX7_taking_1 : decode cX7_taking 1 = .ok (.getfield 89, 3) := by decide +kernel
theorem dX7_taking_4 : decode cX7_taking 4 = .ok (.iload_n 1, 1) := by decide +kernel
theorem dX7_taking_5 : decode cX7_taking 5 = .ok (.iaload, 1) := by decide +kernel
theorem dX7_taking_6 : decode cX7_taking 6 = .ok (.istore_n 3, 1) := by decide +kernel
theorem dX7_taking_7 : decode cX7_taking 7 = .ok (.aload_n 0, 1) := by decide +kernel
theorem dX7_taking_8 : decode cX7_taking 8 = .ok (.getfield 13, 3) := by decide +kernel
theorem dX7_taking_11 : decode cX7_taking 11 = .ok (.iload_n 3, 1) := by decide +kernel
theorem dX7_taking_12 : decode cX7_taking 12 = .ok (.iaload, 1) := by decide +kernel
theorem dX7_taking_13 : decode cX7_taking 13 = .ok (.iconst 1, 1) := by decide +kernel
theorem dX7_taking_14 : decode cX7_taking 14 = .ok (.iadd, 1) := by decide +kernel
theorem dX7_taking_15 : decode cX7_taking 15 = .ok (.istore 4, 2) := by decide +kernel
theorem dX7_taking_17 : decode cX7_taking 17 = .ok (.aload_n 0, 1) := by decide +kernel
theorem dX7_taking_18 : decode cX7_taking 18 = .ok (.getfield 101, 3) := by decide +kernel
theorem dX7_taking_21 : decode cX7_taking 21 = .ok (.iload_n 1, 1) := by decide +kernel
theorem dX7_taking_22 : decode cX7_taking 22 = .ok (.dup2, 1) := by decide +kernel
theorem dX7_taking_23 : decode cX7_taking 23 = .ok (.iaload, 1) := by decide +kernel
theorem dX7_taking_24 : decode cX7_taking 24 = .ok (.iconst 1, 1) := by decide +kernel
theorem dX7_taking_25 : decode cX7_taking 25 = .ok (.iadd, 1) := by decide +kernel
theorem dX7_taking_26 : decode cX7_taking 26 = .ok (.iastore, 1) := by decide +kernel
theorem dX7_taking_27 : decode cX7_taking 27 = .ok (.aload_n 0, 1) := by decide +kernel
theorem dX7_taking_28 : decode cX7_taking 28 = .ok (.iload_n 1, 1) := by decide +kernel
theorem dX7_taking_29 : decode cX7_taking 29 = .ok (.iload_n 2, 1) := by decide +kernel
theorem dX7_taking_30 : decode cX7_taking 30 = .ok (.invokevirtual 193, 3) := by decide +kernel
theorem dX7_taking_33 : decode cX7_taking 33 = .ok (.ifCond .eq 74, 3) := by decide +kernel
theorem dX7_taking_36 : decode cX7_taking 36 = .ok (.aload_n 0, 1) := by decide +kernel
theorem dX7_taking_37 : decode cX7_taking 37 = .ok (.getfield 92, 3) := by decide +kernel
theorem dX7_taking_40 : decode cX7_taking 40 = .ok (.bipush 16, 2) := by decide +kernel
theorem dX7_taking_42 : decode cX7_taking 42 = .ok (.iload_n 1, 1) := by decide +kernel
theorem dX7_taking_43 : decode cX7_taking 43 = .ok (.imul, 1) := by decide +kernel
theorem dX7_taking_44 : decode cX7_taking 44 = .ok (.aload_n 0, 1) := by decide +kernel
theorem dX7_taking_45 : decode cX7_taking 45 = .ok (.getfield 86, 3) := by decide +kernel
theorem dX7_taking_48 : decode cX7_taking 48 = .ok (.iload_n 1, 1) := by decide +kernel
theorem dX7_taking_49 : decode cX7_taking 49 = .ok (.iaload, 1) := by decide +kernel
theorem dX7_taking_50 : decode cX7_taking 50 = .ok (.iadd, 1) := by decide +kernel
theorem dX7_taking_51 : decode cX7_taking 51 = .ok (.aload_n 0, 1) := by decide +kernel
theorem dX7_taking_52 : decode cX7_taking 52 = .ok (.getfield 83, 3) := by decide +kernel
theorem dX7_taking_55 : decode cX7_taking 55 = .ok (.iload_n 1, 1) := by decide +kernel
theorem dX7_taking_56 : decode cX7_taking 56 = .ok (.iaload, 1) := by decide +kernel
theorem dX7_taking_57 : decode cX7_taking 57 = .ok (.sipush 255, 3) := by decide +kernel
theorem dX7_taking_60 : decode cX7_taking 60 = .ok (.iand, 1) := by decide +kernel
theorem dX7_taking_61 : decode cX7_taking 61 = .ok (.iastore, 1) := by decide +kernel
theorem dX7_taking_62 : decode cX7_taking 62 = .ok (.aload_n 0, 1) := by decide +kernel
theorem dX7_taking_63 : decode cX7_taking 63 = .ok (.getfield 86, 3) := by decide +kernel
theorem dX7_taking_66 : decode cX7_taking 66 = .ok (.iload_n 1, 1) := by decide +kernel
theorem dX7_taking_67 : decode cX7_taking 67 = .ok (.dup2, 1) := by decide +kernel
theorem dX7_taking_68 : decode cX7_taking 68 = .ok (.iaload, 1) := by decide +kernel
theorem dX7_taking_69 : decode cX7_taking 69 = .ok (.iconst 1, 1) := by decide +kernel
theorem dX7_taking_70 : decode cX7_taking 70 = .ok (.iadd, 1) := by decide +kernel
theorem dX7_taking_71 : decode cX7_taking 71 = .ok (.iastore, 1) := by decide +kernel
theorem dX7_taking_72 : decode cX7_taking 72 = .ok (.iload_n 2, 1) := by decide +kernel
theorem dX7_taking_73 : decode cX7_taking 73 = .ok (.ifCond .ne 16, 3) := by decide +kernel
theorem dX7_taking_76 : decode cX7_taking 76 = .ok (.aload_n 0, 1) := by decide +kernel
theorem dX7_taking_77 : decode cX7_taking 77 = .ok (.iload_n 1, 1) := by decide +kernel
theorem dX7_taking_78 : decode cX7_taking 78 = .ok (.invokevirtual 178, 3) := by decide +kernel
theorem dX7_taking_81 : decode cX7_taking 81 = .ok (.aload_n 0, 1) := by decide +kernel
theorem dX7_taking_82 : decode cX7_taking 82 = .ok (.getfield 53, 3) := by decide +kernel
theorem dX7_taking_85 : decode cX7_taking 85 = .ok (.iload_n 1, 1) := by decide +kernel
theorem dX7_taking_86 : decode cX7_taking 86 = .ok (.iconst 1, 1) := by decide +kernel
theorem dX7_taking_87 : decode cX7_taking 87 = .ok (.iastore, 1) := by decide +kernel
theorem dX7_taking_88 : decode cX7_taking 88 = .ok (.return_, 1) := by decide +kernel
theorem dX7_taking_89 : decode cX7_taking 89 = .ok (.aload_n 0, 1) := by decide +kernel
theorem dX7_taking_90 : decode cX7_taking 90 = .ok (.getfield 86, 3) := by decide +kernel
theorem dX7_taking_93 : decode cX7_taking 93 = .ok (.iload_n 1, 1) := by decide +kernel
theorem dX7_taking_94 : decode cX7_taking 94 = .ok (.iaload, 1) := by decide +kernel
theorem dX7_taking_95 : decode cX7_taking 95 = .ok (.iload 4, 2) := by decide +kernel
theorem dX7_taking_97 : decode cX7_taking 97 = .ok (.if_icmp .ne 10, 3) := by decide +kernel
theorem dX7_taking_100 : decode cX7_taking 100 = .ok (.aload_n 0, 1) := by decide +kernel
theorem dX7_taking_101 : decode cX7_taking 101 = .ok (.iload_n 1, 1) := by decide +kernel
theorem dX7_taking_102 : decode cX7_taking 102 = .ok (.iload_n 3, 1) := by decide +kernel
theorem dX7_taking_103 : decode cX7_taking 103 = .ok (.invokevirtual 210, 3) := by decide +kernel
theorem dX7_taking_106 : decode cX7_taking 106 = .ok (.return_, 1) := by decide +kernel
theorem dX7_taking_107 : decode cX7_taking 107 = .ok (.aload_n 0, 1) := by decide +kernel
theorem dX7_taking_108 : decode cX7_taking 108 = .ok (.getfield 101, 3) := by decide +kernel
theorem dX7_taking_111 : decode cX7_taking 111 = .ok (.iload_n 1, 1) := by decide +kernel
theorem dX7_taking_112 : decode cX7_taking 112 = .ok (.iaload, 1) := by decide +kernel
theorem dX7_taking_113 : decode cX7_taking 113 = .ok (.bipush 14, 2) := by decide +kernel
theorem dX7_taking_115 : decode cX7_taking 115 = .ok (.iload 4, 2) := by decide +kernel
theorem dX7_taking_117 : decode cX7_taking 117 = .ok (.imul, 1) := by decide +kernel
theorem dX7_taking_118 : decode cX7_taking 118 = .ok (.if_icmp .ne 15, 3) := by decide +kernel
theorem dX7_taking_121 : decode cX7_taking 121 = .ok (.aload_n 0, 1) := by decide +kernel
theorem dX7_taking_122 : decode cX7_taking 122 = .ok (.iload_n 1, 1) := by decide +kernel
theorem dX7_taking_123 : decode cX7_taking 123 = .ok (.invokevirtual 178, 3) := by decide +kernel
theorem dX7_taking_126 : decode cX7_taking 126 = .ok (.aload_n 0, 1) := by decide +kernel
theorem dX7_taking_127 : decode cX7_taking 127 = .ok (.getfield 53, 3) := by decide +kernel
theorem dX7_taking_130 : decode cX7_taking 130 = .ok (.iload_n 1, 1) := by decide +kernel
theorem dX7_taking_131 : decode cX7_taking 131 = .ok (.iconst 1, 1) := by decide +kernel
theorem dX7_taking_132 : decode cX7_taking 132 = .ok (.iastore, 1) := by decide +kernel
theorem dX7_taking_133 : decode cX7_taking 133 = .ok (.return_, 1) := by decide +kernel
theorem dX7_took_0 : decode cX7_took 0 = .ok (.aload_n 0, 1) := by decide +kernel
theorem dX7_took_1 : decode cX7_took 1 = .ok (.getfield 53, 3) := by decide +kernel
theorem dX7_took_4 : decode cX7_took 4 = .ok (.iload_n 1, 1) := by decide +kernel
theorem dX7_took_5 : decode cX7_took 5 = .ok (.iconst 1, 1) := by decide +kernel
theorem dX7_took_6 : decode cX7_took 6 = .ok (.iastore, 1) := by decide +kernel
theorem dX7_took_7 : decode cX7_took 7 = .ok (.aload_n 0, 1) := by decide +kernel
theorem dX7_took_8 : decode cX7_took 8 = .ok (.getfield 13, 3) := by decide +kernel
theorem dX7_took_11 : decode cX7_took 11 = .ok (.iload_n 2, 1) := by decide +kernel
theorem dX7_took_12 : decode cX7_took 12 = .ok (.iaload, 1) := by decide +kernel
theorem dX7_took_13 : decode cX7_took 13 = .ok (.istore_n 3, 1) := by decide +kernel
theorem dX7_took_14 : decode cX7_took 14 = .ok (.aload_n 0, 1) := by decide +kernel
theorem dX7_took_15 : decode cX7_took 15 = .ok (.getfield 92, 3) := by decide +kernel
theorem dX7_took_18 : decode cX7_took 18 = .ok (.bipush 16, 2) := by decide +kernel
theorem dX7_took_20 : decode cX7_took 20 = .ok (.iload_n 1, 1) := by decide +kernel
theorem dX7_took_21 : decode cX7_took 21 = .ok (.imul, 1) := by decide +kernel
theorem dX7_took_22 : decode cX7_took 22 = .ok (.iload_n 3, 1) := by decide +kernel
theorem dX7_took_23 : decode cX7_took 23 = .ok (.aload_n 0, 1) := by decide +kernel
theorem dX7_took_24 : decode cX7_took 24 = .ok (.iload_n 2, 1) := by decide +kernel
theorem dX7_took_25 : decode cX7_took 25 = .ok (.invokevirtual 200, 3) := by decide +kernel
theorem dX7_took_28 : decode cX7_took 28 = .ok (.ifCond .eq 10, 3) := by decide +kernel
theorem dX7_took_31 : decode cX7_took 31 = .ok (.iload_n 2, 1) := by decide +kernel
theorem dX7_took_32 : decode cX7_took 32 = .ok (.invokestatic 175, 3) := by decide +kernel
theorem dX7_took_35 : decode cX7_took 35 = .ok (.goto 4, 3) := by decide +kernel
theorem dX7_took_38 : decode cX7_took 38 = .ok (.iconst 0, 1) := by decide +kernel
theorem dX7_took_39 : decode cX7_took 39 = .ok (.invokestatic 203, 3) := by decide +kernel
theorem dX7_took_42 : decode cX7_took 42 = .ok (.aload_n 0, 1) := by decide +kernel
theorem dX7_took_43 : decode cX7_took 43 = .ok (.getfield 92, 3) := by decide +kernel
theorem dX7_took_46 : decode cX7_took 46 = .ok (.bipush 16, 2) := by decide +kernel
theorem dX7_took_48 : decode cX7_took 48 = .ok (.iload_n 1, 1) := by decide +kernel
theorem dX7_took_49 : decode cX7_took 49 = .ok (.imul, 1) := by decide +kernel
theorem dX7_took_50 : decode cX7_took 50 = .ok (.iload_n 3, 1) := by decide +kernel
theorem dX7_took_51 : decode cX7_took 51 = .ok (.iadd, 1) := by decide +kernel
theorem dX7_took_52 : decode cX7_took 52 = .ok (.iaload, 1) := by decide +kernel
theorem dX7_took_53 : decode cX7_took 53 = .ok (.if_icmp .eq 9, 3) := by decide +kernel
theorem dX7_took_56 : decode cX7_took 56 = .ok (.aload_n 0, 1) := by decide +kernel
theorem dX7_took_57 : decode cX7_took 57 = .ok (.iload_n 1, 1) := by decide +kernel
theorem dX7_took_58 : decode cX7_took 58 = .ok (.invokevirtual 178, 3) := by decide +kernel
theorem dX7_took_61 : decode cX7_took 61 = .ok (.return_, 1) := by decide +kernel
theorem dX7_took_62 : decode cX7_took 62 = .ok (.aload_n 0, 1) := by decide +kernel
theorem dX7_took_63 : decode cX7_took 63 = .ok (.getfield 65, 3) := by decide +kernel
theorem dX7_took_66 : decode cX7_took 66 = .ok (.iload_n 1, 1) := by decide +kernel
theorem dX7_took_67 : decode cX7_took 67 = .ok (.dup2, 1) := by decide +kernel
theorem dX7_took_68 : decode cX7_took 68 = .ok (.iaload, 1) := by decide +kernel
theorem dX7_took_69 : decode cX7_took 69 = .ok (.iconst 1, 1) := by decide +kernel
theorem dX7_took_70 : decode cX7_took 70 = .ok (.iadd, 1) := by decide +kernel
theorem dX7_took_71 : decode cX7_took 71 = .ok (.iastore, 1) := by decide +kernel
theorem dX7_took_72 : decode cX7_took 72 = .ok (.bipush 62, 2) := by decide +kernel
theorem dX7_took_74 : decode cX7_took 74 = .ok (.iload_n 1, 1) := by decide +kernel
theorem dX7_took_75 : decode cX7_took 75 = .ok (.imul, 1) := by decide +kernel
theorem dX7_took_76 : decode cX7_took 76 = .ok (.iload_n 2, 1) := by decide +kernel
theorem dX7_took_77 : decode cX7_took 77 = .ok (.iadd, 1) := by decide +kernel
theorem dX7_took_78 : decode cX7_took 78 = .ok (.istore 4, 2) := by decide +kernel
theorem dX7_took_80 : decode cX7_took 80 = .ok (.aload_n 0, 1) := by decide +kernel
theorem dX7_took_81 : decode cX7_took 81 = .ok (.getfield 26, 3) := by decide +kernel
theorem dX7_took_84 : decode cX7_took 84 = .ok (.iload 4, 2) := by decide +kernel
theorem dX7_took_86 : decode cX7_took 86 = .ok (.baload, 1) := by decide +kernel
theorem dX7_took_87 : decode cX7_took 87 = .ok (.ifCond .eq 54, 3) := by decide +kernel
theorem dX7_took_90 : decode cX7_took 90 = .ok (.aload_n 0, 1) := by decide +kernel
theorem dX7_took_91 : decode cX7_took 91 = .ok (.getfield 29, 3) := by decide +kernel
theorem dX7_took_94 : decode cX7_took 94 = .ok (.iload 4, 2) := by decide +kernel
theorem dX7_took_96 : decode cX7_took 96 = .ok (.dup2, 1) := by decide +kernel
theorem dX7_took_97 : decode cX7_took 97 = .ok (.iaload, 1) := by decide +kernel
theorem dX7_took_98 : decode cX7_took 98 = .ok (.iconst 1, 1) := by decide +kernel
theorem dX7_took_99 : decode cX7_took 99 = .ok (.iadd, 1) := by decide +kernel
theorem dX7_took_100 : decode cX7_took 100 = .ok (.iastore, 1) := by decide +kernel
theorem dX7_took_101 : decode cX7_took 101 = .ok (.iconst 0, 1) := by decide +kernel
theorem dX7_took_102 : decode cX7_took 102 = .ok (.istore 5, 2) := by decide +kernel
theorem dX7_took_104 : decode cX7_took 104 = .ok (.iload 5, 2) := by decide +kernel
theorem dX7_took_106 : decode cX7_took 106 = .ok (.iload_n 3, 1) := by decide +kernel
theorem dX7_took_107 : decode cX7_took 107 = .ok (.if_icmp .ge 34, 3) := by decide +kernel
theorem dX7_took_110 : decode cX7_took 110 = .ok (.aload_n 0, 1) := by decide +kernel
theorem dX7_took_111 : decode cX7_took 111 = .ok (.getfield 32, 3) := by decide +kernel
theorem dX7_took_114 : decode cX7_took 114 = .ok (.bipush 8, 2) := by decide +kernel
theorem dX7_took_116 : decode cX7_took 116 = .ok (.iload 4, 2) := by decide +kernel
theorem dX7_took_118 : decode cX7_took 118 = .ok (.imul, 1) := by decide +kernel
theorem dX7_took_119 : decode cX7_took 119 = .ok (.iload 5, 2) := by decide +kernel
theorem dX7_took_121 : decode cX7_took 121 = .ok (.iadd, 1) := by decide +kernel
theorem dX7_took_122 : decode cX7_took 122 = .ok (.aload_n 0, 1) := by decide +kernel
theorem dX7_took_123 : decode cX7_took 123 = .ok (.getfield 92, 3) := by decide +kernel
theorem dX7_took_126 : decode cX7_took 126 = .ok (.bipush 16, 2) := by decide +kernel
theorem dX7_took_128 : decode cX7_took 128 = .ok (.iload_n 1, 1) := by decide +kernel
theorem dX7_took_129 : decode cX7_took 129 = .ok (.imul, 1) := by decide +kernel
theorem dX7_took_130 : decode cX7_took 130 = .ok (.iload 5, 2) := by decide +kernel
theorem dX7_took_132 : decode cX7_took 132 = .ok (.iadd, 1) := by decide +kernel
theorem dX7_took_133 : decode cX7_took 133 = .ok (.iaload, 1) := by decide +kernel
theorem dX7_took_134 : decode cX7_took 134 = .ok (.iastore, 1) := by decide +kernel
theorem dX7_took_135 : decode cX7_took 135 = .ok (.iinc 5 1, 3) := by decide +kernel
theorem dX7_took_138 : decode cX7_took 138 = .ok (.goto (-34), 3) := by decide +kernel
theorem dX7_took_141 : decode cX7_took 141 = .ok (.aload_n 0, 1) := by decide +kernel
theorem dX7_took_142 : decode cX7_took 142 = .ok (.iload_n 1, 1) := by decide +kernel
theorem dX7_took_143 : decode cX7_took 143 = .ok (.iload_n 2, 1) := by decide +kernel
theorem dX7_took_144 : decode cX7_took 144 = .ok (.invokevirtual 207, 3) := by decide +kernel
theorem dX7_took_147 : decode cX7_took 147 = .ok (.return_, 1) := by decide +kernel
theorem dX7_isAsked_0 : decode cX7_isAsked 0 = .ok (.iload_n 1, 1) := by decide +kernel
theorem dX7_isAsked_1 : decode cX7_isAsked 1 = .ok (.invokestatic 124, 3) := by decide +kernel
theorem dX7_isAsked_4 : decode cX7_isAsked 4 = .ok (.ifCond .eq 39, 3) := by decide +kernel
theorem dX7_isAsked_7 : decode cX7_isAsked 7 = .ok (.aload_n 0, 1) := by decide +kernel
theorem dX7_isAsked_8 : decode cX7_isAsked 8 = .ok (.iload_n 2, 1) := by decide +kernel
theorem dX7_isAsked_9 : decode cX7_isAsked 9 = .ok (.invokevirtual 131, 3) := by decide +kernel
theorem dX7_isAsked_12 : decode cX7_isAsked 12 = .ok (.ifCond .eq 31, 3) := by decide +kernel
theorem dX7_isAsked_15 : decode cX7_isAsked 15 = .ok (.aload_n 0, 1) := by decide +kernel
theorem dX7_isAsked_16 : decode cX7_isAsked 16 = .ok (.getfield 17, 3) := by decide +kernel
theorem dX7_isAsked_19 : decode cX7_isAsked 19 = .ok (.iload_n 2, 1) := by decide +kernel
theorem dX7_isAsked_20 : decode cX7_isAsked 20 = .ok (.iaload, 1) := by decide +kernel
theorem dX7_isAsked_21 : decode cX7_isAsked 21 = .ok (.iload_n 1, 1) := by decide +kernel
theorem dX7_isAsked_22 : decode cX7_isAsked 22 = .ok (.if_icmp .eq 17, 3) := by decide +kernel
theorem dX7_isAsked_25 : decode cX7_isAsked 25 = .ok (.aload_n 0, 1) := by decide +kernel
theorem dX7_isAsked_26 : decode cX7_isAsked 26 = .ok (.getfield 26, 3) := by decide +kernel
theorem dX7_isAsked_29 : decode cX7_isAsked 29 = .ok (.bipush 62, 2) := by decide +kernel
theorem dX7_isAsked_31 : decode cX7_isAsked 31 = .ok (.iload_n 1, 1) := by decide +kernel
theorem dX7_isAsked_32 : decode cX7_isAsked 32 = .ok (.imul, 1) := by decide +kernel
theorem dX7_isAsked_33 : decode cX7_isAsked 33 = .ok (.iload_n 2, 1) := by decide +kernel
theorem dX7_isAsked_34 : decode cX7_isAsked 34 = .ok (.iadd, 1) := by decide +kernel
theorem dX7_isAsked_35 : decode cX7_isAsked 35 = .ok (.baload, 1) := by decide +kernel
theorem dX7_isAsked_36 : decode cX7_isAsked 36 = .ok (.ifCond .eq 7, 3) := by decide +kernel
theorem dX7_isAsked_39 : decode cX7_isAsked 39 = .ok (.iconst 1, 1) := by decide +kernel
theorem dX7_isAsked_40 : decode cX7_isAsked 40 = .ok (.goto 4, 3) := by decide +kernel
theorem dX7_isAsked_43 : decode cX7_isAsked 43 = .ok (.iconst 0, 1) := by decide +kernel
theorem dX7_isAsked_44 : decode cX7_isAsked 44 = .ok (.ireturn, 1) := by decide +kernel
theorem dX7_byteAt_0 : decode cX7_byteAt 0 = .ok (.aload_n 0, 1) := by decide +kernel
theorem dX7_byteAt_1 : decode cX7_byteAt 1 = .ok (.aload_n 0, 1) := by decide +kernel
theorem dX7_byteAt_2 : decode cX7_byteAt 2 = .ok (.iload_n 1, 1) := by decide +kernel
theorem dX7_byteAt_3 : decode cX7_byteAt 3 = .ok (.iload_n 2, 1) := by decide +kernel
theorem dX7_byteAt_4 : decode cX7_byteAt 4 = .ok (.invokevirtual 213, 3) := by decide +kernel
theorem dX7_byteAt_7 : decode cX7_byteAt 7 = .ok (.ifCond .eq 23, 3) := by decide +kernel
theorem dX7_byteAt_10 : decode cX7_byteAt 10 = .ok (.iload_n 3, 1) := by decide +kernel
theorem dX7_byteAt_11 : decode cX7_byteAt 11 = .ok (.iconst 0, 1) := by decide +kernel
theorem dX7_byteAt_12 : decode cX7_byteAt 12 = .ok (.aload_n 0, 1) := by decide +kernel
theorem dX7_byteAt_13 : decode cX7_byteAt 13 = .ok (.getfield 13, 3) := by decide +kernel
theorem dX7_byteAt_16 : decode cX7_byteAt 16 = .ok (.iload_n 2, 1) := by decide +kernel
theorem dX7_byteAt_17 : decode cX7_byteAt 17 = .ok (.iaload, 1) := by decide +kernel
theorem dX7_byteAt_18 : decode cX7_byteAt 18 = .ok (.iconst 1, 1) := by decide +kernel
theorem dX7_byteAt_19 : decode cX7_byteAt 19 = .ok (.isub, 1) := by decide +kernel
theorem dX7_byteAt_20 : decode cX7_byteAt 20 = .ok (.invokestatic 120, 3) := by decide +kernel
theorem dX7_byteAt_23 : decode cX7_byteAt 23 = .ok (.ifCond .eq 7, 3) := by decide +kernel
theorem dX7_byteAt_26 : decode cX7_byteAt 26 = .ok (.iconst 0, 1) := by decide +kernel
theorem dX7_byteAt_27 : decode cX7_byteAt 27 = .ok (.goto 4, 3) := by decide +kernel
theorem dX7_byteAt_30 : decode cX7_byteAt 30 = .ok (.iconst 1, 1) := by decide +kernel
theorem dX7_byteAt_31 : decode cX7_byteAt 31 = .ok (.putfield 117, 3) := by decide +kernel
theorem dX7_byteAt_34 : decode cX7_byteAt 34 = .ok (.aload_n 0, 1) := by decide +kernel
theorem dX7_byteAt_35 : decode cX7_byteAt 35 = .ok (.getfield 117, 3) := by decide +kernel
theorem dX7_byteAt_38 : decode cX7_byteAt 38 = .ok (.ifCond .le 5, 3) := by decide +kernel
theorem dX7_byteAt_41 : decode cX7_byteAt 41 = .ok (.iconst 0, 1) := by decide +kernel
theorem dX7_byteAt_42 : decode cX7_byteAt 42 = .ok (.ireturn, 1) := by decide +kernel
theorem dX7_byteAt_43 : decode cX7_byteAt 43 = .ok (.aload_n 0, 1) := by decide +kernel
theorem dX7_byteAt_44 : decode cX7_byteAt 44 = .ok (.getfield 17, 3) := by decide +kernel
theorem dX7_byteAt_47 : decode cX7_byteAt 47 = .ok (.iload_n 2, 1) := by decide +kernel
theorem dX7_byteAt_48 : decode cX7_byteAt 48 = .ok (.iaload, 1) := by decide +kernel
theorem dX7_byteAt_49 : decode cX7_byteAt 49 = .ok (.iload_n 1, 1) := by decide +kernel
theorem dX7_byteAt_50 : decode cX7_byteAt 50 = .ok (.if_icmp .ne 17, 3) := by decide +kernel
theorem dX7_byteAt_53 : decode cX7_byteAt 53 = .ok (.aload_n 0, 1) := by decide +kernel
theorem dX7_byteAt_54 : decode cX7_byteAt 54 = .ok (.getfield 23, 3) := by decide +kernel
theorem dX7_byteAt_57 : decode cX7_byteAt 57 = .ok (.bipush 8, 2) := by decide +kernel
theorem dX7_byteAt_59 : decode cX7_byteAt 59 = .ok (.iload_n 2, 1) := by decide +kernel
theorem dX7_byteAt_60 : decode cX7_byteAt 60 = .ok (.imul, 1) := by decide +kernel
theorem dX7_byteAt_61 : decode cX7_byteAt 61 = .ok (.iload_n 3, 1) := by decide +kernel
theorem dX7_byteAt_62 : decode cX7_byteAt 62 = .ok (.iadd, 1) := by decide +kernel
theorem dX7_byteAt_63 : decode cX7_byteAt 63 = .ok (.iaload, 1) := by decide +kernel
theorem dX7_byteAt_64 : decode cX7_byteAt 64 = .ok (.goto 19, 3) := by decide +kernel
theorem dX7_byteAt_67 : decode cX7_byteAt 67 = .ok (.aload_n 0, 1) := by decide +kernel
theorem dX7_byteAt_68 : decode cX7_byteAt 68 = .ok (.getfield 32, 3) := by decide +kernel
theorem dX7_byteAt_71 : decode cX7_byteAt 71 = .ok (.bipush 8, 2) := by decide +kernel
theorem dX7_byteAt_73 : decode cX7_byteAt 73 = .ok (.bipush 62, 2) := by decide +kernel
theorem dX7_byteAt_75 : decode cX7_byteAt 75 = .ok (.iload_n 1, 1) := by decide +kernel
theorem dX7_byteAt_76 : decode cX7_byteAt 76 = .ok (.imul, 1) := by decide +kernel
theorem dX7_byteAt_77 : decode cX7_byteAt 77 = .ok (.iload_n 2, 1) := by decide +kernel
theorem dX7_byteAt_78 : decode cX7_byteAt 78 = .ok (.iadd, 1) := by decide +kernel
theorem dX7_byteAt_79 : decode cX7_byteAt 79 = .ok (.imul, 1) := by decide +kernel
theorem dX7_byteAt_80 : decode cX7_byteAt 80 = .ok (.iload_n 3, 1) := by decide +kernel
theorem dX7_byteAt_81 : decode cX7_byteAt 81 = .ok (.iadd, 1) := by decide +kernel
theorem dX7_byteAt_82 : decode cX7_byteAt 82 = .ok (.iaload, 1) := by decide +kernel
theorem dX7_byteAt_83 : decode cX7_byteAt 83 = .ok (.ireturn, 1) := by decide +kernel
theorem dX7_taken_0 : decode cX7_taken 0 = .ok (.aload_n 0, 1) := by decide +kernel
theorem dX7_taken_1 : decode cX7_taken 1 = .ok (.aload_n 0, 1) := by decide +kernel
theorem dX7_taken_2 : decode cX7_taken 2 = .ok (.iload_n 1, 1) := by decide +kernel
theorem dX7_taken_3 : decode cX7_taken 3 = .ok (.iload_n 2, 1) := by decide +kernel
theorem dX7_taken_4 : decode cX7_taken 4 = .ok (.invokevirtual 213, 3) := by decide +kernel
theorem dX7_taken_7 : decode cX7_taken 7 = .ok (.ifCond .eq 7, 3) := by decide +kernel
theorem dX7_taken_10 : decode cX7_taken 10 = .ok (.iconst 0, 1) := by decide +kernel
theorem dX7_taken_11 : decode cX7_taken 11 = .ok (.goto 4, 3) := by decide +kernel
theorem dX7_taken_14 : decode cX7_taken 14 = .ok (.iconst 1, 1) := by decide +kernel
theorem dX7_taken_15 : decode cX7_taken 15 = .ok (.putfield 117, 3) := by decide +kernel
theorem dX7_taken_18 : decode cX7_taken 18 = .ok (.aload_n 0, 1) := by decide +kernel
theorem dX7_taken_19 : decode cX7_taken 19 = .ok (.getfield 117, 3) := by decide +kernel
theorem dX7_taken_22 : decode cX7_taken 22 = .ok (.ifCond .gt 13, 3) := by decide +kernel
theorem dX7_taken_25 : decode cX7_taken 25 = .ok (.aload_n 0, 1) := by decide +kernel
theorem dX7_taken_26 : decode cX7_taken 26 = .ok (.getfield 17, 3) := by decide +kernel
theorem dX7_taken_29 : decode cX7_taken 29 = .ok (.iload_n 2, 1) := by decide +kernel
theorem dX7_taken_30 : decode cX7_taken 30 = .ok (.iaload, 1) := by decide +kernel
theorem dX7_taken_31 : decode cX7_taken 31 = .ok (.iload_n 1, 1) := by decide +kernel
theorem dX7_taken_32 : decode cX7_taken 32 = .ok (.if_icmp .ne 7, 3) := by decide +kernel
theorem dX7_taken_35 : decode cX7_taken 35 = .ok (.iconst 0, 1) := by decide +kernel
theorem dX7_taken_36 : decode cX7_taken 36 = .ok (.goto 14, 3) := by decide +kernel
theorem dX7_taken_39 : decode cX7_taken 39 = .ok (.aload_n 0, 1) := by decide +kernel
theorem dX7_taken_40 : decode cX7_taken 40 = .ok (.getfield 29, 3) := by decide +kernel
theorem dX7_taken_43 : decode cX7_taken 43 = .ok (.bipush 62, 2) := by decide +kernel
theorem dX7_taken_45 : decode cX7_taken 45 = .ok (.iload_n 1, 1) := by decide +kernel
theorem dX7_taken_46 : decode cX7_taken 46 = .ok (.imul, 1) := by decide +kernel
theorem dX7_taken_47 : decode cX7_taken 47 = .ok (.iload_n 2, 1) := by decide +kernel
theorem dX7_taken_48 : decode cX7_taken 48 = .ok (.iadd, 1) := by decide +kernel
theorem dX7_taken_49 : decode cX7_taken 49 = .ok (.iaload, 1) := by decide +kernel
theorem dX7_taken_50 : decode cX7_taken 50 = .ok (.ireturn, 1) := by decide +kernel
theorem dX7_told_0 : decode cX7_told 0 = .ok (.aload_n 0, 1) := by decide +kernel
theorem dX7_told_1 : decode cX7_told 1 = .ok (.iload_n 1, 1) := by decide +kernel
theorem dX7_told_2 : decode cX7_told 2 = .ok (.invokestatic 124, 3) := by decide +kernel
theorem dX7_told_5 : decode cX7_told 5 = .ok (.ifCond .eq 17, 3) := by decide +kernel
theorem dX7_told_8 : decode cX7_told 8 = .ok (.iload_n 2, 1) := by decide +kernel
theorem dX7_told_9 : decode cX7_told 9 = .ok (.iconst 0, 1) := by decide +kernel
theorem dX7_told_10 : decode cX7_told 10 = .ok (.bipush 6, 2) := by decide +kernel
theorem dX7_told_12 : decode cX7_told 12 = .ok (.invokestatic 120, 3) := by decide +kernel
theorem dX7_told_15 : decode cX7_told 15 = .ok (.ifCond .eq 7, 3) := by decide +kernel
theorem dX7_told_18 : decode cX7_told 18 = .ok (.iconst 0, 1) := by decide +kernel
theorem dX7_told_19 : decode cX7_told 19 = .ok (.goto 4, 3) := by decide +kernel
theorem dX7_told_22 : decode cX7_told 22 = .ok (.iconst 1, 1) := by decide +kernel
theorem dX7_told_23 : decode cX7_told 23 = .ok (.putfield 117, 3) := by decide +kernel
theorem dX7_told_26 : decode cX7_told 26 = .ok (.aload_n 0, 1) := by decide +kernel
theorem dX7_told_27 : decode cX7_told 27 = .ok (.getfield 117, 3) := by decide +kernel
theorem dX7_told_30 : decode cX7_told 30 = .ok (.ifCond .le 5, 3) := by decide +kernel
theorem dX7_told_33 : decode cX7_told 33 = .ok (.iconst 0, 1) := by decide +kernel
theorem dX7_told_34 : decode cX7_told 34 = .ok (.ireturn, 1) := by decide +kernel
theorem dX7_told_35 : decode cX7_told 35 = .ok (.iload_n 2, 1) := by decide +kernel
theorem dX7_told_36 : decode cX7_told 36 = .ok (.tableswitch 98 0 5 #[40, 55, 70, 77, 84, 91], 40) := by decide +kernel
theorem dX7_told_76 : decode cX7_told 76 = .ok (.aload_n 0, 1) := by decide +kernel
theorem dX7_told_77 : decode cX7_told 77 = .ok (.getfield 53, 3) := by decide +kernel
theorem dX7_told_80 : decode cX7_told 80 = .ok (.iload_n 1, 1) := by decide +kernel
theorem dX7_told_81 : decode cX7_told 81 = .ok (.iaload, 1) := by decide +kernel
theorem dX7_told_82 : decode cX7_told 82 = .ok (.ifCond .ne 7, 3) := by decide +kernel
theorem dX7_told_85 : decode cX7_told 85 = .ok (.iconst 0, 1) := by decide +kernel
theorem dX7_told_86 : decode cX7_told 86 = .ok (.goto 4, 3) := by decide +kernel
theorem dX7_told_89 : decode cX7_told 89 = .ok (.iconst 1, 1) := by decide +kernel
theorem dX7_told_90 : decode cX7_told 90 = .ok (.ireturn, 1) := by decide +kernel
theorem dX7_told_91 : decode cX7_told 91 = .ok (.aload_n 0, 1) := by decide +kernel
theorem dX7_told_92 : decode cX7_told 92 = .ok (.getfield 56, 3) := by decide +kernel
theorem dX7_told_95 : decode cX7_told 95 = .ok (.iload_n 1, 1) := by decide +kernel
theorem dX7_told_96 : decode cX7_told 96 = .ok (.baload, 1) := by decide +kernel
theorem dX7_told_97 : decode cX7_told 97 = .ok (.ifCond .eq 7, 3) := by decide +kernel
theorem dX7_told_100 : decode cX7_told 100 = .ok (.iconst 1, 1) := by decide +kernel
theorem dX7_told_101 : decode cX7_told 101 = .ok (.goto 4, 3) := by decide +kernel
theorem dX7_told_104 : decode cX7_told 104 = .ok (.iconst 0, 1) := by decide +kernel
theorem dX7_told_105 : decode cX7_told 105 = .ok (.ireturn, 1) := by decide +kernel
theorem dX7_told_106 : decode cX7_told 106 = .ok (.aload_n 0, 1) := by decide +kernel
theorem dX7_told_107 : decode cX7_told 107 = .ok (.getfield 59, 3) := by decide +kernel
theorem dX7_told_110 : decode cX7_told 110 = .ok (.iload_n 1, 1) := by decide +kernel
theorem dX7_told_111 : decode cX7_told 111 = .ok (.iaload, 1) := by decide +kernel
theorem dX7_told_112 : decode cX7_told 112 = .ok (.ireturn, 1) := by decide +kernel
theorem dX7_told_113 : decode cX7_told 113 = .ok (.aload_n 0, 1) := by decide +kernel
theorem dX7_told_114 : decode cX7_told 114 = .ok (.getfield 62, 3) := by decide +kernel
theorem dX7_told_117 : decode cX7_told 117 = .ok (.iload_n 1, 1) := by decide +kernel
theorem dX7_told_118 : decode cX7_told 118 = .ok (.iaload, 1) := by decide +kernel
theorem dX7_told_119 : decode cX7_told 119 = .ok (.ireturn, 1) := by decide +kernel
theorem dX7_told_120 : decode cX7_told 120 = .ok (.aload_n 0, 1) := by decide +kernel
theorem dX7_told_121 : decode cX7_told 121 = .ok (.getfield 65, 3) := by decide +kernel
theorem dX7_told_124 : decode cX7_told 124 = .ok (.iload_n 1, 1) := by decide +kernel
theorem dX7_told_125 : decode cX7_told 125 = .ok (.iaload, 1) := by decide +kernel
theorem dX7_told_126 : decode cX7_told 126 = .ok (.ireturn, 1) := by decide +kernel
theorem dX7_told_127 : decode cX7_told 127 = .ok (.aload_n 0, 1) := by decide +kernel
theorem dX7_told_128 : decode cX7_told 128 = .ok (.getfield 68, 3) := by decide +kernel
theorem dX7_told_131 : decode cX7_told 131 = .ok (.iload_n 1, 1) := by decide +kernel
theorem dX7_told_132 : decode cX7_told 132 = .ok (.iaload, 1) := by decide +kernel
theorem dX7_told_133 : decode cX7_told 133 = .ok (.ireturn, 1) := by decide +kernel
theorem dX7_told_134 : decode cX7_told 134 = .ok (.aload_n 0, 1) := by decide +kernel
theorem dX7_told_135 : decode cX7_told 135 = .ok (.getfield 53, 3) := by decide +kernel
theorem dX7_told_138 : decode cX7_told 138 = .ok (.iload_n 1, 1) := by decide +kernel
theorem dX7_told_139 : decode cX7_told 139 = .ok (.iaload, 1) := by decide +kernel
theorem dX7_told_140 : decode cX7_told 140 = .ok (.ireturn, 1) := by decide +kernel
theorem dX7_count_0 : decode cX7_count 0 = .ok (.aload_n 0, 1) := by decide +kernel
theorem dX7_count_1 : decode cX7_count 1 = .ok (.iload_n 1, 1) := by decide +kernel
theorem dX7_count_2 : decode cX7_count 2 = .ok (.iconst 0, 1) := by decide +kernel
theorem dX7_count_3 : decode cX7_count 3 = .ok (.iconst 3, 1) := by decide +kernel
theorem dX7_count_4 : decode cX7_count 4 = .ok (.invokestatic 120, 3) := by decide +kernel
theorem dX7_count_7 : decode cX7_count 7 = .ok (.ifCond .eq 7, 3) := by decide +kernel
theorem dX7_count_10 : decode cX7_count 10 = .ok (.iconst 0, 1) := by decide +kernel
theorem dX7_count_11 : decode cX7_count 11 = .ok (.goto 4, 3) := by decide +kernel
theorem dX7_count_14 : decode cX7_count 14 = .ok (.iconst 1, 1) := by decide +kernel
theorem dX7_count_15 : decode cX7_count 15 = .ok (.putfield 117, 3) := by decide +kernel
theorem dX7_count_18 : decode cX7_count 18 = .ok (.aload_n 0, 1) := by decide +kernel
theorem dX7_count_19 : decode cX7_count 19 = .ok (.getfield 117, 3) := by decide +kernel
theorem dX7_count_22 : decode cX7_count 22 = .ok (.ifCond .le 7, 3) := by decide +kernel
theorem dX7_count_25 : decode cX7_count 25 = .ok (.iconst 0, 1) := by decide +kernel
theorem dX7_count_26 : decode cX7_count 26 = .ok (.goto 42, 3) := by decide +kernel
theorem dX7_count_29 : decode cX7_count 29 = .ok (.iload_n 1, 1) := by decide +kernel
theorem dX7_count_30 : decode cX7_count 30 = .ok (.ifCond .ne 10, 3) := by decide +kernel
theorem dX7_count_33 : decode cX7_count 33 = .ok (.aload_n 0, 1) := by decide +kernel
theorem dX7_count_34 : decode cX7_count 34 = .ok (.getfield 128, 3) := by decide +kernel
theorem dX7_count_37 : decode cX7_count 37 = .ok (.goto 31, 3) := by decide +kernel
theorem dX7_count_40 : decode cX7_count 40 = .ok (.iload_n 1, 1) := by decide +kernel
theorem dX7_count_41 : decode cX7_count 41 = .ok (.iconst 1, 1) := by decide +kernel
theorem dX7_count_42 : decode cX7_count 42 = .ok (.if_icmp .ne 10, 3) := by decide +kernel
theorem dX7_count_45 : decode cX7_count 45 = .ok (.aload_n 0, 1) := by decide +kernel
theorem dX7_count_46 : decode cX7_count 46 = .ok (.getfield 104, 3) := by decide +kernel
theorem dX7_count_49 : decode cX7_count 49 = .ok (.goto 19, 3) := by decide +kernel
theorem dX7_count_52 : decode cX7_count 52 = .ok (.iload_n 1, 1) := by decide +kernel
theorem dX7_count_53 : decode cX7_count 53 = .ok (.iconst 2, 1) := by decide +kernel
theorem dX7_count_54 : decode cX7_count 54 = .ok (.if_icmp .ne 10, 3) := by decide +kernel
theorem dX7_count_57 : decode cX7_count 57 = .ok (.aload_n 0, 1) := by decide +kernel
theorem dX7_count_58 : decode cX7_count 58 = .ok (.getfield 168, 3) := by decide +kernel
theorem dX7_count_61 : decode cX7_count 61 = .ok (.goto 7, 3) := by decide +kernel
theorem dX7_count_64 : decode cX7_count 64 = .ok (.aload_n 0, 1) := by decide +kernel
theorem dX7_count_65 : decode cX7_count 65 = .ok (.getfield 137, 3) := by decide +kernel
theorem dX7_count_68 : decode cX7_count 68 = .ok (.ireturn, 1) := by decide +kernel
theorem dX7_line_0 : decode cX7_line 0 = .ok (.aload_n 0, 1) := by decide +kernel
theorem dX7_line_1 : decode cX7_line 1 = .ok (.iload_n 1, 1) := by decide +kernel
theorem dX7_line_2 : decode cX7_line 2 = .ok (.iconst 1, 1) := by decide +kernel
theorem dX7_line_3 : decode cX7_line 3 = .ok (.bipush 64, 2) := by decide +kernel
theorem dX7_line_5 : decode cX7_line 5 = .ok (.invokestatic 120, 3) := by decide +kernel
theorem dX7_line_8 : decode cX7_line 8 = .ok (.ifCond .eq 7, 3) := by decide +kernel
theorem dX7_line_11 : decode cX7_line 11 = .ok (.iconst 0, 1) := by decide +kernel
theorem dX7_line_12 : decode cX7_line 12 = .ok (.goto 4, 3) := by decide +kernel
theorem dX7_line_15 : decode cX7_line 15 = .ok (.iconst 1, 1) := by decide +kernel
theorem dX7_line_16 : decode cX7_line 16 = .ok (.putfield 117, 3) := by decide +kernel
theorem dX7_line_19 : decode cX7_line 19 = .ok (.aload_n 0, 1) := by decide +kernel
theorem dX7_line_20 : decode cX7_line 20 = .ok (.getfield 117, 3) := by decide +kernel
theorem dX7_line_23 : decode cX7_line 23 = .ok (.ifCond .le 7, 3) := by decide +kernel
theorem dX7_line_26 : decode cX7_line 26 = .ok (.iconst 0, 1) := by decide +kernel
theorem dX7_line_27 : decode cX7_line 27 = .ok (.goto 29, 3) := by decide +kernel
theorem dX7_line_30 : decode cX7_line 30 = .ok (.iload_n 1, 1) := by decide +kernel
theorem dX7_line_31 : decode cX7_line 31 = .ok (.aload_n 0, 1) := by decide +kernel
theorem dX7_line_32 : decode cX7_line 32 = .ok (.getfield 128, 3) := by decide +kernel
theorem dX7_line_35 : decode cX7_line 35 = .ok (.if_icmp .le 7, 3) := by decide +kernel
theorem dX7_line_38 : decode cX7_line 38 = .ok (.iconst 1, 1) := by decide +kernel
theorem dX7_line_39 : decode cX7_line 39 = .ok (.goto 17, 3) := by decide +kernel
theorem dX7_line_42 : decode cX7_line 42 = .ok (.aload_n 0, 1) := by decide +kernel
theorem dX7_line_43 : decode cX7_line 43 = .ok (.getfield 108, 3) := by decide +kernel
theorem dX7_line_46 : decode cX7_line 46 = .ok (.aload_n 0, 1) := by decide +kernel
theorem dX7_line_47 : decode cX7_line 47 = .ok (.getfield 128, 3) := by decide +kernel
theorem dX7_line_50 : decode cX7_line 50 = .ok (.iload_n 1, 1) := by decide +kernel
theorem dX7_line_51 : decode cX7_line 51 = .ok (.isub, 1) := by decide +kernel
theorem dX7_line_52 : decode cX7_line 52 = .ok (.bipush 64, 2) := by decide +kernel
theorem dX7_line_54 : decode cX7_line 54 = .ok (.irem, 1) := by decide +kernel
theorem dX7_line_55 : decode cX7_line 55 = .ok (.iaload, 1) := by decide +kernel
theorem dX7_line_56 : decode cX7_line 56 = .ok (.ireturn, 1) := by decide +kernel
theorem dX7_checks_0 : decode cX7_checks 0 = .ok (.aload_n 0, 1) := by decide +kernel
theorem dX7_checks_1 : decode cX7_checks 1 = .ok (.aload_n 0, 1) := by decide +kernel
theorem dX7_checks_2 : decode cX7_checks 2 = .ok (.iload_n 1, 1) := by decide +kernel
theorem dX7_checks_3 : decode cX7_checks 3 = .ok (.invokevirtual 131, 3) := by decide +kernel
theorem dX7_checks_6 : decode cX7_checks 6 = .ok (.ifCond .eq 7, 3) := by decide +kernel
theorem dX7_checks_9 : decode cX7_checks 9 = .ok (.iconst 0, 1) := by decide +kernel
theorem dX7_checks_10 : decode cX7_checks 10 = .ok (.goto 4, 3) := by decide +kernel
theorem dX7_checks_13 : decode cX7_checks 13 = .ok (.iconst 1, 1) := by decide +kernel
theorem dX7_checks_14 : decode cX7_checks 14 = .ok (.putfield 117, 3) := by decide +kernel
theorem dX7_checks_17 : decode cX7_checks 17 = .ok (.aload_n 0, 1) := by decide +kernel
theorem dX7_checks_18 : decode cX7_checks 18 = .ok (.getfield 117, 3) := by decide +kernel
theorem dX7_checks_21 : decode cX7_checks 21 = .ok (.ifCond .le 7, 3) := by decide +kernel
theorem dX7_checks_24 : decode cX7_checks 24 = .ok (.iconst 0, 1) := by decide +kernel
theorem dX7_checks_25 : decode cX7_checks 25 = .ok (.goto 45, 3) := by decide +kernel
theorem dX7_checks_28 : decode cX7_checks 28 = .ok (.iload_n 1, 1) := by decide +kernel
theorem dX7_checks_29 : decode cX7_checks 29 = .ok (.invokestatic 175, 3) := by decide +kernel
theorem dX7_checks_32 : decode cX7_checks 32 = .ok (.sipush 256, 3) := by decide +kernel
theorem dX7_checks_35 : decode cX7_checks 35 = .ok (.aload_n 0, 1) := by decide +kernel
theorem dX7_checks_36 : decode cX7_checks 36 = .ok (.getfield 23, 3) := by decide +kernel
theorem dX7_checks_39 : decode cX7_checks 39 = .ok (.bipush 8, 2) := by decide +kernel
theorem dX7_checks_41 : decode cX7_checks 41 = .ok (.iload_n 1, 1) := by decide +kernel
theorem dX7_checks_42 : decode cX7_checks 42 = .ok (.imul, 1) := by decide +kernel
theorem dX7_checks_43 : decode cX7_checks 43 = .ok (.aload_n 0, 1) := by decide +kernel
theorem dX7_checks_44 : decode cX7_checks 44 = .ok (.getfield 13, 3) := by decide +kernel
theorem dX7_checks_47 : decode cX7_checks 47 = .ok (.iload_n 1, 1) := by decide +kernel
theorem dX7_checks_48 : decode cX7_checks 48 = .ok (.iaload, 1) := by decide +kernel
theorem dX7_checks_49 : decode cX7_checks 49 = .ok (.aload_n 0, 1) := by decide +kernel
theorem dX7_checks_50 : decode cX7_checks 50 = .ok (.iload_n 1, 1) := by decide +kernel
theorem dX7_checks_51 : decode cX7_checks 51 = .ok (.invokevirtual 200, 3) := by decide +kernel
theorem dX7_checks_54 : decode cX7_checks 54 = .ok (.ifCond .eq 10, 3) := by decide +kernel
theorem dX7_checks_57 : decode cX7_checks 57 = .ok (.iload_n 1, 1) := by decide +kernel
theorem dX7_checks_58 : decode cX7_checks 58 = .ok (.invokestatic 175, 3) := by decide +kernel
theorem dX7_checks_61 : decode cX7_checks 61 = .ok (.goto 4, 3) := by decide +kernel
theorem dX7_checks_64 : decode cX7_checks 64 = .ok (.iconst 0, 1) := by decide +kernel
theorem dX7_checks_65 : decode cX7_checks 65 = .ok (.invokestatic 203, 3) := by decide +kernel
theorem dX7_checks_68 : decode cX7_checks 68 = .ok (.imul, 1) := by decide +kernel
theorem dX7_checks_69 : decode cX7_checks 69 = .ok (.iadd, 1) := by decide +kernel
theorem dX7_checks_70 : decode cX7_checks 70 = .ok (.ireturn, 1) := by decide +kernel
