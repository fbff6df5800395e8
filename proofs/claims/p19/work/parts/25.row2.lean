theorem dX7_mapHeld_0 : decode cX7_mapHeld 0 = .ok (.iload_n 2, 1) := by decide +kernel
theorem dX7_mapHeld_1 : decode cX7_mapHeld 1 = .ok (.iconst (-1), 1) := by decide +kernel
theorem dX7_mapHeld_2 : decode cX7_mapHeld 2 = .ok (.if_icmp .ne 17, 3) := by decide +kernel
theorem dX7_mapHeld_5 : decode cX7_mapHeld 5 = .ok (.aload_n 0, 1) := by decide +kernel
theorem dX7_mapHeld_6 : decode cX7_mapHeld 6 = .ok (.getfield 13, 3) := by decide +kernel
theorem dX7_mapHeld_9 : decode cX7_mapHeld 9 = .ok (.iload_n 1, 1) := by decide +kernel
theorem dX7_mapHeld_10 : decode cX7_mapHeld 10 = .ok (.invokestatic 75, 3) := by decide +kernel
theorem dX7_mapHeld_13 : decode cX7_mapHeld 13 = .ok (.iconst 2, 1) := by decide +kernel
theorem dX7_mapHeld_14 : decode cX7_mapHeld 14 = .ok (.iadd, 1) := by decide +kernel
theorem dX7_mapHeld_15 : decode cX7_mapHeld 15 = .ok (.iaload, 1) := by decide +kernel
theorem dX7_mapHeld_16 : decode cX7_mapHeld 16 = .ok (.goto 15, 3) := by decide +kernel
theorem dX7_mapHeld_19 : decode cX7_mapHeld 19 = .ok (.aload_n 0, 1) := by decide +kernel
theorem dX7_mapHeld_20 : decode cX7_mapHeld 20 = .ok (.getfield 13, 3) := by decide +kernel
theorem dX7_mapHeld_23 : decode cX7_mapHeld 23 = .ok (.iload_n 1, 1) := by decide +kernel
theorem dX7_mapHeld_24 : decode cX7_mapHeld 24 = .ok (.iload_n 2, 1) := by decide +kernel
theorem dX7_mapHeld_25 : decode cX7_mapHeld 25 = .ok (.invokestatic 82, 3) := by decide +kernel
theorem dX7_mapHeld_28 : decode cX7_mapHeld 28 = .ok (.iconst 1, 1) := by decide +kernel
theorem dX7_mapHeld_29 : decode cX7_mapHeld 29 = .ok (.iadd, 1) := by decide +kernel
theorem dX7_mapHeld_30 : decode cX7_mapHeld 30 = .ok (.iaload, 1) := by decide +kernel
theorem dX7_mapHeld_31 : decode cX7_mapHeld 31 = .ok (.ireturn, 1) := by decide +kernel
theorem dX7_choose_0 : decode cX7_choose 0 = .ok (.iload_n 1, 1) := by decide +kernel
theorem dX7_choose_1 : decode cX7_choose 1 = .ok (.invokestatic 75, 3) := by decide +kernel
theorem dX7_choose_4 : decode cX7_choose 4 = .ok (.istore_n 2, 1) := by decide +kernel
theorem dX7_choose_5 : decode cX7_choose 5 = .ok (.aload_n 0, 1) := by decide +kernel
theorem dX7_choose_6 : decode cX7_choose 6 = .ok (.getfield 13, 3) := by decide +kernel
theorem dX7_choose_9 : decode cX7_choose 9 = .ok (.iload_n 2, 1) := by decide +kernel
theorem dX7_choose_10 : decode cX7_choose 10 = .ok (.bipush 6, 2) := by decide +kernel
theorem dX7_choose_12 : decode cX7_choose 12 = .ok (.iadd, 1) := by decide +kernel
theorem dX7_choose_13 : decode cX7_choose 13 = .ok (.iaload, 1) := by decide +kernel
theorem dX7_choose_14 : decode cX7_choose 14 = .ok (.istore_n 3, 1) := by decide +kernel
theorem dX7_choose_15 : decode cX7_choose 15 = .ok (.aload_n 0, 1) := by decide +kernel
theorem dX7_choose_16 : decode cX7_choose 16 = .ok (.iload_n 1, 1) := by decide +kernel
theorem dX7_choose_17 : decode cX7_choose 17 = .ok (.aload_n 0, 1) := by decide +kernel
theorem dX7_choose_18 : decode cX7_choose 18 = .ok (.getfield 13, 3) := by decide +kernel
theorem dX7_choose_21 : decode cX7_choose 21 = .ok (.iload_n 2, 1) := by decide +kernel
theorem dX7_choose_22 : decode cX7_choose 22 = .ok (.iaload, 1) := by decide +kernel
theorem dX7_choose_23 : decode cX7_choose 23 = .ok (.aload_n 0, 1) := by decide +kernel
theorem dX7_choose_24 : decode cX7_choose 24 = .ok (.getfield 13, 3) := by decide +kernel
theorem dX7_choose_27 : decode cX7_choose 27 = .ok (.bipush 7, 2) := by decide +kernel
theorem dX7_choose_29 : decode cX7_choose 29 = .ok (.iaload, 1) := by decide +kernel
theorem dX7_choose_30 : decode cX7_choose 30 = .ok (.invokevirtual 176, 3) := by decide +kernel
theorem dX7_choose_33 : decode cX7_choose 33 = .ok (.ifCond .ne 5, 3) := by decide +kernel
theorem dX7_choose_36 : decode cX7_choose 36 = .ok (.iconst (-1), 1) := by decide +kernel
theorem dX7_choose_37 : decode cX7_choose 37 = .ok (.ireturn, 1) := by decide +kernel
theorem dX7_choose_38 : decode cX7_choose 38 = .ok (.iconst (-1), 1) := by decide +kernel
theorem dX7_choose_39 : decode cX7_choose 39 = .ok (.istore 4, 2) := by decide +kernel
theorem dX7_choose_41 : decode cX7_choose 41 = .ok (.iconst (-1), 1) := by decide +kernel
theorem dX7_choose_42 : decode cX7_choose 42 = .ok (.istore 5, 2) := by decide +kernel
theorem dX7_choose_44 : decode cX7_choose 44 = .ok (.iconst (-1), 1) := by decide +kernel
theorem dX7_choose_45 : decode cX7_choose 45 = .ok (.istore 6, 2) := by decide +kernel
theorem dX7_choose_47 : decode cX7_choose 47 = .ok (.iload_n 3, 1) := by decide +kernel
theorem dX7_choose_48 : decode cX7_choose 48 = .ok (.iconst 1, 1) := by decide +kernel
theorem dX7_choose_49 : decode cX7_choose 49 = .ok (.isub, 1) := by decide +kernel
theorem dX7_choose_50 : decode cX7_choose 50 = .ok (.istore 7, 2) := by decide +kernel
theorem dX7_choose_52 : decode cX7_choose 52 = .ok (.iload 7, 2) := by decide +kernel
theorem dX7_choose_54 : decode cX7_choose 54 = .ok (.ifCond .lt 79, 3) := by decide +kernel
theorem dX7_choose_57 : decode cX7_choose 57 = .ok (.aload_n 0, 1) := by decide +kernel
theorem dX7_choose_58 : decode cX7_choose 58 = .ok (.iload_n 1, 1) := by decide +kernel
theorem dX7_choose_59 : decode cX7_choose 59 = .ok (.iload 7, 2) := by decide +kernel
theorem dX7_choose_61 : decode cX7_choose 61 = .ok (.invokevirtual 182, 3) := by decide +kernel
theorem dX7_choose_64 : decode cX7_choose 64 = .ok (.istore 8, 2) := by decide +kernel
theorem dX7_choose_66 : decode cX7_choose 66 = .ok (.iload 8, 2) := by decide +kernel
theorem dX7_choose_68 : decode cX7_choose 68 = .ok (.ifCond .eq 25, 3) := by decide +kernel
theorem dX7_choose_71 : decode cX7_choose 71 = .ok (.aload_n 0, 1) := by decide +kernel
theorem dX7_choose_72 : decode cX7_choose 72 = .ok (.getfield 13, 3) := by decide +kernel
theorem dX7_choose_75 : decode cX7_choose 75 = .ok (.iload_n 1, 1) := by decide +kernel
theorem dX7_choose_76 : decode cX7_choose 76 = .ok (.iload 7, 2) := by decide +kernel
theorem dX7_choose_78 : decode cX7_choose 78 = .ok (.invokestatic 82, 3) := by decide +kernel
theorem dX7_choose_81 : decode cX7_choose 81 = .ok (.bipush 36, 2) := by decide +kernel
theorem dX7_choose_83 : decode cX7_choose 83 = .ok (.iadd, 1) := by decide +kernel
theorem dX7_choose_84 : decode cX7_choose 84 = .ok (.iaload, 1) := by decide +kernel
theorem dX7_choose_85 : decode cX7_choose 85 = .ok (.ifCond .le 8, 3) := by decide +kernel
theorem dX7_choose_88 : decode cX7_choose 88 = .ok (.iload 7, 2) := by decide +kernel
theorem dX7_choose_90 : decode cX7_choose 90 = .ok (.goto 5, 3) := by decide +kernel
theorem dX7_choose_93 : decode cX7_choose 93 = .ok (.iload 4, 2) := by decide +kernel
theorem dX7_choose_95 : decode cX7_choose 95 = .ok (.istore 4, 2) := by decide +kernel
theorem dX7_choose_97 : decode cX7_choose 97 = .ok (.iload 8, 2) := by decide +kernel
theorem dX7_choose_99 : decode cX7_choose 99 = .ok (.ifCond .eq 24, 3) := by decide +kernel
theorem dX7_choose_102 : decode cX7_choose 102 = .ok (.aload_n 0, 1) := by decide +kernel
theorem dX7_choose_103 : decode cX7_choose 103 = .ok (.getfield 13, 3) := by decide +kernel
theorem dX7_choose_106 : decode cX7_choose 106 = .ok (.iload_n 1, 1) := by decide +kernel
theorem dX7_choose_107 : decode cX7_choose 107 = .ok (.iload 7, 2) := by decide +kernel
theorem dX7_choose_109 : decode cX7_choose 109 = .ok (.invokestatic 82, 3) := by decide +kernel
theorem dX7_choose_112 : decode cX7_choose 112 = .ok (.iconst 4, 1) := by decide +kernel
theorem dX7_choose_113 : decode cX7_choose 113 = .ok (.iadd, 1) := by decide +kernel
theorem dX7_choose_114 : decode cX7_choose 114 = .ok (.iaload, 1) := by decide +kernel
theorem dX7_choose_115 : decode cX7_choose 115 = .ok (.ifCond .ne 8, 3) := by decide +kernel
theorem dX7_choose_118 : decode cX7_choose 118 = .ok (.iload 7, 2) := by decide +kernel
theorem dX7_choose_120 : decode cX7_choose 120 = .ok (.goto 5, 3) := by decide +kernel
theorem dX7_choose_123 : decode cX7_choose 123 = .ok (.iload 5, 2) := by decide +kernel
theorem dX7_choose_125 : decode cX7_choose 125 = .ok (.istore 5, 2) := by decide +kernel
theorem dX7_choose_127 : decode cX7_choose 127 = .ok (.iinc 7 (-1), 3) := by decide +kernel
theorem dX7_choose_130 : decode cX7_choose 130 = .ok (.goto (-78), 3) := by decide +kernel
theorem dX7_choose_133 : decode cX7_choose 133 = .ok (.iload_n 3, 1) := by decide +kernel
theorem dX7_choose_134 : decode cX7_choose 134 = .ok (.istore 7, 2) := by decide +kernel
theorem dX7_choose_136 : decode cX7_choose 136 = .ok (.iload 7, 2) := by decide +kernel
theorem dX7_choose_138 : decode cX7_choose 138 = .ok (.ifCond .le 43, 3) := by decide +kernel
theorem dX7_choose_141 : decode cX7_choose 141 = .ok (.aload_n 0, 1) := by decide +kernel
theorem dX7_choose_142 : decode cX7_choose 142 = .ok (.getfield 13, 3) := by decide +kernel
theorem dX7_choose_145 : decode cX7_choose 145 = .ok (.iload_n 2, 1) := by decide +kernel
theorem dX7_choose_146 : decode cX7_choose 146 = .ok (.iconst 5, 1) := by decide +kernel
theorem dX7_choose_147 : decode cX7_choose 147 = .ok (.iadd, 1) := by decide +kernel
theorem dX7_choose_148 : decode cX7_choose 148 = .ok (.iaload, 1) := by decide +kernel
theorem dX7_choose_149 : decode cX7_choose 149 = .ok (.iload 7, 2) := by decide +kernel
theorem dX7_choose_151 : decode cX7_choose 151 = .ok (.iadd, 1) := by decide +kernel
theorem dX7_choose_152 : decode cX7_choose 152 = .ok (.iload_n 3, 1) := by decide +kernel
theorem dX7_choose_153 : decode cX7_choose 153 = .ok (.irem, 1) := by decide +kernel
theorem dX7_choose_154 : decode cX7_choose 154 = .ok (.istore 8, 2) := by decide +kernel
theorem dX7_choose_156 : decode cX7_choose 156 = .ok (.aload_n 0, 1) := by decide +kernel
theorem dX7_choose_157 : decode cX7_choose 157 = .ok (.iload_n 1, 1) := by decide +kernel
theorem dX7_choose_158 : decode cX7_choose 158 = .ok (.iload 8, 2) := by decide +kernel
theorem dX7_choose_160 : decode cX7_choose 160 = .ok (.invokevirtual 182, 3) := by decide +kernel
theorem dX7_choose_163 : decode cX7_choose 163 = .ok (.ifCond .eq 8, 3) := by decide +kernel
theorem dX7_choose_166 : decode cX7_choose 166 = .ok (.iload 8, 2) := by decide +kernel
theorem dX7_choose_168 : decode cX7_choose 168 = .ok (.goto 5, 3) := by decide +kernel
theorem dX7_choose_171 : decode cX7_choose 171 = .ok (.iload 6, 2) := by decide +kernel
theorem dX7_choose_173 : decode cX7_choose 173 = .ok (.istore 6, 2) := by decide +kernel
theorem dX7_choose_175 : decode cX7_choose 175 = .ok (.iinc 7 (-1), 3) := by decide +kernel
theorem dX7_choose_178 : decode cX7_choose 178 = .ok (.goto (-42), 3) := by decide +kernel
theorem dX7_choose_181 : decode cX7_choose 181 = .ok (.iload 4, 2) := by decide +kernel
theorem dX7_choose_183 : decode cX7_choose 183 = .ok (.iconst (-1), 1) := by decide +kernel
theorem dX7_choose_184 : decode cX7_choose 184 = .ok (.if_icmp .ne 9, 3) := by decide +kernel
theorem dX7_choose_187 : decode cX7_choose 187 = .ok (.iload 5, 2) := by decide +kernel
theorem dX7_choose_189 : decode cX7_choose 189 = .ok (.iconst (-1), 1) := by decide +kernel
theorem dX7_choose_190 : decode cX7_choose 190 = .ok (.if_icmp .eq 17, 3) := by decide +kernel
theorem dX7_choose_193 : decode cX7_choose 193 = .ok (.iload 4, 2) := by decide +kernel
theorem dX7_choose_195 : decode cX7_choose 195 = .ok (.iconst (-1), 1) := by decide +kernel
theorem dX7_choose_196 : decode cX7_choose 196 = .ok (.if_icmp .eq 8, 3) := by decide +kernel
theorem dX7_choose_199 : decode cX7_choose 199 = .ok (.iload 4, 2) := by decide +kernel
theorem dX7_choose_201 : decode cX7_choose 201 = .ok (.goto 5, 3) := by decide +kernel
theorem dX7_choose_204 : decode cX7_choose 204 = .ok (.iload 5, 2) := by decide +kernel
theorem dX7_choose_206 : decode cX7_choose 206 = .ok (.ireturn, 1) := by decide +kernel
theorem dX7_choose_207 : decode cX7_choose 207 = .ok (.aload_n 0, 1) := by decide +kernel
theorem dX7_choose_208 : decode cX7_choose 208 = .ok (.getfield 13, 3) := by decide +kernel
theorem dX7_choose_211 : decode cX7_choose 211 = .ok (.iload_n 2, 1) := by decide +kernel
theorem dX7_choose_212 : decode cX7_choose 212 = .ok (.bipush 9, 2) := by decide +kernel
theorem dX7_choose_214 : decode cX7_choose 214 = .ok (.iadd, 1) := by decide +kernel
theorem dX7_choose_215 : decode cX7_choose 215 = .ok (.iaload, 1) := by decide +kernel
theorem dX7_choose_216 : decode cX7_choose 216 = .ok (.ifCond .le 6, 3) := by decide +kernel
theorem dX7_choose_219 : decode cX7_choose 219 = .ok (.bipush (-2), 2) := by decide +kernel
theorem dX7_choose_221 : decode cX7_choose 221 = .ok (.ireturn, 1) := by decide +kernel
theorem dX7_choose_222 : decode cX7_choose 222 = .ok (.aload_n 0, 1) := by decide +kernel
theorem dX7_choose_223 : decode cX7_choose 223 = .ok (.getfield 13, 3) := by decide +kernel
theorem dX7_choose_226 : decode cX7_choose 226 = .ok (.iload_n 2, 1) := by decide +kernel
theorem dX7_choose_227 : decode cX7_choose 227 = .ok (.iconst 5, 1) := by decide +kernel
theorem dX7_choose_228 : decode cX7_choose 228 = .ok (.iadd, 1) := by decide +kernel
theorem dX7_choose_229 : decode cX7_choose 229 = .ok (.iaload, 1) := by decide +kernel
theorem dX7_choose_230 : decode cX7_choose 230 = .ok (.istore 7, 2) := by decide +kernel
theorem dX7_choose_232 : decode cX7_choose 232 = .ok (.iload 7, 2) := by decide +kernel
theorem dX7_choose_234 : decode cX7_choose 234 = .ok (.iconst (-1), 1) := by decide +kernel
theorem dX7_choose_235 : decode cX7_choose 235 = .ok (.if_icmp .eq 55, 3) := by decide +kernel
theorem dX7_choose_238 : decode cX7_choose 238 = .ok (.aload_n 0, 1) := by decide +kernel
theorem dX7_choose_239 : decode cX7_choose 239 = .ok (.iload_n 1, 1) := by decide +kernel
theorem dX7_choose_240 : decode cX7_choose 240 = .ok (.iload 7, 2) := by decide +kernel
theorem dX7_choose_242 : decode cX7_choose 242 = .ok (.invokevirtual 182, 3) := by decide +kernel
theorem dX7_choose_245 : decode cX7_choose 245 = .ok (.ifCond .eq 45, 3) := by decide +kernel
theorem dX7_choose_248 : decode cX7_choose 248 = .ok (.aload_n 0, 1) := by decide +kernel
theorem dX7_choose_249 : decode cX7_choose 249 = .ok (.getfield 13, 3) := by decide +kernel
theorem dX7_choose_252 : decode cX7_choose 252 = .ok (.iload_n 2, 1) := by decide +kernel
theorem dX7_choose_253 : decode cX7_choose 253 = .ok (.bipush 8, 2) := by decide +kernel
theorem dX7_choose_255 : decode cX7_choose 255 = .ok (.iadd, 1) := by decide +kernel
theorem dX7_choose_256 : decode cX7_choose 256 = .ok (.iaload, 1) := by decide +kernel
theorem dX7_choose_257 : decode cX7_choose 257 = .ok (.aload_n 0, 1) := by decide +kernel
theorem dX7_choose_258 : decode cX7_choose 258 = .ok (.getfield 13, 3) := by decide +kernel
theorem dX7_choose_261 : decode cX7_choose 261 = .ok (.iload_n 1, 1) := by decide +kernel
theorem dX7_choose_262 : decode cX7_choose 262 = .ok (.iload 7, 2) := by decide +kernel
theorem dX7_choose_264 : decode cX7_choose 264 = .ok (.invokestatic 82, 3) := by decide +kernel
theorem dX7_choose_267 : decode cX7_choose 267 = .ok (.bipush 48, 2) := by decide +kernel
theorem dX7_choose_269 : decode cX7_choose 269 = .ok (.iadd, 1) := by decide +kernel
theorem dX7_choose_270 : decode cX7_choose 270 = .ok (.iaload, 1) := by decide +kernel
theorem dX7_choose_271 : decode cX7_choose 271 = .ok (.if_icmp .ge 19, 3) := by decide +kernel
theorem dX7_choose_274 : decode cX7_choose 274 = .ok (.aload_n 0, 1) := by decide +kernel
theorem dX7_choose_275 : decode cX7_choose 275 = .ok (.getfield 13, 3) := by decide +kernel
theorem dX7_choose_278 : decode cX7_choose 278 = .ok (.iload_n 2, 1) := by decide +kernel
theorem dX7_choose_279 : decode cX7_choose 279 = .ok (.bipush 8, 2) := by decide +kernel
theorem dX7_choose_281 : decode cX7_choose 281 = .ok (.iadd, 1) := by decide +kernel
theorem dX7_choose_282 : decode cX7_choose 282 = .ok (.dup2, 1) := by decide +kernel
theorem dX7_choose_283 : decode cX7_choose 283 = .ok (.iaload, 1) := by decide +kernel
theorem dX7_choose_284 : decode cX7_choose 284 = .ok (.iconst 1, 1) := by decide +kernel
theorem dX7_choose_285 : decode cX7_choose 285 = .ok (.iadd, 1) := by decide +kernel
theorem dX7_choose_286 : decode cX7_choose 286 = .ok (.iastore, 1) := by decide +kernel
theorem dX7_choose_287 : decode cX7_choose 287 = .ok (.iload 7, 2) := by decide +kernel
theorem dX7_choose_289 : decode cX7_choose 289 = .ok (.ireturn, 1) := by decide +kernel
theorem dX7_choose_290 : decode cX7_choose 290 = .ok (.iload 6, 2) := by decide +kernel
theorem dX7_choose_292 : decode cX7_choose 292 = .ok (.iconst (-1), 1) := by decide +kernel
theorem dX7_choose_293 : decode cX7_choose 293 = .ok (.if_icmp .eq 23, 3) := by decide +kernel
theorem dX7_choose_296 : decode cX7_choose 296 = .ok (.aload_n 0, 1) := by decide +kernel
theorem dX7_choose_297 : decode cX7_choose 297 = .ok (.getfield 13, 3) := by decide +kernel
theorem dX7_choose_300 : decode cX7_choose 300 = .ok (.iload_n 2, 1) := by decide +kernel
theorem dX7_choose_301 : decode cX7_choose 301 = .ok (.iconst 5, 1) := by decide +kernel
theorem dX7_choose_302 : decode cX7_choose 302 = .ok (.iadd, 1) := by decide +kernel
theorem dX7_choose_303 : decode cX7_choose 303 = .ok (.iload 6, 2) := by decide +kernel
theorem dX7_choose_305 : decode cX7_choose 305 = .ok (.iastore, 1) := by decide +kernel
theorem dX7_choose_306 : decode cX7_choose 306 = .ok (.aload_n 0, 1) := by decide +kernel
theorem dX7_choose_307 : decode cX7_choose 307 = .ok (.getfield 13, 3) := by decide +kernel
theorem dX7_choose_310 : decode cX7_choose 310 = .ok (.iload_n 2, 1) := by decide +kernel
theorem dX7_choose_311 : decode cX7_choose 311 = .ok (.bipush 8, 2) := by decide +kernel
theorem dX7_choose_313 : decode cX7_choose 313 = .ok (.iadd, 1) := by decide +kernel
theorem dX7_choose_314 : decode cX7_choose 314 = .ok (.iconst 1, 1) := by decide +kernel
theorem dX7_choose_315 : decode cX7_choose 315 = .ok (.iastore, 1) := by decide +kernel
theorem dX7_choose_316 : decode cX7_choose 316 = .ok (.iload 6, 2) := by decide +kernel
theorem dX7_choose_318 : decode cX7_choose 318 = .ok (.ireturn, 1) := by decide +kernel
theorem dX7_passes_0 : decode cX7_passes 0 = .ok (.iconst 0, 1) := by decide +kernel
theorem dX7_passes_1 : decode cX7_passes 1 = .ok (.istore 4, 2) := by decide +kernel
theorem dX7_passes_3 : decode cX7_passes 3 = .ok (.iload 4, 2) := by decide +kernel
theorem dX7_passes_5 : decode cX7_passes 5 = .ok (.iconst 2, 1) := by decide +kernel
theorem dX7_passes_6 : decode cX7_passes 6 = .ok (.if_icmp .ge 152, 3) := by decide +kernel
theorem dX7_passes_9 : decode cX7_passes 9 = .ok (.iconst 0, 1) := by decide +kernel
theorem dX7_passes_10 : decode cX7_passes 10 = .ok (.istore 5, 2) := by decide +kernel
theorem dX7_passes_12 : decode cX7_passes 12 = .ok (.aload_n 0, 1) := by decide +kernel
theorem dX7_passes_13 : decode cX7_passes 13 = .ok (.iload 4, 2) := by decide +kernel
theorem dX7_passes_15 : decode cX7_passes 15 = .ok (.invokevirtual 78, 3) := by decide +kernel
theorem dX7_passes_18 : decode cX7_passes 18 = .ok (.ifCond .eq 134, 3) := by decide +kernel
theorem dX7_passes_21 : decode cX7_passes 21 = .ok (.iload 5, 2) := by decide +kernel
theorem dX7_passes_23 : decode cX7_passes 23 = .ok (.aload_n 0, 1) := by decide +kernel
theorem dX7_passes_24 : decode cX7_passes 24 = .ok (.getfield 13, 3) := by decide +kernel
theorem dX7_passes_27 : decode cX7_passes 27 = .ok (.iload 4, 2) := by decide +kernel
theorem dX7_passes_29 : decode cX7_passes 29 = .ok (.invokestatic 75, 3) := by decide +kernel
theorem dX7_passes_32 : decode cX7_passes 32 = .ok (.bipush 6, 2) := by decide +kernel
theorem dX7_passes_34 : decode cX7_passes 34 = .ok (.iadd, 1) := by decide +kernel
theorem dX7_passes_35 : decode cX7_passes 35 = .ok (.iaload, 1) := by decide +kernel
theorem dX7_passes_36 : decode cX7_passes 36 = .ok (.if_icmp .ge 116, 3) := by decide +kernel
theorem dX7_passes_39 : decode cX7_passes 39 = .ok (.iload 4, 2) := by decide +kernel
theorem dX7_passes_41 : decode cX7_passes 41 = .ok (.iload 5, 2) := by decide +kernel
theorem dX7_passes_43 : decode cX7_passes 43 = .ok (.invokestatic 82, 3) := by decide +kernel
theorem dX7_passes_46 : decode cX7_passes 46 = .ok (.istore 6, 2) := by decide +kernel
theorem dX7_passes_48 : decode cX7_passes 48 = .ok (.iload 6, 2) := by decide +kernel
theorem dX7_passes_50 : decode cX7_passes 50 = .ok (.iload_n 2, 1) := by decide +kernel
theorem dX7_passes_51 : decode cX7_passes 51 = .ok (.if_icmp .eq 67, 3) := by decide +kernel
theorem dX7_passes_54 : decode cX7_passes 54 = .ok (.aload_n 0, 1) := by decide +kernel
theorem dX7_passes_55 : decode cX7_passes 55 = .ok (.getfield 13, 3) := by decide +kernel
theorem dX7_passes_58 : decode cX7_passes 58 = .ok (.iload 6, 2) := by decide +kernel
theorem dX7_passes_60 : decode cX7_passes 60 = .ok (.iaload, 1) := by decide +kernel
theorem dX7_passes_61 : decode cX7_passes 61 = .ok (.iload_n 1, 1) := by decide +kernel
theorem dX7_passes_62 : decode cX7_passes 62 = .ok (.if_icmp .ne 56, 3) := by decide +kernel
theorem dX7_passes_65 : decode cX7_passes 65 = .ok (.aload_n 0, 1) := by decide +kernel
theorem dX7_passes_66 : decode cX7_passes 66 = .ok (.getfield 13, 3) := by decide +kernel
theorem dX7_passes_69 : decode cX7_passes 69 = .ok (.iload 6, 2) := by decide +kernel
theorem dX7_passes_71 : decode cX7_passes 71 = .ok (.bipush 14, 2) := by decide +kernel
theorem dX7_passes_73 : decode cX7_passes 73 = .ok (.iadd, 1) := by decide +kernel
theorem dX7_passes_74 : decode cX7_passes 74 = .ok (.iaload, 1) := by decide +kernel
theorem dX7_passes_75 : decode cX7_passes 75 = .ok (.bipush 8, 2) := by decide +kernel
theorem dX7_passes_77 : decode cX7_passes 77 = .ok (.if_icmp .ge 41, 3) := by decide +kernel
theorem dX7_passes_80 : decode cX7_passes 80 = .ok (.aload_n 0, 1) := by decide +kernel
theorem dX7_passes_81 : decode cX7_passes 81 = .ok (.getfield 13, 3) := by decide +kernel
theorem dX7_passes_84 : decode cX7_passes 84 = .ok (.bipush 16, 2) := by decide +kernel
theorem dX7_passes_86 : decode cX7_passes 86 = .ok (.dup2, 1) := by decide +kernel
theorem dX7_passes_87 : decode cX7_passes 87 = .ok (.iaload, 1) := by decide +kernel
theorem dX7_passes_88 : decode cX7_passes 88 = .ok (.iconst 1, 1) := by decide +kernel
theorem dX7_passes_89 : decode cX7_passes 89 = .ok (.iadd, 1) := by decide +kernel
theorem dX7_passes_90 : decode cX7_passes 90 = .ok (.iastore, 1) := by decide +kernel
theorem dX7_passes_91 : decode cX7_passes 91 = .ok (.aload_n 0, 1) := by decide +kernel
theorem dX7_passes_92 : decode cX7_passes 92 = .ok (.iload 6, 2) := by decide +kernel
theorem dX7_passes_94 : decode cX7_passes 94 = .ok (.bipush 14, 2) := by decide +kernel
theorem dX7_passes_96 : decode cX7_passes 96 = .ok (.iadd, 1) := by decide +kernel
theorem dX7_passes_97 : decode cX7_passes 97 = .ok (.iload 6, 2) := by decide +kernel
theorem dX7_passes_99 : decode cX7_passes 99 = .ok (.bipush 58, 2) := by decide +kernel
theorem dX7_passes_101 : decode cX7_passes 101 = .ok (.iadd, 1) := by decide +kernel
theorem dX7_passes_102 : decode cX7_passes 102 = .ok (.iload_n 3, 1) := by decide +kernel
theorem dX7_passes_103 : decode cX7_passes 103 = .ok (.aload_n 0, 1) := by decide +kernel
theorem dX7_passes_104 : decode cX7_passes 104 = .ok (.getfield 13, 3) := by decide +kernel
theorem dX7_passes_107 : decode cX7_passes 107 = .ok (.bipush 7, 2) := by decide +kernel
theorem dX7_passes_109 : decode cX7_passes 109 = .ok (.iaload, 1) := by decide +kernel
theorem dX7_passes_110 : decode cX7_passes 110 = .ok (.iconst 2, 1) := by decide +kernel
theorem dX7_passes_111 : decode cX7_passes 111 = .ok (.iadd, 1) := by decide +kernel
theorem dX7_passes_112 : decode cX7_passes 112 = .ok (.invokevirtual 145, 3) := by decide +kernel
theorem dX7_passes_115 : decode cX7_passes 115 = .ok (.goto 31, 3) := by decide +kernel
theorem dX7_passes_118 : decode cX7_passes 118 = .ok (.iload 6, 2) := by decide +kernel
theorem dX7_passes_120 : decode cX7_passes 120 = .ok (.iload_n 2, 1) := by decide +kernel
theorem dX7_passes_121 : decode cX7_passes 121 = .ok (.if_icmp .eq 25, 3) := by decide +kernel
theorem dX7_passes_124 : decode cX7_passes 124 = .ok (.aload_n 0, 1) := by decide +kernel
theorem dX7_passes_125 : decode cX7_passes 125 = .ok (.getfield 13, 3) := by decide +kernel
theorem dX7_passes_128 : decode cX7_passes 128 = .ok (.iload 6, 2) := by decide +kernel
theorem dX7_passes_130 : decode cX7_passes 130 = .ok (.iaload, 1) := by decide +kernel
theorem dX7_passes_131 : decode cX7_passes 131 = .ok (.iload_n 1, 1) := by decide +kernel
theorem dX7_passes_132 : decode cX7_passes 132 = .ok (.if_icmp .ne 14, 3) := by decide +kernel
theorem dX7_passes_135 : decode cX7_passes 135 = .ok (.aload_n 0, 1) := by decide +kernel
theorem dX7_passes_136 : decode cX7_passes 136 = .ok (.getfield 13, 3) := by decide +kernel
theorem dX7_passes_139 : decode cX7_passes 139 = .ok (.bipush 17, 2) := by decide +kernel
theorem dX7_passes_141 : decode cX7_passes 141 = .ok (.dup2, 1) := by decide +kernel
theorem dX7_passes_142 : decode cX7_passes 142 = .ok (.iaload, 1) := by decide +kernel
theorem dX7_passes_143 : decode cX7_passes 143 = .ok (.iconst 1, 1) := by decide +kernel
theorem dX7_passes_144 : decode cX7_passes 144 = .ok (.iadd, 1) := by decide +kernel
theorem dX7_passes_145 : decode cX7_passes 145 = .ok (.iastore, 1) := by decide +kernel
theorem dX7_passes_146 : decode cX7_passes 146 = .ok (.iinc 5 1, 3) := by decide +kernel
theorem dX7_passes_149 : decode cX7_passes 149 = .ok (.goto (-137), 3) := by decide +kernel
theorem dX7_passes_152 : decode cX7_passes 152 = .ok (.iinc 4 1, 3) := by decide +kernel
theorem dX7_passes_155 : decode cX7_passes 155 = .ok (.goto (-152), 3) := by decide +kernel
theorem dX7_passes_158 : decode cX7_passes 158 = .ok (.return_, 1) := by decide +kernel
theorem dX7_hears_0 : decode cX7_hears 0 = .ok (.aload_n 0, 1) := by decide +kernel
theorem dX7_hears_1 : decode cX7_hears 1 = .ok (.getfield 13, 3) := by decide +kernel
theorem dX7_hears_4 : decode cX7_hears 4 = .ok (.iload_n 1, 1) := by decide +kernel
theorem dX7_hears_5 : decode cX7_hears 5 = .ok (.iload 4, 2) := by decide +kernel
theorem dX7_hears_7 : decode cX7_hears 7 = .ok (.iadd, 1) := by decide +kernel
theorem dX7_hears_8 : decode cX7_hears 8 = .ok (.iaload, 1) := by decide +kernel
theorem dX7_hears_9 : decode cX7_hears 9 = .ok (.iload_n 3, 1) := by decide +kernel
theorem dX7_hears_10 : decode cX7_hears 10 = .ok (.if_icmp .eq 106, 3) := by decide +kernel
theorem dX7_hears_13 : decode cX7_hears 13 = .ok (.aload_n 0, 1) := by decide +kernel
theorem dX7_hears_14 : decode cX7_hears 14 = .ok (.getfield 13, 3) := by decide +kernel
theorem dX7_hears_17 : decode cX7_hears 17 = .ok (.iload_n 1, 1) := by decide +kernel
theorem dX7_hears_18 : decode cX7_hears 18 = .ok (.iload 4, 2) := by decide +kernel
theorem dX7_hears_20 : decode cX7_hears 20 = .ok (.iadd, 1) := by decide +kernel
theorem dX7_hears_21 : decode cX7_hears 21 = .ok (.iload_n 3, 1) := by decide +kernel
theorem dX7_hears_22 : decode cX7_hears 22 = .ok (.iastore, 1) := by decide +kernel
theorem dX7_hears_23 : decode cX7_hears 23 = .ok (.iload 4, 2) := by decide +kernel
theorem dX7_hears_25 : decode cX7_hears 25 = .ok (.bipush 24, 2) := by decide +kernel
theorem dX7_hears_27 : decode cX7_hears 27 = .ok (.if_icmp .ne 8, 3) := by decide +kernel
theorem dX7_hears_30 : decode cX7_hears 30 = .ok (.bipush 27, 2) := by decide +kernel
theorem dX7_hears_32 : decode cX7_hears 32 = .ok (.goto 5, 3) := by decide +kernel
theorem dX7_hears_35 : decode cX7_hears 35 = .ok (.bipush 29, 2) := by decide +kernel
theorem dX7_hears_37 : decode cX7_hears 37 = .ok (.istore 5, 2) := by decide +kernel
theorem dX7_hears_39 : decode cX7_hears 39 = .ok (.aload_n 0, 1) := by decide +kernel
theorem dX7_hears_40 : decode cX7_hears 40 = .ok (.getfield 13, 3) := by decide +kernel
theorem dX7_hears_43 : decode cX7_hears 43 = .ok (.iload_n 1, 1) := by decide +kernel
theorem dX7_hears_44 : decode cX7_hears 44 = .ok (.iload 5, 2) := by decide +kernel
theorem dX7_hears_46 : decode cX7_hears 46 = .ok (.iadd, 1) := by decide +kernel
theorem dX7_hears_47 : decode cX7_hears 47 = .ok (.dup2, 1) := by decide +kernel
theorem dX7_hears_48 : decode cX7_hears 48 = .ok (.iaload, 1) := by decide +kernel
theorem dX7_hears_49 : decode cX7_hears 49 = .ok (.iconst 1, 1) := by decide +kernel
theorem dX7_hears_50 : decode cX7_hears 50 = .ok (.iadd, 1) := by decide +kernel
theorem dX7_hears_51 : decode cX7_hears 51 = .ok (.iastore, 1) := by decide +kernel
theorem dX7_hears_52 : decode cX7_hears 52 = .ok (.aload_n 0, 1) := by decide +kernel
theorem dX7_hears_53 : decode cX7_hears 53 = .ok (.getfield 13, 3) := by decide +kernel
theorem dX7_hears_56 : decode cX7_hears 56 = .ok (.iload_n 1, 1) := by decide +kernel
theorem dX7_hears_57 : decode cX7_hears 57 = .ok (.iload 5, 2) := by decide +kernel
theorem dX7_hears_59 : decode cX7_hears 59 = .ok (.iadd, 1) := by decide +kernel
theorem dX7_hears_60 : decode cX7_hears 60 = .ok (.iconst 1, 1) := by decide +kernel
theorem dX7_hears_61 : decode cX7_hears 61 = .ok (.iadd, 1) := by decide +kernel
theorem dX7_hears_62 : decode cX7_hears 62 = .ok (.bipush 31, 2) := by decide +kernel
theorem dX7_hears_64 : decode cX7_hears 64 = .ok (.aload_n 0, 1) := by decide +kernel
theorem dX7_hears_65 : decode cX7_hears 65 = .ok (.getfield 13, 3) := by decide +kernel
theorem dX7_hears_68 : decode cX7_hears 68 = .ok (.iload_n 1, 1) := by decide +kernel
theorem dX7_hears_69 : decode cX7_hears 69 = .ok (.iload 5, 2) := by decide +kernel
theorem dX7_hears_71 : decode cX7_hears 71 = .ok (.iadd, 1) := by decide +kernel
theorem dX7_hears_72 : decode cX7_hears 72 = .ok (.iconst 1, 1) := by decide +kernel
theorem dX7_hears_73 : decode cX7_hears 73 = .ok (.iadd, 1) := by decide +kernel
theorem dX7_hears_74 : decode cX7_hears 74 = .ok (.iaload, 1) := by decide +kernel
theorem dX7_hears_75 : decode cX7_hears 75 = .ok (.imul, 1) := by decide +kernel
theorem dX7_hears_76 : decode cX7_hears 76 = .ok (.iload_n 2, 1) := by decide +kernel
theorem dX7_hears_77 : decode cX7_hears 77 = .ok (.iadd, 1) := by decide +kernel
theorem dX7_hears_78 : decode cX7_hears 78 = .ok (.iconst 1, 1) := by decide +kernel
theorem dX7_hears_79 : decode cX7_hears 79 = .ok (.iadd, 1) := by decide +kernel
theorem dX7_hears_80 : decode cX7_hears 80 = .ok (.iastore, 1) := by decide +kernel
theorem dX7_hears_81 : decode cX7_hears 81 = .ok (.aload_n 0, 1) := by decide +kernel
theorem dX7_hears_82 : decode cX7_hears 82 = .ok (.dup, 1) := by decide +kernel
theorem dX7_hears_83 : decode cX7_hears 83 = .ok (.getfield 189, 3) := by decide +kernel
theorem dX7_hears_86 : decode cX7_hears 86 = .ok (.iconst 1, 1) := by decide +kernel
theorem dX7_hears_87 : decode cX7_hears 87 = .ok (.iadd, 1) := by decide +kernel
theorem dX7_hears_88 : decode cX7_hears 88 = .ok (.putfield 189, 3) := by decide +kernel
theorem dX7_hears_91 : decode cX7_hears 91 = .ok (.iload 4, 2) := by decide +kernel
theorem dX7_hears_93 : decode cX7_hears 93 = .ok (.bipush 24, 2) := by decide +kernel
theorem dX7_hears_95 : decode cX7_hears 95 = .ok (.if_icmp .ne 21, 3) := by decide +kernel
theorem dX7_hears_98 : decode cX7_hears 98 = .ok (.iload_n 2, 1) := by decide +kernel
theorem dX7_hears_99 : decode cX7_hears 99 = .ok (.bipush 127, 2) := by decide +kernel
theorem dX7_hears_101 : decode cX7_hears 101 = .ok (.if_icmp .le 15, 3) := by decide +kernel
theorem dX7_hears_104 : decode cX7_hears 104 = .ok (.aload_n 0, 1) := by decide +kernel
theorem dX7_hears_105 : decode cX7_hears 105 = .ok (.aload_n 0, 1) := by decide +kernel
theorem dX7_hears_106 : decode cX7_hears 106 = .ok (.getfield 13, 3) := by decide +kernel
theorem dX7_hears_109 : decode cX7_hears 109 = .ok (.iload_n 1, 1) := by decide +kernel
theorem dX7_hears_110 : decode cX7_hears 110 = .ok (.iaload, 1) := by decide +kernel
theorem dX7_hears_111 : decode cX7_hears 111 = .ok (.iload_n 1, 1) := by decide +kernel
theorem dX7_hears_112 : decode cX7_hears 112 = .ok (.iload_n 2, 1) := by decide +kernel
theorem dX7_hears_113 : decode cX7_hears 113 = .ok (.invokevirtual 192, 3) := by decide +kernel
theorem dX7_hears_116 : decode cX7_hears 116 = .ok (.return_, 1) := by decide +kernel
theorem dX7_goes_0 : decode cX7_goes 0 = .ok (.iload_n 1, 1) := by decide +kernel
theorem dX7_goes_1 : decode cX7_goes 1 = .ok (.iload_n 2, 1) := by decide +kernel
theorem dX7_goes_2 : decode cX7_goes 2 = .ok (.iconst 5, 1) := by decide +kernel
theorem dX7_goes_3 : decode cX7_goes 3 = .ok (.if_icmp .ne 8, 3) := by decide +kernel
theorem dX7_goes_6 : decode cX7_goes 6 = .ok (.bipush 50, 2) := by decide +kernel
theorem dX7_goes_8 : decode cX7_goes 8 = .ok (.goto 5, 3) := by decide +kernel
theorem dX7_goes_11 : decode cX7_goes 11 = .ok (.bipush 58, 2) := by decide +kernel
theorem dX7_goes_13 : decode cX7_goes 13 = .ok (.iadd, 1) := by decide +kernel
theorem dX7_goes_14 : decode cX7_goes 14 = .ok (.istore 4, 2) := by decide +kernel
theorem dX7_goes_16 : decode cX7_goes 16 = .ok (.iload_n 1, 1) := by decide +kernel
theorem dX7_goes_17 : decode cX7_goes 17 = .ok (.iload_n 2, 1) := by decide +kernel
theorem dX7_goes_18 : decode cX7_goes 18 = .ok (.iconst 5, 1) := by decide +kernel
theorem dX7_goes_19 : decode cX7_goes 19 = .ok (.if_icmp .ne 8, 3) := by decide +kernel
theorem dX7_goes_22 : decode cX7_goes 22 = .ok (.bipush 46, 2) := by decide +kernel
theorem dX7_goes_24 : decode cX7_goes 24 = .ok (.goto 5, 3) := by decide +kernel
theorem dX7_goes_27 : decode cX7_goes 27 = .ok (.bipush 47, 2) := by decide +kernel
theorem dX7_goes_29 : decode cX7_goes 29 = .ok (.iadd, 1) := by decide +kernel
theorem dX7_goes_30 : decode cX7_goes 30 = .ok (.istore 5, 2) := by decide +kernel
theorem dX7_goes_32 : decode cX7_goes 32 = .ok (.aload_n 0, 1) := by decide +kernel
theorem dX7_goes_33 : decode cX7_goes 33 = .ok (.getfield 13, 3) := by decide +kernel
theorem dX7_goes_36 : decode cX7_goes 36 = .ok (.bipush 7, 2) := by decide +kernel
theorem dX7_goes_38 : decode cX7_goes 38 = .ok (.iaload, 1) := by decide +kernel
theorem dX7_goes_39 : decode cX7_goes 39 = .ok (.aload_n 0, 1) := by decide +kernel
theorem dX7_goes_40 : decode cX7_goes 40 = .ok (.getfield 13, 3) := by decide +kernel
theorem dX7_goes_43 : decode cX7_goes 43 = .ok (.iload 4, 2) := by decide +kernel
theorem dX7_goes_45 : decode cX7_goes 45 = .ok (.iaload, 1) := by decide +kernel
theorem dX7_goes_46 : decode cX7_goes 46 = .ok (.isub, 1) := by decide +kernel
theorem dX7_goes_47 : decode cX7_goes 47 = .ok (.iconst 2, 1) := by decide +kernel
theorem dX7_goes_48 : decode cX7_goes 48 = .ok (.idiv, 1) := by decide +kernel
theorem dX7_goes_49 : decode cX7_goes 49 = .ok (.istore 6, 2) := by decide +kernel
theorem dX7_goes_51 : decode cX7_goes 51 = .ok (.aload_n 0, 1) := by decide +kernel
theorem dX7_goes_52 : decode cX7_goes 52 = .ok (.getfield 13, 3) := by decide +kernel
theorem dX7_goes_55 : decode cX7_goes 55 = .ok (.iload 5, 2) := by decide +kernel
theorem dX7_goes_57 : decode cX7_goes 57 = .ok (.iload 6, 2) := by decide +kernel
theorem dX7_goes_59 : decode cX7_goes 59 = .ok (.aload_n 0, 1) := by decide +kernel
theorem dX7_goes_60 : decode cX7_goes 60 = .ok (.getfield 13, 3) := by decide +kernel
theorem dX7_goes_63 : decode cX7_goes 63 = .ok (.iload 5, 2) := by decide +kernel
theorem dX7_goes_65 : decode cX7_goes 65 = .ok (.iaload, 1) := by decide +kernel
theorem dX7_goes_66 : decode cX7_goes 66 = .ok (.if_icmp .le 8, 3) := by decide +kernel
theorem dX7_goes_69 : decode cX7_goes 69 = .ok (.iload 6, 2) := by decide +kernel
theorem dX7_goes_71 : decode cX7_goes 71 = .ok (.goto 10, 3) := by decide +kernel
theorem dX7_goes_74 : decode cX7_goes 74 = .ok (.aload_n 0, 1) := by decide +kernel
theorem dX7_goes_75 : decode cX7_goes 75 = .ok (.getfield 13, 3) := by decide +kernel
theorem dX7_goes_78 : decode cX7_goes 78 = .ok (.iload 5, 2) := by decide +kernel
theorem dX7_goes_80 : decode cX7_goes 80 = .ok (.iaload, 1) := by decide +kernel
theorem dX7_goes_81 : decode cX7_goes 81 = .ok (.iastore, 1) := by decide +kernel
theorem dX7_goes_82 : decode cX7_goes 82 = .ok (.aload_n 0, 1) := by decide +kernel
theorem dX7_goes_83 : decode cX7_goes 83 = .ok (.getfield 13, 3) := by decide +kernel
theorem dX7_goes_86 : decode cX7_goes 86 = .ok (.iload_n 1, 1) := by decide +kernel
theorem dX7_goes_87 : decode cX7_goes 87 = .ok (.iload_n 2, 1) := by decide +kernel
theorem dX7_goes_88 : decode cX7_goes 88 = .ok (.iadd, 1) := by decide +kernel
theorem dX7_goes_89 : decode cX7_goes 89 = .ok (.dup2, 1) := by decide +kernel
theorem dX7_goes_90 : decode cX7_goes 90 = .ok (.iaload, 1) := by decide +kernel
theorem dX7_goes_91 : decode cX7_goes 91 = .ok (.iconst 1, 1) := by decide +kernel
theorem dX7_goes_92 : decode cX7_goes 92 = .ok (.isub, 1) := by decide +kernel
theorem dX7_goes_93 : decode cX7_goes 93 = .ok (.iastore, 1) := by decide +kernel
theorem dX7_goes_94 : decode cX7_goes 94 = .ok (.iconst 0, 1) := by decide +kernel
theorem dX7_goes_95 : decode cX7_goes 95 = .ok (.istore 7, 2) := by decide +kernel
theorem dX7_goes_97 : decode cX7_goes 97 = .ok (.iload 7, 2) := by decide +kernel
theorem dX7_goes_99 : decode cX7_goes 99 = .ok (.aload_n 0, 1) := by decide +kernel
theorem dX7_goes_100 : decode cX7_goes 100 = .ok (.getfield 13, 3) := by decide +kernel
theorem dX7_goes_103 : decode cX7_goes 103 = .ok (.iload_n 1, 1) := by decide +kernel
theorem dX7_goes_104 : decode cX7_goes 104 = .ok (.iload_n 2, 1) := by decide +kernel
theorem dX7_goes_105 : decode cX7_goes 105 = .ok (.iadd, 1) := by decide +kernel
theorem dX7_goes_106 : decode cX7_goes 106 = .ok (.iaload, 1) := by decide +kernel
theorem dX7_goes_107 : decode cX7_goes 107 = .ok (.if_icmp .ge 57, 3) := by decide +kernel
theorem dX7_goes_110 : decode cX7_goes 110 = .ok (.aload_n 0, 1) := by decide +kernel
theorem dX7_goes_111 : decode cX7_goes 111 = .ok (.getfield 13, 3) := by decide +kernel
theorem dX7_goes_114 : decode cX7_goes 114 = .ok (.iload_n 1, 1) := by decide +kernel
theorem dX7_goes_115 : decode cX7_goes 115 = .ok (.iload_n 2, 1) := by decide +kernel
theorem dX7_goes_116 : decode cX7_goes 116 = .ok (.iadd, 1) := by decide +kernel
theorem dX7_goes_117 : decode cX7_goes 117 = .ok (.iconst 1, 1) := by decide +kernel
theorem dX7_goes_118 : decode cX7_goes 118 = .ok (.iadd, 1) := by decide +kernel
theorem dX7_goes_119 : decode cX7_goes 119 = .ok (.iload 7, 2) := by decide +kernel
theorem dX7_goes_121 : decode cX7_goes 121 = .ok (.iadd, 1) := by decide +kernel
theorem dX7_goes_122 : decode cX7_goes 122 = .ok (.aload_n 0, 1) := by decide +kernel
theorem dX7_goes_123 : decode cX7_goes 123 = .ok (.getfield 13, 3) := by decide +kernel
theorem dX7_goes_126 : decode cX7_goes 126 = .ok (.iload_n 1, 1) := by decide +kernel
theorem dX7_goes_127 : decode cX7_goes 127 = .ok (.iload_n 2, 1) := by decide +kernel
theorem dX7_goes_128 : decode cX7_goes 128 = .ok (.iadd, 1) := by decide +kernel
theorem dX7_goes_129 : decode cX7_goes 129 = .ok (.iconst 2, 1) := by decide +kernel
theorem dX7_goes_130 : decode cX7_goes 130 = .ok (.iadd, 1) := by decide +kernel
theorem dX7_goes_131 : decode cX7_goes 131 = .ok (.iload 7, 2) := by decide +kernel
theorem dX7_goes_133 : decode cX7_goes 133 = .ok (.iadd, 1) := by decide +kernel
theorem dX7_goes_134 : decode cX7_goes 134 = .ok (.iaload, 1) := by decide +kernel
theorem dX7_goes_135 : decode cX7_goes 135 = .ok (.iastore, 1) := by decide +kernel
theorem dX7_goes_136 : decode cX7_goes 136 = .ok (.aload_n 0, 1) := by decide +kernel
theorem dX7_goes_137 : decode cX7_goes 137 = .ok (.getfield 13, 3) := by decide +kernel
theorem dX7_goes_140 : decode cX7_goes 140 = .ok (.iload 4, 2) := by decide +kernel
theorem dX7_goes_142 : decode cX7_goes 142 = .ok (.iload 7, 2) := by decide +kernel
theorem dX7_goes_144 : decode cX7_goes 144 = .ok (.iadd, 1) := by decide +kernel
theorem dX7_goes_145 : decode cX7_goes 145 = .ok (.aload_n 0, 1) := by decide +kernel
theorem dX7_goes_146 : decode cX7_goes 146 = .ok (.getfield 13, 3) := by decide +kernel
theorem dX7_goes_149 : decode cX7_goes 149 = .ok (.iload 4, 2) := by decide +kernel
theorem dX7_goes_151 : decode cX7_goes 151 = .ok (.iload 7, 2) := by decide +kernel
theorem dX7_goes_153 : decode cX7_goes 153 = .ok (.iadd, 1) := by decide +kernel
theorem dX7_goes_154 : decode cX7_goes 154 = .ok (.iconst 1, 1) := by decide +kernel
theorem dX7_goes_155 : decode cX7_goes 155 = .ok (.iadd, 1) := by decide +kernel
theorem dX7_goes_156 : decode cX7_goes 156 = .ok (.iaload, 1) := by decide +kernel
theorem dX7_goes_157 : decode cX7_goes 157 = .ok (.iastore, 1) := by decide +kernel
theorem dX7_goes_158 : decode cX7_goes 158 = .ok (.iinc 7 1, 3) := by decide +kernel
theorem dX7_goes_161 : decode cX7_goes 161 = .ok (.goto (-64), 3) := by decide +kernel
theorem dX7_goes_164 : decode cX7_goes 164 = .ok (.aload_n 0, 1) := by decide +kernel
theorem dX7_goes_165 : decode cX7_goes 165 = .ok (.getfield 13, 3) := by decide +kernel
theorem dX7_goes_168 : decode cX7_goes 168 = .ok (.iload_n 1, 1) := by decide +kernel
theorem dX7_goes_169 : decode cX7_goes 169 = .ok (.iload_n 3, 1) := by decide +kernel
theorem dX7_goes_170 : decode cX7_goes 170 = .ok (.iadd, 1) := by decide +kernel
theorem dX7_goes_171 : decode cX7_goes 171 = .ok (.iconst 1, 1) := by decide +kernel
theorem dX7_goes_172 : decode cX7_goes 172 = .ok (.aload_n 0, 1) := by decide +kernel
theorem dX7_goes_173 : decode cX7_goes 173 = .ok (.getfield 13, 3) := by decide +kernel
theorem dX7_goes_176 : decode cX7_goes 176 = .ok (.iload_n 1, 1) := by decide +kernel
theorem dX7_goes_177 : decode cX7_goes 177 = .ok (.iload_n 3, 1) := by decide +kernel
theorem dX7_goes_178 : decode cX7_goes 178 = .ok (.iadd, 1) := by decide +kernel
theorem dX7_goes_179 : decode cX7_goes 179 = .ok (.iaload, 1) := by decide +kernel
theorem dX7_goes_180 : decode cX7_goes 180 = .ok (.isub, 1) := by decide +kernel
theorem dX7_goes_181 : decode cX7_goes 181 = .ok (.iastore, 1) := by decide +kernel
theorem dX7_goes_182 : decode cX7_goes 182 = .ok (.return_, 1) := by decide +kernel
theorem dX7_chance_0 : decode cX7_chance 0 = .ok (.aload_n 0, 1) := by decide +kernel
theorem dX7_chance_1 : decode cX7_chance 1 = .ok (.iload_n 1, 1) := by decide +kernel
theorem dX7_chance_2 : decode cX7_chance 2 = .ok (.iload_n 3, 1) := by decide +kernel
theorem dX7_chance_3 : decode cX7_chance 3 = .ok (.aload_n 0, 1) := by decide +kernel
theorem dX7_chance_4 : decode cX7_chance 4 = .ok (.getfield 13, 3) := by decide +kernel
theorem dX7_chance_7 : decode cX7_chance 7 = .ok (.iload_n 1, 1) := by decide +kernel
theorem dX7_chance_8 : decode cX7_chance 8 = .ok (.invokestatic 75, 3) := by decide +kernel
theorem dX7_chance_11 : decode cX7_chance 11 = .ok (.iconst 2, 1) := by decide +kernel
theorem dX7_chance_12 : decode cX7_chance 12 = .ok (.iadd, 1) := by decide +kernel
theorem dX7_chance_13 : decode cX7_chance 13 = .ok (.iaload, 1) := by decide +kernel
theorem dX7_chance_14 : decode cX7_chance 14 = .ok (.invokevirtual 114, 3) := by decide +kernel
theorem dX7_chance_17 : decode cX7_chance 17 = .ok (.istore 4, 2) := by decide +kernel
theorem dX7_chance_19 : decode cX7_chance 19 = .ok (.iload 4, 2) := by decide +kernel
theorem dX7_chance_21 : decode cX7_chance 21 = .ok (.aload_n 0, 1) := by decide +kernel
theorem dX7_chance_22 : decode cX7_chance 22 = .ok (.iload_n 1, 1) := by decide +kernel
theorem dX7_chance_23 : decode cX7_chance 23 = .ok (.iload_n 3, 1) := by decide +kernel
theorem dX7_chance_24 : decode cX7_chance 24 = .ok (.aload_n 0, 1) := by decide +kernel
theorem dX7_chance_25 : decode cX7_chance 25 = .ok (.getfield 13, 3) := by decide +kernel
theorem dX7_chance_28 : decode cX7_chance 28 = .ok (.iload_n 1, 1) := by decide +kernel
theorem dX7_chance_29 : decode cX7_chance 29 = .ok (.iload_n 2, 1) := by decide +kernel
theorem dX7_chance_30 : decode cX7_chance 30 = .ok (.invokestatic 82, 3) := by decide +kernel
theorem dX7_chance_33 : decode cX7_chance 33 = .ok (.iconst 1, 1) := by decide +kernel
theorem dX7_chance_34 : decode cX7_chance 34 = .ok (.iadd, 1) := by decide +kernel
theorem dX7_chance_35 : decode cX7_chance 35 = .ok (.iaload, 1) := by decide +kernel
theorem dX7_chance_36 : decode cX7_chance 36 = .ok (.invokevirtual 114, 3) := by decide +kernel
theorem dX7_chance_39 : decode cX7_chance 39 = .ok (.if_icmp .ne 19, 3) := by decide +kernel
theorem dX7_chance_42 : decode cX7_chance 42 = .ok (.bipush 16, 2) := by decide +kernel
theorem dX7_chance_44 : decode cX7_chance 44 = .ok (.aload_n 0, 1) := by decide +kernel
theorem dX7_chance_45 : decode cX7_chance 45 = .ok (.getfield 13, 3) := by decide +kernel
theorem dX7_chance_48 : decode cX7_chance 48 = .ok (.bipush 19, 2) := by decide +kernel
theorem dX7_chance_50 : decode cX7_chance 50 = .ok (.iload 4, 2) := by decide +kernel
theorem dX7_chance_52 : decode cX7_chance 52 = .ok (.iadd, 1) := by decide +kernel
theorem dX7_chance_53 : decode cX7_chance 53 = .ok (.iaload, 1) := by decide +kernel
theorem dX7_chance_54 : decode cX7_chance 54 = .ok (.isub, 1) := by decide +kernel
theorem dX7_chance_55 : decode cX7_chance 55 = .ok (.goto 4, 3) := by decide +kernel
theorem dX7_chance_58 : decode cX7_chance 58 = .ok (.iconst 0, 1) := by decide +kernel
theorem dX7_chance_59 : decode cX7_chance 59 = .ok (.ireturn, 1) := by decide +kernel
theorem dX7_clashesBy_0 : decode cX7_clashesBy 0 = .ok (.iconst 0, 1) := by decide +kernel
theorem dX7_clashesBy_1 : decode cX7_clashesBy 1 = .ok (.istore_n 2, 1) := by decide +kernel
theorem dX7_clashesBy_2 : decode cX7_clashesBy 2 = .ok (.iconst 0, 1) := by decide +kernel
theorem dX7_clashesBy_3 : decode cX7_clashesBy 3 = .ok (.istore_n 3, 1) := by decide +kernel
theorem dX7_clashesBy_4 : decode cX7_clashesBy 4 = .ok (.iload_n 3, 1) := by decide +kernel
theorem dX7_clashesBy_5 : decode cX7_clashesBy 5 = .ok (.iload_n 1, 1) := by decide +kernel
theorem dX7_clashesBy_6 : decode cX7_clashesBy 6 = .ok (.if_icmp .ge 67, 3) := by decide +kernel
theorem dX7_clashesBy_9 : decode cX7_clashesBy 9 = .ok (.aload_n 0, 1) := by decide +kernel
theorem dX7_clashesBy_10 : decode cX7_clashesBy 10 = .ok (.getfield 13, 3) := by decide +kernel
theorem dX7_clashesBy_13 : decode cX7_clashesBy 13 = .ok (.bipush 7, 2) := by decide +kernel
theorem dX7_clashesBy_15 : decode cX7_clashesBy 15 = .ok (.iaload, 1) := by decide +kernel
theorem dX7_clashesBy_16 : decode cX7_clashesBy 16 = .ok (.iload_n 3, 1) := by decide +kernel
theorem dX7_clashesBy_17 : decode cX7_clashesBy 17 = .ok (.iadd, 1) := by decide +kernel
theorem dX7_clashesBy_18 : decode cX7_clashesBy 18 = .ok (.istore 4, 2) := by decide +kernel
theorem dX7_clashesBy_20 : decode cX7_clashesBy 20 = .ok (.iload_n 2, 1) := by decide +kernel
theorem dX7_clashesBy_21 : decode cX7_clashesBy 21 = .ok (.aload_n 0, 1) := by decide +kernel
theorem dX7_clashesBy_22 : decode cX7_clashesBy 22 = .ok (.iconst 0, 1) := by decide +kernel
theorem dX7_clashesBy_23 : decode cX7_clashesBy 23 = .ok (.iload 4, 2) := by decide +kernel
theorem dX7_clashesBy_25 : decode cX7_clashesBy 25 = .ok (.aload_n 0, 1) := by decide +kernel
theorem dX7_clashesBy_26 : decode cX7_clashesBy 26 = .ok (.getfield 13, 3) := by decide +kernel
theorem dX7_clashesBy_29 : decode cX7_clashesBy 29 = .ok (.iconst 0, 1) := by decide +kernel
theorem dX7_clashesBy_30 : decode cX7_clashesBy 30 = .ok (.invokestatic 75, 3) := by decide +kernel
theorem dX7_clashesBy_33 : decode cX7_clashesBy 33 = .ok (.iconst 2, 1) := by decide +kernel
theorem dX7_clashesBy_34 : decode cX7_clashesBy 34 = .ok (.iadd, 1) := by decide +kernel
theorem dX7_clashesBy_35 : decode cX7_clashesBy 35 = .ok (.iaload, 1) := by decide +kernel
theorem dX7_clashesBy_36 : decode cX7_clashesBy 36 = .ok (.invokevirtual 114, 3) := by decide +kernel
theorem dX7_clashesBy_39 : decode cX7_clashesBy 39 = .ok (.aload_n 0, 1) := by decide +kernel
theorem dX7_clashesBy_40 : decode cX7_clashesBy 40 = .ok (.iconst 1, 1) := by decide +kernel
theorem dX7_clashesBy_41 : decode cX7_clashesBy 41 = .ok (.iload 4, 2) := by decide +kernel
theorem dX7_clashesBy_43 : decode cX7_clashesBy 43 = .ok (.aload_n 0, 1) := by decide +kernel
theorem dX7_clashesBy_44 : decode cX7_clashesBy 44 = .ok (.getfield 13, 3) := by decide +kernel
theorem dX7_clashesBy_47 : decode cX7_clashesBy 47 = .ok (.iconst 1, 1) := by decide +kernel
theorem dX7_clashesBy_48 : decode cX7_clashesBy 48 = .ok (.invokestatic 75, 3) := by decide +kernel
theorem dX7_clashesBy_51 : decode cX7_clashesBy 51 = .ok (.iconst 2, 1) := by decide +kernel
theorem dX7_clashesBy_52 : decode cX7_clashesBy 52 = .ok (.iadd, 1) := by decide +kernel
theorem dX7_clashesBy_53 : decode cX7_clashesBy 53 = .ok (.iaload, 1) := by decide +kernel
theorem dX7_clashesBy_54 : decode cX7_clashesBy 54 = .ok (.invokevirtual 114, 3) := by decide +kernel
theorem dX7_clashesBy_57 : decode cX7_clashesBy 57 = .ok (.if_icmp .ne 7, 3) := by decide +kernel
theorem dX7_clashesBy_60 : decode cX7_clashesBy 60 = .ok (.iconst 1, 1) := by decide +kernel
theorem dX7_clashesBy_61 : decode cX7_clashesBy 61 = .ok (.goto 4, 3) := by decide +kernel
theorem dX7_clashesBy_64 : decode cX7_clashesBy 64 = .ok (.iconst 0, 1) := by decide +kernel
theorem dX7_clashesBy_65 : decode cX7_clashesBy 65 = .ok (.iadd, 1) := by decide +kernel
theorem dX7_clashesBy_66 : decode cX7_clashesBy 66 = .ok (.istore_n 2, 1) := by decide +kernel
theorem dX7_clashesBy_67 : decode cX7_clashesBy 67 = .ok (.iinc 3 1, 3) := by decide +kernel
theorem dX7_clashesBy_70 : decode cX7_clashesBy 70 = .ok (.goto (-66), 3) := by decide +kernel
theorem dX7_clashesBy_73 : decode cX7_clashesBy 73 = .ok (.iload_n 2, 1) := by decide +kernel
theorem dX7_clashesBy_74 : decode cX7_clashesBy 74 = .ok (.ireturn, 1) := by decide +kernel
theorem dX7_areBoth_0 : decode cX7_areBoth 0 = .ok (.aload_n 0, 1) := by decide +kernel
theorem dX7_areBoth_1 : decode cX7_areBoth 1 = .ok (.iconst 0, 1) := by decide +kernel
theorem dX7_areBoth_2 : decode cX7_areBoth 2 = .ok (.invokevirtual 78, 3) := by decide +kernel
theorem dX7_areBoth_5 : decode cX7_areBoth 5 = .ok (.ifCond .eq 27, 3) := by decide +kernel
theorem dX7_areBoth_8 : decode cX7_areBoth 8 = .ok (.aload_n 0, 1) := by decide +kernel
theorem dX7_areBoth_9 : decode cX7_areBoth 9 = .ok (.iconst 1, 1) := by decide +kernel
theorem dX7_areBoth_10 : decode cX7_areBoth 10 = .ok (.invokevirtual 78, 3) := by decide +kernel
theorem dX7_areBoth_13 : decode cX7_areBoth 13 = .ok (.ifCond .eq 19, 3) := by decide +kernel
theorem dX7_areBoth_16 : decode cX7_areBoth 16 = .ok (.iload_n 1, 1) := by decide +kernel
theorem dX7_areBoth_17 : decode cX7_areBoth 17 = .ok (.i2l, 1) := by decide +kernel
theorem dX7_areBoth_18 : decode cX7_areBoth 18 = .ok (.lconst 1, 1) := by decide +kernel
theorem dX7_areBoth_19 : decode cX7_areBoth 19 = .ok (.ldc2_w 245, 3) := by decide +kernel
theorem dX7_areBoth_22 : decode cX7_areBoth 22 = .ok (.invokestatic 71, 3) := by decide +kernel
theorem dX7_areBoth_25 : decode cX7_areBoth 25 = .ok (.ifCond .eq 7, 3) := by decide +kernel
theorem dX7_areBoth_28 : decode cX7_areBoth 28 = .ok (.iconst 1, 1) := by decide +kernel
theorem dX7_areBoth_29 : decode cX7_areBoth 29 = .ok (.goto 4, 3) := by decide +kernel
theorem dX7_areBoth_32 : decode cX7_areBoth 32 = .ok (.iconst 0, 1) := by decide +kernel
theorem dX7_areBoth_33 : decode cX7_areBoth 33 = .ok (.ireturn, 1) := by decide +kernel
theorem dX7_comesAt_0 : decode cX7_comesAt 0 = .ok (.aload_n 0, 1) := by decide +kernel
theorem dX7_comesAt_1 : decode cX7_comesAt 1 = .ok (.getfield 13, 3) := by decide +kernel
theorem dX7_comesAt_4 : decode cX7_comesAt 4 = .ok (.iload_n 1, 1) := by decide +kernel
theorem dX7_comesAt_5 : decode cX7_comesAt 5 = .ok (.bipush 31, 2) := by decide +kernel
theorem dX7_comesAt_7 : decode cX7_comesAt 7 = .ok (.iadd, 1) := by decide +kernel
theorem dX7_comesAt_8 : decode cX7_comesAt 8 = .ok (.iaload, 1) := by decide +kernel
theorem dX7_comesAt_9 : decode cX7_comesAt 9 = .ok (.ifCond .le 30, 3) := by decide +kernel
theorem dX7_comesAt_12 : decode cX7_comesAt 12 = .ok (.iload_n 2, 1) := by decide +kernel
theorem dX7_comesAt_13 : decode cX7_comesAt 13 = .ok (.aload_n 0, 1) := by decide +kernel
theorem dX7_comesAt_14 : decode cX7_comesAt 14 = .ok (.getfield 13, 3) := by decide +kernel
theorem dX7_comesAt_17 : decode cX7_comesAt 17 = .ok (.iload_n 1, 1) := by decide +kernel
theorem dX7_comesAt_18 : decode cX7_comesAt 18 = .ok (.bipush 31, 2) := by decide +kernel
theorem dX7_comesAt_20 : decode cX7_comesAt 20 = .ok (.iadd, 1) := by decide +kernel
theorem dX7_comesAt_21 : decode cX7_comesAt 21 = .ok (.iaload, 1) := by decide +kernel
theorem dX7_comesAt_22 : decode cX7_comesAt 22 = .ok (.irem, 1) := by decide +kernel
theorem dX7_comesAt_23 : decode cX7_comesAt 23 = .ok (.aload_n 0, 1) := by decide +kernel
theorem dX7_comesAt_24 : decode cX7_comesAt 24 = .ok (.getfield 13, 3) := by decide +kernel
theorem dX7_comesAt_27 : decode cX7_comesAt 27 = .ok (.iload_n 1, 1) := by decide +kernel
theorem dX7_comesAt_28 : decode cX7_comesAt 28 = .ok (.bipush 32, 2) := by decide +kernel
theorem dX7_comesAt_30 : decode cX7_comesAt 30 = .ok (.iadd, 1) := by decide +kernel
theorem dX7_comesAt_31 : decode cX7_comesAt 31 = .ok (.iaload, 1) := by decide +kernel
theorem dX7_comesAt_32 : decode cX7_comesAt 32 = .ok (.if_icmp .ne 7, 3) := by decide +kernel
theorem dX7_comesAt_35 : decode cX7_comesAt 35 = .ok (.iconst 1, 1) := by decide +kernel
theorem dX7_comesAt_36 : decode cX7_comesAt 36 = .ok (.goto 4, 3) := by decide +kernel
theorem dX7_comesAt_39 : decode cX7_comesAt 39 = .ok (.iconst 0, 1) := by decide +kernel
theorem dX7_comesAt_40 : decode cX7_comesAt 40 = .ok (.ireturn, 1) := by decide +kernel
theorem dX7_isAhead_0 : decode cX7_isAhead 0 = .ok (.aload_n 0, 1) := by decide +kernel
theorem dX7_isAhead_1 : decode cX7_isAhead 1 = .ok (.getfield 13, 3) := by decide +kernel
theorem dX7_isAhead_4 : decode cX7_isAhead 4 = .ok (.iload_n 1, 1) := by decide +kernel
theorem dX7_isAhead_5 : decode cX7_isAhead 5 = .ok (.bipush 39, 2) := by decide +kernel
theorem dX7_isAhead_7 : decode cX7_isAhead 7 = .ok (.iadd, 1) := by decide +kernel
theorem dX7_isAhead_8 : decode cX7_isAhead 8 = .ok (.iload_n 2, 1) := by decide +kernel
theorem dX7_isAhead_9 : decode cX7_isAhead 9 = .ok (.iadd, 1) := by decide +kernel
theorem dX7_isAhead_10 : decode cX7_isAhead 10 = .ok (.iaload, 1) := by decide +kernel
theorem dX7_isAhead_11 : decode cX7_isAhead 11 = .ok (.i2l, 1) := by decide +kernel
theorem dX7_isAhead_12 : decode cX7_isAhead 12 = .ok (.aload_n 0, 1) := by decide +kernel
theorem dX7_isAhead_13 : decode cX7_isAhead 13 = .ok (.getfield 13, 3) := by decide +kernel
theorem dX7_isAhead_16 : decode cX7_isAhead 16 = .ok (.iload_n 1, 1) := by decide +kernel
theorem dX7_isAhead_17 : decode cX7_isAhead 17 = .ok (.bipush 16, 2) := by decide +kernel
theorem dX7_isAhead_19 : decode cX7_isAhead 19 = .ok (.iadd, 1) := by decide +kernel
theorem dX7_isAhead_20 : decode cX7_isAhead 20 = .ok (.iload_n 3, 1) := by decide +kernel
theorem dX7_isAhead_21 : decode cX7_isAhead 21 = .ok (.iadd, 1) := by decide +kernel
theorem dX7_isAhead_22 : decode cX7_isAhead 22 = .ok (.iaload, 1) := by decide +kernel
theorem dX7_isAhead_23 : decode cX7_isAhead 23 = .ok (.i2l, 1) := by decide +kernel
theorem dX7_isAhead_24 : decode cX7_isAhead 24 = .ok (.lmul, 1) := by decide +kernel
theorem dX7_isAhead_25 : decode cX7_isAhead 25 = .ok (.lstore 4, 2) := by decide +kernel
theorem dX7_isAhead_27 : decode cX7_isAhead 27 = .ok (.aload_n 0, 1) := by decide +kernel
theorem dX7_isAhead_28 : decode cX7_isAhead 28 = .ok (.getfield 13, 3) := by decide +kernel
theorem dX7_isAhead_31 : decode cX7_isAhead 31 = .ok (.iload_n 1, 1) := by decide +kernel
theorem dX7_isAhead_32 : decode cX7_isAhead 32 = .ok (.bipush 39, 2) := by decide +kernel
theorem dX7_isAhead_34 : decode cX7_isAhead 34 = .ok (.iadd, 1) := by decide +kernel
theorem dX7_isAhead_35 : decode cX7_isAhead 35 = .ok (.iload_n 3, 1) := by decide +kernel
theorem dX7_isAhead_36 : decode cX7_isAhead 36 = .ok (.iadd, 1) := by decide +kernel
theorem dX7_isAhead_37 : decode cX7_isAhead 37 = .ok (.iaload, 1) := by decide +kernel
theorem dX7_isAhead_38 : decode cX7_isAhead 38 = .ok (.i2l, 1) := by decide +kernel
theorem dX7_isAhead_39 : decode cX7_isAhead 39 = .ok (.aload_n 0, 1) := by decide +kernel
theorem dX7_isAhead_40 : decode cX7_isAhead 40 = .ok (.getfield 13, 3) := by decide +kernel
theorem dX7_isAhead_43 : decode cX7_isAhead 43 = .ok (.iload_n 1, 1) := by decide +kernel
theorem dX7_isAhead_44 : decode cX7_isAhead 44 = .ok (.bipush 16, 2) := by decide +kernel
theorem dX7_isAhead_46 : decode cX7_isAhead 46 = .ok (.iadd, 1) := by decide +kernel
theorem dX7_isAhead_47 : decode cX7_isAhead 47 = .ok (.iload_n 2, 1) := by decide +kernel
theorem dX7_isAhead_48 : decode cX7_isAhead 48 = .ok (.iadd, 1) := by decide +kernel
theorem dX7_isAhead_49 : decode cX7_isAhead 49 = .ok (.iaload, 1) := by decide +kernel
theorem dX7_isAhead_50 : decode cX7_isAhead 50 = .ok (.i2l, 1) := by decide +kernel
theorem dX7_isAhead_51 : decode cX7_isAhead 51 = .ok (.lmul, 1) := by decide +kernel
theorem dX7_isAhead_52 : decode cX7_isAhead 52 = .ok (.lstore 6, 2) := by decide +kernel
theorem dX7_isAhead_54 : decode cX7_isAhead 54 = .ok (.aload_n 0, 1) := by decide +kernel
theorem dX7_isAhead_55 : decode cX7_isAhead 55 = .ok (.getfield 13, 3) := by decide +kernel
theorem dX7_isAhead_58 : decode cX7_isAhead 58 = .ok (.iload_n 1, 1) := by decide +kernel
theorem dX7_isAhead_59 : decode cX7_isAhead 59 = .ok (.bipush 16, 2) := by decide +kernel
theorem dX7_isAhead_61 : decode cX7_isAhead 61 = .ok (.iadd, 1) := by decide +kernel
theorem dX7_isAhead_62 : decode cX7_isAhead 62 = .ok (.iload_n 2, 1) := by decide +kernel
theorem dX7_isAhead_63 : decode cX7_isAhead 63 = .ok (.iadd, 1) := by decide +kernel
theorem dX7_isAhead_64 : decode cX7_isAhead 64 = .ok (.iaload, 1) := by decide +kernel
theorem dX7_isAhead_65 : decode cX7_isAhead 65 = .ok (.ifCond .le 28, 3) := by decide +kernel
theorem dX7_isAhead_68 : decode cX7_isAhead 68 = .ok (.lload 4, 2) := by decide +kernel
theorem dX7_isAhead_70 : decode cX7_isAhead 70 = .ok (.lload 6, 2) := by decide +kernel
theorem dX7_isAhead_72 : decode cX7_isAhead 72 = .ok (.lcmp, 1) := by decide +kernel
theorem dX7_isAhead_73 : decode cX7_isAhead 73 = .ok (.ifCond .gt 16, 3) := by decide +kernel
theorem dX7_isAhead_76 : decode cX7_isAhead 76 = .ok (.lload 4, 2) := by decide +kernel
theorem dX7_isAhead_78 : decode cX7_isAhead 78 = .ok (.lload 6, 2) := by decide +kernel
theorem dX7_isAhead_80 : decode cX7_isAhead 80 = .ok (.lcmp, 1) := by decide +kernel
theorem dX7_isAhead_81 : decode cX7_isAhead 81 = .ok (.ifCond .ne 12, 3) := by decide +kernel
theorem dX7_isAhead_84 : decode cX7_isAhead 84 = .ok (.iload_n 2, 1) := by decide +kernel
theorem dX7_isAhead_85 : decode cX7_isAhead 85 = .ok (.iload_n 3, 1) := by decide +kernel
theorem dX7_isAhead_86 : decode cX7_isAhead 86 = .ok (.if_icmp .ge 7, 3) := by decide +kernel
theorem dX7_isAhead_89 : decode cX7_isAhead 89 = .ok (.iconst 1, 1) := by decide +kernel
theorem dX7_isAhead_90 : decode cX7_isAhead 90 = .ok (.goto 4, 3) := by decide +kernel
theorem dX7_isAhead_93 : decode cX7_isAhead 93 = .ok (.iconst 0, 1) := by decide +kernel
theorem dX7_isAhead_94 : decode cX7_isAhead 94 = .ok (.ireturn, 1) := by decide +kernel
theorem dX7_isEmpty_0 : decode cX7_isEmpty 0 = .ok (.iload_n 1, 1) := by decide +kernel
theorem dX7_isEmpty_1 : decode cX7_isEmpty 1 = .ok (.iload_n 2, 1) := by decide +kernel
theorem dX7_isEmpty_2 : decode cX7_isEmpty 2 = .ok (.invokestatic 82, 3) := by decide +kernel
theorem dX7_isEmpty_5 : decode cX7_isEmpty 5 = .ok (.istore_n 3, 1) := by decide +kernel
theorem dX7_isEmpty_6 : decode cX7_isEmpty 6 = .ok (.aload_n 0, 1) := by decide +kernel
theorem dX7_isEmpty_7 : decode cX7_isEmpty 7 = .ok (.getfield 13, 3) := by decide +kernel
theorem dX7_isEmpty_10 : decode cX7_isEmpty 10 = .ok (.iload_n 3, 1) := by decide +kernel
theorem dX7_isEmpty_11 : decode cX7_isEmpty 11 = .ok (.iconst 5, 1) := by decide +kernel
theorem dX7_isEmpty_12 : decode cX7_isEmpty 12 = .ok (.iadd, 1) := by decide +kernel
theorem dX7_isEmpty_13 : decode cX7_isEmpty 13 = .ok (.iaload, 1) := by decide +kernel
theorem dX7_isEmpty_14 : decode cX7_isEmpty 14 = .ok (.ifCond .ne 19, 3) := by decide +kernel
theorem dX7_isEmpty_17 : decode cX7_isEmpty 17 = .ok (.aload_n 0, 1) := by decide +kernel
theorem dX7_isEmpty_18 : decode cX7_isEmpty 18 = .ok (.getfield 13, 3) := by decide +kernel
theorem dX7_isEmpty_21 : decode cX7_isEmpty 21 = .ok (.iload_n 3, 1) := by decide +kernel
theorem dX7_isEmpty_22 : decode cX7_isEmpty 22 = .ok (.bipush 14, 2) := by decide +kernel
theorem dX7_isEmpty_24 : decode cX7_isEmpty 24 = .ok (.iadd, 1) := by decide +kernel
theorem dX7_isEmpty_25 : decode cX7_isEmpty 25 = .ok (.iaload, 1) := by decide +kernel
theorem dX7_isEmpty_26 : decode cX7_isEmpty 26 = .ok (.ifCond .ne 7, 3) := by decide +kernel
theorem dX7_isEmpty_29 : decode cX7_isEmpty 29 = .ok (.iconst 1, 1) := by decide +kernel
theorem dX7_isEmpty_30 : decode cX7_isEmpty 30 = .ok (.goto 4, 3) := by decide +kernel
theorem dX7_isEmpty_33 : decode cX7_isEmpty 33 = .ok (.iconst 0, 1) := by decide +kernel
theorem dX7_isEmpty_34 : decode cX7_isEmpty 34 = .ok (.ireturn, 1) := by decide +kernel
theorem dX7_otherMaps_0 : decode cX7_otherMaps 0 = .ok (.iconst 0, 1) := by decide +kernel
theorem dX7_otherMaps_1 : decode cX7_otherMaps 1 = .ok (.istore_n 1, 1) := by decide +kernel
theorem dX7_otherMaps_2 : decode cX7_otherMaps 2 = .ok (.iconst 0, 1) := by decide +kernel
theorem dX7_otherMaps_3 : decode cX7_otherMaps 3 = .ok (.istore_n 2, 1) := by decide +kernel
theorem dX7_otherMaps_4 : decode cX7_otherMaps 4 = .ok (.iload_n 2, 1) := by decide +kernel
theorem dX7_otherMaps_5 : decode cX7_otherMaps 5 = .ok (.iconst 2, 1) := by decide +kernel
theorem dX7_otherMaps_6 : decode cX7_otherMaps 6 = .ok (.if_icmp .ge 75, 3) := by decide +kernel
theorem dX7_otherMaps_9 : decode cX7_otherMaps 9 = .ok (.iconst 0, 1) := by decide +kernel
theorem dX7_otherMaps_10 : decode cX7_otherMaps 10 = .ok (.istore_n 3, 1) := by decide +kernel
theorem dX7_otherMaps_11 : decode cX7_otherMaps 11 = .ok (.aload_n 0, 1) := by decide +kernel
theorem dX7_otherMaps_12 : decode cX7_otherMaps 12 = .ok (.iload_n 2, 1) := by decide +kernel
theorem dX7_otherMaps_13 : decode cX7_otherMaps 13 = .ok (.invokevirtual 78, 3) := by decide +kernel
theorem dX7_otherMaps_16 : decode cX7_otherMaps 16 = .ok (.ifCond .eq 59, 3) := by decide +kernel
theorem dX7_otherMaps_19 : decode cX7_otherMaps 19 = .ok (.iload_n 3, 1) := by decide +kernel
theorem dX7_otherMaps_20 : decode cX7_otherMaps 20 = .ok (.aload_n 0, 1) := by decide +kernel
theorem dX7_otherMaps_21 : decode cX7_otherMaps 21 = .ok (.getfield 13, 3) := by decide +kernel
theorem dX7_otherMaps_24 : decode cX7_otherMaps 24 = .ok (.iload_n 2, 1) := by decide +kernel
theorem dX7_otherMaps_25 : decode cX7_otherMaps 25 = .ok (.invokestatic 75, 3) := by decide +kernel
theorem dX7_otherMaps_28 : decode cX7_otherMaps 28 = .ok (.bipush 6, 2) := by decide +kernel
theorem dX7_otherMaps_30 : decode cX7_otherMaps 30 = .ok (.iadd, 1) := by decide +kernel
theorem dX7_otherMaps_31 : decode cX7_otherMaps 31 = .ok (.iaload, 1) := by decide +kernel
theorem dX7_otherMaps_32 : decode cX7_otherMaps 32 = .ok (.if_icmp .ge 43, 3) := by decide +kernel
theorem dX7_otherMaps_35 : decode cX7_otherMaps 35 = .ok (.iload_n 1, 1) := by decide +kernel
theorem dX7_otherMaps_36 : decode cX7_otherMaps 36 = .ok (.aload_n 0, 1) := by decide +kernel
theorem dX7_otherMaps_37 : decode cX7_otherMaps 37 = .ok (.getfield 13, 3) := by decide +kernel
theorem dX7_otherMaps_40 : decode cX7_otherMaps 40 = .ok (.iload_n 2, 1) := by decide +kernel
theorem dX7_otherMaps_41 : decode cX7_otherMaps 41 = .ok (.iload_n 3, 1) := by decide +kernel
theorem dX7_otherMaps_42 : decode cX7_otherMaps 42 = .ok (.invokestatic 82, 3) := by decide +kernel
theorem dX7_otherMaps_45 : decode cX7_otherMaps 45 = .ok (.iconst 1, 1) := by decide +kernel
theorem dX7_otherMaps_46 : decode cX7_otherMaps 46 = .ok (.iadd, 1) := by decide +kernel
theorem dX7_otherMaps_47 : decode cX7_otherMaps 47 = .ok (.iaload, 1) := by decide +kernel
theorem dX7_otherMaps_48 : decode cX7_otherMaps 48 = .ok (.aload_n 0, 1) := by decide +kernel
theorem dX7_otherMaps_49 : decode cX7_otherMaps 49 = .ok (.getfield 13, 3) := by decide +kernel
theorem dX7_otherMaps_52 : decode cX7_otherMaps 52 = .ok (.iload_n 2, 1) := by decide +kernel
theorem dX7_otherMaps_53 : decode cX7_otherMaps 53 = .ok (.invokestatic 75, 3) := by decide +kernel
theorem dX7_otherMaps_56 : decode cX7_otherMaps 56 = .ok (.iconst 2, 1) := by decide +kernel
theorem dX7_otherMaps_57 : decode cX7_otherMaps 57 = .ok (.iadd, 1) := by decide +kernel
theorem dX7_otherMaps_58 : decode cX7_otherMaps 58 = .ok (.iaload, 1) := by decide +kernel
theorem dX7_otherMaps_59 : decode cX7_otherMaps 59 = .ok (.if_icmp .ne 7, 3) := by decide +kernel
theorem dX7_otherMaps_62 : decode cX7_otherMaps 62 = .ok (.iconst 0, 1) := by decide +kernel
theorem dX7_otherMaps_63 : decode cX7_otherMaps 63 = .ok (.goto 4, 3) := by decide +kernel
theorem dX7_otherMaps_66 : decode cX7_otherMaps 66 = .ok (.iconst 1, 1) := by decide +kernel
theorem dX7_otherMaps_67 : decode cX7_otherMaps 67 = .ok (.iadd, 1) := by decide +kernel
theorem dX7_otherMaps_68 : decode cX7_otherMaps 68 = .ok (.istore_n 1, 1) := by decide +kernel
theorem dX7_otherMaps_69 : decode cX7_otherMaps 69 = .ok (.iinc 3 1, 3) := by decide +kernel
theorem dX7_otherMaps_72 : decode cX7_otherMaps 72 = .ok (.goto (-61), 3) := by decide +kernel
theorem dX7_otherMaps_75 : decode cX7_otherMaps 75 = .ok (.iinc 2 1, 3) := by decide +kernel
theorem dX7_otherMaps_78 : decode cX7_otherMaps 78 = .ok (.goto (-74), 3) := by decide +kernel
theorem dX7_otherMaps_81 : decode cX7_otherMaps 81 = .ok (.iload_n 1, 1) := by decide +kernel
theorem dX7_otherMaps_82 : decode cX7_otherMaps 82 = .ok (.ireturn, 1) := by decide +kernel
theorem dX7_canTurn_0 : decode cX7_canTurn 0 = .ok (.iload_n 1, 1) := by decide +kernel
theorem dX7_canTurn_1 : decode cX7_canTurn 1 = .ok (.i2l, 1) := by decide +kernel
theorem dX7_canTurn_2 : decode cX7_canTurn 2 = .ok (.lconst 1, 1) := by decide +kernel
theorem dX7_canTurn_3 : decode cX7_canTurn 3 = .ok (.ldc2_w 239, 3) := by decide +kernel
theorem dX7_canTurn_6 : decode cX7_canTurn 6 = .ok (.invokestatic 71, 3) := by decide +kernel
theorem dX7_canTurn_9 : decode cX7_canTurn 9 = .ok (.ifCond .eq 23, 3) := by decide +kernel
theorem dX7_canTurn_12 : decode cX7_canTurn 12 = .ok (.aload_n 0, 1) := by decide +kernel
theorem dX7_canTurn_13 : decode cX7_canTurn 13 = .ok (.getfield 13, 3) := by decide +kernel
theorem dX7_canTurn_16 : decode cX7_canTurn 16 = .ok (.bipush 7, 2) := by decide +kernel
theorem dX7_canTurn_18 : decode cX7_canTurn 18 = .ok (.iaload, 1) := by decide +kernel
theorem dX7_canTurn_19 : decode cX7_canTurn 19 = .ok (.iconst 2, 1) := by decide +kernel
theorem dX7_canTurn_20 : decode cX7_canTurn 20 = .ok (.iload_n 1, 1) := by decide +kernel
theorem dX7_canTurn_21 : decode cX7_canTurn 21 = .ok (.imul, 1) := by decide +kernel
theorem dX7_canTurn_22 : decode cX7_canTurn 22 = .ok (.iadd, 1) := by decide +kernel
theorem dX7_canTurn_23 : decode cX7_canTurn 23 = .ok (.ldc 241, 2) := by decide +kernel
theorem dX7_canTurn_25 : decode cX7_canTurn 25 = .ok (.if_icmp .gt 7, 3) := by decide +kernel
theorem dX7_canTurn_28 : decode cX7_canTurn 28 = .ok (.iconst 1, 1) := by decide +kernel
theorem dX7_canTurn_29 : decode cX7_canTurn 29 = .ok (.goto 4, 3) := by decide +kernel
theorem dX7_canTurn_32 : decode cX7_canTurn 32 = .ok (.iconst 0, 1) := by decide +kernel
theorem dX7_canTurn_33 : decode cX7_canTurn 33 = .ok (.ireturn, 1) := by decide +kernel
theorem dX7_heardOfAll_0 : decode cX7_heardOfAll 0 = .ok (.iconst 0, 1) := by decide +kernel
theorem dX7_heardOfAll_1 : decode cX7_heardOfAll 1 = .ok (.istore_n 1, 1) := by decide +kernel
theorem dX7_heardOfAll_2 : decode cX7_heardOfAll 2 = .ok (.iconst 0, 1) := by decide +kernel
theorem dX7_heardOfAll_3 : decode cX7_heardOfAll 3 = .ok (.istore_n 2, 1) := by decide +kernel
theorem dX7_heardOfAll_4 : decode cX7_heardOfAll 4 = .ok (.iload_n 2, 1) := by decide +kernel
theorem dX7_heardOfAll_5 : decode cX7_heardOfAll 5 = .ok (.iconst 2, 1) := by decide +kernel
theorem dX7_heardOfAll_6 : decode cX7_heardOfAll 6 = .ok (.if_icmp .ge 71, 3) := by decide +kernel
theorem dX7_heardOfAll_9 : decode cX7_heardOfAll 9 = .ok (.iconst 0, 1) := by decide +kernel
theorem dX7_heardOfAll_10 : decode cX7_heardOfAll 10 = .ok (.istore_n 3, 1) := by decide +kernel
theorem dX7_heardOfAll_11 : decode cX7_heardOfAll 11 = .ok (.aload_n 0, 1) := by decide +kernel
theorem dX7_heardOfAll_12 : decode cX7_heardOfAll 12 = .ok (.iload_n 2, 1) := by decide +kernel
theorem dX7_heardOfAll_13 : decode cX7_heardOfAll 13 = .ok (.invokevirtual 78, 3) := by decide +kernel
theorem dX7_heardOfAll_16 : decode cX7_heardOfAll 16 = .ok (.ifCond .eq 55, 3) := by decide +kernel
theorem dX7_heardOfAll_19 : decode cX7_heardOfAll 19 = .ok (.iload_n 3, 1) := by decide +kernel
theorem dX7_heardOfAll_20 : decode cX7_heardOfAll 20 = .ok (.aload_n 0, 1) := by decide +kernel
theorem dX7_heardOfAll_21 : decode cX7_heardOfAll 21 = .ok (.getfield 13, 3) := by decide +kernel
theorem dX7_heardOfAll_24 : decode cX7_heardOfAll 24 = .ok (.iload_n 2, 1) := by decide +kernel
theorem dX7_heardOfAll_25 : decode cX7_heardOfAll 25 = .ok (.invokestatic 75, 3) := by decide +kernel
theorem dX7_heardOfAll_28 : decode cX7_heardOfAll 28 = .ok (.bipush 6, 2) := by decide +kernel
theorem dX7_heardOfAll_30 : decode cX7_heardOfAll 30 = .ok (.iadd, 1) := by decide +kernel
theorem dX7_heardOfAll_31 : decode cX7_heardOfAll 31 = .ok (.iaload, 1) := by decide +kernel
theorem dX7_heardOfAll_32 : decode cX7_heardOfAll 32 = .ok (.if_icmp .ge 39, 3) := by decide +kernel
theorem dX7_heardOfAll_35 : decode cX7_heardOfAll 35 = .ok (.iload_n 1, 1) := by decide +kernel
theorem dX7_heardOfAll_36 : decode cX7_heardOfAll 36 = .ok (.aload_n 0, 1) := by decide +kernel
theorem dX7_heardOfAll_37 : decode cX7_heardOfAll 37 = .ok (.getfield 13, 3) := by decide +kernel
theorem dX7_heardOfAll_40 : decode cX7_heardOfAll 40 = .ok (.iload_n 2, 1) := by decide +kernel
theorem dX7_heardOfAll_41 : decode cX7_heardOfAll 41 = .ok (.iload_n 3, 1) := by decide +kernel
theorem dX7_heardOfAll_42 : decode cX7_heardOfAll 42 = .ok (.invokestatic 82, 3) := by decide +kernel
theorem dX7_heardOfAll_45 : decode cX7_heardOfAll 45 = .ok (.bipush 27, 2) := by decide +kernel
theorem dX7_heardOfAll_47 : decode cX7_heardOfAll 47 = .ok (.iadd, 1) := by decide +kernel
theorem dX7_heardOfAll_48 : decode cX7_heardOfAll 48 = .ok (.iaload, 1) := by decide +kernel
theorem dX7_heardOfAll_49 : decode cX7_heardOfAll 49 = .ok (.aload_n 0, 1) := by decide +kernel
theorem dX7_heardOfAll_50 : decode cX7_heardOfAll 50 = .ok (.getfield 13, 3) := by decide +kernel
theorem dX7_heardOfAll_53 : decode cX7_heardOfAll 53 = .ok (.iload_n 2, 1) := by decide +kernel
theorem dX7_heardOfAll_54 : decode cX7_heardOfAll 54 = .ok (.iload_n 3, 1) := by decide +kernel
theorem dX7_heardOfAll_55 : decode cX7_heardOfAll 55 = .ok (.invokestatic 82, 3) := by decide +kernel
theorem dX7_heardOfAll_58 : decode cX7_heardOfAll 58 = .ok (.bipush 29, 2) := by decide +kernel
theorem dX7_heardOfAll_60 : decode cX7_heardOfAll 60 = .ok (.iadd, 1) := by decide +kernel
theorem dX7_heardOfAll_61 : decode cX7_heardOfAll 61 = .ok (.iaload, 1) := by decide +kernel
theorem dX7_heardOfAll_62 : decode cX7_heardOfAll 62 = .ok (.iadd, 1) := by decide +kernel
theorem dX7_heardOfAll_63 : decode cX7_heardOfAll 63 = .ok (.iadd, 1) := by decide +kernel
theorem dX7_heardOfAll_64 : decode cX7_heardOfAll 64 = .ok (.istore_n 1, 1) := by decide +kernel
theorem dX7_heardOfAll_65 : decode cX7_heardOfAll 65 = .ok (.iinc 3 1, 3) := by decide +kernel
theorem dX7_heardOfAll_68 : decode cX7_heardOfAll 68 = .ok (.goto (-57), 3) := by decide +kernel
theorem dX7_heardOfAll_71 : decode cX7_heardOfAll 71 = .ok (.iinc 2 1, 3) := by decide +kernel
theorem dX7_heardOfAll_74 : decode cX7_heardOfAll 74 = .ok (.goto (-70), 3) := by decide +kernel
theorem dX7_heardOfAll_77 : decode cX7_heardOfAll 77 = .ok (.iload_n 1, 1) := by decide +kernel
theorem dX7_heardOfAll_78 : decode cX7_heardOfAll 78 = .ok (.ireturn, 1) := by decide +kernel
set_option maxHeartbeats 4000000 in
set_option maxRecDepth 100000 in
theorem d_X7_mapHeldL (l : Launch) (E : hE) (ρ r : Nat → Nat → Int32) (Bt : Nat) (hBt : Bt ≤ 1000000) (M : Nat → Int32) (L : Nat → Nat) (X : Nat × Nat → Prop) (na1 : Nat) (lna1 : 0 ≤ na1) (una1 : na1 ≤ 1) (na2 : Nat) (lna2 : 0 ≤ na2) (una2 : na2 ≤ 3) (hI : RI r Bt M L X ρ) (hlt : na2 + 1 ≤ L na1) : Met l yX7_mapHeld (.code yX7_mapHeld cX7_mapHeld 3 (some .int) :: gw_all) (rmk 3 120) (cPre E ρ [.ref (E.2.1 + 1076), .int (nI na1), .int (nI na2)]) (cI E (fun v ρ1 => ρ = ρ1 ∧ RI r Bt M L X ρ1 ∧ iR v (1) (8388607))) 0 0 (hA E) := by
  refine ent (own := RX7) (by decide) rfl (Nat.le_of_ble_eq_true rfl) ?_
  intro p e s m below meth c ls B hr hlk hl hP hS
  have hx := B.1.1
  have hb := B.1.2.1
  have hown := B.1.2.2.2.1
  have hts := B.1.2.2.2.2
  have hl : lv_has ls 3 [(0, .ref (E.2.1 + 1076)), (1, .int (nI na1)), (2, .int (nI na2))] := hl
  refine lv_iload_n hx hb dX7_mapHeld_0 rfl (lv_at hl 2 rfl) ?_
  refine lv_iconst (v := (-1)) hx hb dX7_mapHeld_1 (by decide) ?_
  refine lv_icmp_ne (tgt := 19) hx hb dX7_mapHeld_2 (by decide) (fun _ => ?_) (fun c9 => absurd c9 (iR_ne (nI_iR (j := na2) (a := 0) (b := 3) (by omega) (by omega) (by omega)) (show iR (-1) (-1) (-1) from ⟨by decide, by decide⟩) (by decide)))
  refine lv_aload_n hx hb dX7_mapHeld_19 rfl (lv_at hl 0 rfl) ?_
  refine get7 B hP (show hk 1076 = 7 by decide +kernel) 3 (by decide) mw_1030 rfl dX7_mapHeld_20 ?_
  refine lv_iload_n hx hb dX7_mapHeld_23 rfl (lv_at hl 1 rfl) ?_
  refine lv_iload_n hx hb dX7_mapHeld_24 rfl (lv_at hl 2 rfl) ?_
  refine call_i (cS (av := [.int (nI na1), .int (nI na2)]) (rest := [.ref (E.2.1 + 1078)]) B hP hS (d_X7_linkAt l E ρ r Bt hBt M L X na1 (by omega) (by omega) na2 (by omega) (by omega) hI) lk_RX7_82 rfl rfl hl.1 (Nat.le_of_ble_eq_true rfl) ⟨Nat.le_of_ble_eq_true rfl, Nat.le_of_ble_eq_true rfl⟩ ⟨Nat.le_of_ble_eq_true rfl, Nat.le_of_ble_eq_true rfl⟩ dX7_mapHeld_25) hS (fun r10 ρ11 H locs q12 hP hS => ?_)
  obtain ⟨rfl, hI, q12⟩ := q12
  obtain rfl : r10 = nI (104 + 326 * na1 + 66 * na2) := q12.trans (congrArg nI (by omega))
  refine lv_iconst (v := 1) hx hb dX7_mapHeld_28 (by decide) ?_
  refine lv_iadd hx hb dX7_mapHeld_29 ?_
  refine lv_topi (fun z13 ez13 => ?_)
  obtain rfl : z13 = (nI (105 + 326 * na1 + 66 * na2)) := ez13.trans (by rw [show (nI (104 + 326 * na1 + 66 * na2)) = nI (104 + 326 * na1 + 66 * na2) from rfl, show 1 = nI 1 from rfl, nI_add] <;> exact congrArg nI (by omega))
  refine aldn (n := 695) (j := (105 + 326 * na1 + 66 * na2)) B hP (show hk 1078 = 8 by decide +kernel) (show hlen 1078 = 695 by decide +kernel) rfl (by omega) (by decide) dX7_mapHeld_30 ?_
  have i14 : iR (ρ 1078 (105 + 326 * na1 + 66 * na2)) (1) (8388607) := g_itsmap (n0 := na1) (l0 := na2) (j := (105 + 326 * na1 + 66 * na2)) hI (by omega) (by omega) (by omega)
  obtain ⟨j15, lj15, uj15, ej15⟩ := iR_nat (a := 1) (b := 8388607) i14
  refine lv_topi (fun z16 ez16 => ?_)
  obtain rfl : z16 = nI j15 := ez16.trans ej15
  exact ret_i B hr hlk hP hS dX7_mapHeld_31 (⟨rfl, hI, (iR_w (a := 1) (b := 8388607) (nI_iR (j := j15) (a := 1) (b := 8388607) (by omega) (by omega) (by omega)) (by decide) (by decide))⟩)

set_option maxHeartbeats 4000000 in
set_option maxRecDepth 100000 in
theorem d_X7_mapHeldN (l : Launch) (E : hE) (ρ r : Nat → Nat → Int32) (Bt : Nat) (hBt : Bt ≤ 1000000) (M : Nat → Int32) (L : Nat → Nat) (X : Nat × Nat → Prop) (na1 : Nat) (lna1 : 0 ≤ na1) (una1 : na1 ≤ 1) (hI : RI r Bt M L X ρ) (hm : iR (M na1) 0 5) : Met l yX7_mapHeld (.code yX7_mapHeld cX7_mapHeld 3 (some .int) :: gw_all) (rmk 3 120) (cPre E ρ [.ref (E.2.1 + 1076), .int (nI na1), .int (-1)]) (cI E (fun v ρ1 => ρ = ρ1 ∧ RI r Bt M L X ρ1 ∧ iR v (1) (8388607))) 0 0 (hA E) := by
  refine ent (own := RX7) (by decide) rfl (Nat.le_of_ble_eq_true rfl) ?_
  intro p e s m below meth c ls B hr hlk hl hP hS
  have hx := B.1.1
  have hb := B.1.2.1
  have hown := B.1.2.2.2.1
  have hts := B.1.2.2.2.2
  have hl : lv_has ls 3 [(0, .ref (E.2.1 + 1076)), (1, .int (nI na1)), (2, .int (-1))] := hl
  refine lv_iload_n hx hb dX7_mapHeld_0 rfl (lv_at hl 2 rfl) ?_
  refine lv_iconst (v := (-1)) hx hb dX7_mapHeld_1 (by decide) ?_
  refine lv_icmp_ne (tgt := 19) hx hb dX7_mapHeld_2 (by decide) (fun c9 => absurd rfl c9) (fun _ => ?_)
  refine lv_aload_n hx hb dX7_mapHeld_5 rfl (lv_at hl 0 rfl) ?_
  refine get7 B hP (show hk 1076 = 7 by decide +kernel) 3 (by decide) mw_1030 rfl dX7_mapHeld_6 ?_
  refine lv_iload_n hx hb dX7_mapHeld_9 rfl (lv_at hl 1 rfl) ?_
  refine call_i (cS (av := [.int (nI na1)]) (rest := [.ref (E.2.1 + 1078)]) B hP hS (d_X7_netAt l E ρ r Bt hBt M L X na1 (by omega) (by omega) hI) lk_RX7_75 rfl rfl hl.1 (Nat.le_of_ble_eq_true rfl) ⟨Nat.le_of_ble_eq_true rfl, Nat.le_of_ble_eq_true rfl⟩ ⟨Nat.le_of_ble_eq_true rfl, Nat.le_of_ble_eq_true rfl⟩ dX7_mapHeld_10) hS (fun r10 ρ11 H locs q12 hP hS => ?_)
  obtain ⟨rfl, hI, q12⟩ := q12
  obtain rfl : r10 = nI (42 + 326 * na1) := q12.trans (congrArg nI (by omega))
  refine lv_iconst (v := 2) hx hb dX7_mapHeld_13 (by decide) ?_
  refine lv_iadd hx hb dX7_mapHeld_14 ?_
  refine lv_topi (fun z13 ez13 => ?_)
  obtain rfl : z13 = (nI (44 + 326 * na1)) := ez13.trans (by rw [show (nI (42 + 326 * na1)) = nI (42 + 326 * na1) from rfl, show 2 = nI 2 from rfl, nI_add] <;> exact congrArg nI (by omega))
  refine aldn (n := 695) (j := (44 + 326 * na1)) B hP (show hk 1078 = 8 by decide +kernel) (show hlen 1078 = 695 by decide +kernel) rfl (by omega) (by decide) dX7_mapHeld_15 ?_
  have i14 : iR (ρ 1078 (44 + 326 * na1)) (1) (8388607) := g_map (n0 := na1) (j := (44 + 326 * na1)) hI (by omega) hm (by omega)
  obtain ⟨j15, lj15, uj15, ej15⟩ := iR_nat (a := 1) (b := 8388607) i14
  refine lv_topi (fun z16 ez16 => ?_)
  obtain rfl : z16 = nI j15 := ez16.trans ej15
  refine lv_goto (tgt := 31) hx hb dX7_mapHeld_16 (by decide) ?_
  exact ret_i B hr hlk hP hS dX7_mapHeld_31 (⟨rfl, hI, (iR_w (a := 1) (b := 8388607) (nI_iR (j := j15) (a := 1) (b := 8388607) (by omega) (by omega) (by omega)) (by decide) (by decide))⟩)

theorem lk_RX7_182 : LkV RX7 182 RX7 yX7_isLinkHere cX7_isLinkHere 3 (some .boolean) 2 := ⟨⟨mw_1273, mw_1275, mw_26, mw_59, mw_1276⟩, by decide +kernel⟩
set_option maxHeartbeats 4000000 in
set_option maxRecDepth 100000 in
theorem d_X7_choose (l : Launch) (E : hE) (ρ r : Nat → Nat → Int32) (Bt : Nat) (hBt : Bt ≤ 1000000) (M : Nat → Int32) (L : Nat → Nat) (X : Nat × Nat → Prop) (na1 : Nat) (lna1 : 0 ≤ na1) (una1 : na1 ≤ 1) (hI : RI r Bt M L X ρ) (hm : iR (M na1) 0 5) : Met l yX7_choose (.code yX7_choose cX7_choose 9 (some .int) :: gw_all) (rmk 7 280) (cPre E ρ [.ref (E.2.1 + 1076), .int (nI na1)]) (cI E (fun v ρ1 => RI r Bt M L X ρ1 ∧ (iR v (-2) ((L na1 : Int) - 1) ∧ (v = -2 → iR (ρ1 1078 (51 + 326 * na1)) 1 4)))) 0 0 (hA E) := by
  refine ent (own := RX7) (by decide) rfl (Nat.le_of_ble_eq_true rfl) ?_
  intro p e s m below meth c ls B hr hlk hl hP hS
  have hx := B.1.1
  have hb := B.1.2.1
  have hown := B.1.2.2.2.1
  have hts := B.1.2.2.2.2
  have hl : lv_has ls 9 [(0, .ref (E.2.1 + 1076)), (1, .int (nI na1))] := hl
  have b316_0 : ∀ (ls : Array Slot) (ρ : Nat → Nat → Int32) (H : Heap) (locs : List Loc) (x316_6 : Int32), lv_has ls 9 [(6, .int x316_6)] → WP E ρ H → va_S (hA E) s.heap H locs → RI r Bt M L X ρ → iR x316_6 (-1) (3) → iR (M na1) (0) (5) → 0 ≤ (L na1) → (L na1) ≤ 4 → 0 ≤ na1 → na1 ≤ 1 → iR x316_6 (-1) ((L na1 : Int) - 1) → W p l e (rmk 7 280) s m ([.ref (E.2.1 + 1076), .int (nI na1)] : List Value).toArray below meth c H locs 0 0 (MQ below (cI E (fun v ρ1 => RI r Bt M L X ρ1 ∧ (iR v (-2) ((L na1 : Int) - 1) ∧ (v = -2 → iR (ρ1 1078 (51 + 326 * na1)) 1 4)))) ([.ref (E.2.1 + 1076), .int (nI na1)] : List Value).toArray s 0 0 (hA E)) (F0 m 316 ls []) := by
    intro ls ρ H locs x316_6 hl hP hS hI hx316_6 f_M_na1_ tl_L_na1_ tu_L_na1_ tlna1 tuna1 hr316_0
    refine lv_iload hx hb dX7_choose_316 (lv_at hl 0 rfl) ?_
    exact ret_i B hr hlk hP hS dX7_choose_318 (⟨hI, ⟨iR_w hr316_0 (by decide) (by omega), fun z => by have := hr316_0.1; rw [z] at this; exact absurd this (by decide)⟩⟩)
  have b290_0 : ∀ (ls : Array Slot) (ρ : Nat → Nat → Int32) (H : Heap) (locs : List Loc) (x290_6 : Int32), lv_has ls 9 [(0, .ref (E.2.1 + 1076)), (2, .int (nI (42 + 326 * na1))), (6, .int x290_6)] → WP E ρ H → va_S (hA E) s.heap H locs → RI r Bt M L X ρ → iR x290_6 (-1) (3) → iR (M na1) (0) (5) → 0 ≤ (L na1) → (L na1) ≤ 4 → 0 ≤ na1 → na1 ≤ 1 → iR x290_6 (-1) ((L na1 : Int) - 1) → W p l e (rmk 7 280) s m ([.ref (E.2.1 + 1076), .int (nI na1)] : List Value).toArray below meth c H locs 0 0 (MQ below (cI E (fun v ρ1 => RI r Bt M L X ρ1 ∧ (iR v (-2) ((L na1 : Int) - 1) ∧ (v = -2 → iR (ρ1 1078 (51 + 326 * na1)) 1 4)))) ([.ref (E.2.1 + 1076), .int (nI na1)] : List Value).toArray s 0 0 (hA E)) (F0 m 290 ls []) := by
    intro ls ρ H locs x290_6 hl hP hS hI hx290_6 f_M_na1_ tl_L_na1_ tu_L_na1_ tlna1 tuna1 hr290_0
    refine lv_iload hx hb dX7_choose_290 (lv_at hl 2 rfl) ?_
    refine lv_iconst (v := (-1)) hx hb dX7_choose_292 (by decide) ?_
    refine lv_icmp_eq (tgt := 316) hx hb dX7_choose_293 (by decide) (fun c285 => ?_) (fun c285 => ?_)
    · skip
      have i286 : iR x290_6 (-1) (-1) := (by rw [c285]; exact ⟨by decide, by decide⟩)
      exact b316_0 ls ρ _ _ (x290_6 : Int32) (lv_sub hl [2] rfl) hP hS hI (iR_w i286 (by decide) (by decide)) (iR_w f_M_na1_ (by decide) (by decide)) (by omega) (by omega) (by omega) (by omega) hr290_0
    · skip
      have i287 : iR x290_6 (0) (3) := (iR_neL hx290_6 (show iR (-1) (-1) (-1) from ⟨by decide, by decide⟩) c285 (by decide) (by decide))
      refine lv_aload_n hx hb dX7_choose_296 rfl (lv_at hl 0 rfl) ?_
      refine get7 B hP (show hk 1076 = 7 by decide +kernel) 3 (by decide) mw_1030 rfl dX7_choose_297 ?_
      refine lv_iload_n hx hb dX7_choose_300 rfl (lv_at hl 1 rfl) ?_
      refine lv_iconst (v := 5) hx hb dX7_choose_301 (by decide) ?_
      refine lv_iadd hx hb dX7_choose_302 ?_
      refine lv_topi (fun z288 ez288 => ?_)
      obtain rfl : z288 = (nI (47 + 326 * na1)) := ez288.trans (by rw [show (nI (42 + 326 * na1)) = nI (42 + 326 * na1) from rfl, show 5 = nI 5 from rfl, nI_add] <;> exact congrArg nI (by omega))
      refine lv_iload hx hb dX7_choose_303 (lv_at hl 2 rfl) ?_
      obtain ⟨j289, lj289, uj289, ej289⟩ := iR_nat (a := 0) (b := 3) i287
      refine lv_topi (fun z290 ez290 => ?_)
      obtain rfl : z290 = nI j289 := ez290.trans ej289
      have : j289 < L na1 := rl_lt hr290_0 ej289 (by omega)
      refine astn (n := 695) (j := (47 + 326 * na1)) B hP hS (show hk 1078 = 8 by decide +kernel) (show hlen 1078 = 695 by decide +kernel) rfl (by omega) (by decide) dX7_choose_305 (fun H locs hP hS => ?_)
      obtain ⟨ρ291, e292⟩ : ∃ z, z = up ρ 1078 (47 + 326 * na1) (nI j289) := ⟨_, rfl⟩
      rw [← e292] at hP
      have hI : RI r Bt M L X ρ291 := by rw [e292]; exact RI_up hI (ok_polled (n0 := na1) (j := (47 + 326 * na1)) (by omega) (rl_nat (k := j289) (by omega) (by omega)) (by omega))
      refine lv_aload_n hx hb dX7_choose_306 rfl (lv_at hl 0 rfl) ?_
      refine get7 B hP (show hk 1076 = 7 by decide +kernel) 3 (by decide) mw_1030 rfl dX7_choose_307 ?_
      refine lv_iload_n hx hb dX7_choose_310 rfl (lv_at hl 1 rfl) ?_
      refine lv_bipush (v := 8) hx hb dX7_choose_311 (by decide) ?_
      refine lv_iadd hx hb dX7_choose_313 ?_
      refine lv_topi (fun z293 ez293 => ?_)
      obtain rfl : z293 = (nI (50 + 326 * na1)) := ez293.trans (by rw [show (nI (42 + 326 * na1)) = nI (42 + 326 * na1) from rfl, show 8 = nI 8 from rfl, nI_add] <;> exact congrArg nI (by omega))
      refine lv_iconst (v := 1) hx hb dX7_choose_314 (by decide) ?_
      refine astn (n := 695) (j := (50 + 326 * na1)) B hP hS (show hk 1078 = 8 by decide +kernel) (show hlen 1078 = 695 by decide +kernel) rfl (by omega) (by decide) dX7_choose_315 (fun H locs hP hS => ?_)
      obtain ⟨ρ294, e295⟩ : ∃ z, z = up ρ291 1078 (50 + 326 * na1) 1 := ⟨_, rfl⟩
      rw [← e295] at hP
      have hI : RI r Bt M L X ρ294 := by rw [e295]; exact RI_up hI (ok_net (n0 := na1) (j := (50 + 326 * na1)) 8 (by omega) (by omega) (by omega))
      exact b316_0 ls ρ294 _ _ (x290_6 : Int32) (lv_sub hl [2] rfl) hP hS hI (iR_w i287 (by decide) (by decide)) (iR_w f_M_na1_ (by decide) (by decide)) (by omega) (by omega) (by omega) (by omega) hr290_0
  have b206_0 : ∀ (ls : Array Slot) (ρ : Nat → Nat → Int32) (H : Heap) (locs : List Loc) (x206_s0 : Int32), lv_has ls 9 [] → WP E ρ H → va_S (hA E) s.heap H locs → RI r Bt M L X ρ → iR x206_s0 (-1) (3) → iR (M na1) (0) (5) → 0 ≤ (L na1) → (L na1) ≤ 4 → 0 ≤ na1 → na1 ≤ 1 → iR x206_s0 (-1) ((L na1 : Int) - 1) → W p l e (rmk 7 280) s m ([.ref (E.2.1 + 1076), .int (nI na1)] : List Value).toArray below meth c H locs 0 0 (MQ below (cI E (fun v ρ1 => RI r Bt M L X ρ1 ∧ (iR v (-2) ((L na1 : Int) - 1) ∧ (v = -2 → iR (ρ1 1078 (51 + 326 * na1)) 1 4)))) ([.ref (E.2.1 + 1076), .int (nI na1)] : List Value).toArray s 0 0 (hA E)) (F0 m 206 ls [.int x206_s0]) := by
    intro ls ρ H locs x206_s0 hl hP hS hI hx206_s0 f_M_na1_ tl_L_na1_ tu_L_na1_ tlna1 tuna1 hr206_0
    exact ret_i B hr hlk hP hS dX7_choose_206 (⟨hI, ⟨iR_w hr206_0 (by decide) (by omega), fun z => by have := hr206_0.1; rw [z] at this; exact absurd this (by decide)⟩⟩)
  have b193_0 : ∀ (ls : Array Slot) (ρ : Nat → Nat → Int32) (H : Heap) (locs : List Loc) (x193_4 : Int32) (x193_5 : Int32), lv_has ls 9 [(4, .int x193_4), (5, .int x193_5)] → WP E ρ H → va_S (hA E) s.heap H locs → RI r Bt M L X ρ → iR x193_4 (-1) (3) → iR x193_5 (-1) (3) → iR (M na1) (0) (5) → 0 ≤ (L na1) → (L na1) ≤ 4 → 0 ≤ na1 → na1 ≤ 1 → iR x193_4 (-1) ((L na1 : Int) - 1) → iR x193_5 (-1) ((L na1 : Int) - 1) → W p l e (rmk 7 280) s m ([.ref (E.2.1 + 1076), .int (nI na1)] : List Value).toArray below meth c H locs 0 0 (MQ below (cI E (fun v ρ1 => RI r Bt M L X ρ1 ∧ (iR v (-2) ((L na1 : Int) - 1) ∧ (v = -2 → iR (ρ1 1078 (51 + 326 * na1)) 1 4)))) ([.ref (E.2.1 + 1076), .int (nI na1)] : List Value).toArray s 0 0 (hA E)) (F0 m 193 ls []) := by
    intro ls ρ H locs x193_4 x193_5 hl hP hS hI hx193_4 hx193_5 f_M_na1_ tl_L_na1_ tu_L_na1_ tlna1 tuna1 hr193_0 hr193_1
    refine lv_iload hx hb dX7_choose_193 (lv_at hl 0 rfl) ?_
    refine lv_iconst (v := (-1)) hx hb dX7_choose_195 (by decide) ?_
    refine lv_icmp_eq (tgt := 204) hx hb dX7_choose_196 (by decide) (fun c296 => ?_) (fun c296 => ?_)
    · skip
      have i297 : iR x193_4 (-1) (-1) := (by rw [c296]; exact ⟨by decide, by decide⟩)
      refine lv_iload hx hb dX7_choose_204 (lv_at hl 1 rfl) ?_
      exact b206_0 ls ρ _ _ (x193_5 : Int32) (lv_sub hl [] rfl) hP hS hI (iR_w hx193_5 (by decide) (by decide)) (iR_w f_M_na1_ (by decide) (by decide)) (by omega) (by omega) (by omega) (by omega) hr193_1
    · skip
      have i298 : iR x193_4 (0) (3) := (iR_neL hx193_4 (show iR (-1) (-1) (-1) from ⟨by decide, by decide⟩) c296 (by decide) (by decide))
      refine lv_iload hx hb dX7_choose_199 (lv_at hl 0 rfl) ?_
      obtain ⟨j299, lj299, uj299, ej299⟩ := iR_nat (a := 0) (b := 3) i298
      refine lv_topi (fun z300 ez300 => ?_)
      obtain rfl : z300 = nI j299 := ez300.trans ej299
      have : j299 < L na1 := rl_lt hr193_0 ej299 (by omega)
      refine lv_goto (tgt := 206) hx hb dX7_choose_201 (by decide) ?_
      exact b206_0 ls ρ _ _ ((nI j299) : Int32) (lv_sub hl [] rfl) hP hS hI (iR_w (nI_iR (j := j299) (a := 0) (b := 3) (by omega) (by omega) (by omega)) (by decide) (by decide)) (iR_w f_M_na1_ (by decide) (by decide)) (by omega) (by omega) (by omega) (by omega) (rl_nat (k := j299) (by omega) (by omega))
  have b136_0 : ∀ (ls : Array Slot) (ρ : Nat → Nat → Int32) (H : Heap) (locs : List Loc) (d136 : Nat) (x136_4 : Int32) (x136_5 : Int32) (x136_6 : Int32) (j136_7 : Nat), lv_has ls 9 [(0, .ref (E.2.1 + 1076)), (1, .int (nI na1)), (2, .int (nI (42 + 326 * na1))), (3, .int (nI (L na1))), (4, .int x136_4), (5, .int x136_5), (6, .int x136_6), (7, .int (nI j136_7))] → WP E ρ H → va_S (hA E) s.heap H locs → RI r Bt M L X ρ → j136_7 < d136 → iR x136_4 (-1) (3) → iR x136_5 (-1) (3) → iR x136_6 (-1) (3) → 0 ≤ j136_7 → j136_7 ≤ 4 → iR (M na1) (0) (5) → 0 ≤ (L na1) → (L na1) ≤ 4 → 0 ≤ na1 → na1 ≤ 1 → iR x136_4 (-1) ((L na1 : Int) - 1) → iR x136_5 (-1) ((L na1 : Int) - 1) → iR x136_6 (-1) ((L na1 : Int) - 1) → j136_7 + 0 ≤ L na1 → W p l e (rmk 7 280) s m ([.ref (E.2.1 + 1076), .int (nI na1)] : List Value).toArray below meth c H locs 0 0 (MQ below (cI E (fun v ρ1 => RI r Bt M L X ρ1 ∧ (iR v (-2) ((L na1 : Int) - 1) ∧ (v = -2 → iR (ρ1 1078 (51 + 326 * na1)) 1 4)))) ([.ref (E.2.1 + 1076), .int (nI na1)] : List Value).toArray s 0 0 (hA E)) (F0 m 136 ls []) := by
    intro ls ρ H locs d136
    induction d136 generalizing ls ρ H locs with
    | zero => intro x136_4 x136_5 x136_6 j136_7 hl hP hS hI hd136 hx136_4 hx136_5 hx136_6 lj136_7 uj136_7 f_M_na1_ tl_L_na1_ tu_L_na1_ tlna1 tuna1 hr136_0 hr136_1 hr136_2 hr136_3; exact absurd hd136 (Nat.not_lt_zero _)
    | succ d136 ih136 =>
      intro x136_4 x136_5 x136_6 j136_7 hl hP hS hI hd136 hx136_4 hx136_5 hx136_6 lj136_7 uj136_7 f_M_na1_ tl_L_na1_ tu_L_na1_ tlna1 tuna1 hr136_0 hr136_1 hr136_2 hr136_3
      have b173_0 : ∀ (ls : Array Slot) (ρ : Nat → Nat → Int32) (H : Heap) (locs : List Loc) (x173_s0 : Int32), lv_has ls 9 [(0, .ref (E.2.1 + 1076)), (1, .int (nI na1)), (2, .int (nI (42 + 326 * na1))), (3, .int (nI (L na1))), (4, .int x136_4), (5, .int x136_5), (7, .int (nI j136_7))] → WP E ρ H → va_S (hA E) s.heap H locs → RI r Bt M L X ρ → iR x173_s0 (-1) (3) → iR (M na1) (0) (5) → 1 ≤ (L na1) → (L na1) ≤ 4 → 1 ≤ j136_7 → j136_7 ≤ 4 → 0 ≤ na1 → na1 ≤ 1 → j136_7 + 0 ≤ L na1 → iR x173_s0 (-1) ((L na1 : Int) - 1) → iR x136_4 (-1) ((L na1 : Int) - 1) → iR x136_5 (-1) ((L na1 : Int) - 1) → W p l e (rmk 7 280) s m ([.ref (E.2.1 + 1076), .int (nI na1)] : List Value).toArray below meth c H locs 0 0 (MQ below (cI E (fun v ρ1 => RI r Bt M L X ρ1 ∧ (iR v (-2) ((L na1 : Int) - 1) ∧ (v = -2 → iR (ρ1 1078 (51 + 326 * na1)) 1 4)))) ([.ref (E.2.1 + 1076), .int (nI na1)] : List Value).toArray s 0 0 (hA E)) (F0 m 173 ls [.int x173_s0]) := by
        intro ls ρ H locs x173_s0 hl hP hS hI hx173_s0 f_M_na1_ tl_L_na1_ tu_L_na1_ tlj136_7 tuj136_7 tlna1 tuna1 hr173_0 hr173_1 hr173_2 hr173_3
        refine lv_istore (lv' := [(6, .int x173_s0), (0, .ref (E.2.1 + 1076)), (1, .int (nI na1)), (2, .int (nI (42 + 326 * na1))), (3, .int (nI (L na1))), (4, .int x136_4), (5, .int x136_5), (7, .int (nI j136_7))]) hx hb dX7_choose_173 hl (by decide) rfl (fun ls hl => ?_)
        obtain ⟨j301, hj301⟩ : ∃ q, j136_7 = q + 1 := ⟨j136_7 - 1, by omega⟩
        refine lv_iinc (v := (nI j301)) (lv' := [(7, .int (nI j301)), (6, .int x173_s0), (0, .ref (E.2.1 + 1076)), (1, .int (nI na1)), (2, .int (nI (42 + 326 * na1))), (3, .int (nI (L na1))), (4, .int x136_4), (5, .int x136_5)]) hx hb dX7_choose_175 hl (k := 7) rfl (nI_dec hj301) (by decide) rfl (fun ls hl => ?_)
        refine lv_goto (tgt := 136) hx hb dX7_choose_178 (by decide) ?_
        exact ih136 ls ρ _ _ (x136_4 : Int32) (x136_5 : Int32) (x173_s0 : Int32) j301 (lv_sub hl [2, 3, 4, 5, 6, 7, 1, 0] rfl) hP hS hI (by omega) (iR_w hx136_4 (by decide) (by decide)) (iR_w hx136_5 (by decide) (by decide)) (iR_w hx173_s0 (by decide) (by decide)) (by omega) (by omega) (iR_w f_M_na1_ (by decide) (by decide)) (by omega) (by omega) (by omega) (by omega) hr173_2 hr173_3 hr173_1 (by omega)
      refine lv_iload hx hb dX7_choose_136 (lv_at hl 7 rfl) ?_
      refine lv_if_le (tgt := 181) hx hb dX7_choose_138 (by decide) (fun c302 => ?_) (fun c302 => ?_)
      · skip
        have n303 := mt (nx_lt (a := 0) (b := j136_7) (by omega) (by omega)).mpr (show ¬ (nI 0 < nI j136_7) from (Int32.not_lt.mpr c302))
        refine lv_iload hx hb dX7_choose_181 (lv_at hl 4 rfl) ?_
        refine lv_iconst (v := (-1)) hx hb dX7_choose_183 (by decide) ?_
        refine lv_icmp_ne (tgt := 193) hx hb dX7_choose_184 (by decide) (fun c304 => ?_) (fun c304 => ?_)
        · skip
          have i305 : iR x136_4 (0) (3) := (iR_neL hx136_4 (show iR (-1) (-1) (-1) from ⟨by decide, by decide⟩) c304 (by decide) (by decide))
          exact b193_0 ls ρ _ _ (x136_4 : Int32) (x136_5 : Int32) (lv_sub hl [4, 5] rfl) hP hS hI (iR_w i305 (by decide) (by decide)) (iR_w hx136_5 (by decide) (by decide)) (iR_w f_M_na1_ (by decide) (by decide)) (by omega) (by omega) (by omega) (by omega) hr136_0 hr136_1
        · skip
          have i306 : iR x136_4 (-1) (-1) := (by rw [c304]; exact ⟨by decide, by decide⟩)
          refine lv_iload hx hb dX7_choose_187 (lv_at hl 5 rfl) ?_
          refine lv_iconst (v := (-1)) hx hb dX7_choose_189 (by decide) ?_
          refine lv_icmp_eq (tgt := 207) hx hb dX7_choose_190 (by decide) (fun c307 => ?_) (fun c307 => ?_)
          · skip
            have i308 : iR x136_5 (-1) (-1) := (by rw [c307]; exact ⟨by decide, by decide⟩)
            refine lv_aload_n hx hb dX7_choose_207 rfl (lv_at hl 0 rfl) ?_
            refine get7 B hP (show hk 1076 = 7 by decide +kernel) 3 (by decide) mw_1030 rfl dX7_choose_208 ?_
            refine lv_iload_n hx hb dX7_choose_211 rfl (lv_at hl 2 rfl) ?_
            refine lv_bipush (v := 9) hx hb dX7_choose_212 (by decide) ?_
            refine lv_iadd hx hb dX7_choose_214 ?_
            refine lv_topi (fun z309 ez309 => ?_)
            obtain rfl : z309 = (nI (51 + 326 * na1)) := ez309.trans (by rw [show (nI (42 + 326 * na1)) = nI (42 + 326 * na1) from rfl, show 9 = nI 9 from rfl, nI_add] <;> exact congrArg nI (by omega))
            refine aldn (n := 695) (j := (51 + 326 * na1)) B hP (show hk 1078 = 8 by decide +kernel) (show hlen 1078 = 695 by decide +kernel) rfl (by omega) (by decide) dX7_choose_215 ?_
            have i310 : iR (ρ 1078 (51 + 326 * na1)) (0) (4) := g_ncast (n0 := na1) (j := (51 + 326 * na1)) hI (by omega) (by omega)
            obtain ⟨j311, lj311, uj311, ej311⟩ := iR_nat (a := 0) (b := 4) i310
            refine lv_topi (fun z312 ez312 => ?_)
            obtain rfl : z312 = nI j311 := ez312.trans ej311
            refine lv_if_le (tgt := 222) hx hb dX7_choose_216 (by decide) (fun c313 => ?_) (fun c313 => ?_)
            · skip
              have n314 := mt (nx_lt (a := 0) (b := j311) (by omega) (by omega)).mpr (show ¬ (nI 0 < nI j311) from (Int32.not_lt.mpr c313))
              refine lv_aload_n hx hb dX7_choose_222 rfl (lv_at hl 0 rfl) ?_
              refine get7 B hP (show hk 1076 = 7 by decide +kernel) 3 (by decide) mw_1030 rfl dX7_choose_223 ?_
              refine lv_iload_n hx hb dX7_choose_226 rfl (lv_at hl 2 rfl) ?_
              refine lv_iconst (v := 5) hx hb dX7_choose_227 (by decide) ?_
              refine lv_iadd hx hb dX7_choose_228 ?_
              refine lv_topi (fun z315 ez315 => ?_)
              obtain rfl : z315 = (nI (47 + 326 * na1)) := ez315.trans (by rw [show (nI (42 + 326 * na1)) = nI (42 + 326 * na1) from rfl, show 5 = nI 5 from rfl, nI_add] <;> exact congrArg nI (by omega))
              refine aldn (n := 695) (j := (47 + 326 * na1)) B hP (show hk 1078 = 8 by decide +kernel) (show hlen 1078 = 695 by decide +kernel) rfl (by omega) (by decide) dX7_choose_229 ?_
              have i316 : iR (ρ 1078 (47 + 326 * na1)) (-1) (3) := g_polled3 (n0 := na1) (j := (47 + 326 * na1)) hI (by omega) f_M_na1_ (by omega)
              have i317 : iR (ρ 1078 (47 + 326 * na1)) (-1) ((L na1 : Int) - 1) := g_polled (n0 := na1) hI (by omega) f_M_na1_ (by omega)
              refine lv_istore (lv' := [(7, .int (ρ 1078 (47 + 326 * na1))), (0, .ref (E.2.1 + 1076)), (1, .int (nI na1)), (2, .int (nI (42 + 326 * na1))), (3, .int (nI (L na1))), (4, .int x136_4), (5, .int x136_5), (6, .int x136_6)]) hx hb dX7_choose_230 hl (by decide) rfl (fun ls hl => ?_)
              refine lv_iload hx hb dX7_choose_232 (lv_at hl 0 rfl) ?_
              refine lv_iconst (v := (-1)) hx hb dX7_choose_234 (by decide) ?_
              refine lv_icmp_eq (tgt := 290) hx hb dX7_choose_235 (by decide) (fun c318 => ?_) (fun c318 => ?_)
              · skip
                have i319 : iR (ρ 1078 (47 + 326 * na1)) (-1) (-1) := (by rw [c318]; exact ⟨by decide, by decide⟩)
                exact b290_0 ls ρ _ _ (x136_6 : Int32) (lv_sub hl [1, 3, 7] rfl) hP hS hI (iR_w hx136_6 (by decide) (by decide)) (iR_w f_M_na1_ (by decide) (by decide)) (by omega) (by omega) (by omega) (by omega) hr136_2
              · skip
                have i320 : iR (ρ 1078 (47 + 326 * na1)) (0) (3) := (iR_neL i316 (show iR (-1) (-1) (-1) from ⟨by decide, by decide⟩) c318 (by decide) (by decide))
                refine lv_aload_n hx hb dX7_choose_238 rfl (lv_at hl 1 rfl) ?_
                refine lv_iload_n hx hb dX7_choose_239 rfl (lv_at hl 2 rfl) ?_
                refine lv_iload hx hb dX7_choose_240 (lv_at hl 0 rfl) ?_
                obtain ⟨j321, lj321, uj321, ej321⟩ := iR_nat (a := 0) (b := 3) i320
                refine lv_topi (fun z322 ez322 => ?_)
                obtain rfl : z322 = nI j321 := ez322.trans ej321
                have : j321 < L na1 := rl_lt i317 ej321 (by omega)
                refine call_i (cVt (k := 1076) (av := [.int (nI na1), .int (nI j321)]) (rest := []) B hP hS (d_X7_isLinkHere l E ρ r Bt hBt M L X na1 (by omega) (by omega) j321 (by omega) (by omega) hI) lk_RX7_182 (hrecv (ci := 7) B hP (hk_lt (c := 7) (show hk 1076 = 7 by decide +kernel) (by decide)) (hcc7 _ _ (show hk 1076 = 7 by decide +kernel)) rfl) rfl rfl hl.1 (Nat.le_of_ble_eq_true rfl) ⟨Nat.le_of_ble_eq_true rfl, Nat.le_of_ble_eq_true rfl⟩ ⟨Nat.le_of_ble_eq_true rfl, Nat.le_of_ble_eq_true rfl⟩ dX7_choose_242) hS (fun r323 ρ324 H locs q325 hP hS => ?_)
                obtain ⟨rfl, hI, q325⟩ := q325
                obtain ⟨j326, lj326, uj326, ej326⟩ := iR_nat (a := 0) (b := 1) q325
                refine lv_topi (fun z327 ez327 => ?_)
                obtain rfl : z327 = nI j326 := ez327.trans ej326
                refine lv_if_eq (tgt := 290) hx hb dX7_choose_245 (by decide) (fun c328 => ?_) (fun c328 => ?_)
                · skip
                  have n329 := (nI_eq (a := j326) (b := 0) (by omega) (by omega)).mp (show (nI j326 = nI 0) from c328)
                  exact b290_0 ls ρ _ _ (x136_6 : Int32) (lv_sub hl [1, 3, 7] rfl) hP hS hI (iR_w hx136_6 (by decide) (by decide)) (iR_w f_M_na1_ (by decide) (by decide)) (by omega) (by omega) (by omega) (by omega) hr136_2
                · skip
                  have n330 := mt (nI_eq (a := j326) (b := 0) (by omega) (by omega)).mpr (show ¬ (nI j326 = nI 0) from c328)
                  refine lv_aload_n hx hb dX7_choose_248 rfl (lv_at hl 1 rfl) ?_
                  refine get7 B hP (show hk 1076 = 7 by decide +kernel) 3 (by decide) mw_1030 rfl dX7_choose_249 ?_
                  refine lv_iload_n hx hb dX7_choose_252 rfl (lv_at hl 3 rfl) ?_
                  refine lv_bipush (v := 8) hx hb dX7_choose_253 (by decide) ?_
                  refine lv_iadd hx hb dX7_choose_255 ?_
                  refine lv_topi (fun z331 ez331 => ?_)
                  obtain rfl : z331 = (nI (50 + 326 * na1)) := ez331.trans (by rw [show (nI (42 + 326 * na1)) = nI (42 + 326 * na1) from rfl, show 8 = nI 8 from rfl, nI_add] <;> exact congrArg nI (by omega))
                  refine aldn (n := 695) (j := (50 + 326 * na1)) B hP (show hk 1078 = 8 by decide +kernel) (show hlen 1078 = 695 by decide +kernel) rfl (by omega) (by decide) dX7_choose_256 ?_
                  refine lv_aload_n hx hb dX7_choose_257 rfl (lv_at hl 1 rfl) ?_
                  refine get7 B hP (show hk 1076 = 7 by decide +kernel) 3 (by decide) mw_1030 rfl dX7_choose_258 ?_
                  refine lv_iload_n hx hb dX7_choose_261 rfl (lv_at hl 2 rfl) ?_
                  refine lv_iload hx hb dX7_choose_262 (lv_at hl 0 rfl) ?_
                  refine lv_topi (fun z332 ez332 => ?_)
                  obtain rfl : z332 = nI j321 := ez332.trans ej321
                  refine call_i (cS (av := [.int (nI na1), .int (nI j321)]) (rest := [.ref (E.2.1 + 1078), .int (ρ 1078 (50 + 326 * na1))]) B hP hS (d_X7_linkAt l E ρ r Bt hBt M L X na1 (by omega) (by omega) j321 (by omega) (by omega) hI) lk_RX7_82 rfl rfl hl.1 (Nat.le_of_ble_eq_true rfl) ⟨Nat.le_of_ble_eq_true rfl, Nat.le_of_ble_eq_true rfl⟩ ⟨Nat.le_of_ble_eq_true rfl, Nat.le_of_ble_eq_true rfl⟩ dX7_choose_264) hS (fun r333 ρ334 H locs q335 hP hS => ?_)
                  obtain ⟨rfl, hI, q335⟩ := q335
                  obtain rfl : r333 = nI (104 + 326 * na1 + 66 * j321) := q335.trans (congrArg nI (by omega))
                  refine lv_bipush (v := 48) hx hb dX7_choose_267 (by decide) ?_
                  refine lv_iadd hx hb dX7_choose_269 ?_
                  refine lv_topi (fun z336 ez336 => ?_)
                  obtain rfl : z336 = (nI (152 + 326 * na1 + 66 * j321)) := ez336.trans (by rw [show (nI (104 + 326 * na1 + 66 * j321)) = nI (104 + 326 * na1 + 66 * j321) from rfl, show 48 = nI 48 from rfl, nI_add] <;> exact congrArg nI (by omega))
                  refine aldn (n := 695) (j := (152 + 326 * na1 + 66 * j321)) B hP (show hk 1078 = 8 by decide +kernel) (show hlen 1078 = 695 by decide +kernel) rfl (by omega) (by decide) dX7_choose_270 ?_
                  refine lv_icmp_ge (tgt := 290) hx hb dX7_choose_271 (by decide) (fun c337 => ?_) (fun c337 => ?_)
                  · skip
                    exact b290_0 ls ρ _ _ (x136_6 : Int32) (lv_sub hl [1, 3, 7] rfl) hP hS hI (iR_w hx136_6 (by decide) (by decide)) (iR_w f_M_na1_ (by decide) (by decide)) (by omega) (by omega) (by omega) (by omega) hr136_2
                  · skip
                    refine lv_aload_n hx hb dX7_choose_274 rfl (lv_at hl 1 rfl) ?_
                    refine get7 B hP (show hk 1076 = 7 by decide +kernel) 3 (by decide) mw_1030 rfl dX7_choose_275 ?_
                    refine lv_iload_n hx hb dX7_choose_278 rfl (lv_at hl 3 rfl) ?_
                    refine lv_bipush (v := 8) hx hb dX7_choose_279 (by decide) ?_
                    refine lv_iadd hx hb dX7_choose_281 ?_
                    refine lv_topi (fun z338 ez338 => ?_)
                    obtain rfl : z338 = (nI (50 + 326 * na1)) := ez338.trans (by rw [show (nI (42 + 326 * na1)) = nI (42 + 326 * na1) from rfl, show 8 = nI 8 from rfl, nI_add] <;> exact congrArg nI (by omega))
                    refine lv_dup2_11 hx hb dX7_choose_282 rfl rfl ?_
                    refine aldf (n := 695) (j := (50 + 326 * na1)) (v := (ρ 1078 (50 + 326 * na1))) B hP (show hk 1078 = 8 by decide +kernel) (show hlen 1078 = 695 by decide +kernel) rfl (by omega) (by decide) rfl dX7_choose_283 ?_
                    refine lv_iconst (v := 1) hx hb dX7_choose_284 (by decide) ?_
                    refine lv_iadd hx hb dX7_choose_285 ?_
                    refine astn (n := 695) (j := (50 + 326 * na1)) B hP hS (show hk 1078 = 8 by decide +kernel) (show hlen 1078 = 695 by decide +kernel) rfl (by omega) (by decide) dX7_choose_286 (fun H locs hP hS => ?_)
                    obtain ⟨ρ339, e340⟩ : ∃ z, z = up ρ 1078 (50 + 326 * na1) ((ρ 1078 (50 + 326 * na1)) + 1) := ⟨_, rfl⟩
                    rw [← e340] at hP
                    have hI : RI r Bt M L X ρ339 := by rw [e340]; exact RI_up hI (ok_net (n0 := na1) (j := (50 + 326 * na1)) 8 (by omega) (by omega) (by omega))
                    refine lv_iload hx hb dX7_choose_287 (lv_at hl 0 rfl) ?_
                    refine lv_topi (fun z341 ez341 => ?_)
                    obtain rfl : z341 = nI j321 := ez341.trans ej321
                    exact ret_i B hr hlk hP hS dX7_choose_289 (⟨hI, ⟨iR_w (rl_nat (k := j321) (by omega) (by omega)) (by decide) (by omega), fun z => by have := (rl_nat (k := j321) (by omega) (by omega)).1; rw [z] at this; exact absurd this (by decide)⟩⟩)
            · skip
              have n342 := (nx_lt (a := 0) (b := j311) (by omega) (by omega)).mp (show (nI 0 < nI j311) from (Int32.not_le.mp c313))
              refine lv_bipush (v := (-2)) hx hb dX7_choose_219 (by decide) ?_
              exact ret_i B hr hlk hP hS dX7_choose_221 (⟨hI, ⟨⟨by decide, by have := RI_Lb (n := na1) hI (by omega); rw [show (-2 : Int32).toInt = -2 from rfl]; omega⟩, fun _ => by rw [show 51 + 326 * na1 = (51 + 326 * na1) by omega, show ρ 1078 (51 + 326 * na1) = (nI j311) from ej311]; exact iR_w (nI_iR (j := j311) (a := 1) (b := 4) (by omega) (by omega) (by omega)) (by decide) (by decide)⟩⟩)
          · skip
            have i343 : iR x136_5 (0) (3) := (iR_neL hx136_5 (show iR (-1) (-1) (-1) from ⟨by decide, by decide⟩) c307 (by decide) (by decide))
            exact b193_0 ls ρ _ _ (x136_4 : Int32) (x136_5 : Int32) (lv_sub hl [4, 5] rfl) hP hS hI (iR_w i306 (by decide) (by decide)) (iR_w i343 (by decide) (by decide)) (iR_w f_M_na1_ (by decide) (by decide)) (by omega) (by omega) (by omega) (by omega) hr136_0 hr136_1
      · skip
        have n344 := (nx_lt (a := 0) (b := j136_7) (by omega) (by omega)).mp (show (nI 0 < nI j136_7) from (Int32.not_le.mp c302))
        refine lv_aload_n hx hb dX7_choose_141 rfl (lv_at hl 0 rfl) ?_
        refine get7 B hP (show hk 1076 = 7 by decide +kernel) 3 (by decide) mw_1030 rfl dX7_choose_142 ?_
        refine lv_iload_n hx hb dX7_choose_145 rfl (lv_at hl 2 rfl) ?_
        refine lv_iconst (v := 5) hx hb dX7_choose_146 (by decide) ?_
        refine lv_iadd hx hb dX7_choose_147 ?_
        refine lv_topi (fun z345 ez345 => ?_)
        obtain rfl : z345 = (nI (47 + 326 * na1)) := ez345.trans (by rw [show (nI (42 + 326 * na1)) = nI (42 + 326 * na1) from rfl, show 5 = nI 5 from rfl, nI_add] <;> exact congrArg nI (by omega))
        refine aldn (n := 695) (j := (47 + 326 * na1)) B hP (show hk 1078 = 8 by decide +kernel) (show hlen 1078 = 695 by decide +kernel) rfl (by omega) (by decide) dX7_choose_148 ?_
        have i346 : iR (ρ 1078 (47 + 326 * na1)) (-1) (3) := g_polled3 (n0 := na1) (j := (47 + 326 * na1)) hI (by omega) f_M_na1_ (by omega)
        have i347 : iR (ρ 1078 (47 + 326 * na1)) (-1) ((L na1 : Int) - 1) := g_polled (n0 := na1) hI (by omega) f_M_na1_ (by omega)
        refine lv_iload hx hb dX7_choose_149 (lv_at hl 7 rfl) ?_
        refine lv_iadd hx hb dX7_choose_151 ?_
        obtain ⟨j348, lj348, uj348, ej348⟩ := iR_nat (a := 0) (b := 7) (iR_add (a' := 0) (b' := 7) i346 (nI_iR (j := j136_7) (a := 1) (b := 4) (by omega) (by omega) (by omega)) (by decide) (by decide) (by decide) (by decide))
        refine lv_topi (fun z349 ez349 => ?_)
        obtain rfl : z349 = nI j348 := ez349.trans ej348
        refine lv_iload_n hx hb dX7_choose_152 rfl (lv_at hl 3 rfl) ?_
        have : 1 ≤ L na1 := by omega
        refine lv_irem hx hb dX7_choose_153 (iR_ne (nI_iR (j := (L na1)) (a := 1) (b := 4) (by omega) (by omega) (by omega)) (show iR 0 0 0 from ⟨by decide, by decide⟩) (by decide)) ?_
        obtain ⟨j350, m351, ej350⟩ := nI_rem (a := j348) (b := (L na1)) (by omega) (by omega) (by omega)
        refine lv_topi (fun z352 ez352 => ?_)
        obtain rfl : z352 = (nI j350) := ez352.trans ej350
        refine lv_istore (lv' := [(8, .int (nI j350)), (0, .ref (E.2.1 + 1076)), (1, .int (nI na1)), (2, .int (nI (42 + 326 * na1))), (3, .int (nI (L na1))), (4, .int x136_4), (5, .int x136_5), (6, .int x136_6), (7, .int (nI j136_7))]) hx hb dX7_choose_154 hl (by decide) rfl (fun ls hl => ?_)
        refine lv_aload_n hx hb dX7_choose_156 rfl (lv_at hl 1 rfl) ?_
        refine lv_iload_n hx hb dX7_choose_157 rfl (lv_at hl 2 rfl) ?_
        refine lv_iload hx hb dX7_choose_158 (lv_at hl 0 rfl) ?_
        refine call_i (cVt (k := 1076) (av := [.int (nI na1), .int (nI j350)]) (rest := []) B hP hS (d_X7_isLinkHere l E ρ r Bt hBt M L X na1 (by omega) (by omega) j350 (by omega) (by omega) hI) lk_RX7_182 (hrecv (ci := 7) B hP (hk_lt (c := 7) (show hk 1076 = 7 by decide +kernel) (by decide)) (hcc7 _ _ (show hk 1076 = 7 by decide +kernel)) rfl) rfl rfl hl.1 (Nat.le_of_ble_eq_true rfl) ⟨Nat.le_of_ble_eq_true rfl, Nat.le_of_ble_eq_true rfl⟩ ⟨Nat.le_of_ble_eq_true rfl, Nat.le_of_ble_eq_true rfl⟩ dX7_choose_160) hS (fun r353 ρ354 H locs q355 hP hS => ?_)
        obtain ⟨rfl, hI, q355⟩ := q355
        obtain ⟨j356, lj356, uj356, ej356⟩ := iR_nat (a := 0) (b := 1) q355
        refine lv_topi (fun z357 ez357 => ?_)
        obtain rfl : z357 = nI j356 := ez357.trans ej356
        refine lv_if_eq (tgt := 171) hx hb dX7_choose_163 (by decide) (fun c358 => ?_) (fun c358 => ?_)
        · skip
          have n359 := (nI_eq (a := j356) (b := 0) (by omega) (by omega)).mp (show (nI j356 = nI 0) from c358)
          refine lv_iload hx hb dX7_choose_171 (lv_at hl 7 rfl) ?_
          exact b173_0 ls ρ _ _ (x136_6 : Int32) (lv_sub hl [1, 2, 3, 4, 5, 6, 8] rfl) hP hS hI (iR_w hx136_6 (by decide) (by decide)) (iR_w f_M_na1_ (by decide) (by decide)) (by omega) (by omega) (by omega) (by omega) (by omega) (by omega) (by omega) hr136_2 hr136_0 hr136_1
        · skip
          have n360 := mt (nI_eq (a := j356) (b := 0) (by omega) (by omega)).mpr (show ¬ (nI j356 = nI 0) from c358)
          refine lv_iload hx hb dX7_choose_166 (lv_at hl 0 rfl) ?_
          refine lv_goto (tgt := 173) hx hb dX7_choose_168 (by decide) ?_
          exact b173_0 ls ρ _ _ ((nI j350) : Int32) (lv_sub hl [1, 2, 3, 4, 5, 6, 8] rfl) hP hS hI (iR_w (nI_iR (j := j350) (a := 0) (b := 3) (by omega) (by omega) (by omega)) (by decide) (by decide)) (iR_w f_M_na1_ (by decide) (by decide)) (by omega) (by omega) (by omega) (by omega) (by omega) (by omega) (by omega) (rl_nat (k := j350) (by omega) (by omega)) hr136_0 hr136_1
  have b52_0 : ∀ (ls : Array Slot) (ρ : Nat → Nat → Int32) (H : Heap) (locs : List Loc) (d52 : Nat) (x52_4 : Int32) (x52_5 : Int32) (x52_7 : Int32), lv_has ls 9 [(0, .ref (E.2.1 + 1076)), (1, .int (nI na1)), (2, .int (nI (42 + 326 * na1))), (3, .int (nI (L na1))), (4, .int x52_4), (5, .int x52_5), (6, .int (-1)), (7, .int x52_7)] → WP E ρ H → va_S (hA E) s.heap H locs → RI r Bt M L X ρ → (x52_7.toInt + 1).toNat < d52 → iR x52_4 (-1) (3) → iR x52_5 (-1) (3) → iR x52_7 (-1) (3) → iR (M na1) (0) (5) → 0 ≤ (L na1) → (L na1) ≤ 4 → 0 ≤ na1 → na1 ≤ 1 → iR x52_4 (-1) ((L na1 : Int) - 1) → iR x52_5 (-1) ((L na1 : Int) - 1) → iR x52_7 (-1) ((L na1 : Int) - 1) → W p l e (rmk 7 280) s m ([.ref (E.2.1 + 1076), .int (nI na1)] : List Value).toArray below meth c H locs 0 0 (MQ below (cI E (fun v ρ1 => RI r Bt M L X ρ1 ∧ (iR v (-2) ((L na1 : Int) - 1) ∧ (v = -2 → iR (ρ1 1078 (51 + 326 * na1)) 1 4)))) ([.ref (E.2.1 + 1076), .int (nI na1)] : List Value).toArray s 0 0 (hA E)) (F0 m 52 ls []) := by
    intro ls ρ H locs d52
    induction d52 generalizing ls ρ H locs with
    | zero => intro x52_4 x52_5 x52_7 hl hP hS hI hd52 hx52_4 hx52_5 hx52_7 f_M_na1_ tl_L_na1_ tu_L_na1_ tlna1 tuna1 hr52_0 hr52_1 hr52_2; exact absurd hd52 (Nat.not_lt_zero _)
    | succ d52 ih52 =>
      intro x52_4 x52_5 x52_7 hl hP hS hI hd52 hx52_4 hx52_5 hx52_7 f_M_na1_ tl_L_na1_ tu_L_na1_ tlna1 tuna1 hr52_0 hr52_1 hr52_2
      have b125_0 : ∀ (ls : Array Slot) (ρ : Nat → Nat → Int32) (H : Heap) (locs : List Loc) (x125_4 : Int32) (x125_s0 : Int32), lv_has ls 9 [(0, .ref (E.2.1 + 1076)), (1, .int (nI na1)), (2, .int (nI (42 + 326 * na1))), (3, .int (nI (L na1))), (4, .int x125_4), (6, .int (-1)), (7, .int x52_7)] → WP E ρ H → va_S (hA E) s.heap H locs → RI r Bt M L X ρ → iR x125_4 (-1) (3) → iR x125_s0 (-1) (3) → iR (M na1) (0) (5) → iR x52_7 (0) (3) → 0 ≤ (L na1) → (L na1) ≤ 4 → 0 ≤ na1 → na1 ≤ 1 → iR x125_s0 (-1) ((L na1 : Int) - 1) → iR x125_4 (-1) ((L na1 : Int) - 1) → iR x52_7 (-1) ((L na1 : Int) - 1) → W p l e (rmk 7 280) s m ([.ref (E.2.1 + 1076), .int (nI na1)] : List Value).toArray below meth c H locs 0 0 (MQ below (cI E (fun v ρ1 => RI r Bt M L X ρ1 ∧ (iR v (-2) ((L na1 : Int) - 1) ∧ (v = -2 → iR (ρ1 1078 (51 + 326 * na1)) 1 4)))) ([.ref (E.2.1 + 1076), .int (nI na1)] : List Value).toArray s 0 0 (hA E)) (F0 m 125 ls [.int x125_s0]) := by
        intro ls ρ H locs x125_4 x125_s0 hl hP hS hI hx125_4 hx125_s0 f_M_na1_ fx52_7 tl_L_na1_ tu_L_na1_ tlna1 tuna1 hr125_0 hr125_1 hr125_2
        refine lv_istore (lv' := [(5, .int x125_s0), (0, .ref (E.2.1 + 1076)), (1, .int (nI na1)), (2, .int (nI (42 + 326 * na1))), (3, .int (nI (L na1))), (4, .int x125_4), (6, .int (-1)), (7, .int x52_7)]) hx hb dX7_choose_125 hl (by decide) rfl (fun ls hl => ?_)
        have m361 := iI_dec (m := (-1)) (n := -1) fx52_7 rfl (by decide) (by decide)
        refine lv_iinc (v := (x52_7 + (-1))) (lv' := [(7, .int (x52_7 + (-1))), (5, .int x125_s0), (0, .ref (E.2.1 + 1076)), (1, .int (nI na1)), (2, .int (nI (42 + 326 * na1))), (3, .int (nI (L na1))), (4, .int x125_4), (6, .int (-1))]) hx hb dX7_choose_127 hl (k := 7) rfl rfl (by decide) rfl (fun ls hl => ?_)
        refine lv_goto (tgt := 52) hx hb dX7_choose_130 (by decide) ?_
        exact ih52 ls ρ _ _ (x125_4 : Int32) (x125_s0 : Int32) ((x52_7 + (-1)) : Int32) (lv_sub hl [2, 3, 4, 5, 6, 1, 7, 0] rfl) hP hS hI (by omega) (iR_w hx125_4 (by decide) (by decide)) (iR_w hx125_s0 (by decide) (by decide)) (iR_w (iR_add (a' := -1) (b' := 2) fx52_7 (show iR (-1) (-1) (-1) from ⟨by decide, by decide⟩) (by decide) (by decide) (by decide) (by decide)) (by decide) (by decide)) (iR_w f_M_na1_ (by decide) (by decide)) (by omega) (by omega) (by omega) (by omega) hr125_1 hr125_0 (rl_dec hr125_2 m361 (by decide))
      have b123_0 : ∀ (ls : Array Slot) (ρ : Nat → Nat → Int32) (H : Heap) (locs : List Loc) (x123_4 : Int32), lv_has ls 9 [(0, .ref (E.2.1 + 1076)), (1, .int (nI na1)), (2, .int (nI (42 + 326 * na1))), (3, .int (nI (L na1))), (4, .int x123_4), (5, .int x52_5), (6, .int (-1)), (7, .int x52_7)] → WP E ρ H → va_S (hA E) s.heap H locs → RI r Bt M L X ρ → iR x123_4 (-1) (3) → iR (M na1) (0) (5) → iR x52_7 (0) (3) → 0 ≤ (L na1) → (L na1) ≤ 4 → 0 ≤ na1 → na1 ≤ 1 → iR x123_4 (-1) ((L na1 : Int) - 1) → iR x52_5 (-1) ((L na1 : Int) - 1) → iR x52_7 (-1) ((L na1 : Int) - 1) → W p l e (rmk 7 280) s m ([.ref (E.2.1 + 1076), .int (nI na1)] : List Value).toArray below meth c H locs 0 0 (MQ below (cI E (fun v ρ1 => RI r Bt M L X ρ1 ∧ (iR v (-2) ((L na1 : Int) - 1) ∧ (v = -2 → iR (ρ1 1078 (51 + 326 * na1)) 1 4)))) ([.ref (E.2.1 + 1076), .int (nI na1)] : List Value).toArray s 0 0 (hA E)) (F0 m 123 ls []) := by
        intro ls ρ H locs x123_4 hl hP hS hI hx123_4 f_M_na1_ fx52_7 tl_L_na1_ tu_L_na1_ tlna1 tuna1 hr123_0 hr123_1 hr123_2
        refine lv_iload hx hb dX7_choose_123 (lv_at hl 5 rfl) ?_
        exact b125_0 ls ρ _ _ (x123_4 : Int32) (x52_5 : Int32) (lv_sub hl [0, 1, 2, 3, 4, 6, 7] rfl) hP hS hI (iR_w hx123_4 (by decide) (by decide)) (iR_w hx52_5 (by decide) (by decide)) (iR_w f_M_na1_ (by decide) (by decide)) (iR_w fx52_7 (by decide) (by decide)) (by omega) (by omega) (by omega) (by omega) hr123_1 hr123_0 hr123_2
      have b95_0 : ∀ (ls : Array Slot) (ρ : Nat → Nat → Int32) (H : Heap) (locs : List Loc) (j95_8 : Nat) (x95_s0 : Int32), lv_has ls 9 [(0, .ref (E.2.1 + 1076)), (1, .int (nI na1)), (2, .int (nI (42 + 326 * na1))), (3, .int (nI (L na1))), (5, .int x52_5), (6, .int (-1)), (7, .int x52_7), (8, .int (nI j95_8))] → WP E ρ H → va_S (hA E) s.heap H locs → RI r Bt M L X ρ → 0 ≤ j95_8 → j95_8 ≤ 1 → iR x95_s0 (-1) (3) → iR (M na1) (0) (5) → iR x52_7 (0) (3) → 0 ≤ (L na1) → (L na1) ≤ 4 → 0 ≤ na1 → na1 ≤ 1 → iR x95_s0 (-1) ((L na1 : Int) - 1) → iR x52_5 (-1) ((L na1 : Int) - 1) → iR x52_7 (-1) ((L na1 : Int) - 1) → W p l e (rmk 7 280) s m ([.ref (E.2.1 + 1076), .int (nI na1)] : List Value).toArray below meth c H locs 0 0 (MQ below (cI E (fun v ρ1 => RI r Bt M L X ρ1 ∧ (iR v (-2) ((L na1 : Int) - 1) ∧ (v = -2 → iR (ρ1 1078 (51 + 326 * na1)) 1 4)))) ([.ref (E.2.1 + 1076), .int (nI na1)] : List Value).toArray s 0 0 (hA E)) (F0 m 95 ls [.int x95_s0]) := by
        intro ls ρ H locs j95_8 x95_s0 hl hP hS hI lj95_8 uj95_8 hx95_s0 f_M_na1_ fx52_7 tl_L_na1_ tu_L_na1_ tlna1 tuna1 hr95_0 hr95_1 hr95_2
        refine lv_istore (lv' := [(4, .int x95_s0), (0, .ref (E.2.1 + 1076)), (1, .int (nI na1)), (2, .int (nI (42 + 326 * na1))), (3, .int (nI (L na1))), (5, .int x52_5), (6, .int (-1)), (7, .int x52_7), (8, .int (nI j95_8))]) hx hb dX7_choose_95 hl (by decide) rfl (fun ls hl => ?_)
        refine lv_iload hx hb dX7_choose_97 (lv_at hl 8 rfl) ?_
        refine lv_if_eq (tgt := 123) hx hb dX7_choose_99 (by decide) (fun c362 => ?_) (fun c362 => ?_)
        · skip
          have n363 := (nI_eq (a := j95_8) (b := 0) (by omega) (by omega)).mp (show (nI j95_8 = nI 0) from c362)
          exact b123_0 ls ρ _ _ (x95_s0 : Int32) (lv_sub hl [1, 2, 3, 4, 0, 5, 6, 7] rfl) hP hS hI (iR_w hx95_s0 (by decide) (by decide)) (iR_w f_M_na1_ (by decide) (by decide)) (iR_w fx52_7 (by decide) (by decide)) (by omega) (by omega) (by omega) (by omega) hr95_0 hr95_1 hr95_2
        · skip
          have n364 := mt (nI_eq (a := j95_8) (b := 0) (by omega) (by omega)).mpr (show ¬ (nI j95_8 = nI 0) from c362)
          refine lv_aload_n hx hb dX7_choose_102 rfl (lv_at hl 1 rfl) ?_
          refine get7 B hP (show hk 1076 = 7 by decide +kernel) 3 (by decide) mw_1030 rfl dX7_choose_103 ?_
          refine lv_iload_n hx hb dX7_choose_106 rfl (lv_at hl 2 rfl) ?_
          refine lv_iload hx hb dX7_choose_107 (lv_at hl 7 rfl) ?_
          obtain ⟨j365, lj365, uj365, ej365⟩ := iR_nat (a := 0) (b := 3) fx52_7
          refine lv_topi (fun z366 ez366 => ?_)
          obtain rfl : z366 = nI j365 := ez366.trans ej365
          have : j365 < L na1 := rl_lt hr95_2 ej365 (by omega)
          refine call_i (cS (av := [.int (nI na1), .int (nI j365)]) (rest := [.ref (E.2.1 + 1078)]) B hP hS (d_X7_linkAt l E ρ r Bt hBt M L X na1 (by omega) (by omega) j365 (by omega) (by omega) hI) lk_RX7_82 rfl rfl hl.1 (Nat.le_of_ble_eq_true rfl) ⟨Nat.le_of_ble_eq_true rfl, Nat.le_of_ble_eq_true rfl⟩ ⟨Nat.le_of_ble_eq_true rfl, Nat.le_of_ble_eq_true rfl⟩ dX7_choose_109) hS (fun r367 ρ368 H locs q369 hP hS => ?_)
          obtain ⟨rfl, hI, q369⟩ := q369
          obtain rfl : r367 = nI (104 + 326 * na1 + 66 * j365) := q369.trans (congrArg nI (by omega))
          refine lv_iconst (v := 4) hx hb dX7_choose_112 (by decide) ?_
          refine lv_iadd hx hb dX7_choose_113 ?_
          refine lv_topi (fun z370 ez370 => ?_)
          obtain rfl : z370 = (nI (108 + 326 * na1 + 66 * j365)) := ez370.trans (by rw [show (nI (104 + 326 * na1 + 66 * j365)) = nI (104 + 326 * na1 + 66 * j365) from rfl, show 4 = nI 4 from rfl, nI_add] <;> exact congrArg nI (by omega))
          refine aldn (n := 695) (j := (108 + 326 * na1 + 66 * j365)) B hP (show hk 1078 = 8 by decide +kernel) (show hlen 1078 = 695 by decide +kernel) rfl (by omega) (by decide) dX7_choose_114 ?_
          refine lv_if_ne (tgt := 123) hx hb dX7_choose_115 (by decide) (fun c371 => ?_) (fun c371 => ?_)
          · skip
            exact b123_0 ls ρ _ _ (x95_s0 : Int32) (lv_sub hl [1, 2, 3, 4, 0, 5, 6, 7] rfl) hP hS hI (iR_w hx95_s0 (by decide) (by decide)) (iR_w f_M_na1_ (by decide) (by decide)) (iR_w fx52_7 (by decide) (by decide)) (by omega) (by omega) (by omega) (by omega) hr95_0 hr95_1 hr95_2
          · skip
            have i372 : iR (ρ 1078 (108 + 326 * na1 + 66 * j365)) (0) (0) := (by rw [c371]; exact ⟨by decide, by decide⟩)
            refine lv_iload hx hb dX7_choose_118 (lv_at hl 7 rfl) ?_
            refine lv_topi (fun z373 ez373 => ?_)
            obtain rfl : z373 = nI j365 := ez373.trans ej365
            refine lv_goto (tgt := 125) hx hb dX7_choose_120 (by decide) ?_
            exact b125_0 ls ρ _ _ (x95_s0 : Int32) ((nI j365) : Int32) (lv_sub hl [1, 2, 3, 4, 0, 6, 7] rfl) hP hS hI (iR_w hx95_s0 (by decide) (by decide)) (iR_w (nI_iR (j := j365) (a := 0) (b := 3) (by omega) (by omega) (by omega)) (by decide) (by decide)) (iR_w f_M_na1_ (by decide) (by decide)) (iR_w fx52_7 (by decide) (by decide)) (by omega) (by omega) (by omega) (by omega) (rl_nat (k := j365) (by omega) (by omega)) hr95_0 hr95_2
      have b93_0 : ∀ (ls : Array Slot) (ρ : Nat → Nat → Int32) (H : Heap) (locs : List Loc) (j93_8 : Nat), lv_has ls 9 [(0, .ref (E.2.1 + 1076)), (1, .int (nI na1)), (2, .int (nI (42 + 326 * na1))), (3, .int (nI (L na1))), (4, .int x52_4), (5, .int x52_5), (6, .int (-1)), (7, .int x52_7), (8, .int (nI j93_8))] → WP E ρ H → va_S (hA E) s.heap H locs → RI r Bt M L X ρ → 0 ≤ j93_8 → j93_8 ≤ 1 → iR (M na1) (0) (5) → iR x52_7 (0) (3) → 0 ≤ (L na1) → (L na1) ≤ 4 → 0 ≤ na1 → na1 ≤ 1 → iR x52_4 (-1) ((L na1 : Int) - 1) → iR x52_5 (-1) ((L na1 : Int) - 1) → iR x52_7 (-1) ((L na1 : Int) - 1) → W p l e (rmk 7 280) s m ([.ref (E.2.1 + 1076), .int (nI na1)] : List Value).toArray below meth c H locs 0 0 (MQ below (cI E (fun v ρ1 => RI r Bt M L X ρ1 ∧ (iR v (-2) ((L na1 : Int) - 1) ∧ (v = -2 → iR (ρ1 1078 (51 + 326 * na1)) 1 4)))) ([.ref (E.2.1 + 1076), .int (nI na1)] : List Value).toArray s 0 0 (hA E)) (F0 m 93 ls []) := by
        intro ls ρ H locs j93_8 hl hP hS hI lj93_8 uj93_8 f_M_na1_ fx52_7 tl_L_na1_ tu_L_na1_ tlna1 tuna1 hr93_0 hr93_1 hr93_2
        refine lv_iload hx hb dX7_choose_93 (lv_at hl 4 rfl) ?_
        exact b95_0 ls ρ _ _ j93_8 (x52_4 : Int32) (lv_sub hl [0, 1, 2, 3, 5, 6, 7, 8] rfl) hP hS hI (by omega) (by omega) (iR_w hx52_4 (by decide) (by decide)) (iR_w f_M_na1_ (by decide) (by decide)) (iR_w fx52_7 (by decide) (by decide)) (by omega) (by omega) (by omega) (by omega) hr93_0 hr93_1 hr93_2
      refine lv_iload hx hb dX7_choose_52 (lv_at hl 7 rfl) ?_
      refine lv_if_lt (tgt := 133) hx hb dX7_choose_54 (by decide) (fun c374 => ?_) (fun c374 => ?_)
      · skip
        have i375 : iR x52_7 (-1) (-1) := (iR_ltL hx52_7 (show iR 0 (0) (0) from ⟨by decide, by decide⟩) c374 (by decide))
        refine lv_iload_n hx hb dX7_choose_133 rfl (lv_at hl 3 rfl) ?_
        refine lv_istore (lv' := [(7, .int (nI (L na1))), (0, .ref (E.2.1 + 1076)), (1, .int (nI na1)), (2, .int (nI (42 + 326 * na1))), (3, .int (nI (L na1))), (4, .int x52_4), (5, .int x52_5), (6, .int (-1))]) hx hb dX7_choose_134 hl (by decide) rfl (fun ls hl => ?_)
        exact b136_0 ls ρ _ _ _ (x52_4 : Int32) (x52_5 : Int32) ((-1) : Int32) (L na1) (lv_sub hl [1, 2, 3, 4, 5, 6, 7, 0] rfl) hP hS hI (Nat.lt_succ_self _) (iR_w hx52_4 (by decide) (by decide)) (iR_w hx52_5 (by decide) (by decide)) (iR_w (show iR (-1) (-1) (-1) from ⟨by decide, by decide⟩) (by decide) (by decide)) (by omega) (by omega) (iR_w f_M_na1_ (by decide) (by decide)) (by omega) (by omega) (by omega) (by omega) hr52_0 hr52_1 (rl_m1 (L na1)) (by omega)
      · skip
        have i376 : iR x52_7 (0) (3) := (iR_geL hx52_7 (show iR 0 (0) (0) from ⟨by decide, by decide⟩) c374 (by decide))
        refine lv_aload_n hx hb dX7_choose_57 rfl (lv_at hl 0 rfl) ?_
        refine lv_iload_n hx hb dX7_choose_58 rfl (lv_at hl 1 rfl) ?_
        refine lv_iload hx hb dX7_choose_59 (lv_at hl 7 rfl) ?_
        obtain ⟨j377, lj377, uj377, ej377⟩ := iR_nat (a := 0) (b := 3) i376
        refine lv_topi (fun z378 ez378 => ?_)
        obtain rfl : z378 = nI j377 := ez378.trans ej377
        have : j377 < L na1 := rl_lt hr52_2 ej377 (by omega)
        refine call_i (cVt (k := 1076) (av := [.int (nI na1), .int (nI j377)]) (rest := []) B hP hS (d_X7_isLinkHere l E ρ r Bt hBt M L X na1 (by omega) (by omega) j377 (by omega) (by omega) hI) lk_RX7_182 (hrecv (ci := 7) B hP (hk_lt (c := 7) (show hk 1076 = 7 by decide +kernel) (by decide)) (hcc7 _ _ (show hk 1076 = 7 by decide +kernel)) rfl) rfl rfl hl.1 (Nat.le_of_ble_eq_true rfl) ⟨Nat.le_of_ble_eq_true rfl, Nat.le_of_ble_eq_true rfl⟩ ⟨Nat.le_of_ble_eq_true rfl, Nat.le_of_ble_eq_true rfl⟩ dX7_choose_61) hS (fun r379 ρ380 H locs q381 hP hS => ?_)
        obtain ⟨rfl, hI, q381⟩ := q381
        obtain ⟨j382, lj382, uj382, ej382⟩ := iR_nat (a := 0) (b := 1) q381
        refine lv_topi (fun z383 ez383 => ?_)
        obtain rfl : z383 = nI j382 := ez383.trans ej382
        refine lv_istore (lv' := [(8, .int (nI j382)), (0, .ref (E.2.1 + 1076)), (1, .int (nI na1)), (2, .int (nI (42 + 326 * na1))), (3, .int (nI (L na1))), (4, .int x52_4), (5, .int x52_5), (6, .int (-1)), (7, .int x52_7)]) hx hb dX7_choose_64 hl (by decide) rfl (fun ls hl => ?_)
        refine lv_iload hx hb dX7_choose_66 (lv_at hl 0 rfl) ?_
        refine lv_if_eq (tgt := 93) hx hb dX7_choose_68 (by decide) (fun c384 => ?_) (fun c384 => ?_)
        · skip
          have n385 := (nI_eq (a := j382) (b := 0) (by omega) (by omega)).mp (show (nI j382 = nI 0) from c384)
          exact b93_0 ls ρ _ _ j382 (lv_sub hl [1, 2, 3, 4, 5, 6, 7, 8, 0] rfl) hP hS hI (by omega) (by omega) (iR_w f_M_na1_ (by decide) (by decide)) (iR_w i376 (by decide) (by decide)) (by omega) (by omega) (by omega) (by omega) hr52_0 hr52_1 hr52_2
        · skip
          have n386 := mt (nI_eq (a := j382) (b := 0) (by omega) (by omega)).mpr (show ¬ (nI j382 = nI 0) from c384)
          refine lv_aload_n hx hb dX7_choose_71 rfl (lv_at hl 1 rfl) ?_
          refine get7 B hP (show hk 1076 = 7 by decide +kernel) 3 (by decide) mw_1030 rfl dX7_choose_72 ?_
          refine lv_iload_n hx hb dX7_choose_75 rfl (lv_at hl 2 rfl) ?_
          refine lv_iload hx hb dX7_choose_76 (lv_at hl 8 rfl) ?_
          refine lv_topi (fun z387 ez387 => ?_)
          obtain rfl : z387 = nI j377 := ez387.trans ej377
          refine call_i (cS (av := [.int (nI na1), .int (nI j377)]) (rest := [.ref (E.2.1 + 1078)]) B hP hS (d_X7_linkAt l E ρ r Bt hBt M L X na1 (by omega) (by omega) j377 (by omega) (by omega) hI) lk_RX7_82 rfl rfl hl.1 (Nat.le_of_ble_eq_true rfl) ⟨Nat.le_of_ble_eq_true rfl, Nat.le_of_ble_eq_true rfl⟩ ⟨Nat.le_of_ble_eq_true rfl, Nat.le_of_ble_eq_true rfl⟩ dX7_choose_78) hS (fun r388 ρ389 H locs q390 hP hS => ?_)
          obtain ⟨rfl, hI, q390⟩ := q390
          obtain rfl : r388 = nI (104 + 326 * na1 + 66 * j377) := q390.trans (congrArg nI (by omega))
          refine lv_bipush (v := 36) hx hb dX7_choose_81 (by decide) ?_
          refine lv_iadd hx hb dX7_choose_83 ?_
          refine lv_topi (fun z391 ez391 => ?_)
          obtain rfl : z391 = (nI (140 + 326 * na1 + 66 * j377)) := ez391.trans (by rw [show (nI (104 + 326 * na1 + 66 * j377)) = nI (104 + 326 * na1 + 66 * j377) from rfl, show 36 = nI 36 from rfl, nI_add] <;> exact congrArg nI (by omega))
          refine aldn (n := 695) (j := (140 + 326 * na1 + 66 * j377)) B hP (show hk 1078 = 8 by decide +kernel) (show hlen 1078 = 695 by decide +kernel) rfl (by omega) (by decide) dX7_choose_84 ?_
          refine lv_if_le (tgt := 93) hx hb dX7_choose_85 (by decide) (fun c392 => ?_) (fun c392 => ?_)
          · skip
            have i393 : iR (ρ 1078 (140 + 326 * na1 + 66 * j377)) (-2147483648) (0) := (iR_geR (show iR 0 (0) (0) from ⟨by decide, by decide⟩) (iR_any (ρ 1078 (140 + 326 * na1 + 66 * j377))) (Int32.not_lt.mpr c392) (by decide))
            exact b93_0 ls ρ _ _ j382 (lv_sub hl [1, 2, 3, 4, 5, 6, 7, 8, 0] rfl) hP hS hI (by omega) (by omega) (iR_w f_M_na1_ (by decide) (by decide)) (iR_w i376 (by decide) (by decide)) (by omega) (by omega) (by omega) (by omega) hr52_0 hr52_1 hr52_2
          · skip
            have i394 : iR (ρ 1078 (140 + 326 * na1 + 66 * j377)) (1) (2147483647) := (iR_ltR (show iR 0 (0) (0) from ⟨by decide, by decide⟩) (iR_any (ρ 1078 (140 + 326 * na1 + 66 * j377))) (Int32.not_le.mp c392) (by decide))
            refine lv_iload hx hb dX7_choose_88 (lv_at hl 8 rfl) ?_
            refine lv_topi (fun z395 ez395 => ?_)
            obtain rfl : z395 = nI j377 := ez395.trans ej377
            refine lv_goto (tgt := 95) hx hb dX7_choose_90 (by decide) ?_
            exact b95_0 ls ρ _ _ j382 ((nI j377) : Int32) (lv_sub hl [1, 2, 3, 4, 6, 7, 8, 0] rfl) hP hS hI (by omega) (by omega) (iR_w (nI_iR (j := j377) (a := 0) (b := 3) (by omega) (by omega) (by omega)) (by decide) (by decide)) (iR_w f_M_na1_ (by decide) (by decide)) (iR_w i376 (by decide) (by decide)) (by omega) (by omega) (by omega) (by omega) (rl_nat (k := j377) (by omega) (by omega)) hr52_1 hr52_2
  refine lv_iload_n hx hb dX7_choose_0 rfl (lv_at hl 1 rfl) ?_
  refine call_i (cS (av := [.int (nI na1)]) (rest := []) B hP hS (d_X7_netAt l E ρ r Bt hBt M L X na1 (by omega) (by omega) hI) lk_RX7_75 rfl rfl hl.1 (Nat.le_of_ble_eq_true rfl) ⟨Nat.le_of_ble_eq_true rfl, Nat.le_of_ble_eq_true rfl⟩ ⟨Nat.le_of_ble_eq_true rfl, Nat.le_of_ble_eq_true rfl⟩ dX7_choose_1) hS (fun r396 ρ397 H locs q398 hP hS => ?_)
  obtain ⟨rfl, hI, q398⟩ := q398
  obtain rfl : r396 = nI (42 + 326 * na1) := q398.trans (congrArg nI (by omega))
  refine lv_istore_n (lv' := [(2, .int (nI (42 + 326 * na1))), (0, .ref (E.2.1 + 1076)), (1, .int (nI na1))]) hx hb dX7_choose_4 rfl hl (by decide) rfl (fun ls hl => ?_)
  refine lv_aload_n hx hb dX7_choose_5 rfl (lv_at hl 1 rfl) ?_
  refine get7 B hP (show hk 1076 = 7 by decide +kernel) 3 (by decide) mw_1030 rfl dX7_choose_6 ?_
  refine lv_iload_n hx hb dX7_choose_9 rfl (lv_at hl 0 rfl) ?_
  refine lv_bipush (v := 6) hx hb dX7_choose_10 (by decide) ?_
  refine lv_iadd hx hb dX7_choose_12 ?_
  refine lv_topi (fun z399 ez399 => ?_)
  obtain rfl : z399 = (nI (48 + 326 * na1)) := ez399.trans (by rw [show (nI (42 + 326 * na1)) = nI (42 + 326 * na1) from rfl, show 6 = nI 6 from rfl, nI_add] <;> exact congrArg nI (by omega))
  have := RI_Lb (n := na1) hI (by omega)
  refine aldf (n := 695) (j := (48 + 326 * na1)) (v := (nI (L na1))) B hP (show hk 1078 = 8 by decide +kernel) (show hlen 1078 = 695 by decide +kernel) rfl (by omega) (by decide) (g_l (n0 := na1) hI (by omega) (by omega)) dX7_choose_13 ?_
  refine lv_istore_n (lv' := [(3, .int (nI (L na1))), (2, .int (nI (42 + 326 * na1))), (0, .ref (E.2.1 + 1076)), (1, .int (nI na1))]) hx hb dX7_choose_14 rfl hl (by decide) rfl (fun ls hl => ?_)
  refine lv_aload_n hx hb dX7_choose_15 rfl (lv_at hl 2 rfl) ?_
  refine lv_iload_n hx hb dX7_choose_16 rfl (lv_at hl 3 rfl) ?_
  refine lv_aload_n hx hb dX7_choose_17 rfl (lv_at hl 2 rfl) ?_
  refine get7 B hP (show hk 1076 = 7 by decide +kernel) 3 (by decide) mw_1030 rfl dX7_choose_18 ?_
  refine lv_iload_n hx hb dX7_choose_21 rfl (lv_at hl 1 rfl) ?_
  refine aldf (n := 695) (j := (42 + 326 * na1)) (v := (M na1)) B hP (show hk 1078 = 8 by decide +kernel) (show hlen 1078 = 695 by decide +kernel) rfl (by omega) (by decide) (g_m (n0 := na1) hI (by omega) (by omega)) dX7_choose_22 ?_
  refine lv_aload_n hx hb dX7_choose_23 rfl (lv_at hl 2 rfl) ?_
  refine get7 B hP (show hk 1076 = 7 by decide +kernel) 3 (by decide) mw_1030 rfl dX7_choose_24 ?_
  refine lv_bipush (v := 7) hx hb dX7_choose_27 (by decide) ?_
  refine aldn (n := 695) (j := 7) B hP (show hk 1078 = 8 by decide +kernel) (show hlen 1078 = 695 by decide +kernel) rfl (by omega) (by decide) dX7_choose_29 ?_
  have i400 : iR (ρ 1078 7) (0) (1000000) := (iR_w (g_time hI) (by omega) (by omega))
  obtain ⟨j401, lj401, uj401, ej401⟩ := iR_nat (a := 0) (b := 1000000) i400
  refine lv_topi (fun z402 ez402 => ?_)
  obtain rfl : z402 = nI j401 := ez402.trans ej401
  refine call_i (cVt (k := 1076) (av := [.int (nI na1), .int (M na1), .int (nI j401)]) (rest := []) B hP hS (d_X7_isHere l E ρ r Bt hBt M L X na1 (by omega) (by omega) (M na1) (nI j401) hI) lk_RX7_176 (hrecv (ci := 7) B hP (hk_lt (c := 7) (show hk 1076 = 7 by decide +kernel) (by decide)) (hcc7 _ _ (show hk 1076 = 7 by decide +kernel)) rfl) rfl rfl hl.1 (Nat.le_of_ble_eq_true rfl) ⟨Nat.le_of_ble_eq_true rfl, Nat.le_of_ble_eq_true rfl⟩ ⟨Nat.le_of_ble_eq_true rfl, Nat.le_of_ble_eq_true rfl⟩ dX7_choose_30) hS (fun r403 ρ404 H locs q405 hP hS => ?_)
  obtain ⟨rfl, hI, q405⟩ := q405
  obtain ⟨j406, lj406, uj406, ej406⟩ := iR_nat (a := 0) (b := 1) q405
  refine lv_topi (fun z407 ez407 => ?_)
  obtain rfl : z407 = nI j406 := ez407.trans ej406
  refine lv_if_ne (tgt := 38) hx hb dX7_choose_33 (by decide) (fun c408 => ?_) (fun c408 => ?_)
  · skip
    have n409 := mt (nI_eq (a := j406) (b := 0) (by omega) (by omega)).mpr (show ¬ (nI j406 = nI 0) from c408)
    refine lv_iconst (v := (-1)) hx hb dX7_choose_38 (by decide) ?_
    refine lv_istore (lv' := [(4, .int (-1)), (3, .int (nI (L na1))), (2, .int (nI (42 + 326 * na1))), (0, .ref (E.2.1 + 1076)), (1, .int (nI na1))]) hx hb dX7_choose_39 hl (by decide) rfl (fun ls hl => ?_)
    refine lv_iconst (v := (-1)) hx hb dX7_choose_41 (by decide) ?_
    refine lv_istore (lv' := [(5, .int (-1)), (4, .int (-1)), (3, .int (nI (L na1))), (2, .int (nI (42 + 326 * na1))), (0, .ref (E.2.1 + 1076)), (1, .int (nI na1))]) hx hb dX7_choose_42 hl (by decide) rfl (fun ls hl => ?_)
    refine lv_iconst (v := (-1)) hx hb dX7_choose_44 (by decide) ?_
    refine lv_istore (lv' := [(6, .int (-1)), (5, .int (-1)), (4, .int (-1)), (3, .int (nI (L na1))), (2, .int (nI (42 + 326 * na1))), (0, .ref (E.2.1 + 1076)), (1, .int (nI na1))]) hx hb dX7_choose_45 hl (by decide) rfl (fun ls hl => ?_)
    refine lv_iload_n hx hb dX7_choose_47 rfl (lv_at hl 3 rfl) ?_
    refine lv_iconst (v := 1) hx hb dX7_choose_48 (by decide) ?_
    refine lv_isub hx hb dX7_choose_49 ?_
    refine lv_istore (lv' := [(7, .int ((nI (L na1)) - 1)), (6, .int (-1)), (5, .int (-1)), (4, .int (-1)), (3, .int (nI (L na1))), (2, .int (nI (42 + 326 * na1))), (0, .ref (E.2.1 + 1076)), (1, .int (nI na1))]) hx hb dX7_choose_50 hl (by decide) rfl (fun ls hl => ?_)
    exact b52_0 ls ρ _ _ _ ((-1) : Int32) ((-1) : Int32) (((nI (L na1)) - 1) : Int32) (lv_sub hl [6, 7, 5, 4, 3, 2, 1, 0] rfl) hP hS hI (Nat.lt_succ_self _) (iR_w (show iR (-1) (-1) (-1) from ⟨by decide, by decide⟩) (by decide) (by decide)) (iR_w (show iR (-1) (-1) (-1) from ⟨by decide, by decide⟩) (by decide) (by decide)) (iR_w (iR_sub (a' := -1) (b' := 3) (nI_iR (j := (L na1)) (a := 0) (b := 4) (by omega) (by omega) (by omega)) (show iR 1 (1) (1) from ⟨by decide, by decide⟩) (by decide) (by decide) (by decide) (by decide)) (by decide) (by decide)) (iR_w hm (by decide) (by decide)) (by omega) (by omega) (by omega) (by omega) (rl_m1 (L na1)) (rl_m1 (L na1)) (rl_sub (by omega))
  · skip
    have n410 := (nI_eq (a := j406) (b := 0) (by omega) (by omega)).mp (show (nI j406 = nI 0) from c408)
    refine lv_iconst (v := (-1)) hx hb dX7_choose_36 (by decide) ?_
    exact ret_i B hr hlk hP hS dX7_choose_37 (⟨hI, ⟨iR_w (rl_m1 (L na1)) (by decide) (by omega), fun z => by have := (rl_m1 (L na1)).1; rw [z] at this; exact absurd this (by decide)⟩⟩)

theorem lk_RX7_145 : LkV RX7 145 RX7 yX7_comes cX7_comes 5 none 4 := ⟨⟨mw_1204, mw_1206, mw_18, mw_59, mw_1207⟩, by decide +kernel⟩
set_option maxHeartbeats 4000000 in
set_option maxRecDepth 100000 in
theorem d_X7_passes (l : Launch) (E : hE) (ρ r : Nat → Nat → Int32) (Bt : Nat) (hBt : Bt ≤ 1000000) (M : Nat → Int32) (L : Nat → Nat) (X : Nat × Nat → Prop) (a1 : Int32) (na2 : Nat) (lna2 : 0 ≤ na2) (una2 : na2 ≤ 694) (a3 : Int32) (hI : RI r Bt M L X ρ) : Met l yX7_passes (.code yX7_passes cX7_passes 7 none :: gw_all) (rmk 3 120) (cPre E ρ [.ref (E.2.1 + 1076), .int a1, .int (nI na2), .int a3]) (cV E (fun ρ1 => RI r Bt M L X ρ1)) 0 0 (hA E) := by
  refine ent (own := RX7) (by decide) rfl (Nat.le_of_ble_eq_true rfl) ?_
  intro p e s m below meth c ls B hr hlk hl hP hS
  have hx := B.1.1
  have hb := B.1.2.1
  have hown := B.1.2.2.2.1
  have hts := B.1.2.2.2.2
  have hl : lv_has ls 7 [(0, .ref (E.2.1 + 1076)), (1, .int a1), (2, .int (nI na2)), (3, .int a3)] := hl
  have b3_0 : ∀ (ls : Array Slot) (ρ : Nat → Nat → Int32) (H : Heap) (locs : List Loc) (d3 : Nat) (j3_4 : Nat), lv_has ls 7 [(0, .ref (E.2.1 + 1076)), (1, .int a1), (2, .int (nI na2)), (3, .int a3), (4, .int (nI j3_4))] → WP E ρ H → va_S (hA E) s.heap H locs → RI r Bt M L X ρ → 3 - j3_4 < d3 → 0 ≤ j3_4 → j3_4 ≤ 2 → 0 ≤ na2 → na2 ≤ 694 → W p l e (rmk 3 120) s m ([.ref (E.2.1 + 1076), .int a1, .int (nI na2), .int a3] : List Value).toArray below meth c H locs 0 0 (MQ below (cV E (fun ρ1 => RI r Bt M L X ρ1)) ([.ref (E.2.1 + 1076), .int a1, .int (nI na2), .int a3] : List Value).toArray s 0 0 (hA E)) (F0 m 3 ls []) := by
    intro ls ρ H locs d3
    induction d3 generalizing ls ρ H locs with
    | zero => intro j3_4 hl hP hS hI hd3 lj3_4 uj3_4 tlna2 tuna2; exact absurd hd3 (Nat.not_lt_zero _)
    | succ d3 ih3 =>
      intro j3_4 hl hP hS hI hd3 lj3_4 uj3_4 tlna2 tuna2
      have b152_0 : ∀ (ls : Array Slot) (ρ : Nat → Nat → Int32) (H : Heap) (locs : List Loc) , lv_has ls 7 [(0, .ref (E.2.1 + 1076)), (1, .int a1), (2, .int (nI na2)), (3, .int a3), (4, .int (nI j3_4))] → WP E ρ H → va_S (hA E) s.heap H locs → RI r Bt M L X ρ → 0 ≤ j3_4 → j3_4 ≤ 1 → 0 ≤ na2 → na2 ≤ 694 → W p l e (rmk 3 120) s m ([.ref (E.2.1 + 1076), .int a1, .int (nI na2), .int a3] : List Value).toArray below meth c H locs 0 0 (MQ below (cV E (fun ρ1 => RI r Bt M L X ρ1)) ([.ref (E.2.1 + 1076), .int a1, .int (nI na2), .int a3] : List Value).toArray s 0 0 (hA E)) (F0 m 152 ls []) := by
        intro ls ρ H locs  hl hP hS hI tlj3_4 tuj3_4 tlna2 tuna2
        refine lv_iinc (v := (nI (1 + j3_4))) (lv' := [(4, .int (nI (1 + j3_4))), (0, .ref (E.2.1 + 1076)), (1, .int a1), (2, .int (nI na2)), (3, .int a3)]) hx hb dX7_passes_152 hl (k := 4) rfl (show nI j3_4 + nI 1 = _ from (nI_add _ _).trans (congrArg nI (by omega))) (by decide) rfl (fun ls hl => ?_)
        refine lv_goto (tgt := 3) hx hb dX7_passes_155 (by decide) ?_
        exact ih3 ls ρ _ _ (1 + j3_4) (lv_sub hl [1, 2, 3, 4, 0] rfl) hP hS hI (by omega) (by omega) (by omega) (by omega) (by omega)
      have b12_0 : ∀ (ls : Array Slot) (ρ : Nat → Nat → Int32) (H : Heap) (locs : List Loc) (d12 : Nat) (j12_5 : Nat), lv_has ls 7 [(0, .ref (E.2.1 + 1076)), (1, .int a1), (2, .int (nI na2)), (3, .int a3), (4, .int (nI j3_4)), (5, .int (nI j12_5))] → WP E ρ H → va_S (hA E) s.heap H locs → RI r Bt M L X ρ → 5 - j12_5 < d12 → 0 ≤ j12_5 → j12_5 ≤ 4 → 0 ≤ j3_4 → j3_4 ≤ 1 → 0 ≤ na2 → na2 ≤ 694 → W p l e (rmk 3 120) s m ([.ref (E.2.1 + 1076), .int a1, .int (nI na2), .int a3] : List Value).toArray below meth c H locs 0 0 (MQ below (cV E (fun ρ1 => RI r Bt M L X ρ1)) ([.ref (E.2.1 + 1076), .int a1, .int (nI na2), .int a3] : List Value).toArray s 0 0 (hA E)) (F0 m 12 ls []) := by
        intro ls ρ H locs d12
        induction d12 generalizing ls ρ H locs with
        | zero => intro j12_5 hl hP hS hI hd12 lj12_5 uj12_5 tlj3_4 tuj3_4 tlna2 tuna2; exact absurd hd12 (Nat.not_lt_zero _)
        | succ d12 ih12 =>
          intro j12_5 hl hP hS hI hd12 lj12_5 uj12_5 tlj3_4 tuj3_4 tlna2 tuna2
          have b146_0 : ∀ (ls : Array Slot) (ρ : Nat → Nat → Int32) (H : Heap) (locs : List Loc) , lv_has ls 7 [(0, .ref (E.2.1 + 1076)), (1, .int a1), (2, .int (nI na2)), (3, .int a3), (4, .int (nI j3_4)), (5, .int (nI j12_5))] → WP E ρ H → va_S (hA E) s.heap H locs → RI r Bt M L X ρ → iR (M j3_4) (0) (5) → 1 ≤ (L j3_4) → (L j3_4) ≤ 4 → 0 ≤ j12_5 → j12_5 ≤ 3 → 0 ≤ j3_4 → j3_4 ≤ 1 → 0 ≤ na2 → na2 ≤ 694 → j12_5 + 1 ≤ L j3_4 → W p l e (rmk 3 120) s m ([.ref (E.2.1 + 1076), .int a1, .int (nI na2), .int a3] : List Value).toArray below meth c H locs 0 0 (MQ below (cV E (fun ρ1 => RI r Bt M L X ρ1)) ([.ref (E.2.1 + 1076), .int a1, .int (nI na2), .int a3] : List Value).toArray s 0 0 (hA E)) (F0 m 146 ls []) := by
            intro ls ρ H locs  hl hP hS hI f_M_j3_4_ tl_L_j3_4_ tu_L_j3_4_ tlj12_5 tuj12_5 tlj3_4 tuj3_4 tlna2 tuna2 hr146_0
            refine lv_iinc (v := (nI (1 + j12_5))) (lv' := [(5, .int (nI (1 + j12_5))), (0, .ref (E.2.1 + 1076)), (1, .int a1), (2, .int (nI na2)), (3, .int a3), (4, .int (nI j3_4))]) hx hb dX7_passes_146 hl (k := 5) rfl (show nI j12_5 + nI 1 = _ from (nI_add _ _).trans (congrArg nI (by omega))) (by decide) rfl (fun ls hl => ?_)
            refine lv_goto (tgt := 12) hx hb dX7_passes_149 (by decide) ?_
            exact ih12 ls ρ _ _ (1 + j12_5) (lv_sub hl [1, 2, 3, 4, 5, 0] rfl) hP hS hI (by omega) (by omega) (by omega) (by omega) (by omega) (by omega) (by omega)
          have b118_0 : ∀ (ls : Array Slot) (ρ : Nat → Nat → Int32) (H : Heap) (locs : List Loc) , lv_has ls 7 [(0, .ref (E.2.1 + 1076)), (1, .int a1), (2, .int (nI na2)), (3, .int a3), (4, .int (nI j3_4)), (5, .int (nI j12_5)), (6, .int (nI (104 + 326 * j3_4 + 66 * j12_5)))] → WP E ρ H → va_S (hA E) s.heap H locs → RI r Bt M L X ρ → iR (M j3_4) (0) (5) → 1 ≤ (L j3_4) → (L j3_4) ≤ 4 → 0 ≤ j12_5 → j12_5 ≤ 3 → 0 ≤ j3_4 → j3_4 ≤ 1 → 0 ≤ na2 → na2 ≤ 694 → j12_5 + 1 ≤ L j3_4 → W p l e (rmk 3 120) s m ([.ref (E.2.1 + 1076), .int a1, .int (nI na2), .int a3] : List Value).toArray below meth c H locs 0 0 (MQ below (cV E (fun ρ1 => RI r Bt M L X ρ1)) ([.ref (E.2.1 + 1076), .int a1, .int (nI na2), .int a3] : List Value).toArray s 0 0 (hA E)) (F0 m 118 ls []) := by
            intro ls ρ H locs  hl hP hS hI f_M_j3_4_ tl_L_j3_4_ tu_L_j3_4_ tlj12_5 tuj12_5 tlj3_4 tuj3_4 tlna2 tuna2 hr118_0
            refine lv_iload hx hb dX7_passes_118 (lv_at hl 6 rfl) ?_
            refine lv_iload_n hx hb dX7_passes_120 rfl (lv_at hl 2 rfl) ?_
            refine lv_icmp_eq (tgt := 146) hx hb dX7_passes_121 (by decide) (fun c323 => ?_) (fun c323 => ?_)
            · skip
              have n324 := (nI_eq (a := (104 + 326 * j3_4 + 66 * j12_5)) (b := na2) (by omega) (by omega)).mp (show (nI (104 + 326 * j3_4 + 66 * j12_5) = nI na2) from c323)
              exact b146_0 ls ρ _ _  (lv_sub hl [0, 1, 2, 3, 4, 5] rfl) hP hS hI (iR_w f_M_j3_4_ (by decide) (by decide)) (by omega) (by omega) (by omega) (by omega) (by omega) (by omega) (by omega) (by omega) (by omega)
            · skip
              have n325 := mt (nI_eq (a := (104 + 326 * j3_4 + 66 * j12_5)) (b := na2) (by omega) (by omega)).mpr (show ¬ (nI (104 + 326 * j3_4 + 66 * j12_5) = nI na2) from c323)
              refine lv_aload_n hx hb dX7_passes_124 rfl (lv_at hl 0 rfl) ?_
              refine get7 B hP (show hk 1076 = 7 by decide +kernel) 3 (by decide) mw_1030 rfl dX7_passes_125 ?_
              refine lv_iload hx hb dX7_passes_128 (lv_at hl 6 rfl) ?_
              refine aldn (n := 695) (j := (104 + 326 * j3_4 + 66 * j12_5)) B hP (show hk 1078 = 8 by decide +kernel) (show hlen 1078 = 695 by decide +kernel) rfl (by omega) (by decide) dX7_passes_130 ?_
              refine lv_iload_n hx hb dX7_passes_131 rfl (lv_at hl 1 rfl) ?_
              refine lv_icmp_ne (tgt := 146) hx hb dX7_passes_132 (by decide) (fun c326 => ?_) (fun c326 => ?_)
              · skip
                exact b146_0 ls ρ _ _  (lv_sub hl [0, 1, 2, 3, 4, 5] rfl) hP hS hI (iR_w f_M_j3_4_ (by decide) (by decide)) (by omega) (by omega) (by omega) (by omega) (by omega) (by omega) (by omega) (by omega) (by omega)
              · skip
                refine lv_aload_n hx hb dX7_passes_135 rfl (lv_at hl 0 rfl) ?_
                refine get7 B hP (show hk 1076 = 7 by decide +kernel) 3 (by decide) mw_1030 rfl dX7_passes_136 ?_
                refine lv_bipush (v := 17) hx hb dX7_passes_139 (by decide) ?_
                refine lv_dup2_11 hx hb dX7_passes_141 rfl rfl ?_
                refine aldn (n := 695) (j := 17) B hP (show hk 1078 = 8 by decide +kernel) (show hlen 1078 = 695 by decide +kernel) rfl (by omega) (by decide) dX7_passes_142 ?_
                refine lv_iconst (v := 1) hx hb dX7_passes_143 (by decide) ?_
                refine lv_iadd hx hb dX7_passes_144 ?_
                refine astn (n := 695) (j := 17) B hP hS (show hk 1078 = 8 by decide +kernel) (show hlen 1078 = 695 by decide +kernel) rfl (by omega) (by decide) dX7_passes_145 (fun H locs hP hS => ?_)
                obtain ⟨ρ327, e328⟩ : ∃ z, z = up ρ 1078 17 ((ρ 1078 17) + 1) := ⟨_, rfl⟩
                rw [← e328] at hP
                have hI : RI r Bt M L X ρ327 := by rw [e328]; exact RI_up hI (ok_head (by omega) (by omega) (by omega))
                exact b146_0 ls ρ327 _ _  (lv_sub hl [0, 1, 2, 3, 4, 5] rfl) hP hS hI (iR_w f_M_j3_4_ (by decide) (by decide)) (by omega) (by omega) (by omega) (by omega) (by omega) (by omega) (by omega) (by omega) (by omega)
          refine lv_aload_n hx hb dX7_passes_12 rfl (lv_at hl 0 rfl) ?_
          refine lv_iload hx hb dX7_passes_13 (lv_at hl 4 rfl) ?_
          refine call_i (cVt (k := 1076) (av := [.int (nI j3_4)]) (rest := []) B hP hS (d_X7_isNet l E ρ r Bt hBt M L X (nI j3_4) hI) lk_RX7_78 (hrecv (ci := 7) B hP (hk_lt (c := 7) (show hk 1076 = 7 by decide +kernel) (by decide)) (hcc7 _ _ (show hk 1076 = 7 by decide +kernel)) rfl) rfl rfl hl.1 (Nat.le_of_ble_eq_true rfl) ⟨Nat.le_of_ble_eq_true rfl, Nat.le_of_ble_eq_true rfl⟩ ⟨Nat.le_of_ble_eq_true rfl, Nat.le_of_ble_eq_true rfl⟩ dX7_passes_15) hS (fun r329 ρ330 H locs q331 hP hS => ?_)
          obtain ⟨rfl, hI, q331⟩ := q331
          rcases q331 with rfl | ⟨rfl, j332, hj332, ej332, i333⟩
          · skip
            refine lv_if_eq (tgt := 152) hx hb dX7_passes_18 (by decide) (fun _ => ?_) (fun c334 => absurd rfl c334)
            exact b152_0 ls ρ _ _  (lv_sub hl [0, 1, 2, 3, 4] rfl) hP hS hI (by omega) (by omega) (by omega) (by omega)
          · skip
            have n335 : j3_4 = j332 := (nI_eq (by omega) (by omega)).mp (show nI j3_4 = nI j332 from ej332)
            have i336 : iR (M j3_4) 0 5 := by rw [n335]; exact i333
            refine lv_if_eq (tgt := 152) hx hb dX7_passes_18 (by decide) (fun c337 => absurd c337 (iR_ne (show iR 1 (1) (1) from ⟨by decide, by decide⟩) (show iR 0 (0) (0) from ⟨by decide, by decide⟩) (by decide))) (fun _ => ?_)
            refine lv_iload hx hb dX7_passes_21 (lv_at hl 5 rfl) ?_
            refine lv_aload_n hx hb dX7_passes_23 rfl (lv_at hl 0 rfl) ?_
            refine get7 B hP (show hk 1076 = 7 by decide +kernel) 3 (by decide) mw_1030 rfl dX7_passes_24 ?_
            refine lv_iload hx hb dX7_passes_27 (lv_at hl 4 rfl) ?_
            refine call_i (cS (av := [.int (nI j3_4)]) (rest := [.ref (E.2.1 + 1078), .int (nI j12_5)]) B hP hS (d_X7_netAt l E ρ r Bt hBt M L X j3_4 (by omega) (by omega) hI) lk_RX7_75 rfl rfl hl.1 (Nat.le_of_ble_eq_true rfl) ⟨Nat.le_of_ble_eq_true rfl, Nat.le_of_ble_eq_true rfl⟩ ⟨Nat.le_of_ble_eq_true rfl, Nat.le_of_ble_eq_true rfl⟩ dX7_passes_29) hS (fun r338 ρ339 H locs q340 hP hS => ?_)
            obtain ⟨rfl, hI, q340⟩ := q340
            obtain rfl : r338 = nI (42 + 326 * j3_4) := q340.trans (congrArg nI (by omega))
            refine lv_bipush (v := 6) hx hb dX7_passes_32 (by decide) ?_
            refine lv_iadd hx hb dX7_passes_34 ?_
            refine lv_topi (fun z341 ez341 => ?_)
            obtain rfl : z341 = (nI (48 + 326 * j3_4)) := ez341.trans (by rw [show (nI (42 + 326 * j3_4)) = nI (42 + 326 * j3_4) from rfl, show 6 = nI 6 from rfl, nI_add] <;> exact congrArg nI (by omega))
            have := RI_Lb (n := j3_4) hI (by omega)
            refine aldf (n := 695) (j := (48 + 326 * j3_4)) (v := (nI (L j3_4))) B hP (show hk 1078 = 8 by decide +kernel) (show hlen 1078 = 695 by decide +kernel) rfl (by omega) (by decide) (g_l (n0 := j3_4) hI (by omega) (by omega)) dX7_passes_35 ?_
            refine lv_icmp_ge (tgt := 152) hx hb dX7_passes_36 (by decide) (fun c342 => ?_) (fun c342 => ?_)
            · skip
              have n343 := mt (nx_lt (a := j12_5) (b := (L j3_4)) (by omega) (by omega)).mpr (show ¬ (nI j12_5 < nI (L j3_4)) from (Int32.not_lt.mpr c342))
              exact b152_0 ls ρ _ _  (lv_sub hl [0, 1, 2, 3, 4] rfl) hP hS hI (by omega) (by omega) (by omega) (by omega)
            · skip
              have n344 := (nx_lt (a := j12_5) (b := (L j3_4)) (by omega) (by omega)).mp (show (nI j12_5 < nI (L j3_4)) from (Int32.not_le.mp c342))
              refine lv_iload hx hb dX7_passes_39 (lv_at hl 4 rfl) ?_
              refine lv_iload hx hb dX7_passes_41 (lv_at hl 5 rfl) ?_
              refine call_i (cS (av := [.int (nI j3_4), .int (nI j12_5)]) (rest := []) B hP hS (d_X7_linkAt l E ρ r Bt hBt M L X j3_4 (by omega) (by omega) j12_5 (by omega) (by omega) hI) lk_RX7_82 rfl rfl hl.1 (Nat.le_of_ble_eq_true rfl) ⟨Nat.le_of_ble_eq_true rfl, Nat.le_of_ble_eq_true rfl⟩ ⟨Nat.le_of_ble_eq_true rfl, Nat.le_of_ble_eq_true rfl⟩ dX7_passes_43) hS (fun r345 ρ346 H locs q347 hP hS => ?_)
              obtain ⟨rfl, hI, q347⟩ := q347
              obtain rfl : r345 = nI (104 + 326 * j3_4 + 66 * j12_5) := q347.trans (congrArg nI (by omega))
              refine lv_istore (lv' := [(6, .int (nI (104 + 326 * j3_4 + 66 * j12_5))), (0, .ref (E.2.1 + 1076)), (1, .int a1), (2, .int (nI na2)), (3, .int a3), (4, .int (nI j3_4)), (5, .int (nI j12_5))]) hx hb dX7_passes_46 hl (by decide) rfl (fun ls hl => ?_)
              refine lv_iload hx hb dX7_passes_48 (lv_at hl 0 rfl) ?_
              refine lv_iload_n hx hb dX7_passes_50 rfl (lv_at hl 3 rfl) ?_
              refine lv_icmp_eq (tgt := 118) hx hb dX7_passes_51 (by decide) (fun c348 => ?_) (fun c348 => ?_)
              · skip
                have n349 := (nI_eq (a := (104 + 326 * j3_4 + 66 * j12_5)) (b := na2) (by omega) (by omega)).mp (show (nI (104 + 326 * j3_4 + 66 * j12_5) = nI na2) from c348)
                exact b118_0 ls ρ _ _  (lv_sub hl [1, 2, 3, 4, 5, 6, 0] rfl) hP hS hI (iR_w i336 (by decide) (by decide)) (by omega) (by omega) (by omega) (by omega) (by omega) (by omega) (by omega) (by omega) (by omega)
              · skip
                have n350 := mt (nI_eq (a := (104 + 326 * j3_4 + 66 * j12_5)) (b := na2) (by omega) (by omega)).mpr (show ¬ (nI (104 + 326 * j3_4 + 66 * j12_5) = nI na2) from c348)
                refine lv_aload_n hx hb dX7_passes_54 rfl (lv_at hl 1 rfl) ?_
                refine get7 B hP (show hk 1076 = 7 by decide +kernel) 3 (by decide) mw_1030 rfl dX7_passes_55 ?_
                refine lv_iload hx hb dX7_passes_58 (lv_at hl 0 rfl) ?_
                refine aldn (n := 695) (j := (104 + 326 * j3_4 + 66 * j12_5)) B hP (show hk 1078 = 8 by decide +kernel) (show hlen 1078 = 695 by decide +kernel) rfl (by omega) (by decide) dX7_passes_60 ?_
                refine lv_iload_n hx hb dX7_passes_61 rfl (lv_at hl 2 rfl) ?_
                refine lv_icmp_ne (tgt := 118) hx hb dX7_passes_62 (by decide) (fun c351 => ?_) (fun c351 => ?_)
                · skip
                  exact b118_0 ls ρ _ _  (lv_sub hl [1, 2, 3, 4, 5, 6, 0] rfl) hP hS hI (iR_w i336 (by decide) (by decide)) (by omega) (by omega) (by omega) (by omega) (by omega) (by omega) (by omega) (by omega) (by omega)
                · skip
                  refine lv_aload_n hx hb dX7_passes_65 rfl (lv_at hl 1 rfl) ?_
                  refine get7 B hP (show hk 1076 = 7 by decide +kernel) 3 (by decide) mw_1030 rfl dX7_passes_66 ?_
                  refine lv_iload hx hb dX7_passes_69 (lv_at hl 0 rfl) ?_
                  refine lv_bipush (v := 14) hx hb dX7_passes_71 (by decide) ?_
                  refine lv_iadd hx hb dX7_passes_73 ?_
                  refine lv_topi (fun z352 ez352 => ?_)
                  obtain rfl : z352 = (nI (118 + 326 * j3_4 + 66 * j12_5)) := ez352.trans (by rw [show (nI (104 + 326 * j3_4 + 66 * j12_5)) = nI (104 + 326 * j3_4 + 66 * j12_5) from rfl, show 14 = nI 14 from rfl, nI_add] <;> exact congrArg nI (by omega))
                  refine aldn (n := 695) (j := (118 + 326 * j3_4 + 66 * j12_5)) B hP (show hk 1078 = 8 by decide +kernel) (show hlen 1078 = 695 by decide +kernel) rfl (by omega) (by decide) dX7_passes_74 ?_
                  have i353 : iR (ρ 1078 (118 + 326 * j3_4 + 66 * j12_5)) (0) (8) := g_nup (n0 := j3_4) (l0 := j12_5) (j := (118 + 326 * j3_4 + 66 * j12_5)) hI (by omega) (by omega) (by omega)
                  obtain ⟨j354, lj354, uj354, ej354⟩ := iR_nat (a := 0) (b := 8) i353
                  refine lv_topi (fun z355 ez355 => ?_)
                  obtain rfl : z355 = nI j354 := ez355.trans ej354
                  refine lv_bipush (v := 8) hx hb dX7_passes_75 (by decide) ?_
                  refine lv_icmp_ge (tgt := 118) hx hb dX7_passes_77 (by decide) (fun c356 => ?_) (fun c356 => ?_)
                  · skip
                    have n357 := mt (nx_lt (a := j354) (b := 8) (by omega) (by omega)).mpr (show ¬ (nI j354 < nI 8) from (Int32.not_lt.mpr c356))
                    exact b118_0 ls ρ _ _  (lv_sub hl [1, 2, 3, 4, 5, 6, 0] rfl) hP hS hI (iR_w i336 (by decide) (by decide)) (by omega) (by omega) (by omega) (by omega) (by omega) (by omega) (by omega) (by omega) (by omega)
                  · skip
                    have n358 := (nx_lt (a := j354) (b := 8) (by omega) (by omega)).mp (show (nI j354 < nI 8) from (Int32.not_le.mp c356))
                    refine lv_aload_n hx hb dX7_passes_80 rfl (lv_at hl 1 rfl) ?_
                    refine get7 B hP (show hk 1076 = 7 by decide +kernel) 3 (by decide) mw_1030 rfl dX7_passes_81 ?_
                    refine lv_bipush (v := 16) hx hb dX7_passes_84 (by decide) ?_
                    refine lv_dup2_11 hx hb dX7_passes_86 rfl rfl ?_
                    refine aldn (n := 695) (j := 16) B hP (show hk 1078 = 8 by decide +kernel) (show hlen 1078 = 695 by decide +kernel) rfl (by omega) (by decide) dX7_passes_87 ?_
                    refine lv_iconst (v := 1) hx hb dX7_passes_88 (by decide) ?_
                    refine lv_iadd hx hb dX7_passes_89 ?_
                    refine astn (n := 695) (j := 16) B hP hS (show hk 1078 = 8 by decide +kernel) (show hlen 1078 = 695 by decide +kernel) rfl (by omega) (by decide) dX7_passes_90 (fun H locs hP hS => ?_)
                    obtain ⟨ρ359, e360⟩ : ∃ z, z = up ρ 1078 16 ((ρ 1078 16) + 1) := ⟨_, rfl⟩
                    rw [← e360] at hP
                    have hI : RI r Bt M L X ρ359 := by rw [e360]; exact RI_up hI (ok_head (by omega) (by omega) (by omega))
                    refine lv_aload_n hx hb dX7_passes_91 rfl (lv_at hl 1 rfl) ?_
                    refine lv_iload hx hb dX7_passes_92 (lv_at hl 0 rfl) ?_
                    refine lv_bipush (v := 14) hx hb dX7_passes_94 (by decide) ?_
                    refine lv_iadd hx hb dX7_passes_96 ?_
                    refine lv_topi (fun z361 ez361 => ?_)
                    obtain rfl : z361 = (nI (118 + 326 * j3_4 + 66 * j12_5)) := ez361.trans (by rw [show (nI (104 + 326 * j3_4 + 66 * j12_5)) = nI (104 + 326 * j3_4 + 66 * j12_5) from rfl, show 14 = nI 14 from rfl, nI_add] <;> exact congrArg nI (by omega))
                    refine lv_iload hx hb dX7_passes_97 (lv_at hl 0 rfl) ?_
                    refine lv_bipush (v := 58) hx hb dX7_passes_99 (by decide) ?_
                    refine lv_iadd hx hb dX7_passes_101 ?_
                    refine lv_topi (fun z362 ez362 => ?_)
                    obtain rfl : z362 = (nI (162 + 326 * j3_4 + 66 * j12_5)) := ez362.trans (by rw [show (nI (104 + 326 * j3_4 + 66 * j12_5)) = nI (104 + 326 * j3_4 + 66 * j12_5) from rfl, show 58 = nI 58 from rfl, nI_add] <;> exact congrArg nI (by omega))
                    refine lv_iload_n hx hb dX7_passes_102 rfl (lv_at hl 4 rfl) ?_
                    refine lv_aload_n hx hb dX7_passes_103 rfl (lv_at hl 1 rfl) ?_
                    refine get7 B hP (show hk 1076 = 7 by decide +kernel) 3 (by decide) mw_1030 rfl dX7_passes_104 ?_
                    refine lv_bipush (v := 7) hx hb dX7_passes_107 (by decide) ?_
                    refine aldn (n := 695) (j := 7) B hP (show hk 1078 = 8 by decide +kernel) (show hlen 1078 = 695 by decide +kernel) rfl (by omega) (by decide) dX7_passes_109 ?_
                    have i363 : iR (ρ359 1078 7) (0) (1000000) := (iR_w (g_time hI) (by omega) (by omega))
                    obtain ⟨j364, lj364, uj364, ej364⟩ := iR_nat (a := 0) (b := 1000000) i363
                    refine lv_topi (fun z365 ez365 => ?_)
                    obtain rfl : z365 = nI j364 := ez365.trans ej364
                    refine lv_iconst (v := 2) hx hb dX7_passes_110 (by decide) ?_
                    refine lv_iadd hx hb dX7_passes_111 ?_
                    refine lv_topi (fun z366 ez366 => ?_)
                    obtain rfl : z366 = (nI (2 + j364)) := ez366.trans (by rw [show (nI j364) = nI j364 from rfl, show 2 = nI 2 from rfl, nI_add] <;> exact congrArg nI (by omega))
                    refine call_v (cVt (k := 1076) (av := [.int (nI (118 + 326 * j3_4 + 66 * j12_5)), .int (nI (162 + 326 * j3_4 + 66 * j12_5)), .int a3, .int (nI (2 + j364))]) (rest := []) B hP hS (d_X7_comes14 l E ρ359 r Bt hBt M L X j3_4 (by omega) j12_5 (by omega) a3 (nI (2 + j364)) hI (by rw [show 118 + 326 * j3_4 + 66 * j12_5 = (118 + 326 * j3_4 + 66 * j12_5) by omega, show ρ359 1078 (118 + 326 * j3_4 + 66 * j12_5) = (nI j354) from (by rw [e360]; exact up_get_ne (Or.inr (by omega)) ej354)]; exact iR_w (nI_iR (j := j354) (a := 0) (b := 7) (by omega) (by omega) (by omega)) (by decide) (by decide))) lk_RX7_145 (hrecv (ci := 7) B hP (hk_lt (c := 7) (show hk 1076 = 7 by decide +kernel) (by decide)) (hcc7 _ _ (show hk 1076 = 7 by decide +kernel)) rfl) rfl rfl hl.1 (Nat.le_of_ble_eq_true rfl) ⟨Nat.le_of_ble_eq_true rfl, Nat.le_of_ble_eq_true rfl⟩ ⟨Nat.le_of_ble_eq_true rfl, Nat.le_of_ble_eq_true rfl⟩ dX7_passes_112) hS (fun ρ368 H locs q369 hP hS => ?_)
                    have hI := q369
                    refine lv_goto (tgt := 146) hx hb dX7_passes_115 (by decide) ?_
                    exact b146_0 ls ρ368 _ _  (lv_sub hl [1, 2, 3, 4, 5, 6] rfl) hP hS hI (iR_w i336 (by decide) (by decide)) (by omega) (by omega) (by omega) (by omega) (by omega) (by omega) (by omega) (by omega) (by omega)
      refine lv_iload hx hb dX7_passes_3 (lv_at hl 4 rfl) ?_
      refine lv_iconst (v := 2) hx hb dX7_passes_5 (by decide) ?_
      refine lv_icmp_ge (tgt := 158) hx hb dX7_passes_6 (by decide) (fun c370 => ?_) (fun c370 => ?_)
      · skip
        have n371 := mt (nx_lt (a := j3_4) (b := 2) (by omega) (by omega)).mpr (show ¬ (nI j3_4 < nI 2) from (Int32.not_lt.mpr c370))
        exact ret_v B hr hlk hP hS dX7_passes_158 (hI)
      · skip
        have n372 := (nx_lt (a := j3_4) (b := 2) (by omega) (by omega)).mp (show (nI j3_4 < nI 2) from (Int32.not_le.mp c370))
        refine lv_iconst (v := 0) hx hb dX7_passes_9 (by decide) ?_
        refine lv_istore (lv' := [(5, .int 0), (0, .ref (E.2.1 + 1076)), (1, .int a1), (2, .int (nI na2)), (3, .int a3), (4, .int (nI j3_4))]) hx hb dX7_passes_10 hl (by decide) rfl (fun ls hl => ?_)
        exact b12_0 ls ρ _ _ _ 0 (lv_sub hl [1, 2, 3, 4, 5, 0] rfl) hP hS hI (Nat.lt_succ_self _) (by omega) (by omega) (by omega) (by omega) (by omega) (by omega)
  refine lv_iconst (v := 0) hx hb dX7_passes_0 (by decide) ?_
  refine lv_istore (lv' := [(4, .int 0), (0, .ref (E.2.1 + 1076)), (1, .int a1), (2, .int (nI na2)), (3, .int a3)]) hx hb dX7_passes_1 hl (by decide) rfl (fun ls hl => ?_)
  exact b3_0 ls ρ _ _ _ 0 (lv_sub hl [1, 2, 3, 4, 0] rfl) hP hS hI (Nat.lt_succ_self _) (by omega) (by omega) (by omega) (by omega)

theorem lk_RX7_192 : LkV RX7 192 RX7 yX7_passes cX7_passes 7 none 3 := ⟨⟨mw_1320, mw_1322, mw_37, mw_59, mw_1323⟩, by decide +kernel⟩
set_option maxHeartbeats 4000000 in
set_option maxRecDepth 100000 in
theorem d_X7_hears24 (l : Launch) (E : hE) (ρ r : Nat → Nat → Int32) (Bt : Nat) (hBt : Bt ≤ 1000000) (M : Nat → Int32) (L : Nat → Nat) (X : Nat × Nat → Prop) (gn : Nat) (ugn : gn ≤ 1) (gl : Nat) (ugl : gl ≤ 3) (a2 : Int32) (a3 : Int32) (hI : RI r Bt M L X ρ) : Met l yX7_hears (.code yX7_hears cX7_hears 6 none :: gw_all) (rmk 4 160) (cPre E ρ [.ref (E.2.1 + 1076), .int (nI (104 + 326 * gn + 66 * gl)), .int a2, .int a3, .int 24]) (cV E (fun ρ1 => RI r Bt M L X ρ1)) 0 0 (hA E) := by
  refine ent (own := RX7) (by decide) rfl (Nat.le_of_ble_eq_true rfl) ?_
  intro p e s m below meth c ls B hr hlk hl hP hS
  have hx := B.1.1
  have hb := B.1.2.1
  have hown := B.1.2.2.2.1
  have hts := B.1.2.2.2.2
  have hl : lv_has ls 6 [(0, .ref (E.2.1 + 1076)), (1, .int (nI (104 + 326 * gn + 66 * gl))), (2, .int a2), (3, .int a3), (4, .int 24)] := hl
  have b37_0 : ∀ (ls : Array Slot) (ρ : Nat → Nat → Int32) (H : Heap) (locs : List Loc) , lv_has ls 6 [(0, .ref (E.2.1 + 1076)), (1, .int (nI (104 + 326 * gn + 66 * gl))), (2, .int a2), (4, .int 24)] → WP E ρ H → va_S (hA E) s.heap H locs → RI r Bt M L X ρ → 0 ≤ gl → gl ≤ 3 → 0 ≤ gn → gn ≤ 1 → W p l e (rmk 4 160) s m ([.ref (E.2.1 + 1076), .int (nI (104 + 326 * gn + 66 * gl)), .int a2, .int a3, .int 24] : List Value).toArray below meth c H locs 0 0 (MQ below (cV E (fun ρ1 => RI r Bt M L X ρ1)) ([.ref (E.2.1 + 1076), .int (nI (104 + 326 * gn + 66 * gl)), .int a2, .int a3, .int 24] : List Value).toArray s 0 0 (hA E)) (F0 m 37 ls [.int 27]) := by
    intro ls ρ H locs  hl hP hS hI tlgl tugl tlgn tugn
    refine lv_istore (lv' := [(5, .int 27), (0, .ref (E.2.1 + 1076)), (1, .int (nI (104 + 326 * gn + 66 * gl))), (2, .int a2), (4, .int 24)]) hx hb dX7_hears_37 hl (by decide) rfl (fun ls hl => ?_)
    refine lv_aload_n hx hb dX7_hears_39 rfl (lv_at hl 1 rfl) ?_
    refine get7 B hP (show hk 1076 = 7 by decide +kernel) 3 (by decide) mw_1030 rfl dX7_hears_40 ?_
    refine lv_iload_n hx hb dX7_hears_43 rfl (lv_at hl 2 rfl) ?_
    refine lv_iload hx hb dX7_hears_44 (lv_at hl 0 rfl) ?_
    refine lv_iadd hx hb dX7_hears_46 ?_
    refine lv_topi (fun z25 ez25 => ?_)
    obtain rfl : z25 = (nI (131 + 326 * gn + 66 * gl)) := ez25.trans (by rw [show (nI (104 + 326 * gn + 66 * gl)) = nI (104 + 326 * gn + 66 * gl) from rfl, show 27 = nI 27 from rfl, nI_add] <;> exact congrArg nI (by omega))
    refine lv_dup2_11 hx hb dX7_hears_47 rfl rfl ?_
    refine aldn (n := 695) (j := (131 + 326 * gn + 66 * gl)) B hP (show hk 1078 = 8 by decide +kernel) (show hlen 1078 = 695 by decide +kernel) rfl (by omega) (by decide) dX7_hears_48 ?_
    refine lv_iconst (v := 1) hx hb dX7_hears_49 (by decide) ?_
    refine lv_iadd hx hb dX7_hears_50 ?_
    refine astn (n := 695) (j := (131 + 326 * gn + 66 * gl)) B hP hS (show hk 1078 = 8 by decide +kernel) (show hlen 1078 = 695 by decide +kernel) rfl (by omega) (by decide) dX7_hears_51 (fun H locs hP hS => ?_)
    obtain ⟨ρ26, e27⟩ : ∃ z, z = up ρ 1078 (131 + 326 * gn + 66 * gl) ((ρ 1078 (131 + 326 * gn + 66 * gl)) + 1) := ⟨_, rfl⟩
    rw [← e27] at hP
    have hI : RI r Bt M L X ρ26 := by rw [e27]; exact RI_up hI (ok_link (n0 := gn) (l0 := gl) (j := (131 + 326 * gn + 66 * gl)) 27 (by omega) (by omega) (by omega) (by omega))
    refine lv_aload_n hx hb dX7_hears_52 rfl (lv_at hl 1 rfl) ?_
    refine get7 B hP (show hk 1076 = 7 by decide +kernel) 3 (by decide) mw_1030 rfl dX7_hears_53 ?_
    refine lv_iload_n hx hb dX7_hears_56 rfl (lv_at hl 2 rfl) ?_
    refine lv_iload hx hb dX7_hears_57 (lv_at hl 0 rfl) ?_
    refine lv_iadd hx hb dX7_hears_59 ?_
    refine lv_topi (fun z28 ez28 => ?_)
    obtain rfl : z28 = (nI (131 + 326 * gn + 66 * gl)) := ez28.trans (by rw [show (nI (104 + 326 * gn + 66 * gl)) = nI (104 + 326 * gn + 66 * gl) from rfl, show 27 = nI 27 from rfl, nI_add] <;> exact congrArg nI (by omega))
    refine lv_iconst (v := 1) hx hb dX7_hears_60 (by decide) ?_
    refine lv_iadd hx hb dX7_hears_61 ?_
    refine lv_topi (fun z29 ez29 => ?_)
    obtain rfl : z29 = (nI (132 + 326 * gn + 66 * gl)) := ez29.trans (by rw [show (nI (131 + 326 * gn + 66 * gl)) = nI (131 + 326 * gn + 66 * gl) from rfl, show 1 = nI 1 from rfl, nI_add] <;> exact congrArg nI (by omega))
    refine lv_bipush (v := 31) hx hb dX7_hears_62 (by decide) ?_
    refine lv_aload_n hx hb dX7_hears_64 rfl (lv_at hl 1 rfl) ?_
    refine get7 B hP (show hk 1076 = 7 by decide +kernel) 3 (by decide) mw_1030 rfl dX7_hears_65 ?_
    refine lv_iload_n hx hb dX7_hears_68 rfl (lv_at hl 2 rfl) ?_
    refine lv_iload hx hb dX7_hears_69 (lv_at hl 0 rfl) ?_
    refine lv_iadd hx hb dX7_hears_71 ?_
    refine lv_topi (fun z30 ez30 => ?_)
    obtain rfl : z30 = (nI (131 + 326 * gn + 66 * gl)) := ez30.trans (by rw [show (nI (104 + 326 * gn + 66 * gl)) = nI (104 + 326 * gn + 66 * gl) from rfl, show 27 = nI 27 from rfl, nI_add] <;> exact congrArg nI (by omega))
    refine lv_iconst (v := 1) hx hb dX7_hears_72 (by decide) ?_
    refine lv_iadd hx hb dX7_hears_73 ?_
    refine lv_topi (fun z31 ez31 => ?_)
    obtain rfl : z31 = (nI (132 + 326 * gn + 66 * gl)) := ez31.trans (by rw [show (nI (131 + 326 * gn + 66 * gl)) = nI (131 + 326 * gn + 66 * gl) from rfl, show 1 = nI 1 from rfl, nI_add] <;> exact congrArg nI (by omega))
    refine aldn (n := 695) (j := (132 + 326 * gn + 66 * gl)) B hP (show hk 1078 = 8 by decide +kernel) (show hlen 1078 = 695 by decide +kernel) rfl (by omega) (by decide) dX7_hears_74 ?_
    refine lv_imul hx hb dX7_hears_75 ?_
    refine lv_iload_n hx hb dX7_hears_76 rfl (lv_at hl 3 rfl) ?_
    refine lv_iadd hx hb dX7_hears_77 ?_
    refine lv_iconst (v := 1) hx hb dX7_hears_78 (by decide) ?_
    refine lv_iadd hx hb dX7_hears_79 ?_
    refine astn (n := 695) (j := (132 + 326 * gn + 66 * gl)) B hP hS (show hk 1078 = 8 by decide +kernel) (show hlen 1078 = 695 by decide +kernel) rfl (by omega) (by decide) dX7_hears_80 (fun H locs hP hS => ?_)
    obtain ⟨ρ32, e33⟩ : ∃ z, z = up ρ26 1078 (132 + 326 * gn + 66 * gl) (((31 * (ρ26 1078 (132 + 326 * gn + 66 * gl))) + a2) + 1) := ⟨_, rfl⟩
    rw [← e33] at hP
    have hI : RI r Bt M L X ρ32 := by rw [e33]; exact RI_up hI (ok_link (n0 := gn) (l0 := gl) (j := (132 + 326 * gn + 66 * gl)) 28 (by omega) (by omega) (by omega) (by omega))
    refine lv_aload_n hx hb dX7_hears_81 rfl (lv_at hl 1 rfl) ?_
    refine lv_dup hx hb dX7_hears_82 rfl ?_
    refine get7 B hP (show hk 1076 = 7 by decide +kernel) 16 (by decide) mw_1043 rfl dX7_hears_83 ?_
    refine lv_iconst (v := 1) hx hb dX7_hears_86 (by decide) ?_
    refine lv_iadd hx hb dX7_hears_87 ?_
    refine put7 B hP hS (show hk 1076 = 7 by decide +kernel) 16 (by decide) mw_1043 rfl rfl rfl (fs7_16 E 1076 _ _) dX7_hears_88 (fun H locs hP hS => ?_)
    obtain ⟨ρ34, e35⟩ : ∃ z, z = up ρ32 1076 16 ((ρ32 1076 16) + 1) := ⟨_, rfl⟩
    rw [← e35] at hP
    have hI : RI r Bt M L X ρ34 := by rw [e35]; exact RI_76 hI (by decide)
    refine lv_iload hx hb dX7_hears_91 (lv_at hl 4 rfl) ?_
    refine lv_bipush (v := 24) hx hb dX7_hears_93 (by decide) ?_
    refine lv_icmp_ne (tgt := 116) hx hb dX7_hears_95 (by decide) (fun c36 => absurd rfl c36) (fun _ => ?_)
    refine lv_iload_n hx hb dX7_hears_98 rfl (lv_at hl 3 rfl) ?_
    refine lv_bipush (v := 127) hx hb dX7_hears_99 (by decide) ?_
    refine lv_icmp_le (tgt := 116) hx hb dX7_hears_101 (by decide) (fun c37 => ?_) (fun c37 => ?_)
    · skip
      have i38 : iR a2 (-2147483648) (127) := (iR_geR (show iR 127 (127) (127) from ⟨by decide, by decide⟩) (iR_any a2) (Int32.not_lt.mpr c37) (by decide))
      exact ret_v B hr hlk hP hS dX7_hears_116 (hI)
    · skip
      have i39 : iR a2 (128) (2147483647) := (iR_ltR (show iR 127 (127) (127) from ⟨by decide, by decide⟩) (iR_any a2) (Int32.not_le.mp c37) (by decide))
      refine lv_aload_n hx hb dX7_hears_104 rfl (lv_at hl 1 rfl) ?_
      refine lv_aload_n hx hb dX7_hears_105 rfl (lv_at hl 1 rfl) ?_
      refine get7 B hP (show hk 1076 = 7 by decide +kernel) 3 (by decide) mw_1030 rfl dX7_hears_106 ?_
      refine lv_iload_n hx hb dX7_hears_109 rfl (lv_at hl 2 rfl) ?_
      refine aldn (n := 695) (j := (104 + 326 * gn + 66 * gl)) B hP (show hk 1078 = 8 by decide +kernel) (show hlen 1078 = 695 by decide +kernel) rfl (by omega) (by decide) dX7_hears_110 ?_
      refine lv_iload_n hx hb dX7_hears_111 rfl (lv_at hl 2 rfl) ?_
      refine lv_iload_n hx hb dX7_hears_112 rfl (lv_at hl 3 rfl) ?_
      refine call_v (cVt (k := 1076) (av := [.int (ρ34 1078 (104 + 326 * gn + 66 * gl)), .int (nI (104 + 326 * gn + 66 * gl)), .int a2]) (rest := []) B hP hS (d_X7_passes l E ρ34 r Bt hBt M L X (ρ34 1078 (104 + 326 * gn + 66 * gl)) (104 + 326 * gn + 66 * gl) (by omega) (by omega) a2 hI) lk_RX7_192 (hrecv (ci := 7) B hP (hk_lt (c := 7) (show hk 1076 = 7 by decide +kernel) (by decide)) (hcc7 _ _ (show hk 1076 = 7 by decide +kernel)) rfl) rfl rfl hl.1 (Nat.le_of_ble_eq_true rfl) ⟨Nat.le_of_ble_eq_true rfl, Nat.le_of_ble_eq_true rfl⟩ ⟨Nat.le_of_ble_eq_true rfl, Nat.le_of_ble_eq_true rfl⟩ dX7_hears_113) hS (fun ρ41 H locs q42 hP hS => ?_)
      have hI := q42
      exact ret_v B hr hlk hP hS dX7_hears_116 (hI)
  refine lv_aload_n hx hb dX7_hears_0 rfl (lv_at hl 0 rfl) ?_
  refine get7 B hP (show hk 1076 = 7 by decide +kernel) 3 (by decide) mw_1030 rfl dX7_hears_1 ?_
  refine lv_iload_n hx hb dX7_hears_4 rfl (lv_at hl 1 rfl) ?_
  refine lv_iload hx hb dX7_hears_5 (lv_at hl 4 rfl) ?_
  refine lv_iadd hx hb dX7_hears_7 ?_
  refine lv_topi (fun z43 ez43 => ?_)
  obtain rfl : z43 = (nI (128 + 326 * gn + 66 * gl)) := ez43.trans (by rw [show (nI (104 + 326 * gn + 66 * gl)) = nI (104 + 326 * gn + 66 * gl) from rfl, show 24 = nI 24 from rfl, nI_add] <;> exact congrArg nI (by omega))
  refine aldn (n := 695) (j := (128 + 326 * gn + 66 * gl)) B hP (show hk 1078 = 8 by decide +kernel) (show hlen 1078 = 695 by decide +kernel) rfl (by omega) (by decide) dX7_hears_8 ?_
  refine lv_iload_n hx hb dX7_hears_9 rfl (lv_at hl 3 rfl) ?_
  refine lv_icmp_eq (tgt := 116) hx hb dX7_hears_10 (by decide) (fun c44 => ?_) (fun c44 => ?_)
  · skip
    exact ret_v B hr hlk hP hS dX7_hears_116 (hI)
  · skip
    refine lv_aload_n hx hb dX7_hears_13 rfl (lv_at hl 0 rfl) ?_
    refine get7 B hP (show hk 1076 = 7 by decide +kernel) 3 (by decide) mw_1030 rfl dX7_hears_14 ?_
    refine lv_iload_n hx hb dX7_hears_17 rfl (lv_at hl 1 rfl) ?_
    refine lv_iload hx hb dX7_hears_18 (lv_at hl 4 rfl) ?_
    refine lv_iadd hx hb dX7_hears_20 ?_
    refine lv_topi (fun z45 ez45 => ?_)
    obtain rfl : z45 = (nI (128 + 326 * gn + 66 * gl)) := ez45.trans (by rw [show (nI (104 + 326 * gn + 66 * gl)) = nI (104 + 326 * gn + 66 * gl) from rfl, show 24 = nI 24 from rfl, nI_add] <;> exact congrArg nI (by omega))
    refine lv_iload_n hx hb dX7_hears_21 rfl (lv_at hl 3 rfl) ?_
    refine astn (n := 695) (j := (128 + 326 * gn + 66 * gl)) B hP hS (show hk 1078 = 8 by decide +kernel) (show hlen 1078 = 695 by decide +kernel) rfl (by omega) (by decide) dX7_hears_22 (fun H locs hP hS => ?_)
    obtain ⟨ρ46, e47⟩ : ∃ z, z = up ρ 1078 (128 + 326 * gn + 66 * gl) a3 := ⟨_, rfl⟩
    rw [← e47] at hP
    have hI : RI r Bt M L X ρ46 := by rw [e47]; exact RI_up hI (ok_link (n0 := gn) (l0 := gl) (j := (128 + 326 * gn + 66 * gl)) 24 (by omega) (by omega) (by omega) (by omega))
    refine lv_iload hx hb dX7_hears_23 (lv_at hl 4 rfl) ?_
    refine lv_bipush (v := 24) hx hb dX7_hears_25 (by decide) ?_
    refine lv_icmp_ne (tgt := 35) hx hb dX7_hears_27 (by decide) (fun c48 => absurd rfl c48) (fun _ => ?_)
    refine lv_bipush (v := 27) hx hb dX7_hears_30 (by decide) ?_
    refine lv_goto (tgt := 37) hx hb dX7_hears_32 (by decide) ?_
    exact b37_0 ls ρ46 _ _  (lv_sub hl [0, 1, 2, 4] rfl) hP hS hI (by omega) (by omega) (by omega) (by omega)

set_option maxHeartbeats 4000000 in
set_option maxRecDepth 100000 in
theorem d_X7_hears26 (l : Launch) (E : hE) (ρ r : Nat → Nat → Int32) (Bt : Nat) (hBt : Bt ≤ 1000000) (M : Nat → Int32) (L : Nat → Nat) (X : Nat × Nat → Prop) (gn : Nat) (ugn : gn ≤ 1) (gl : Nat) (ugl : gl ≤ 3) (a2 : Int32) (a3 : Int32) (hI : RI r Bt M L X ρ) : Met l yX7_hears (.code yX7_hears cX7_hears 6 none :: gw_all) (rmk 4 160) (cPre E ρ [.ref (E.2.1 + 1076), .int (nI (104 + 326 * gn + 66 * gl)), .int a2, .int a3, .int 26]) (cV E (fun ρ1 => RI r Bt M L X ρ1 ∧ ρ1 1078 (118 + 326 * gn + 66 * gl) = ρ 1078 (118 + 326 * gn + 66 * gl))) 0 0 (hA E) := by
  refine ent (own := RX7) (by decide) rfl (Nat.le_of_ble_eq_true rfl) ?_
  intro p e s m below meth c ls B hr hlk hl hP hS
  have hx := B.1.1
  have hb := B.1.2.1
  have hown := B.1.2.2.2.1
  have hts := B.1.2.2.2.2
  have hl : lv_has ls 6 [(0, .ref (E.2.1 + 1076)), (1, .int (nI (104 + 326 * gn + 66 * gl))), (2, .int a2), (3, .int a3), (4, .int 26)] := hl
  refine lv_aload_n hx hb dX7_hears_0 rfl (lv_at hl 0 rfl) ?_
  refine get7 B hP (show hk 1076 = 7 by decide +kernel) 3 (by decide) mw_1030 rfl dX7_hears_1 ?_
  refine lv_iload_n hx hb dX7_hears_4 rfl (lv_at hl 1 rfl) ?_
  refine lv_iload hx hb dX7_hears_5 (lv_at hl 4 rfl) ?_
  refine lv_iadd hx hb dX7_hears_7 ?_
  refine lv_topi (fun z19 ez19 => ?_)
  obtain rfl : z19 = (nI (130 + 326 * gn + 66 * gl)) := ez19.trans (by rw [show (nI (104 + 326 * gn + 66 * gl)) = nI (104 + 326 * gn + 66 * gl) from rfl, show 26 = nI 26 from rfl, nI_add] <;> exact congrArg nI (by omega))
  refine aldn (n := 695) (j := (130 + 326 * gn + 66 * gl)) B hP (show hk 1078 = 8 by decide +kernel) (show hlen 1078 = 695 by decide +kernel) rfl (by omega) (by decide) dX7_hears_8 ?_
  refine lv_iload_n hx hb dX7_hears_9 rfl (lv_at hl 3 rfl) ?_
  refine lv_icmp_eq (tgt := 116) hx hb dX7_hears_10 (by decide) (fun c20 => ?_) (fun c20 => ?_)
  · skip
    exact ret_v B hr hlk hP hS dX7_hears_116 (⟨hI, (by rw [show 118 + 326 * gn + 66 * gl = (118 + 326 * gn + 66 * gl) by omega] <;> exact rfl)⟩)
  · skip
    refine lv_aload_n hx hb dX7_hears_13 rfl (lv_at hl 0 rfl) ?_
    refine get7 B hP (show hk 1076 = 7 by decide +kernel) 3 (by decide) mw_1030 rfl dX7_hears_14 ?_
    refine lv_iload_n hx hb dX7_hears_17 rfl (lv_at hl 1 rfl) ?_
    refine lv_iload hx hb dX7_hears_18 (lv_at hl 4 rfl) ?_
    refine lv_iadd hx hb dX7_hears_20 ?_
    refine lv_topi (fun z21 ez21 => ?_)
    obtain rfl : z21 = (nI (130 + 326 * gn + 66 * gl)) := ez21.trans (by rw [show (nI (104 + 326 * gn + 66 * gl)) = nI (104 + 326 * gn + 66 * gl) from rfl, show 26 = nI 26 from rfl, nI_add] <;> exact congrArg nI (by omega))
    refine lv_iload_n hx hb dX7_hears_21 rfl (lv_at hl 3 rfl) ?_
    refine astn (n := 695) (j := (130 + 326 * gn + 66 * gl)) B hP hS (show hk 1078 = 8 by decide +kernel) (show hlen 1078 = 695 by decide +kernel) rfl (by omega) (by decide) dX7_hears_22 (fun H locs hP hS => ?_)
    obtain ⟨ρ22, e23⟩ : ∃ z, z = up ρ 1078 (130 + 326 * gn + 66 * gl) a3 := ⟨_, rfl⟩
    rw [← e23] at hP
    have hI : RI r Bt M L X ρ22 := by rw [e23]; exact RI_up hI (ok_link (n0 := gn) (l0 := gl) (j := (130 + 326 * gn + 66 * gl)) 26 (by omega) (by omega) (by omega) (by omega))
    refine lv_iload hx hb dX7_hears_23 (lv_at hl 4 rfl) ?_
    refine lv_bipush (v := 24) hx hb dX7_hears_25 (by decide) ?_
    refine lv_icmp_ne (tgt := 35) hx hb dX7_hears_27 (by decide) (fun _ => ?_) (fun c24 => absurd c24 (iR_ne (show iR 26 (26) (26) from ⟨by decide, by decide⟩) (show iR 24 (24) (24) from ⟨by decide, by decide⟩) (by decide)))
    refine lv_bipush (v := 29) hx hb dX7_hears_35 (by decide) ?_
    refine lv_istore (lv' := [(5, .int 29), (0, .ref (E.2.1 + 1076)), (1, .int (nI (104 + 326 * gn + 66 * gl))), (2, .int a2), (3, .int a3), (4, .int 26)]) hx hb dX7_hears_37 hl (by decide) rfl (fun ls hl => ?_)
    refine lv_aload_n hx hb dX7_hears_39 rfl (lv_at hl 1 rfl) ?_
    refine get7 B hP (show hk 1076 = 7 by decide +kernel) 3 (by decide) mw_1030 rfl dX7_hears_40 ?_
    refine lv_iload_n hx hb dX7_hears_43 rfl (lv_at hl 2 rfl) ?_
    refine lv_iload hx hb dX7_hears_44 (lv_at hl 0 rfl) ?_
    refine lv_iadd hx hb dX7_hears_46 ?_
    refine lv_topi (fun z25 ez25 => ?_)
    obtain rfl : z25 = (nI (133 + 326 * gn + 66 * gl)) := ez25.trans (by rw [show (nI (104 + 326 * gn + 66 * gl)) = nI (104 + 326 * gn + 66 * gl) from rfl, show 29 = nI 29 from rfl, nI_add] <;> exact congrArg nI (by omega))
    refine lv_dup2_11 hx hb dX7_hears_47 rfl rfl ?_
    refine aldn (n := 695) (j := (133 + 326 * gn + 66 * gl)) B hP (show hk 1078 = 8 by decide +kernel) (show hlen 1078 = 695 by decide +kernel) rfl (by omega) (by decide) dX7_hears_48 ?_
    refine lv_iconst (v := 1) hx hb dX7_hears_49 (by decide) ?_
    refine lv_iadd hx hb dX7_hears_50 ?_
    refine astn (n := 695) (j := (133 + 326 * gn + 66 * gl)) B hP hS (show hk 1078 = 8 by decide +kernel) (show hlen 1078 = 695 by decide +kernel) rfl (by omega) (by decide) dX7_hears_51 (fun H locs hP hS => ?_)
    obtain ⟨ρ26, e27⟩ : ∃ z, z = up ρ22 1078 (133 + 326 * gn + 66 * gl) ((ρ22 1078 (133 + 326 * gn + 66 * gl)) + 1) := ⟨_, rfl⟩
    rw [← e27] at hP
    have hI : RI r Bt M L X ρ26 := by rw [e27]; exact RI_up hI (ok_link (n0 := gn) (l0 := gl) (j := (133 + 326 * gn + 66 * gl)) 29 (by omega) (by omega) (by omega) (by omega))
    refine lv_aload_n hx hb dX7_hears_52 rfl (lv_at hl 1 rfl) ?_
    refine get7 B hP (show hk 1076 = 7 by decide +kernel) 3 (by decide) mw_1030 rfl dX7_hears_53 ?_
    refine lv_iload_n hx hb dX7_hears_56 rfl (lv_at hl 2 rfl) ?_
    refine lv_iload hx hb dX7_hears_57 (lv_at hl 0 rfl) ?_
    refine lv_iadd hx hb dX7_hears_59 ?_
    refine lv_topi (fun z28 ez28 => ?_)
    obtain rfl : z28 = (nI (133 + 326 * gn + 66 * gl)) := ez28.trans (by rw [show (nI (104 + 326 * gn + 66 * gl)) = nI (104 + 326 * gn + 66 * gl) from rfl, show 29 = nI 29 from rfl, nI_add] <;> exact congrArg nI (by omega))
    refine lv_iconst (v := 1) hx hb dX7_hears_60 (by decide) ?_
    refine lv_iadd hx hb dX7_hears_61 ?_
    refine lv_topi (fun z29 ez29 => ?_)
    obtain rfl : z29 = (nI (134 + 326 * gn + 66 * gl)) := ez29.trans (by rw [show (nI (133 + 326 * gn + 66 * gl)) = nI (133 + 326 * gn + 66 * gl) from rfl, show 1 = nI 1 from rfl, nI_add] <;> exact congrArg nI (by omega))
    refine lv_bipush (v := 31) hx hb dX7_hears_62 (by decide) ?_
    refine lv_aload_n hx hb dX7_hears_64 rfl (lv_at hl 1 rfl) ?_
    refine get7 B hP (show hk 1076 = 7 by decide +kernel) 3 (by decide) mw_1030 rfl dX7_hears_65 ?_
    refine lv_iload_n hx hb dX7_hears_68 rfl (lv_at hl 2 rfl) ?_
    refine lv_iload hx hb dX7_hears_69 (lv_at hl 0 rfl) ?_
    refine lv_iadd hx hb dX7_hears_71 ?_
    refine lv_topi (fun z30 ez30 => ?_)
    obtain rfl : z30 = (nI (133 + 326 * gn + 66 * gl)) := ez30.trans (by rw [show (nI (104 + 326 * gn + 66 * gl)) = nI (104 + 326 * gn + 66 * gl) from rfl, show 29 = nI 29 from rfl, nI_add] <;> exact congrArg nI (by omega))
    refine lv_iconst (v := 1) hx hb dX7_hears_72 (by decide) ?_
    refine lv_iadd hx hb dX7_hears_73 ?_
    refine lv_topi (fun z31 ez31 => ?_)
    obtain rfl : z31 = (nI (134 + 326 * gn + 66 * gl)) := ez31.trans (by rw [show (nI (133 + 326 * gn + 66 * gl)) = nI (133 + 326 * gn + 66 * gl) from rfl, show 1 = nI 1 from rfl, nI_add] <;> exact congrArg nI (by omega))
    refine aldn (n := 695) (j := (134 + 326 * gn + 66 * gl)) B hP (show hk 1078 = 8 by decide +kernel) (show hlen 1078 = 695 by decide +kernel) rfl (by omega) (by decide) dX7_hears_74 ?_
    refine lv_imul hx hb dX7_hears_75 ?_
    refine lv_iload_n hx hb dX7_hears_76 rfl (lv_at hl 3 rfl) ?_
    refine lv_iadd hx hb dX7_hears_77 ?_
    refine lv_iconst (v := 1) hx hb dX7_hears_78 (by decide) ?_
    refine lv_iadd hx hb dX7_hears_79 ?_
    refine astn (n := 695) (j := (134 + 326 * gn + 66 * gl)) B hP hS (show hk 1078 = 8 by decide +kernel) (show hlen 1078 = 695 by decide +kernel) rfl (by omega) (by decide) dX7_hears_80 (fun H locs hP hS => ?_)
    obtain ⟨ρ32, e33⟩ : ∃ z, z = up ρ26 1078 (134 + 326 * gn + 66 * gl) (((31 * (ρ26 1078 (134 + 326 * gn + 66 * gl))) + a2) + 1) := ⟨_, rfl⟩
    rw [← e33] at hP
    have hI : RI r Bt M L X ρ32 := by rw [e33]; exact RI_up hI (ok_link (n0 := gn) (l0 := gl) (j := (134 + 326 * gn + 66 * gl)) 30 (by omega) (by omega) (by omega) (by omega))
    refine lv_aload_n hx hb dX7_hears_81 rfl (lv_at hl 1 rfl) ?_
    refine lv_dup hx hb dX7_hears_82 rfl ?_
    refine get7 B hP (show hk 1076 = 7 by decide +kernel) 16 (by decide) mw_1043 rfl dX7_hears_83 ?_
    refine lv_iconst (v := 1) hx hb dX7_hears_86 (by decide) ?_
    refine lv_iadd hx hb dX7_hears_87 ?_
    refine put7 B hP hS (show hk 1076 = 7 by decide +kernel) 16 (by decide) mw_1043 rfl rfl rfl (fs7_16 E 1076 _ _) dX7_hears_88 (fun H locs hP hS => ?_)
    obtain ⟨ρ34, e35⟩ : ∃ z, z = up ρ32 1076 16 ((ρ32 1076 16) + 1) := ⟨_, rfl⟩
    rw [← e35] at hP
    have hI : RI r Bt M L X ρ34 := by rw [e35]; exact RI_76 hI (by decide)
    refine lv_iload hx hb dX7_hears_91 (lv_at hl 5 rfl) ?_
    refine lv_bipush (v := 24) hx hb dX7_hears_93 (by decide) ?_
    refine lv_icmp_ne (tgt := 116) hx hb dX7_hears_95 (by decide) (fun _ => ?_) (fun c36 => absurd c36 (iR_ne (show iR 26 (26) (26) from ⟨by decide, by decide⟩) (show iR 24 (24) (24) from ⟨by decide, by decide⟩) (by decide)))
    exact ret_v B hr hlk hP hS dX7_hears_116 (⟨hI, (by rw [show 118 + 326 * gn + 66 * gl = (118 + 326 * gn + 66 * gl) by omega] <;> exact (by rw [e35]; exact up_get_ne (Or.inl (by decide)) (by rw [e33]; exact up_get_ne (Or.inr (by omega)) (by rw [e27]; exact up_get_ne (Or.inr (by omega)) (by rw [e23]; exact up_get_ne (Or.inr (by omega)) rfl)))))⟩)

set_option maxHeartbeats 4000000 in
set_option maxRecDepth 100000 in
theorem d_X7_goes5 (l : Launch) (E : hE) (ρ r : Nat → Nat → Int32) (Bt : Nat) (hBt : Bt ≤ 1000000) (M : Nat → Int32) (L : Nat → Nat) (X : Nat × Nat → Prop) (gn : Nat) (ugn : gn ≤ 1) (gl : Nat) (ugl : gl ≤ 3) (hI : RI r Bt M L X ρ) (hs0 : iR (ρ 1078 (109 + 326 * gn + 66 * gl)) 1 8) (hxx : ¬ X (gn, 10 + gl)) : Met l yX7_goes (.code yX7_goes cX7_goes 8 none :: gw_all) (rmk 1 40) (cPre E ρ [.ref (E.2.1 + 1076), .int (nI (104 + 326 * gn + 66 * gl)), .int 5, .int 23]) (cV E (fun ρ1 => RI r Bt M L X ρ1)) 0 0 (hA E) := by
  refine ent (own := RX7) (by decide) rfl (Nat.le_of_ble_eq_true rfl) ?_
  intro p e s m below meth c ls B hr hlk hl hP hS
  have hx := B.1.1
  have hb := B.1.2.1
  have hown := B.1.2.2.2.1
  have hts := B.1.2.2.2.2
  have hl : lv_has ls 8 [(0, .ref (E.2.1 + 1076)), (1, .int (nI (104 + 326 * gn + 66 * gl))), (2, .int 5), (3, .int 23)] := hl
  have hs : iR (ρ 1078 (109 + 326 * gn + 66 * gl)) 1 8 := by rw [show (109 + 326 * gn + 66 * gl) = 109 + 326 * gn + 66 * gl by omega]; exact hs0
  have b97_0 : ∀ (ls : Array Slot) (ρ : Nat → Nat → Int32) (H : Heap) (locs : List Loc) (d97 : Nat) (j97_7 : Nat), lv_has ls 8 [(0, .ref (E.2.1 + 1076)), (1, .int (nI (104 + 326 * gn + 66 * gl))), (2, .int 5), (3, .int 23), (4, .int (nI (154 + 326 * gn + 66 * gl))), (7, .int (nI j97_7))] → WP E ρ H → va_S (hA E) s.heap H locs → RI r Bt M L X ρ → 9 - j97_7 < d97 → 0 ≤ j97_7 → j97_7 ≤ 8 → 0 ≤ gl → gl ≤ 3 → 0 ≤ gn → gn ≤ 1 → W p l e (rmk 1 40) s m ([.ref (E.2.1 + 1076), .int (nI (104 + 326 * gn + 66 * gl)), .int 5, .int 23] : List Value).toArray below meth c H locs 0 0 (MQ below (cV E (fun ρ1 => RI r Bt M L X ρ1)) ([.ref (E.2.1 + 1076), .int (nI (104 + 326 * gn + 66 * gl)), .int 5, .int 23] : List Value).toArray s 0 0 (hA E)) (F0 m 97 ls []) := by
    intro ls ρ H locs d97
    induction d97 generalizing ls ρ H locs with
    | zero => intro j97_7 hl hP hS hI hd97 lj97_7 uj97_7 tlgl tugl tlgn tugn; exact absurd hd97 (Nat.not_lt_zero _)
    | succ d97 ih97 =>
      intro j97_7 hl hP hS hI hd97 lj97_7 uj97_7 tlgl tugl tlgn tugn
      refine lv_iload hx hb dX7_goes_97 (lv_at hl 5 rfl) ?_
      refine lv_aload_n hx hb dX7_goes_99 rfl (lv_at hl 0 rfl) ?_
      refine get7 B hP (show hk 1076 = 7 by decide +kernel) 3 (by decide) mw_1030 rfl dX7_goes_100 ?_
      refine lv_iload_n hx hb dX7_goes_103 rfl (lv_at hl 1 rfl) ?_
      refine lv_iload_n hx hb dX7_goes_104 rfl (lv_at hl 2 rfl) ?_
      refine lv_iadd hx hb dX7_goes_105 ?_
      refine lv_topi (fun z219 ez219 => ?_)
      obtain rfl : z219 = (nI (109 + 326 * gn + 66 * gl)) := ez219.trans (by rw [show (nI (104 + 326 * gn + 66 * gl)) = nI (104 + 326 * gn + 66 * gl) from rfl, show 5 = nI 5 from rfl, nI_add] <;> exact congrArg nI (by omega))
      refine aldn (n := 695) (j := (109 + 326 * gn + 66 * gl)) B hP (show hk 1078 = 8 by decide +kernel) (show hlen 1078 = 695 by decide +kernel) rfl (by omega) (by decide) dX7_goes_106 ?_
      have i220 : iR (ρ 1078 (109 + 326 * gn + 66 * gl)) (0) (8) := g_ndown (n0 := gn) (l0 := gl) (j := (109 + 326 * gn + 66 * gl)) hI (by omega) (by omega) (by omega)
      obtain ⟨j221, lj221, uj221, ej221⟩ := iR_nat (a := 0) (b := 8) i220
      refine lv_topi (fun z222 ez222 => ?_)
      obtain rfl : z222 = nI j221 := ez222.trans ej221
      refine lv_icmp_ge (tgt := 164) hx hb dX7_goes_107 (by decide) (fun c223 => ?_) (fun c223 => ?_)
      · skip
        have n224 := mt (nx_lt (a := j97_7) (b := j221) (by omega) (by omega)).mpr (show ¬ (nI j97_7 < nI j221) from (Int32.not_lt.mpr c223))
        refine lv_aload_n hx hb dX7_goes_164 rfl (lv_at hl 0 rfl) ?_
        refine get7 B hP (show hk 1076 = 7 by decide +kernel) 3 (by decide) mw_1030 rfl dX7_goes_165 ?_
        refine lv_iload_n hx hb dX7_goes_168 rfl (lv_at hl 1 rfl) ?_
        refine lv_iload_n hx hb dX7_goes_169 rfl (lv_at hl 3 rfl) ?_
        refine lv_iadd hx hb dX7_goes_170 ?_
        refine lv_topi (fun z225 ez225 => ?_)
        obtain rfl : z225 = (nI (127 + 326 * gn + 66 * gl)) := ez225.trans (by rw [show (nI (104 + 326 * gn + 66 * gl)) = nI (104 + 326 * gn + 66 * gl) from rfl, show 23 = nI 23 from rfl, nI_add] <;> exact congrArg nI (by omega))
        refine lv_iconst (v := 1) hx hb dX7_goes_171 (by decide) ?_
        refine lv_aload_n hx hb dX7_goes_172 rfl (lv_at hl 0 rfl) ?_
        refine get7 B hP (show hk 1076 = 7 by decide +kernel) 3 (by decide) mw_1030 rfl dX7_goes_173 ?_
        refine lv_iload_n hx hb dX7_goes_176 rfl (lv_at hl 1 rfl) ?_
        refine lv_iload_n hx hb dX7_goes_177 rfl (lv_at hl 3 rfl) ?_
        refine lv_iadd hx hb dX7_goes_178 ?_
        refine lv_topi (fun z226 ez226 => ?_)
        obtain rfl : z226 = (nI (127 + 326 * gn + 66 * gl)) := ez226.trans (by rw [show (nI (104 + 326 * gn + 66 * gl)) = nI (104 + 326 * gn + 66 * gl) from rfl, show 23 = nI 23 from rfl, nI_add] <;> exact congrArg nI (by omega))
        refine aldn (n := 695) (j := (127 + 326 * gn + 66 * gl)) B hP (show hk 1078 = 8 by decide +kernel) (show hlen 1078 = 695 by decide +kernel) rfl (by omega) (by decide) dX7_goes_179 ?_
        refine lv_isub hx hb dX7_goes_180 ?_
        refine astn (n := 695) (j := (127 + 326 * gn + 66 * gl)) B hP hS (show hk 1078 = 8 by decide +kernel) (show hlen 1078 = 695 by decide +kernel) rfl (by omega) (by decide) dX7_goes_181 (fun H locs hP hS => ?_)
        obtain ⟨ρ227, e228⟩ : ∃ z, z = up ρ 1078 (127 + 326 * gn + 66 * gl) (1 - (ρ 1078 (127 + 326 * gn + 66 * gl))) := ⟨_, rfl⟩
        rw [← e228] at hP
        have hI : RI r Bt M L X ρ227 := by rw [e228]; exact RI_up hI (ok_link (n0 := gn) (l0 := gl) (j := (127 + 326 * gn + 66 * gl)) 23 (by omega) (by omega) (by omega) (by omega))
        exact ret_v B hr hlk hP hS dX7_goes_182 (hI)
      · skip
        have n229 := (nx_lt (a := j97_7) (b := j221) (by omega) (by omega)).mp (show (nI j97_7 < nI j221) from (Int32.not_le.mp c223))
        refine lv_aload_n hx hb dX7_goes_110 rfl (lv_at hl 0 rfl) ?_
        refine get7 B hP (show hk 1076 = 7 by decide +kernel) 3 (by decide) mw_1030 rfl dX7_goes_111 ?_
        refine lv_iload_n hx hb dX7_goes_114 rfl (lv_at hl 1 rfl) ?_
        refine lv_iload_n hx hb dX7_goes_115 rfl (lv_at hl 2 rfl) ?_
        refine lv_iadd hx hb dX7_goes_116 ?_
        refine lv_topi (fun z230 ez230 => ?_)
        obtain rfl : z230 = (nI (109 + 326 * gn + 66 * gl)) := ez230.trans (by rw [show (nI (104 + 326 * gn + 66 * gl)) = nI (104 + 326 * gn + 66 * gl) from rfl, show 5 = nI 5 from rfl, nI_add] <;> exact congrArg nI (by omega))
        refine lv_iconst (v := 1) hx hb dX7_goes_117 (by decide) ?_
        refine lv_iadd hx hb dX7_goes_118 ?_
        refine lv_topi (fun z231 ez231 => ?_)
        obtain rfl : z231 = (nI (110 + 326 * gn + 66 * gl)) := ez231.trans (by rw [show (nI (109 + 326 * gn + 66 * gl)) = nI (109 + 326 * gn + 66 * gl) from rfl, show 1 = nI 1 from rfl, nI_add] <;> exact congrArg nI (by omega))
        refine lv_iload hx hb dX7_goes_119 (lv_at hl 5 rfl) ?_
        refine lv_iadd hx hb dX7_goes_121 ?_
        refine lv_topi (fun z232 ez232 => ?_)
        obtain rfl : z232 = (nI (110 + 326 * gn + 66 * gl + j97_7)) := ez232.trans (by rw [show (nI (110 + 326 * gn + 66 * gl)) = nI (110 + 326 * gn + 66 * gl) from rfl, show (nI j97_7) = nI j97_7 from rfl, nI_add] <;> exact congrArg nI (by omega))
        refine lv_aload_n hx hb dX7_goes_122 rfl (lv_at hl 0 rfl) ?_
        refine get7 B hP (show hk 1076 = 7 by decide +kernel) 3 (by decide) mw_1030 rfl dX7_goes_123 ?_
        refine lv_iload_n hx hb dX7_goes_126 rfl (lv_at hl 1 rfl) ?_
        refine lv_iload_n hx hb dX7_goes_127 rfl (lv_at hl 2 rfl) ?_
        refine lv_iadd hx hb dX7_goes_128 ?_
        refine lv_topi (fun z233 ez233 => ?_)
        obtain rfl : z233 = (nI (109 + 326 * gn + 66 * gl)) := ez233.trans (by rw [show (nI (104 + 326 * gn + 66 * gl)) = nI (104 + 326 * gn + 66 * gl) from rfl, show 5 = nI 5 from rfl, nI_add] <;> exact congrArg nI (by omega))
        refine lv_iconst (v := 2) hx hb dX7_goes_129 (by decide) ?_
        refine lv_iadd hx hb dX7_goes_130 ?_
        refine lv_topi (fun z234 ez234 => ?_)
        obtain rfl : z234 = (nI (111 + 326 * gn + 66 * gl)) := ez234.trans (by rw [show (nI (109 + 326 * gn + 66 * gl)) = nI (109 + 326 * gn + 66 * gl) from rfl, show 2 = nI 2 from rfl, nI_add] <;> exact congrArg nI (by omega))
        refine lv_iload hx hb dX7_goes_131 (lv_at hl 5 rfl) ?_
        refine lv_iadd hx hb dX7_goes_133 ?_
        refine lv_topi (fun z235 ez235 => ?_)
        obtain rfl : z235 = (nI (111 + 326 * gn + 66 * gl + j97_7)) := ez235.trans (by rw [show (nI (111 + 326 * gn + 66 * gl)) = nI (111 + 326 * gn + 66 * gl) from rfl, show (nI j97_7) = nI j97_7 from rfl, nI_add] <;> exact congrArg nI (by omega))
        refine aldn (n := 695) (j := (111 + 326 * gn + 66 * gl + j97_7)) B hP (show hk 1078 = 8 by decide +kernel) (show hlen 1078 = 695 by decide +kernel) rfl (by omega) (by decide) dX7_goes_134 ?_
        refine astn (n := 695) (j := (110 + 326 * gn + 66 * gl + j97_7)) B hP hS (show hk 1078 = 8 by decide +kernel) (show hlen 1078 = 695 by decide +kernel) rfl (by omega) (by decide) dX7_goes_135 (fun H locs hP hS => ?_)
        obtain ⟨ρ236, e237⟩ : ∃ z, z = up ρ 1078 (110 + 326 * gn + 66 * gl + j97_7) (ρ 1078 (111 + 326 * gn + 66 * gl + j97_7)) := ⟨_, rfl⟩
        rw [← e237] at hP
        have hI : RI r Bt M L X ρ236 := by rw [e237]; exact RI_up hI (ok_link (n0 := gn) (l0 := gl) (j := (110 + 326 * gn + 66 * gl + j97_7)) (6 + j97_7) (by omega) (by omega) (by omega) (by omega))
        refine lv_aload_n hx hb dX7_goes_136 rfl (lv_at hl 0 rfl) ?_
        refine get7 B hP (show hk 1076 = 7 by decide +kernel) 3 (by decide) mw_1030 rfl dX7_goes_137 ?_
        refine lv_iload hx hb dX7_goes_140 (lv_at hl 4 rfl) ?_
        refine lv_iload hx hb dX7_goes_142 (lv_at hl 5 rfl) ?_
        refine lv_iadd hx hb dX7_goes_144 ?_
        refine lv_topi (fun z238 ez238 => ?_)
        obtain rfl : z238 = (nI (154 + 326 * gn + 66 * gl + j97_7)) := ez238.trans (by rw [show (nI (154 + 326 * gn + 66 * gl)) = nI (154 + 326 * gn + 66 * gl) from rfl, show (nI j97_7) = nI j97_7 from rfl, nI_add] <;> exact congrArg nI (by omega))
        refine lv_aload_n hx hb dX7_goes_145 rfl (lv_at hl 0 rfl) ?_
        refine get7 B hP (show hk 1076 = 7 by decide +kernel) 3 (by decide) mw_1030 rfl dX7_goes_146 ?_
        refine lv_iload hx hb dX7_goes_149 (lv_at hl 4 rfl) ?_
        refine lv_iload hx hb dX7_goes_151 (lv_at hl 5 rfl) ?_
        refine lv_iadd hx hb dX7_goes_153 ?_
        refine lv_topi (fun z239 ez239 => ?_)
        obtain rfl : z239 = (nI (154 + 326 * gn + 66 * gl + j97_7)) := ez239.trans (by rw [show (nI (154 + 326 * gn + 66 * gl)) = nI (154 + 326 * gn + 66 * gl) from rfl, show (nI j97_7) = nI j97_7 from rfl, nI_add] <;> exact congrArg nI (by omega))
        refine lv_iconst (v := 1) hx hb dX7_goes_154 (by decide) ?_
        refine lv_iadd hx hb dX7_goes_155 ?_
        refine lv_topi (fun z240 ez240 => ?_)
        obtain rfl : z240 = (nI (155 + 326 * gn + 66 * gl + j97_7)) := ez240.trans (by rw [show (nI (154 + 326 * gn + 66 * gl + j97_7)) = nI (154 + 326 * gn + 66 * gl + j97_7) from rfl, show 1 = nI 1 from rfl, nI_add] <;> exact congrArg nI (by omega))
        refine aldn (n := 695) (j := (155 + 326 * gn + 66 * gl + j97_7)) B hP (show hk 1078 = 8 by decide +kernel) (show hlen 1078 = 695 by decide +kernel) rfl (by omega) (by decide) dX7_goes_156 ?_
        refine astn (n := 695) (j := (154 + 326 * gn + 66 * gl + j97_7)) B hP hS (show hk 1078 = 8 by decide +kernel) (show hlen 1078 = 695 by decide +kernel) rfl (by omega) (by decide) dX7_goes_157 (fun H locs hP hS => ?_)
        obtain ⟨ρ241, e242⟩ : ∃ z, z = up ρ236 1078 (154 + 326 * gn + 66 * gl + j97_7) (ρ236 1078 (155 + 326 * gn + 66 * gl + j97_7)) := ⟨_, rfl⟩
        rw [← e242] at hP
        have hI : RI r Bt M L X ρ241 := by rw [e242]; exact RI_up hI (ok_link (n0 := gn) (l0 := gl) (j := (154 + 326 * gn + 66 * gl + j97_7)) (50 + j97_7) (by omega) (by omega) (by omega) (by omega))
        refine lv_iinc (v := (nI (1 + j97_7))) (lv' := [(7, .int (nI (1 + j97_7))), (0, .ref (E.2.1 + 1076)), (1, .int (nI (104 + 326 * gn + 66 * gl))), (2, .int 5), (3, .int 23), (4, .int (nI (154 + 326 * gn + 66 * gl)))]) hx hb dX7_goes_158 hl (k := 5) rfl (show nI j97_7 + nI 1 = _ from (nI_add _ _).trans (congrArg nI (by omega))) (by decide) rfl (fun ls hl => ?_)
        refine lv_goto (tgt := 97) hx hb dX7_goes_161 (by decide) ?_
        exact ih97 ls ρ241 _ _ (1 + j97_7) (lv_sub hl [1, 2, 3, 4, 5, 0] rfl) hP hS hI (by omega) (by omega) (by omega) (by omega) (by omega) (by omega) (by omega)
  refine lv_iload_n hx hb dX7_goes_0 rfl (lv_at hl 1 rfl) ?_
  refine lv_iload_n hx hb dX7_goes_1 rfl (lv_at hl 2 rfl) ?_
  refine lv_iconst (v := 5) hx hb dX7_goes_2 (by decide) ?_
  refine lv_icmp_ne (tgt := 11) hx hb dX7_goes_3 (by decide) (fun c243 => absurd rfl c243) (fun _ => ?_)
  refine lv_bipush (v := 50) hx hb dX7_goes_6 (by decide) ?_
  refine lv_goto (tgt := 13) hx hb dX7_goes_8 (by decide) ?_
  refine lv_iadd hx hb dX7_goes_13 ?_
  refine lv_topi (fun z244 ez244 => ?_)
  obtain rfl : z244 = (nI (154 + 326 * gn + 66 * gl)) := ez244.trans (by rw [show (nI (104 + 326 * gn + 66 * gl)) = nI (104 + 326 * gn + 66 * gl) from rfl, show 50 = nI 50 from rfl, nI_add] <;> exact congrArg nI (by omega))
  refine lv_istore (lv' := [(4, .int (nI (154 + 326 * gn + 66 * gl))), (0, .ref (E.2.1 + 1076)), (1, .int (nI (104 + 326 * gn + 66 * gl))), (2, .int 5), (3, .int 23)]) hx hb dX7_goes_14 hl (by decide) rfl (fun ls hl => ?_)
  refine lv_iload_n hx hb dX7_goes_16 rfl (lv_at hl 2 rfl) ?_
  refine lv_iload_n hx hb dX7_goes_17 rfl (lv_at hl 3 rfl) ?_
  refine lv_iconst (v := 5) hx hb dX7_goes_18 (by decide) ?_
  refine lv_icmp_ne (tgt := 27) hx hb dX7_goes_19 (by decide) (fun c245 => absurd rfl c245) (fun _ => ?_)
  refine lv_bipush (v := 46) hx hb dX7_goes_22 (by decide) ?_
  refine lv_goto (tgt := 29) hx hb dX7_goes_24 (by decide) ?_
  refine lv_iadd hx hb dX7_goes_29 ?_
  refine lv_topi (fun z246 ez246 => ?_)
  obtain rfl : z246 = (nI (150 + 326 * gn + 66 * gl)) := ez246.trans (by rw [show (nI (104 + 326 * gn + 66 * gl)) = nI (104 + 326 * gn + 66 * gl) from rfl, show 46 = nI 46 from rfl, nI_add] <;> exact congrArg nI (by omega))
  refine lv_istore (lv' := [(5, .int (nI (150 + 326 * gn + 66 * gl))), (4, .int (nI (154 + 326 * gn + 66 * gl))), (0, .ref (E.2.1 + 1076)), (1, .int (nI (104 + 326 * gn + 66 * gl))), (2, .int 5), (3, .int 23)]) hx hb dX7_goes_30 hl (by decide) rfl (fun ls hl => ?_)
  refine lv_aload_n hx hb dX7_goes_32 rfl (lv_at hl 2 rfl) ?_
  refine get7 B hP (show hk 1076 = 7 by decide +kernel) 3 (by decide) mw_1030 rfl dX7_goes_33 ?_
  refine lv_bipush (v := 7) hx hb dX7_goes_36 (by decide) ?_
  refine aldn (n := 695) (j := 7) B hP (show hk 1078 = 8 by decide +kernel) (show hlen 1078 = 695 by decide +kernel) rfl (by omega) (by decide) dX7_goes_38 ?_
  have i247 : iR (ρ 1078 7) (0) (1000000) := (iR_w (g_time hI) (by omega) (by omega))
  obtain ⟨j248, lj248, uj248, ej248⟩ := iR_nat (a := 0) (b := 1000000) i247
  refine lv_topi (fun z249 ez249 => ?_)
  obtain rfl : z249 = nI j248 := ez249.trans ej248
  refine lv_aload_n hx hb dX7_goes_39 rfl (lv_at hl 2 rfl) ?_
  refine get7 B hP (show hk 1076 = 7 by decide +kernel) 3 (by decide) mw_1030 rfl dX7_goes_40 ?_
  refine lv_iload hx hb dX7_goes_43 (lv_at hl 1 rfl) ?_
  refine aldn (n := 695) (j := (154 + 326 * gn + 66 * gl)) B hP (show hk 1078 = 8 by decide +kernel) (show hlen 1078 = 695 by decide +kernel) rfl (by omega) (by decide) dX7_goes_45 ?_
  refine lv_isub hx hb dX7_goes_46 ?_
  refine lv_iconst (v := 2) hx hb dX7_goes_47 (by decide) ?_
  refine lv_idiv hx hb dX7_goes_48 (by decide) ?_
  refine lv_istore (lv' := [(6, .int (((nI j248) - (ρ 1078 (154 + 326 * gn + 66 * gl))) / 2)), (5, .int (nI (150 + 326 * gn + 66 * gl))), (4, .int (nI (154 + 326 * gn + 66 * gl))), (0, .ref (E.2.1 + 1076)), (1, .int (nI (104 + 326 * gn + 66 * gl))), (2, .int 5), (3, .int 23)]) hx hb dX7_goes_49 hl (by decide) rfl (fun ls hl => ?_)
  refine lv_aload_n hx hb dX7_goes_51 rfl (lv_at hl 3 rfl) ?_
  refine get7 B hP (show hk 1076 = 7 by decide +kernel) 3 (by decide) mw_1030 rfl dX7_goes_52 ?_
  refine lv_iload hx hb dX7_goes_55 (lv_at hl 1 rfl) ?_
  refine lv_iload hx hb dX7_goes_57 (lv_at hl 0 rfl) ?_
  refine lv_aload_n hx hb dX7_goes_59 rfl (lv_at hl 3 rfl) ?_
  refine get7 B hP (show hk 1076 = 7 by decide +kernel) 3 (by decide) mw_1030 rfl dX7_goes_60 ?_
  refine lv_iload hx hb dX7_goes_63 (lv_at hl 1 rfl) ?_
  refine aldn (n := 695) (j := (150 + 326 * gn + 66 * gl)) B hP (show hk 1078 = 8 by decide +kernel) (show hlen 1078 = 695 by decide +kernel) rfl (by omega) (by decide) dX7_goes_65 ?_
  refine lv_icmp_le (tgt := 74) hx hb dX7_goes_66 (by decide) (fun c250 => ?_) (fun c250 => ?_)
  · skip
    refine lv_aload_n hx hb dX7_goes_74 rfl (lv_at hl 3 rfl) ?_
    refine get7 B hP (show hk 1076 = 7 by decide +kernel) 3 (by decide) mw_1030 rfl dX7_goes_75 ?_
    refine lv_iload hx hb dX7_goes_78 (lv_at hl 1 rfl) ?_
    refine aldf (n := 695) (j := (150 + 326 * gn + 66 * gl)) (v := (ρ 1078 (150 + 326 * gn + 66 * gl))) B hP (show hk 1078 = 8 by decide +kernel) (show hlen 1078 = 695 by decide +kernel) rfl (by omega) (by decide) rfl dX7_goes_80 ?_
    refine astn (n := 695) (j := (150 + 326 * gn + 66 * gl)) B hP hS (show hk 1078 = 8 by decide +kernel) (show hlen 1078 = 695 by decide +kernel) rfl (by omega) (by decide) dX7_goes_81 (fun H locs hP hS => ?_)
    obtain ⟨ρ251, e252⟩ : ∃ z, z = up ρ 1078 (150 + 326 * gn + 66 * gl) (ρ 1078 (150 + 326 * gn + 66 * gl)) := ⟨_, rfl⟩
    rw [← e252] at hP
    have hI : RI r Bt M L X ρ251 := by rw [e252]; exact RI_up hI (ok_link (n0 := gn) (l0 := gl) (j := (150 + 326 * gn + 66 * gl)) 46 (by omega) (by omega) (by omega) (by omega))
    refine lv_aload_n hx hb dX7_goes_82 rfl (lv_at hl 3 rfl) ?_
    refine get7 B hP (show hk 1076 = 7 by decide +kernel) 3 (by decide) mw_1030 rfl dX7_goes_83 ?_
    refine lv_iload_n hx hb dX7_goes_86 rfl (lv_at hl 4 rfl) ?_
    refine lv_iload_n hx hb dX7_goes_87 rfl (lv_at hl 5 rfl) ?_
    refine lv_iadd hx hb dX7_goes_88 ?_
    refine lv_topi (fun z253 ez253 => ?_)
    obtain rfl : z253 = (nI (109 + 326 * gn + 66 * gl)) := ez253.trans (by rw [show (nI (104 + 326 * gn + 66 * gl)) = nI (104 + 326 * gn + 66 * gl) from rfl, show 5 = nI 5 from rfl, nI_add] <;> exact congrArg nI (by omega))
    refine lv_dup2_11 hx hb dX7_goes_89 rfl rfl ?_
    refine aldf (n := 695) (j := (109 + 326 * gn + 66 * gl)) (v := (ρ 1078 (109 + 326 * gn + 66 * gl))) B hP (show hk 1078 = 8 by decide +kernel) (show hlen 1078 = 695 by decide +kernel) rfl (by omega) (by decide) (by rw [e252]; exact up_get_ne (Or.inr (by omega)) rfl) dX7_goes_90 ?_
    obtain ⟨j254, lj254, uj254, ej254⟩ := iR_nat (a := 1) (b := 8) hs
    refine lv_topi (fun z255 ez255 => ?_)
    obtain rfl : z255 = nI j254 := ez255.trans ej254
    refine lv_iconst (v := 1) hx hb dX7_goes_91 (by decide) ?_
    refine lv_isub hx hb dX7_goes_92 ?_
    obtain ⟨j256, hj256⟩ : ∃ q, j254 = q + 1 := ⟨j254 - 1, by omega⟩
    refine lv_topi (fun z257 ez257 => ?_)
    obtain rfl : z257 = (nI j256) := ez257.trans (nI_subE (a := j254) (b := 1) hj256)
    refine astn (n := 695) (j := (109 + 326 * gn + 66 * gl)) B hP hS (show hk 1078 = 8 by decide +kernel) (show hlen 1078 = 695 by decide +kernel) rfl (by omega) (by decide) dX7_goes_93 (fun H locs hP hS => ?_)
    obtain ⟨ρ258, e259⟩ : ∃ z, z = up ρ251 1078 (109 + 326 * gn + 66 * gl) (nI j256) := ⟨_, rfl⟩
    rw [← e259] at hP
    have hI : RI r Bt M L X ρ258 := by rw [e259]; exact RI_up hI (ok_ndownX (n0 := gn) (l0 := gl) (j := (109 + 326 * gn + 66 * gl)) (by omega) (by omega) hxx (iR_w (a := 0) (b := 7) (nI_iR (j := j256) (a := 0) (b := 7) (by omega) (by omega) (by omega)) (by decide) (by decide)) (by omega))
    refine lv_iconst (v := 0) hx hb dX7_goes_94 (by decide) ?_
    refine lv_istore (lv' := [(7, .int 0), (6, .int (((nI j248) - (ρ 1078 (154 + 326 * gn + 66 * gl))) / 2)), (5, .int (nI (150 + 326 * gn + 66 * gl))), (4, .int (nI (154 + 326 * gn + 66 * gl))), (0, .ref (E.2.1 + 1076)), (1, .int (nI (104 + 326 * gn + 66 * gl))), (2, .int 5), (3, .int 23)]) hx hb dX7_goes_95 hl (by decide) rfl (fun ls hl => ?_)
    exact b97_0 ls ρ258 _ _ _ 0 (lv_sub hl [4, 5, 6, 7, 3, 0] rfl) hP hS hI (Nat.lt_succ_self _) (by omega) (by omega) (by omega) (by omega) (by omega) (by omega)
  · skip
    refine lv_iload hx hb dX7_goes_69 (lv_at hl 0 rfl) ?_
    refine lv_goto (tgt := 81) hx hb dX7_goes_71 (by decide) ?_
    refine astn (n := 695) (j := (150 + 326 * gn + 66 * gl)) B hP hS (show hk 1078 = 8 by decide +kernel) (show hlen 1078 = 695 by decide +kernel) rfl (by omega) (by decide) dX7_goes_81 (fun H locs hP hS => ?_)
    obtain ⟨ρ260, e261⟩ : ∃ z, z = up ρ 1078 (150 + 326 * gn + 66 * gl) (((nI j248) - (ρ 1078 (154 + 326 * gn + 66 * gl))) / 2) := ⟨_, rfl⟩
    rw [← e261] at hP
    have hI : RI r Bt M L X ρ260 := by rw [e261]; exact RI_up hI (ok_link (n0 := gn) (l0 := gl) (j := (150 + 326 * gn + 66 * gl)) 46 (by omega) (by omega) (by omega) (by omega))
    refine lv_aload_n hx hb dX7_goes_82 rfl (lv_at hl 3 rfl) ?_
    refine get7 B hP (show hk 1076 = 7 by decide +kernel) 3 (by decide) mw_1030 rfl dX7_goes_83 ?_
    refine lv_iload_n hx hb dX7_goes_86 rfl (lv_at hl 4 rfl) ?_
    refine lv_iload_n hx hb dX7_goes_87 rfl (lv_at hl 5 rfl) ?_
    refine lv_iadd hx hb dX7_goes_88 ?_
    refine lv_topi (fun z262 ez262 => ?_)
    obtain rfl : z262 = (nI (109 + 326 * gn + 66 * gl)) := ez262.trans (by rw [show (nI (104 + 326 * gn + 66 * gl)) = nI (104 + 326 * gn + 66 * gl) from rfl, show 5 = nI 5 from rfl, nI_add] <;> exact congrArg nI (by omega))
    refine lv_dup2_11 hx hb dX7_goes_89 rfl rfl ?_
    refine aldf (n := 695) (j := (109 + 326 * gn + 66 * gl)) (v := (ρ 1078 (109 + 326 * gn + 66 * gl))) B hP (show hk 1078 = 8 by decide +kernel) (show hlen 1078 = 695 by decide +kernel) rfl (by omega) (by decide) (by rw [e261]; exact up_get_ne (Or.inr (by omega)) rfl) dX7_goes_90 ?_
    obtain ⟨j263, lj263, uj263, ej263⟩ := iR_nat (a := 1) (b := 8) hs
    refine lv_topi (fun z264 ez264 => ?_)
    obtain rfl : z264 = nI j263 := ez264.trans ej263
    refine lv_iconst (v := 1) hx hb dX7_goes_91 (by decide) ?_
    refine lv_isub hx hb dX7_goes_92 ?_
    obtain ⟨j265, hj265⟩ : ∃ q, j263 = q + 1 := ⟨j263 - 1, by omega⟩
    refine lv_topi (fun z266 ez266 => ?_)
    obtain rfl : z266 = (nI j265) := ez266.trans (nI_subE (a := j263) (b := 1) hj265)
    refine astn (n := 695) (j := (109 + 326 * gn + 66 * gl)) B hP hS (show hk 1078 = 8 by decide +kernel) (show hlen 1078 = 695 by decide +kernel) rfl (by omega) (by decide) dX7_goes_93 (fun H locs hP hS => ?_)
    obtain ⟨ρ267, e268⟩ : ∃ z, z = up ρ260 1078 (109 + 326 * gn + 66 * gl) (nI j265) := ⟨_, rfl⟩
    rw [← e268] at hP
    have hI : RI r Bt M L X ρ267 := by rw [e268]; exact RI_up hI (ok_ndownX (n0 := gn) (l0 := gl) (j := (109 + 326 * gn + 66 * gl)) (by omega) (by omega) hxx (iR_w (a := 0) (b := 7) (nI_iR (j := j265) (a := 0) (b := 7) (by omega) (by omega) (by omega)) (by decide) (by decide)) (by omega))
    refine lv_iconst (v := 0) hx hb dX7_goes_94 (by decide) ?_
    refine lv_istore (lv' := [(7, .int 0), (6, .int (((nI j248) - (ρ 1078 (154 + 326 * gn + 66 * gl))) / 2)), (5, .int (nI (150 + 326 * gn + 66 * gl))), (4, .int (nI (154 + 326 * gn + 66 * gl))), (0, .ref (E.2.1 + 1076)), (1, .int (nI (104 + 326 * gn + 66 * gl))), (2, .int 5), (3, .int 23)]) hx hb dX7_goes_95 hl (by decide) rfl (fun ls hl => ?_)
    exact b97_0 ls ρ267 _ _ _ 0 (lv_sub hl [4, 5, 6, 7, 3, 0] rfl) hP hS hI (Nat.lt_succ_self _) (by omega) (by omega) (by omega) (by omega) (by omega) (by omega)

set_option maxHeartbeats 4000000 in
set_option maxRecDepth 100000 in
theorem d_X7_goes14 (l : Launch) (E : hE) (ρ r : Nat → Nat → Int32) (Bt : Nat) (hBt : Bt ≤ 1000000) (M : Nat → Int32) (L : Nat → Nat) (X : Nat × Nat → Prop) (gn : Nat) (ugn : gn ≤ 1) (gl : Nat) (ugl : gl ≤ 3) (hI : RI r Bt M L X ρ) (hs0 : iR (ρ 1078 (118 + 326 * gn + 66 * gl)) 1 8) (hxx : X (gn, gl)) : Met l yX7_goes (.code yX7_goes cX7_goes 8 none :: gw_all) (rmk 1 40) (cPre E ρ [.ref (E.2.1 + 1076), .int (nI (104 + 326 * gn + 66 * gl)), .int 14, .int 25]) (cV E (fun ρ1 => RI r Bt M L X ρ1)) 0 0 (hA E) := by
  refine ent (own := RX7) (by decide) rfl (Nat.le_of_ble_eq_true rfl) ?_
  intro p e s m below meth c ls B hr hlk hl hP hS
  have hx := B.1.1
  have hb := B.1.2.1
  have hown := B.1.2.2.2.1
  have hts := B.1.2.2.2.2
  have hl : lv_has ls 8 [(0, .ref (E.2.1 + 1076)), (1, .int (nI (104 + 326 * gn + 66 * gl))), (2, .int 14), (3, .int 25)] := hl
  have hs : iR (ρ 1078 (118 + 326 * gn + 66 * gl)) 1 8 := by rw [show (118 + 326 * gn + 66 * gl) = 118 + 326 * gn + 66 * gl by omega]; exact hs0
  have b97_0 : ∀ (ls : Array Slot) (ρ : Nat → Nat → Int32) (H : Heap) (locs : List Loc) (d97 : Nat) (j97_7 : Nat), lv_has ls 8 [(0, .ref (E.2.1 + 1076)), (1, .int (nI (104 + 326 * gn + 66 * gl))), (2, .int 14), (3, .int 25), (4, .int (nI (162 + 326 * gn + 66 * gl))), (7, .int (nI j97_7))] → WP E ρ H → va_S (hA E) s.heap H locs → RI r Bt M L X ρ → 9 - j97_7 < d97 → 0 ≤ j97_7 → j97_7 ≤ 8 → 0 ≤ gl → gl ≤ 3 → 0 ≤ gn → gn ≤ 1 → W p l e (rmk 1 40) s m ([.ref (E.2.1 + 1076), .int (nI (104 + 326 * gn + 66 * gl)), .int 14, .int 25] : List Value).toArray below meth c H locs 0 0 (MQ below (cV E (fun ρ1 => RI r Bt M L X ρ1)) ([.ref (E.2.1 + 1076), .int (nI (104 + 326 * gn + 66 * gl)), .int 14, .int 25] : List Value).toArray s 0 0 (hA E)) (F0 m 97 ls []) := by
    intro ls ρ H locs d97
    induction d97 generalizing ls ρ H locs with
    | zero => intro j97_7 hl hP hS hI hd97 lj97_7 uj97_7 tlgl tugl tlgn tugn; exact absurd hd97 (Nat.not_lt_zero _)
    | succ d97 ih97 =>
      intro j97_7 hl hP hS hI hd97 lj97_7 uj97_7 tlgl tugl tlgn tugn
      refine lv_iload hx hb dX7_goes_97 (lv_at hl 5 rfl) ?_
      refine lv_aload_n hx hb dX7_goes_99 rfl (lv_at hl 0 rfl) ?_
      refine get7 B hP (show hk 1076 = 7 by decide +kernel) 3 (by decide) mw_1030 rfl dX7_goes_100 ?_
      refine lv_iload_n hx hb dX7_goes_103 rfl (lv_at hl 1 rfl) ?_
      refine lv_iload_n hx hb dX7_goes_104 rfl (lv_at hl 2 rfl) ?_
      refine lv_iadd hx hb dX7_goes_105 ?_
      refine lv_topi (fun z219 ez219 => ?_)
      obtain rfl : z219 = (nI (118 + 326 * gn + 66 * gl)) := ez219.trans (by rw [show (nI (104 + 326 * gn + 66 * gl)) = nI (104 + 326 * gn + 66 * gl) from rfl, show 14 = nI 14 from rfl, nI_add] <;> exact congrArg nI (by omega))
      refine aldn (n := 695) (j := (118 + 326 * gn + 66 * gl)) B hP (show hk 1078 = 8 by decide +kernel) (show hlen 1078 = 695 by decide +kernel) rfl (by omega) (by decide) dX7_goes_106 ?_
      have i220 : iR (ρ 1078 (118 + 326 * gn + 66 * gl)) (0) (8) := g_nup (n0 := gn) (l0 := gl) (j := (118 + 326 * gn + 66 * gl)) hI (by omega) (by omega) (by omega)
      obtain ⟨j221, lj221, uj221, ej221⟩ := iR_nat (a := 0) (b := 8) i220
      refine lv_topi (fun z222 ez222 => ?_)
      obtain rfl : z222 = nI j221 := ez222.trans ej221
      refine lv_icmp_ge (tgt := 164) hx hb dX7_goes_107 (by decide) (fun c223 => ?_) (fun c223 => ?_)
      · skip
        have n224 := mt (nx_lt (a := j97_7) (b := j221) (by omega) (by omega)).mpr (show ¬ (nI j97_7 < nI j221) from (Int32.not_lt.mpr c223))
        refine lv_aload_n hx hb dX7_goes_164 rfl (lv_at hl 0 rfl) ?_
        refine get7 B hP (show hk 1076 = 7 by decide +kernel) 3 (by decide) mw_1030 rfl dX7_goes_165 ?_
        refine lv_iload_n hx hb dX7_goes_168 rfl (lv_at hl 1 rfl) ?_
        refine lv_iload_n hx hb dX7_goes_169 rfl (lv_at hl 3 rfl) ?_
        refine lv_iadd hx hb dX7_goes_170 ?_
        refine lv_topi (fun z225 ez225 => ?_)
        obtain rfl : z225 = (nI (129 + 326 * gn + 66 * gl)) := ez225.trans (by rw [show (nI (104 + 326 * gn + 66 * gl)) = nI (104 + 326 * gn + 66 * gl) from rfl, show 25 = nI 25 from rfl, nI_add] <;> exact congrArg nI (by omega))
        refine lv_iconst (v := 1) hx hb dX7_goes_171 (by decide) ?_
        refine lv_aload_n hx hb dX7_goes_172 rfl (lv_at hl 0 rfl) ?_
        refine get7 B hP (show hk 1076 = 7 by decide +kernel) 3 (by decide) mw_1030 rfl dX7_goes_173 ?_
        refine lv_iload_n hx hb dX7_goes_176 rfl (lv_at hl 1 rfl) ?_
        refine lv_iload_n hx hb dX7_goes_177 rfl (lv_at hl 3 rfl) ?_
        refine lv_iadd hx hb dX7_goes_178 ?_
        refine lv_topi (fun z226 ez226 => ?_)
        obtain rfl : z226 = (nI (129 + 326 * gn + 66 * gl)) := ez226.trans (by rw [show (nI (104 + 326 * gn + 66 * gl)) = nI (104 + 326 * gn + 66 * gl) from rfl, show 25 = nI 25 from rfl, nI_add] <;> exact congrArg nI (by omega))
        refine aldn (n := 695) (j := (129 + 326 * gn + 66 * gl)) B hP (show hk 1078 = 8 by decide +kernel) (show hlen 1078 = 695 by decide +kernel) rfl (by omega) (by decide) dX7_goes_179 ?_
        refine lv_isub hx hb dX7_goes_180 ?_
        refine astn (n := 695) (j := (129 + 326 * gn + 66 * gl)) B hP hS (show hk 1078 = 8 by decide +kernel) (show hlen 1078 = 695 by decide +kernel) rfl (by omega) (by decide) dX7_goes_181 (fun H locs hP hS => ?_)
        obtain ⟨ρ227, e228⟩ : ∃ z, z = up ρ 1078 (129 + 326 * gn + 66 * gl) (1 - (ρ 1078 (129 + 326 * gn + 66 * gl))) := ⟨_, rfl⟩
        rw [← e228] at hP
        have hI : RI r Bt M L X ρ227 := by rw [e228]; exact RI_up hI (ok_link (n0 := gn) (l0 := gl) (j := (129 + 326 * gn + 66 * gl)) 25 (by omega) (by omega) (by omega) (by omega))
        exact ret_v B hr hlk hP hS dX7_goes_182 (hI)
      · skip
        have n229 := (nx_lt (a := j97_7) (b := j221) (by omega) (by omega)).mp (show (nI j97_7 < nI j221) from (Int32.not_le.mp c223))
        refine lv_aload_n hx hb dX7_goes_110 rfl (lv_at hl 0 rfl) ?_
        refine get7 B hP (show hk 1076 = 7 by decide +kernel) 3 (by decide) mw_1030 rfl dX7_goes_111 ?_
        refine lv_iload_n hx hb dX7_goes_114 rfl (lv_at hl 1 rfl) ?_
        refine lv_iload_n hx hb dX7_goes_115 rfl (lv_at hl 2 rfl) ?_
        refine lv_iadd hx hb dX7_goes_116 ?_
        refine lv_topi (fun z230 ez230 => ?_)
        obtain rfl : z230 = (nI (118 + 326 * gn + 66 * gl)) := ez230.trans (by rw [show (nI (104 + 326 * gn + 66 * gl)) = nI (104 + 326 * gn + 66 * gl) from rfl, show 14 = nI 14 from rfl, nI_add] <;> exact congrArg nI (by omega))
        refine lv_iconst (v := 1) hx hb dX7_goes_117 (by decide) ?_
        refine lv_iadd hx hb dX7_goes_118 ?_
        refine lv_topi (fun z231 ez231 => ?_)
        obtain rfl : z231 = (nI (119 + 326 * gn + 66 * gl)) := ez231.trans (by rw [show (nI (118 + 326 * gn + 66 * gl)) = nI (118 + 326 * gn + 66 * gl) from rfl, show 1 = nI 1 from rfl, nI_add] <;> exact congrArg nI (by omega))
        refine lv_iload hx hb dX7_goes_119 (lv_at hl 5 rfl) ?_
        refine lv_iadd hx hb dX7_goes_121 ?_
        refine lv_topi (fun z232 ez232 => ?_)
        obtain rfl : z232 = (nI (119 + 326 * gn + 66 * gl + j97_7)) := ez232.trans (by rw [show (nI (119 + 326 * gn + 66 * gl)) = nI (119 + 326 * gn + 66 * gl) from rfl, show (nI j97_7) = nI j97_7 from rfl, nI_add] <;> exact congrArg nI (by omega))
        refine lv_aload_n hx hb dX7_goes_122 rfl (lv_at hl 0 rfl) ?_
        refine get7 B hP (show hk 1076 = 7 by decide +kernel) 3 (by decide) mw_1030 rfl dX7_goes_123 ?_
        refine lv_iload_n hx hb dX7_goes_126 rfl (lv_at hl 1 rfl) ?_
        refine lv_iload_n hx hb dX7_goes_127 rfl (lv_at hl 2 rfl) ?_
        refine lv_iadd hx hb dX7_goes_128 ?_
        refine lv_topi (fun z233 ez233 => ?_)
        obtain rfl : z233 = (nI (118 + 326 * gn + 66 * gl)) := ez233.trans (by rw [show (nI (104 + 326 * gn + 66 * gl)) = nI (104 + 326 * gn + 66 * gl) from rfl, show 14 = nI 14 from rfl, nI_add] <;> exact congrArg nI (by omega))
        refine lv_iconst (v := 2) hx hb dX7_goes_129 (by decide) ?_
        refine lv_iadd hx hb dX7_goes_130 ?_
        refine lv_topi (fun z234 ez234 => ?_)
        obtain rfl : z234 = (nI (120 + 326 * gn + 66 * gl)) := ez234.trans (by rw [show (nI (118 + 326 * gn + 66 * gl)) = nI (118 + 326 * gn + 66 * gl) from rfl, show 2 = nI 2 from rfl, nI_add] <;> exact congrArg nI (by omega))
        refine lv_iload hx hb dX7_goes_131 (lv_at hl 5 rfl) ?_
        refine lv_iadd hx hb dX7_goes_133 ?_
        refine lv_topi (fun z235 ez235 => ?_)
        obtain rfl : z235 = (nI (120 + 326 * gn + 66 * gl + j97_7)) := ez235.trans (by rw [show (nI (120 + 326 * gn + 66 * gl)) = nI (120 + 326 * gn + 66 * gl) from rfl, show (nI j97_7) = nI j97_7 from rfl, nI_add] <;> exact congrArg nI (by omega))
        refine aldn (n := 695) (j := (120 + 326 * gn + 66 * gl + j97_7)) B hP (show hk 1078 = 8 by decide +kernel) (show hlen 1078 = 695 by decide +kernel) rfl (by omega) (by decide) dX7_goes_134 ?_
        refine astn (n := 695) (j := (119 + 326 * gn + 66 * gl + j97_7)) B hP hS (show hk 1078 = 8 by decide +kernel) (show hlen 1078 = 695 by decide +kernel) rfl (by omega) (by decide) dX7_goes_135 (fun H locs hP hS => ?_)
        obtain ⟨ρ236, e237⟩ : ∃ z, z = up ρ 1078 (119 + 326 * gn + 66 * gl + j97_7) (ρ 1078 (120 + 326 * gn + 66 * gl + j97_7)) := ⟨_, rfl⟩
        rw [← e237] at hP
        have hI : RI r Bt M L X ρ236 := by rw [e237]; exact RI_up hI (ok_link (n0 := gn) (l0 := gl) (j := (119 + 326 * gn + 66 * gl + j97_7)) (15 + j97_7) (by omega) (by omega) (by omega) (by omega))
        refine lv_aload_n hx hb dX7_goes_136 rfl (lv_at hl 0 rfl) ?_
        refine get7 B hP (show hk 1076 = 7 by decide +kernel) 3 (by decide) mw_1030 rfl dX7_goes_137 ?_
        refine lv_iload hx hb dX7_goes_140 (lv_at hl 4 rfl) ?_
        refine lv_iload hx hb dX7_goes_142 (lv_at hl 5 rfl) ?_
        refine lv_iadd hx hb dX7_goes_144 ?_
        refine lv_topi (fun z238 ez238 => ?_)
        obtain rfl : z238 = (nI (162 + 326 * gn + 66 * gl + j97_7)) := ez238.trans (by rw [show (nI (162 + 326 * gn + 66 * gl)) = nI (162 + 326 * gn + 66 * gl) from rfl, show (nI j97_7) = nI j97_7 from rfl, nI_add] <;> exact congrArg nI (by omega))
        refine lv_aload_n hx hb dX7_goes_145 rfl (lv_at hl 0 rfl) ?_
        refine get7 B hP (show hk 1076 = 7 by decide +kernel) 3 (by decide) mw_1030 rfl dX7_goes_146 ?_
        refine lv_iload hx hb dX7_goes_149 (lv_at hl 4 rfl) ?_
        refine lv_iload hx hb dX7_goes_151 (lv_at hl 5 rfl) ?_
        refine lv_iadd hx hb dX7_goes_153 ?_
        refine lv_topi (fun z239 ez239 => ?_)
        obtain rfl : z239 = (nI (162 + 326 * gn + 66 * gl + j97_7)) := ez239.trans (by rw [show (nI (162 + 326 * gn + 66 * gl)) = nI (162 + 326 * gn + 66 * gl) from rfl, show (nI j97_7) = nI j97_7 from rfl, nI_add] <;> exact congrArg nI (by omega))
        refine lv_iconst (v := 1) hx hb dX7_goes_154 (by decide) ?_
        refine lv_iadd hx hb dX7_goes_155 ?_
        refine lv_topi (fun z240 ez240 => ?_)
        obtain rfl : z240 = (nI (163 + 326 * gn + 66 * gl + j97_7)) := ez240.trans (by rw [show (nI (162 + 326 * gn + 66 * gl + j97_7)) = nI (162 + 326 * gn + 66 * gl + j97_7) from rfl, show 1 = nI 1 from rfl, nI_add] <;> exact congrArg nI (by omega))
        refine aldn (n := 695) (j := (163 + 326 * gn + 66 * gl + j97_7)) B hP (show hk 1078 = 8 by decide +kernel) (show hlen 1078 = 695 by decide +kernel) rfl (by omega) (by decide) dX7_goes_156 ?_
        refine astn (n := 695) (j := (162 + 326 * gn + 66 * gl + j97_7)) B hP hS (show hk 1078 = 8 by decide +kernel) (show hlen 1078 = 695 by decide +kernel) rfl (by omega) (by decide) dX7_goes_157 (fun H locs hP hS => ?_)
        obtain ⟨ρ241, e242⟩ : ∃ z, z = up ρ236 1078 (162 + 326 * gn + 66 * gl + j97_7) (ρ236 1078 (163 + 326 * gn + 66 * gl + j97_7)) := ⟨_, rfl⟩
        rw [← e242] at hP
        have hI : RI r Bt M L X ρ241 := by rw [e242]; exact RI_up hI (ok_link (n0 := gn) (l0 := gl) (j := (162 + 326 * gn + 66 * gl + j97_7)) (58 + j97_7) (by omega) (by omega) (by omega) (by omega))
        refine lv_iinc (v := (nI (1 + j97_7))) (lv' := [(7, .int (nI (1 + j97_7))), (0, .ref (E.2.1 + 1076)), (1, .int (nI (104 + 326 * gn + 66 * gl))), (2, .int 14), (3, .int 25), (4, .int (nI (162 + 326 * gn + 66 * gl)))]) hx hb dX7_goes_158 hl (k := 5) rfl (show nI j97_7 + nI 1 = _ from (nI_add _ _).trans (congrArg nI (by omega))) (by decide) rfl (fun ls hl => ?_)
        refine lv_goto (tgt := 97) hx hb dX7_goes_161 (by decide) ?_
        exact ih97 ls ρ241 _ _ (1 + j97_7) (lv_sub hl [1, 2, 3, 4, 5, 0] rfl) hP hS hI (by omega) (by omega) (by omega) (by omega) (by omega) (by omega) (by omega)
  refine lv_iload_n hx hb dX7_goes_0 rfl (lv_at hl 1 rfl) ?_
  refine lv_iload_n hx hb dX7_goes_1 rfl (lv_at hl 2 rfl) ?_
  refine lv_iconst (v := 5) hx hb dX7_goes_2 (by decide) ?_
  refine lv_icmp_ne (tgt := 11) hx hb dX7_goes_3 (by decide) (fun _ => ?_) (fun c243 => absurd c243 (iR_ne (show iR 14 (14) (14) from ⟨by decide, by decide⟩) (show iR 5 (5) (5) from ⟨by decide, by decide⟩) (by decide)))
  refine lv_bipush (v := 58) hx hb dX7_goes_11 (by decide) ?_
  refine lv_iadd hx hb dX7_goes_13 ?_
  refine lv_topi (fun z244 ez244 => ?_)
  obtain rfl : z244 = (nI (162 + 326 * gn + 66 * gl)) := ez244.trans (by rw [show (nI (104 + 326 * gn + 66 * gl)) = nI (104 + 326 * gn + 66 * gl) from rfl, show 58 = nI 58 from rfl, nI_add] <;> exact congrArg nI (by omega))
  refine lv_istore (lv' := [(4, .int (nI (162 + 326 * gn + 66 * gl))), (0, .ref (E.2.1 + 1076)), (1, .int (nI (104 + 326 * gn + 66 * gl))), (2, .int 14), (3, .int 25)]) hx hb dX7_goes_14 hl (by decide) rfl (fun ls hl => ?_)
  refine lv_iload_n hx hb dX7_goes_16 rfl (lv_at hl 2 rfl) ?_
  refine lv_iload_n hx hb dX7_goes_17 rfl (lv_at hl 3 rfl) ?_
  refine lv_iconst (v := 5) hx hb dX7_goes_18 (by decide) ?_
  refine lv_icmp_ne (tgt := 27) hx hb dX7_goes_19 (by decide) (fun _ => ?_) (fun c245 => absurd c245 (iR_ne (show iR 14 (14) (14) from ⟨by decide, by decide⟩) (show iR 5 (5) (5) from ⟨by decide, by decide⟩) (by decide)))
  refine lv_bipush (v := 47) hx hb dX7_goes_27 (by decide) ?_
  refine lv_iadd hx hb dX7_goes_29 ?_
  refine lv_topi (fun z246 ez246 => ?_)
  obtain rfl : z246 = (nI (151 + 326 * gn + 66 * gl)) := ez246.trans (by rw [show (nI (104 + 326 * gn + 66 * gl)) = nI (104 + 326 * gn + 66 * gl) from rfl, show 47 = nI 47 from rfl, nI_add] <;> exact congrArg nI (by omega))
  refine lv_istore (lv' := [(5, .int (nI (151 + 326 * gn + 66 * gl))), (4, .int (nI (162 + 326 * gn + 66 * gl))), (0, .ref (E.2.1 + 1076)), (1, .int (nI (104 + 326 * gn + 66 * gl))), (2, .int 14), (3, .int 25)]) hx hb dX7_goes_30 hl (by decide) rfl (fun ls hl => ?_)
  refine lv_aload_n hx hb dX7_goes_32 rfl (lv_at hl 2 rfl) ?_
  refine get7 B hP (show hk 1076 = 7 by decide +kernel) 3 (by decide) mw_1030 rfl dX7_goes_33 ?_
  refine lv_bipush (v := 7) hx hb dX7_goes_36 (by decide) ?_
  refine aldn (n := 695) (j := 7) B hP (show hk 1078 = 8 by decide +kernel) (show hlen 1078 = 695 by decide +kernel) rfl (by omega) (by decide) dX7_goes_38 ?_
  have i247 : iR (ρ 1078 7) (0) (1000000) := (iR_w (g_time hI) (by omega) (by omega))
  obtain ⟨j248, lj248, uj248, ej248⟩ := iR_nat (a := 0) (b := 1000000) i247
  refine lv_topi (fun z249 ez249 => ?_)
  obtain rfl : z249 = nI j248 := ez249.trans ej248
  refine lv_aload_n hx hb dX7_goes_39 rfl (lv_at hl 2 rfl) ?_
  refine get7 B hP (show hk 1076 = 7 by decide +kernel) 3 (by decide) mw_1030 rfl dX7_goes_40 ?_
  refine lv_iload hx hb dX7_goes_43 (lv_at hl 1 rfl) ?_
  refine aldn (n := 695) (j := (162 + 326 * gn + 66 * gl)) B hP (show hk 1078 = 8 by decide +kernel) (show hlen 1078 = 695 by decide +kernel) rfl (by omega) (by decide) dX7_goes_45 ?_
  refine lv_isub hx hb dX7_goes_46 ?_
  refine lv_iconst (v := 2) hx hb dX7_goes_47 (by decide) ?_
  refine lv_idiv hx hb dX7_goes_48 (by decide) ?_
  refine lv_istore (lv' := [(6, .int (((nI j248) - (ρ 1078 (162 + 326 * gn + 66 * gl))) / 2)), (5, .int (nI (151 + 326 * gn + 66 * gl))), (4, .int (nI (162 + 326 * gn + 66 * gl))), (0, .ref (E.2.1 + 1076)), (1, .int (nI (104 + 326 * gn + 66 * gl))), (2, .int 14), (3, .int 25)]) hx hb dX7_goes_49 hl (by decide) rfl (fun ls hl => ?_)
  refine lv_aload_n hx hb dX7_goes_51 rfl (lv_at hl 3 rfl) ?_
  refine get7 B hP (show hk 1076 = 7 by decide +kernel) 3 (by decide) mw_1030 rfl dX7_goes_52 ?_
  refine lv_iload hx hb dX7_goes_55 (lv_at hl 1 rfl) ?_
  refine lv_iload hx hb dX7_goes_57 (lv_at hl 0 rfl) ?_
  refine lv_aload_n hx hb dX7_goes_59 rfl (lv_at hl 3 rfl) ?_
  refine get7 B hP (show hk 1076 = 7 by decide +kernel) 3 (by decide) mw_1030 rfl dX7_goes_60 ?_
  refine lv_iload hx hb dX7_goes_63 (lv_at hl 1 rfl) ?_
  refine aldn (n := 695) (j := (151 + 326 * gn + 66 * gl)) B hP (show hk 1078 = 8 by decide +kernel) (show hlen 1078 = 695 by decide +kernel) rfl (by omega) (by decide) dX7_goes_65 ?_
  refine lv_icmp_le (tgt := 74) hx hb dX7_goes_66 (by decide) (fun c250 => ?_) (fun c250 => ?_)
  · skip
    refine lv_aload_n hx hb dX7_goes_74 rfl (lv_at hl 3 rfl) ?_
    refine get7 B hP (show hk 1076 = 7 by decide +kernel) 3 (by decide) mw_1030 rfl dX7_goes_75 ?_
    refine lv_iload hx hb dX7_goes_78 (lv_at hl 1 rfl) ?_
    refine aldf (n := 695) (j := (151 + 326 * gn + 66 * gl)) (v := (ρ 1078 (151 + 326 * gn + 66 * gl))) B hP (show hk 1078 = 8 by decide +kernel) (show hlen 1078 = 695 by decide +kernel) rfl (by omega) (by decide) rfl dX7_goes_80 ?_
    refine astn (n := 695) (j := (151 + 326 * gn + 66 * gl)) B hP hS (show hk 1078 = 8 by decide +kernel) (show hlen 1078 = 695 by decide +kernel) rfl (by omega) (by decide) dX7_goes_81 (fun H locs hP hS => ?_)
    obtain ⟨ρ251, e252⟩ : ∃ z, z = up ρ 1078 (151 + 326 * gn + 66 * gl) (ρ 1078 (151 + 326 * gn + 66 * gl)) := ⟨_, rfl⟩
    rw [← e252] at hP
    have hI : RI r Bt M L X ρ251 := by rw [e252]; exact RI_up hI (ok_link (n0 := gn) (l0 := gl) (j := (151 + 326 * gn + 66 * gl)) 47 (by omega) (by omega) (by omega) (by omega))
    refine lv_aload_n hx hb dX7_goes_82 rfl (lv_at hl 3 rfl) ?_
    refine get7 B hP (show hk 1076 = 7 by decide +kernel) 3 (by decide) mw_1030 rfl dX7_goes_83 ?_
    refine lv_iload_n hx hb dX7_goes_86 rfl (lv_at hl 4 rfl) ?_
    refine lv_iload_n hx hb dX7_goes_87 rfl (lv_at hl 5 rfl) ?_
    refine lv_iadd hx hb dX7_goes_88 ?_
    refine lv_topi (fun z253 ez253 => ?_)
    obtain rfl : z253 = (nI (118 + 326 * gn + 66 * gl)) := ez253.trans (by rw [show (nI (104 + 326 * gn + 66 * gl)) = nI (104 + 326 * gn + 66 * gl) from rfl, show 14 = nI 14 from rfl, nI_add] <;> exact congrArg nI (by omega))
    refine lv_dup2_11 hx hb dX7_goes_89 rfl rfl ?_
    refine aldf (n := 695) (j := (118 + 326 * gn + 66 * gl)) (v := (ρ 1078 (118 + 326 * gn + 66 * gl))) B hP (show hk 1078 = 8 by decide +kernel) (show hlen 1078 = 695 by decide +kernel) rfl (by omega) (by decide) (by rw [e252]; exact up_get_ne (Or.inr (by omega)) rfl) dX7_goes_90 ?_
    obtain ⟨j254, lj254, uj254, ej254⟩ := iR_nat (a := 1) (b := 8) hs
    refine lv_topi (fun z255 ez255 => ?_)
    obtain rfl : z255 = nI j254 := ez255.trans ej254
    refine lv_iconst (v := 1) hx hb dX7_goes_91 (by decide) ?_
    refine lv_isub hx hb dX7_goes_92 ?_
    obtain ⟨j256, hj256⟩ : ∃ q, j254 = q + 1 := ⟨j254 - 1, by omega⟩
    refine lv_topi (fun z257 ez257 => ?_)
    obtain rfl : z257 = (nI j256) := ez257.trans (nI_subE (a := j254) (b := 1) hj256)
    refine astn (n := 695) (j := (118 + 326 * gn + 66 * gl)) B hP hS (show hk 1078 = 8 by decide +kernel) (show hlen 1078 = 695 by decide +kernel) rfl (by omega) (by decide) dX7_goes_93 (fun H locs hP hS => ?_)
    obtain ⟨ρ258, e259⟩ : ∃ z, z = up ρ251 1078 (118 + 326 * gn + 66 * gl) (nI j256) := ⟨_, rfl⟩
    rw [← e259] at hP
    have hI : RI r Bt M L X ρ258 := by rw [e259]; exact RI_up hI (ok_nupX (n0 := gn) (l0 := gl) (j := (118 + 326 * gn + 66 * gl)) (by omega) (by omega) hxx (iR_w (a := 0) (b := 7) (nI_iR (j := j256) (a := 0) (b := 7) (by omega) (by omega) (by omega)) (by decide) (by decide)) (by omega))
    refine lv_iconst (v := 0) hx hb dX7_goes_94 (by decide) ?_
    refine lv_istore (lv' := [(7, .int 0), (6, .int (((nI j248) - (ρ 1078 (162 + 326 * gn + 66 * gl))) / 2)), (5, .int (nI (151 + 326 * gn + 66 * gl))), (4, .int (nI (162 + 326 * gn + 66 * gl))), (0, .ref (E.2.1 + 1076)), (1, .int (nI (104 + 326 * gn + 66 * gl))), (2, .int 14), (3, .int 25)]) hx hb dX7_goes_95 hl (by decide) rfl (fun ls hl => ?_)
    exact b97_0 ls ρ258 _ _ _ 0 (lv_sub hl [4, 5, 6, 7, 3, 0] rfl) hP hS hI (Nat.lt_succ_self _) (by omega) (by omega) (by omega) (by omega) (by omega) (by omega)
  · skip
    refine lv_iload hx hb dX7_goes_69 (lv_at hl 0 rfl) ?_
    refine lv_goto (tgt := 81) hx hb dX7_goes_71 (by decide) ?_
    refine astn (n := 695) (j := (151 + 326 * gn + 66 * gl)) B hP hS (show hk 1078 = 8 by decide +kernel) (show hlen 1078 = 695 by decide +kernel) rfl (by omega) (by decide) dX7_goes_81 (fun H locs hP hS => ?_)
    obtain ⟨ρ260, e261⟩ : ∃ z, z = up ρ 1078 (151 + 326 * gn + 66 * gl) (((nI j248) - (ρ 1078 (162 + 326 * gn + 66 * gl))) / 2) := ⟨_, rfl⟩
    rw [← e261] at hP
    have hI : RI r Bt M L X ρ260 := by rw [e261]; exact RI_up hI (ok_link (n0 := gn) (l0 := gl) (j := (151 + 326 * gn + 66 * gl)) 47 (by omega) (by omega) (by omega) (by omega))
    refine lv_aload_n hx hb dX7_goes_82 rfl (lv_at hl 3 rfl) ?_
    refine get7 B hP (show hk 1076 = 7 by decide +kernel) 3 (by decide) mw_1030 rfl dX7_goes_83 ?_
    refine lv_iload_n hx hb dX7_goes_86 rfl (lv_at hl 4 rfl) ?_
    refine lv_iload_n hx hb dX7_goes_87 rfl (lv_at hl 5 rfl) ?_
    refine lv_iadd hx hb dX7_goes_88 ?_
    refine lv_topi (fun z262 ez262 => ?_)
    obtain rfl : z262 = (nI (118 + 326 * gn + 66 * gl)) := ez262.trans (by rw [show (nI (104 + 326 * gn + 66 * gl)) = nI (104 + 326 * gn + 66 * gl) from rfl, show 14 = nI 14 from rfl, nI_add] <;> exact congrArg nI (by omega))
    refine lv_dup2_11 hx hb dX7_goes_89 rfl rfl ?_
    refine aldf (n := 695) (j := (118 + 326 * gn + 66 * gl)) (v := (ρ 1078 (118 + 326 * gn + 66 * gl))) B hP (show hk 1078 = 8 by decide +kernel) (show hlen 1078 = 695 by decide +kernel) rfl (by omega) (by decide) (by rw [e261]; exact up_get_ne (Or.inr (by omega)) rfl) dX7_goes_90 ?_
    obtain ⟨j263, lj263, uj263, ej263⟩ := iR_nat (a := 1) (b := 8) hs
    refine lv_topi (fun z264 ez264 => ?_)
    obtain rfl : z264 = nI j263 := ez264.trans ej263
    refine lv_iconst (v := 1) hx hb dX7_goes_91 (by decide) ?_
    refine lv_isub hx hb dX7_goes_92 ?_
    obtain ⟨j265, hj265⟩ : ∃ q, j263 = q + 1 := ⟨j263 - 1, by omega⟩
    refine lv_topi (fun z266 ez266 => ?_)
    obtain rfl : z266 = (nI j265) := ez266.trans (nI_subE (a := j263) (b := 1) hj265)
    refine astn (n := 695) (j := (118 + 326 * gn + 66 * gl)) B hP hS (show hk 1078 = 8 by decide +kernel) (show hlen 1078 = 695 by decide +kernel) rfl (by omega) (by decide) dX7_goes_93 (fun H locs hP hS => ?_)
    obtain ⟨ρ267, e268⟩ : ∃ z, z = up ρ260 1078 (118 + 326 * gn + 66 * gl) (nI j265) := ⟨_, rfl⟩
    rw [← e268] at hP
    have hI : RI r Bt M L X ρ267 := by rw [e268]; exact RI_up hI (ok_nupX (n0 := gn) (l0 := gl) (j := (118 + 326 * gn + 66 * gl)) (by omega) (by omega) hxx (iR_w (a := 0) (b := 7) (nI_iR (j := j265) (a := 0) (b := 7) (by omega) (by omega) (by omega)) (by decide) (by decide)) (by omega))
    refine lv_iconst (v := 0) hx hb dX7_goes_94 (by decide) ?_
    refine lv_istore (lv' := [(7, .int 0), (6, .int (((nI j248) - (ρ 1078 (162 + 326 * gn + 66 * gl))) / 2)), (5, .int (nI (151 + 326 * gn + 66 * gl))), (4, .int (nI (162 + 326 * gn + 66 * gl))), (0, .ref (E.2.1 + 1076)), (1, .int (nI (104 + 326 * gn + 66 * gl))), (2, .int 14), (3, .int 25)]) hx hb dX7_goes_95 hl (by decide) rfl (fun ls hl => ?_)
    exact b97_0 ls ρ267 _ _ _ 0 (lv_sub hl [4, 5, 6, 7, 3, 0] rfl) hP hS hI (Nat.lt_succ_self _) (by omega) (by omega) (by omega) (by omega) (by omega) (by omega)

theorem lk_RX7_114 : LkV RX7 114 RX7 yX7_hopOf cX7_hopOf 5 (some .int) 3 := ⟨⟨mw_1142, mw_1144, mw_14, mw_59, mw_1145⟩, by decide +kernel⟩
set_option maxHeartbeats 4000000 in
set_option maxRecDepth 100000 in
theorem d_X7_chance (l : Launch) (E : hE) (ρ r : Nat → Nat → Int32) (Bt : Nat) (hBt : Bt ≤ 1000000) (M : Nat → Int32) (L : Nat → Nat) (X : Nat × Nat → Prop) (na1 : Nat) (lna1 : 0 ≤ na1) (una1 : na1 ≤ 1) (na2 : Nat) (lna2 : 0 ≤ na2) (una2 : na2 ≤ 3) (a3 : Int32) (hI : RI r Bt M L X ρ) (hm : iR (M na1) 0 5) (hlt : na2 + 1 ≤ L na1) : Met l yX7_chance (.code yX7_chance cX7_chance 5 (some .int) :: gw_all) (rmk 3 120) (cPre E ρ [.ref (E.2.1 + 1076), .int (nI na1), .int (nI na2), .int a3]) (cI E (fun v ρ1 => ρ = ρ1 ∧ RI r Bt M L X ρ1)) 0 0 (hA E) := by
  refine ent (own := RX7) (by decide) rfl (Nat.le_of_ble_eq_true rfl) ?_
  intro p e s m below meth c ls B hr hlk hl hP hS
  have hx := B.1.1
  have hb := B.1.2.1
  have hown := B.1.2.2.2.1
  have hts := B.1.2.2.2.2
  have hl : lv_has ls 5 [(0, .ref (E.2.1 + 1076)), (1, .int (nI na1)), (2, .int (nI na2)), (3, .int a3)] := hl
  refine lv_aload_n hx hb dX7_chance_0 rfl (lv_at hl 0 rfl) ?_
  refine lv_iload_n hx hb dX7_chance_1 rfl (lv_at hl 1 rfl) ?_
  refine lv_iload_n hx hb dX7_chance_2 rfl (lv_at hl 3 rfl) ?_
  refine lv_aload_n hx hb dX7_chance_3 rfl (lv_at hl 0 rfl) ?_
  refine get7 B hP (show hk 1076 = 7 by decide +kernel) 3 (by decide) mw_1030 rfl dX7_chance_4 ?_
  refine lv_iload_n hx hb dX7_chance_7 rfl (lv_at hl 1 rfl) ?_
  refine call_i (cS (av := [.int (nI na1)]) (rest := [.ref (E.2.1 + 1078), .int a3, .int (nI na1), .ref (E.2.1 + 1076)]) B hP hS (d_X7_netAt l E ρ r Bt hBt M L X na1 (by omega) (by omega) hI) lk_RX7_75 rfl rfl hl.1 (Nat.le_of_ble_eq_true rfl) ⟨Nat.le_of_ble_eq_true rfl, Nat.le_of_ble_eq_true rfl⟩ ⟨Nat.le_of_ble_eq_true rfl, Nat.le_of_ble_eq_true rfl⟩ dX7_chance_8) hS (fun r29 ρ30 H locs q31 hP hS => ?_)
  obtain ⟨rfl, hI, q31⟩ := q31
  obtain rfl : r29 = nI (42 + 326 * na1) := q31.trans (congrArg nI (by omega))
  refine lv_iconst (v := 2) hx hb dX7_chance_11 (by decide) ?_
  refine lv_iadd hx hb dX7_chance_12 ?_
  refine lv_topi (fun z32 ez32 => ?_)
  obtain rfl : z32 = (nI (44 + 326 * na1)) := ez32.trans (by rw [show (nI (42 + 326 * na1)) = nI (42 + 326 * na1) from rfl, show 2 = nI 2 from rfl, nI_add] <;> exact congrArg nI (by omega))
  refine aldn (n := 695) (j := (44 + 326 * na1)) B hP (show hk 1078 = 8 by decide +kernel) (show hlen 1078 = 695 by decide +kernel) rfl (by omega) (by decide) dX7_chance_13 ?_
  have i33 : iR (ρ 1078 (44 + 326 * na1)) (1) (8388607) := g_map (n0 := na1) (j := (44 + 326 * na1)) hI (by omega) hm (by omega)
  obtain ⟨j34, lj34, uj34, ej34⟩ := iR_nat (a := 1) (b := 8388607) i33
  refine lv_topi (fun z35 ez35 => ?_)
  obtain rfl : z35 = nI j34 := ez35.trans ej34
  refine call_i (cVt (k := 1076) (av := [.int (nI na1), .int a3, .int (nI j34)]) (rest := []) B hP hS (d_X7_hopOf l E ρ r Bt hBt M L X na1 (by omega) (by omega) a3 j34 (by omega) (by omega) hI) lk_RX7_114 (hrecv (ci := 7) B hP (hk_lt (c := 7) (show hk 1076 = 7 by decide +kernel) (by decide)) (hcc7 _ _ (show hk 1076 = 7 by decide +kernel)) rfl) rfl rfl hl.1 (Nat.le_of_ble_eq_true rfl) ⟨Nat.le_of_ble_eq_true rfl, Nat.le_of_ble_eq_true rfl⟩ ⟨Nat.le_of_ble_eq_true rfl, Nat.le_of_ble_eq_true rfl⟩ dX7_chance_14) hS (fun r36 ρ37 H locs q38 hP hS => ?_)
  obtain ⟨rfl, hI, q38⟩ := q38
  obtain ⟨j39, lj39, uj39, ej39⟩ := iR_nat (a := 0) (b := 22) q38
  refine lv_topi (fun z40 ez40 => ?_)
  obtain rfl : z40 = nI j39 := ez40.trans ej39
  refine lv_istore (lv' := [(4, .int (nI j39)), (0, .ref (E.2.1 + 1076)), (1, .int (nI na1)), (2, .int (nI na2)), (3, .int a3)]) hx hb dX7_chance_17 hl (by decide) rfl (fun ls hl => ?_)
  refine lv_iload hx hb dX7_chance_19 (lv_at hl 0 rfl) ?_
  refine lv_aload_n hx hb dX7_chance_21 rfl (lv_at hl 1 rfl) ?_
  refine lv_iload_n hx hb dX7_chance_22 rfl (lv_at hl 2 rfl) ?_
  refine lv_iload_n hx hb dX7_chance_23 rfl (lv_at hl 4 rfl) ?_
  refine lv_aload_n hx hb dX7_chance_24 rfl (lv_at hl 1 rfl) ?_
  refine get7 B hP (show hk 1076 = 7 by decide +kernel) 3 (by decide) mw_1030 rfl dX7_chance_25 ?_
  refine lv_iload_n hx hb dX7_chance_28 rfl (lv_at hl 2 rfl) ?_
  refine lv_iload_n hx hb dX7_chance_29 rfl (lv_at hl 3 rfl) ?_
  refine call_i (cS (av := [.int (nI na1), .int (nI na2)]) (rest := [.ref (E.2.1 + 1078), .int a3, .int (nI na1), .ref (E.2.1 + 1076), .int (nI j39)]) B hP hS (d_X7_linkAt l E ρ r Bt hBt M L X na1 (by omega) (by omega) na2 (by omega) (by omega) hI) lk_RX7_82 rfl rfl hl.1 (Nat.le_of_ble_eq_true rfl) ⟨Nat.le_of_ble_eq_true rfl, Nat.le_of_ble_eq_true rfl⟩ ⟨Nat.le_of_ble_eq_true rfl, Nat.le_of_ble_eq_true rfl⟩ dX7_chance_30) hS (fun r41 ρ42 H locs q43 hP hS => ?_)
  obtain ⟨rfl, hI, q43⟩ := q43
  obtain rfl : r41 = nI (104 + 326 * na1 + 66 * na2) := q43.trans (congrArg nI (by omega))
  refine lv_iconst (v := 1) hx hb dX7_chance_33 (by decide) ?_
  refine lv_iadd hx hb dX7_chance_34 ?_
  refine lv_topi (fun z44 ez44 => ?_)
  obtain rfl : z44 = (nI (105 + 326 * na1 + 66 * na2)) := ez44.trans (by rw [show (nI (104 + 326 * na1 + 66 * na2)) = nI (104 + 326 * na1 + 66 * na2) from rfl, show 1 = nI 1 from rfl, nI_add] <;> exact congrArg nI (by omega))
  refine aldn (n := 695) (j := (105 + 326 * na1 + 66 * na2)) B hP (show hk 1078 = 8 by decide +kernel) (show hlen 1078 = 695 by decide +kernel) rfl (by omega) (by decide) dX7_chance_35 ?_
  have i45 : iR (ρ 1078 (105 + 326 * na1 + 66 * na2)) (1) (8388607) := g_itsmap (n0 := na1) (l0 := na2) (j := (105 + 326 * na1 + 66 * na2)) hI (by omega) (by omega) (by omega)
  obtain ⟨j46, lj46, uj46, ej46⟩ := iR_nat (a := 1) (b := 8388607) i45
  refine lv_topi (fun z47 ez47 => ?_)
  obtain rfl : z47 = nI j46 := ez47.trans ej46
  refine call_i (cVt (k := 1076) (av := [.int (nI na1), .int a3, .int (nI j46)]) (rest := [.int (nI j39)]) B hP hS (d_X7_hopOf l E ρ r Bt hBt M L X na1 (by omega) (by omega) a3 j46 (by omega) (by omega) hI) lk_RX7_114 (hrecv (ci := 7) B hP (hk_lt (c := 7) (show hk 1076 = 7 by decide +kernel) (by decide)) (hcc7 _ _ (show hk 1076 = 7 by decide +kernel)) rfl) rfl rfl hl.1 (Nat.le_of_ble_eq_true rfl) ⟨Nat.le_of_ble_eq_true rfl, Nat.le_of_ble_eq_true rfl⟩ ⟨Nat.le_of_ble_eq_true rfl, Nat.le_of_ble_eq_true rfl⟩ dX7_chance_36) hS (fun r48 ρ49 H locs q50 hP hS => ?_)
  obtain ⟨rfl, hI, q50⟩ := q50
  obtain ⟨j51, lj51, uj51, ej51⟩ := iR_nat (a := 0) (b := 22) q50
  refine lv_topi (fun z52 ez52 => ?_)
  obtain rfl : z52 = nI j51 := ez52.trans ej51
  refine lv_icmp_ne (tgt := 58) hx hb dX7_chance_39 (by decide) (fun c53 => ?_) (fun c53 => ?_)
  · skip
    have n54 := mt (nI_eq (a := j39) (b := j51) (by omega) (by omega)).mpr (show ¬ (nI j39 = nI j51) from c53)
    refine lv_iconst (v := 0) hx hb dX7_chance_58 (by decide) ?_
    exact ret_i B hr hlk hP hS dX7_chance_59 (⟨rfl, hI⟩)
  · skip
    have n55 := (nI_eq (a := j39) (b := j51) (by omega) (by omega)).mp (show (nI j39 = nI j51) from c53)
    refine lv_bipush (v := 16) hx hb dX7_chance_42 (by decide) ?_
    refine lv_aload_n hx hb dX7_chance_44 rfl (lv_at hl 1 rfl) ?_
    refine get7 B hP (show hk 1076 = 7 by decide +kernel) 3 (by decide) mw_1030 rfl dX7_chance_45 ?_
    refine lv_bipush (v := 19) hx hb dX7_chance_48 (by decide) ?_
    refine lv_iload hx hb dX7_chance_50 (lv_at hl 0 rfl) ?_
    refine lv_iadd hx hb dX7_chance_52 ?_
    refine lv_topi (fun z56 ez56 => ?_)
    obtain rfl : z56 = (nI (19 + j39)) := ez56.trans (by rw [show 19 = nI 19 from rfl, show (nI j39) = nI j39 from rfl, nI_add] <;> exact congrArg nI (by omega))
    refine aldn (n := 695) (j := (19 + j39)) B hP (show hk 1078 = 8 by decide +kernel) (show hlen 1078 = 695 by decide +kernel) rfl (by omega) (by decide) dX7_chance_53 ?_
    refine lv_isub hx hb dX7_chance_54 ?_
    refine lv_goto (tgt := 59) hx hb dX7_chance_55 (by decide) ?_
    exact ret_i B hr hlk hP hS dX7_chance_59 (⟨rfl, hI⟩)

set_option maxHeartbeats 4000000 in
set_option maxRecDepth 100000 in
theorem d_X7_clashesBy (l : Launch) (E : hE) (ρ r : Nat → Nat → Int32) (Bt : Nat) (hBt : Bt ≤ 1000000) (M : Nat → Int32) (L : Nat → Nat) (X : Nat × Nat → Prop) (na1 : Nat) (lna1 : 0 ≤ na1) (una1 : na1 ≤ 512) (hI : RI r Bt M L X ρ) (hm0 : iR (M 0) 0 5) (hm1 : iR (M 1) 0 5) : Met l yX7_clashesBy (.code yX7_clashesBy cX7_clashesBy 5 (some .int) :: gw_all) (rmk 3 120) (cPre E ρ [.ref (E.2.1 + 1076), .int (nI na1)]) (cI E (fun v ρ1 => ρ = ρ1 ∧ RI r Bt M L X ρ1)) 0 0 (hA E) := by
  refine ent (own := RX7) (by decide) rfl (Nat.le_of_ble_eq_true rfl) ?_
  intro p e s m below meth c ls B hr hlk hl hP hS
  have hx := B.1.1
  have hb := B.1.2.1
  have hown := B.1.2.2.2.1
  have hts := B.1.2.2.2.2
  have hl : lv_has ls 5 [(0, .ref (E.2.1 + 1076)), (1, .int (nI na1))] := hl
  have b4_0 : ∀ (ls : Array Slot) (H : Heap) (locs : List Loc) (d4 : Nat) (x4_2 : Int32) (j4_3 : Nat), lv_has ls 5 [(0, .ref (E.2.1 + 1076)), (1, .int (nI na1)), (2, .int x4_2), (3, .int (nI j4_3))] → WP E ρ H → va_S (hA E) s.heap H locs → 513 - j4_3 < d4 → iR x4_2 (-2147483648) (2147483647) → 0 ≤ j4_3 → j4_3 ≤ 512 → iR (M 0) (0) (5) → iR (M 1) (0) (5) → 0 ≤ na1 → na1 ≤ 512 → W p l e (rmk 3 120) s m ([.ref (E.2.1 + 1076), .int (nI na1)] : List Value).toArray below meth c H locs 0 0 (MQ below (cI E (fun v ρ1 => ρ = ρ1 ∧ RI r Bt M L X ρ1)) ([.ref (E.2.1 + 1076), .int (nI na1)] : List Value).toArray s 0 0 (hA E)) (F0 m 4 ls []) := by
    intro ls H locs d4
    induction d4 generalizing ls H locs with
    | zero => intro x4_2 j4_3 hl hP hS hd4 hx4_2 lj4_3 uj4_3 f_M_0_ f_M_1_ tlna1 tuna1; exact absurd hd4 (Nat.not_lt_zero _)
    | succ d4 ih4 =>
      intro x4_2 j4_3 hl hP hS hd4 hx4_2 lj4_3 uj4_3 f_M_0_ f_M_1_ tlna1 tuna1
      have b65_0 : ∀ (ls : Array Slot) (H : Heap) (locs : List Loc) , lv_has ls 5 [(0, .ref (E.2.1 + 1076)), (1, .int (nI na1)), (3, .int (nI j4_3))] → WP E ρ H → va_S (hA E) s.heap H locs → iR (M 0) (0) (5) → iR (M 1) (0) (5) → iR (ρ 1078 370) (1) (8388607) → iR (ρ 1078 44) (1) (8388607) → iR (ρ 1078 7) (0) (1000000) → 0 ≤ j4_3 → j4_3 ≤ 511 → 1 ≤ na1 → na1 ≤ 512 → W p l e (rmk 3 120) s m ([.ref (E.2.1 + 1076), .int (nI na1)] : List Value).toArray below meth c H locs 0 0 (MQ below (cI E (fun v ρ1 => ρ = ρ1 ∧ RI r Bt M L X ρ1)) ([.ref (E.2.1 + 1076), .int (nI na1)] : List Value).toArray s 0 0 (hA E)) (F0 m 65 ls [.int 0, .int x4_2]) := by
        intro ls H locs  hl hP hS f_M_0_ f_M_1_ f_ρ_1078_370_ f_ρ_1078_44_ f_ρ_1078_7_ tlj4_3 tuj4_3 tlna1 tuna1
        refine lv_iadd hx hb dX7_clashesBy_65 ?_
        refine lv_istore_n (lv' := [(2, .int (x4_2 + 0)), (0, .ref (E.2.1 + 1076)), (1, .int (nI na1)), (3, .int (nI j4_3))]) hx hb dX7_clashesBy_66 rfl hl (by decide) rfl (fun ls hl => ?_)
        refine lv_iinc (v := (nI (1 + j4_3))) (lv' := [(3, .int (nI (1 + j4_3))), (2, .int (x4_2 + 0)), (0, .ref (E.2.1 + 1076)), (1, .int (nI na1))]) hx hb dX7_clashesBy_67 hl (k := 3) rfl (show nI j4_3 + nI 1 = _ from (nI_add _ _).trans (congrArg nI (by omega))) (by decide) rfl (fun ls hl => ?_)
        refine lv_goto (tgt := 4) hx hb dX7_clashesBy_70 (by decide) ?_
        exact ih4 ls _ _ ((x4_2 + 0) : Int32) (1 + j4_3) (lv_sub hl [2, 3, 1, 0] rfl) hP hS (by omega) (iR_w (iR_add (a' := -2147483648) (b' := 2147483647) hx4_2 (show iR 0 (0) (0) from ⟨by decide, by decide⟩) (by decide) (by decide) (by decide) (by decide)) (by decide) (by decide)) (by omega) (by omega) (iR_w f_M_0_ (by decide) (by decide)) (iR_w f_M_1_ (by decide) (by decide)) (by omega) (by omega)
      have b65_1 : ∀ (ls : Array Slot) (H : Heap) (locs : List Loc) , lv_has ls 5 [(0, .ref (E.2.1 + 1076)), (1, .int (nI na1)), (3, .int (nI j4_3))] → WP E ρ H → va_S (hA E) s.heap H locs → iR (M 0) (0) (5) → iR (M 1) (0) (5) → iR (ρ 1078 370) (1) (8388607) → iR (ρ 1078 44) (1) (8388607) → iR (ρ 1078 7) (0) (1000000) → 0 ≤ j4_3 → j4_3 ≤ 511 → 1 ≤ na1 → na1 ≤ 512 → W p l e (rmk 3 120) s m ([.ref (E.2.1 + 1076), .int (nI na1)] : List Value).toArray below meth c H locs 0 0 (MQ below (cI E (fun v ρ1 => ρ = ρ1 ∧ RI r Bt M L X ρ1)) ([.ref (E.2.1 + 1076), .int (nI na1)] : List Value).toArray s 0 0 (hA E)) (F0 m 65 ls [.int 1, .int x4_2]) := by
        intro ls H locs  hl hP hS f_M_0_ f_M_1_ f_ρ_1078_370_ f_ρ_1078_44_ f_ρ_1078_7_ tlj4_3 tuj4_3 tlna1 tuna1
        refine lv_iadd hx hb dX7_clashesBy_65 ?_
        refine lv_istore_n (lv' := [(2, .int (x4_2 + 1)), (0, .ref (E.2.1 + 1076)), (1, .int (nI na1)), (3, .int (nI j4_3))]) hx hb dX7_clashesBy_66 rfl hl (by decide) rfl (fun ls hl => ?_)
        refine lv_iinc (v := (nI (1 + j4_3))) (lv' := [(3, .int (nI (1 + j4_3))), (2, .int (x4_2 + 1)), (0, .ref (E.2.1 + 1076)), (1, .int (nI na1))]) hx hb dX7_clashesBy_67 hl (k := 3) rfl (show nI j4_3 + nI 1 = _ from (nI_add _ _).trans (congrArg nI (by omega))) (by decide) rfl (fun ls hl => ?_)
        refine lv_goto (tgt := 4) hx hb dX7_clashesBy_70 (by decide) ?_
        exact ih4 ls _ _ ((x4_2 + 1) : Int32) (1 + j4_3) (lv_sub hl [2, 3, 1, 0] rfl) hP hS (by omega) (iR_w (iR_any (x4_2 + 1)) (by decide) (by decide)) (by omega) (by omega) (iR_w f_M_0_ (by decide) (by decide)) (iR_w f_M_1_ (by decide) (by decide)) (by omega) (by omega)
      refine lv_iload_n hx hb dX7_clashesBy_4 rfl (lv_at hl 3 rfl) ?_
      refine lv_iload_n hx hb dX7_clashesBy_5 rfl (lv_at hl 1 rfl) ?_
      refine lv_icmp_ge (tgt := 73) hx hb dX7_clashesBy_6 (by decide) (fun c1816 => ?_) (fun c1816 => ?_)
      · skip
        have n1817 := mt (nx_lt (a := j4_3) (b := na1) (by omega) (by omega)).mpr (show ¬ (nI j4_3 < nI na1) from (Int32.not_lt.mpr c1816))
        refine lv_iload_n hx hb dX7_clashesBy_73 rfl (lv_at hl 2 rfl) ?_
        exact ret_i B hr hlk hP hS dX7_clashesBy_74 (⟨rfl, hI⟩)
      · skip
        have n1818 := (nx_lt (a := j4_3) (b := na1) (by omega) (by omega)).mp (show (nI j4_3 < nI na1) from (Int32.not_le.mp c1816))
        refine lv_aload_n hx hb dX7_clashesBy_9 rfl (lv_at hl 0 rfl) ?_
        refine get7 B hP (show hk 1076 = 7 by decide +kernel) 3 (by decide) mw_1030 rfl dX7_clashesBy_10 ?_
        refine lv_bipush (v := 7) hx hb dX7_clashesBy_13 (by decide) ?_
        refine aldn (n := 695) (j := 7) B hP (show hk 1078 = 8 by decide +kernel) (show hlen 1078 = 695 by decide +kernel) rfl (by omega) (by decide) dX7_clashesBy_15 ?_
        have i1819 : iR (ρ 1078 7) (0) (1000000) := (iR_w (g_time hI) (by omega) (by omega))
        obtain ⟨j1820, lj1820, uj1820, ej1820⟩ := iR_nat (a := 0) (b := 1000000) i1819
        refine lv_topi (fun z1821 ez1821 => ?_)
        obtain rfl : z1821 = nI j1820 := ez1821.trans ej1820
        refine lv_iload_n hx hb dX7_clashesBy_16 rfl (lv_at hl 3 rfl) ?_
        refine lv_iadd hx hb dX7_clashesBy_17 ?_
        refine lv_topi (fun z1822 ez1822 => ?_)
        obtain rfl : z1822 = (nI (j1820 + j4_3)) := ez1822.trans (by rw [show (nI j1820) = nI j1820 from rfl, show (nI j4_3) = nI j4_3 from rfl, nI_add] <;> exact congrArg nI (by omega))
        refine lv_istore (lv' := [(4, .int (nI (j1820 + j4_3))), (0, .ref (E.2.1 + 1076)), (1, .int (nI na1)), (2, .int x4_2), (3, .int (nI j4_3))]) hx hb dX7_clashesBy_18 hl (by decide) rfl (fun ls hl => ?_)
        refine lv_iload_n hx hb dX7_clashesBy_20 rfl (lv_at hl 3 rfl) ?_
        refine lv_aload_n hx hb dX7_clashesBy_21 rfl (lv_at hl 1 rfl) ?_
        refine lv_iconst (v := 0) hx hb dX7_clashesBy_22 (by decide) ?_
        refine lv_iload hx hb dX7_clashesBy_23 (lv_at hl 0 rfl) ?_
        refine lv_aload_n hx hb dX7_clashesBy_25 rfl (lv_at hl 1 rfl) ?_
        refine get7 B hP (show hk 1076 = 7 by decide +kernel) 3 (by decide) mw_1030 rfl dX7_clashesBy_26 ?_
        refine lv_iconst (v := 0) hx hb dX7_clashesBy_29 (by decide) ?_
        refine call_i (cS (av := [.int 0]) (rest := [.ref (E.2.1 + 1078), .int (nI (j1820 + j4_3)), .int 0, .ref (E.2.1 + 1076), .int x4_2]) B hP hS (d_X7_netAt l E ρ r Bt hBt M L X 0 (by omega) (by omega) hI) lk_RX7_75 rfl rfl hl.1 (Nat.le_of_ble_eq_true rfl) ⟨Nat.le_of_ble_eq_true rfl, Nat.le_of_ble_eq_true rfl⟩ ⟨Nat.le_of_ble_eq_true rfl, Nat.le_of_ble_eq_true rfl⟩ dX7_clashesBy_30) hS (fun r1823 ρ1824 H locs q1825 hP hS => ?_)
        obtain ⟨rfl, hI, q1825⟩ := q1825
        obtain rfl : r1823 = nI 42 := q1825.trans (congrArg nI (by omega))
        refine lv_iconst (v := 2) hx hb dX7_clashesBy_33 (by decide) ?_
        refine lv_iadd hx hb dX7_clashesBy_34 ?_
        refine lv_topi (fun z1826 ez1826 => ?_)
        obtain rfl : z1826 = 44 := ez1826.trans (by decide)
        refine aldn (n := 695) (j := 44) B hP (show hk 1078 = 8 by decide +kernel) (show hlen 1078 = 695 by decide +kernel) rfl (by omega) (by decide) dX7_clashesBy_35 ?_
        have i1827 : iR (ρ 1078 44) (1) (8388607) := g_map (n0 := 0) (j := 44) hI (by omega) f_M_0_ (by omega)
        obtain ⟨j1828, lj1828, uj1828, ej1828⟩ := iR_nat (a := 1) (b := 8388607) i1827
        refine lv_topi (fun z1829 ez1829 => ?_)
        obtain rfl : z1829 = nI j1828 := ez1829.trans ej1828
        refine call_i (cVt (k := 1076) (av := [.int 0, .int (nI (j1820 + j4_3)), .int (nI j1828)]) (rest := [.int x4_2]) B hP hS (d_X7_hopOf l E ρ r Bt hBt M L X 0 (by omega) (by omega) (nI (j1820 + j4_3)) j1828 (by omega) (by omega) hI) lk_RX7_114 (hrecv (ci := 7) B hP (hk_lt (c := 7) (show hk 1076 = 7 by decide +kernel) (by decide)) (hcc7 _ _ (show hk 1076 = 7 by decide +kernel)) rfl) rfl rfl hl.1 (Nat.le_of_ble_eq_true rfl) ⟨Nat.le_of_ble_eq_true rfl, Nat.le_of_ble_eq_true rfl⟩ ⟨Nat.le_of_ble_eq_true rfl, Nat.le_of_ble_eq_true rfl⟩ dX7_clashesBy_36) hS (fun r1830 ρ1831 H locs q1832 hP hS => ?_)
        obtain ⟨rfl, hI, q1832⟩ := q1832
        obtain ⟨j1833, lj1833, uj1833, ej1833⟩ := iR_nat (a := 0) (b := 22) q1832
        refine lv_topi (fun z1834 ez1834 => ?_)
        obtain rfl : z1834 = nI j1833 := ez1834.trans ej1833
        refine lv_aload_n hx hb dX7_clashesBy_39 rfl (lv_at hl 1 rfl) ?_
        refine lv_iconst (v := 1) hx hb dX7_clashesBy_40 (by decide) ?_
        refine lv_iload hx hb dX7_clashesBy_41 (lv_at hl 0 rfl) ?_
        refine lv_aload_n hx hb dX7_clashesBy_43 rfl (lv_at hl 1 rfl) ?_
        refine get7 B hP (show hk 1076 = 7 by decide +kernel) 3 (by decide) mw_1030 rfl dX7_clashesBy_44 ?_
        refine lv_iconst (v := 1) hx hb dX7_clashesBy_47 (by decide) ?_
        refine call_i (cS (av := [.int 1]) (rest := [.ref (E.2.1 + 1078), .int (nI (j1820 + j4_3)), .int 1, .ref (E.2.1 + 1076), .int (nI j1833), .int x4_2]) B hP hS (d_X7_netAt l E ρ r Bt hBt M L X 1 (by omega) (by omega) hI) lk_RX7_75 rfl rfl hl.1 (Nat.le_of_ble_eq_true rfl) ⟨Nat.le_of_ble_eq_true rfl, Nat.le_of_ble_eq_true rfl⟩ ⟨Nat.le_of_ble_eq_true rfl, Nat.le_of_ble_eq_true rfl⟩ dX7_clashesBy_48) hS (fun r1835 ρ1836 H locs q1837 hP hS => ?_)
        obtain ⟨rfl, hI, q1837⟩ := q1837
        obtain rfl : r1835 = nI 368 := q1837.trans (congrArg nI (by omega))
        refine lv_iconst (v := 2) hx hb dX7_clashesBy_51 (by decide) ?_
        refine lv_iadd hx hb dX7_clashesBy_52 ?_
        refine lv_topi (fun z1838 ez1838 => ?_)
        obtain rfl : z1838 = 370 := ez1838.trans (by decide)
        refine aldn (n := 695) (j := 370) B hP (show hk 1078 = 8 by decide +kernel) (show hlen 1078 = 695 by decide +kernel) rfl (by omega) (by decide) dX7_clashesBy_53 ?_
        have i1839 : iR (ρ 1078 370) (1) (8388607) := g_map (n0 := 1) (j := 370) hI (by omega) f_M_1_ (by omega)
        obtain ⟨j1840, lj1840, uj1840, ej1840⟩ := iR_nat (a := 1) (b := 8388607) i1839
        refine lv_topi (fun z1841 ez1841 => ?_)
        obtain rfl : z1841 = nI j1840 := ez1841.trans ej1840
        refine call_i (cVt (k := 1076) (av := [.int 1, .int (nI (j1820 + j4_3)), .int (nI j1840)]) (rest := [.int (nI j1833), .int x4_2]) B hP hS (d_X7_hopOf l E ρ r Bt hBt M L X 1 (by omega) (by omega) (nI (j1820 + j4_3)) j1840 (by omega) (by omega) hI) lk_RX7_114 (hrecv (ci := 7) B hP (hk_lt (c := 7) (show hk 1076 = 7 by decide +kernel) (by decide)) (hcc7 _ _ (show hk 1076 = 7 by decide +kernel)) rfl) rfl rfl hl.1 (Nat.le_of_ble_eq_true rfl) ⟨Nat.le_of_ble_eq_true rfl, Nat.le_of_ble_eq_true rfl⟩ ⟨Nat.le_of_ble_eq_true rfl, Nat.le_of_ble_eq_true rfl⟩ dX7_clashesBy_54) hS (fun r1842 ρ1843 H locs q1844 hP hS => ?_)
        obtain ⟨rfl, hI, q1844⟩ := q1844
        obtain ⟨j1845, lj1845, uj1845, ej1845⟩ := iR_nat (a := 0) (b := 22) q1844
        refine lv_topi (fun z1846 ez1846 => ?_)
        obtain rfl : z1846 = nI j1845 := ez1846.trans ej1845
        refine lv_icmp_ne (tgt := 64) hx hb dX7_clashesBy_57 (by decide) (fun c1847 => ?_) (fun c1847 => ?_)
        · skip
          have n1848 := mt (nI_eq (a := j1833) (b := j1845) (by omega) (by omega)).mpr (show ¬ (nI j1833 = nI j1845) from c1847)
          refine lv_iconst (v := 0) hx hb dX7_clashesBy_64 (by decide) ?_
          exact b65_0 ls _ _  (lv_sub hl [1, 2, 4] rfl) hP hS (iR_w f_M_0_ (by decide) (by decide)) (iR_w f_M_1_ (by decide) (by decide)) (iR_w i1839 (by decide) (by decide)) (iR_w i1827 (by decide) (by decide)) (iR_w i1819 (by decide) (by decide)) (by omega) (by omega) (by omega) (by omega)
        · skip
          have n1849 := (nI_eq (a := j1833) (b := j1845) (by omega) (by omega)).mp (show (nI j1833 = nI j1845) from c1847)
          refine lv_iconst (v := 1) hx hb dX7_clashesBy_60 (by decide) ?_
          refine lv_goto (tgt := 65) hx hb dX7_clashesBy_61 (by decide) ?_
          exact b65_1 ls _ _  (lv_sub hl [1, 2, 4] rfl) hP hS (iR_w f_M_0_ (by decide) (by decide)) (iR_w f_M_1_ (by decide) (by decide)) (iR_w i1839 (by decide) (by decide)) (iR_w i1827 (by decide) (by decide)) (iR_w i1819 (by decide) (by decide)) (by omega) (by omega) (by omega) (by omega)
  refine lv_iconst (v := 0) hx hb dX7_clashesBy_0 (by decide) ?_
  refine lv_istore_n (lv' := [(2, .int 0), (0, .ref (E.2.1 + 1076)), (1, .int (nI na1))]) hx hb dX7_clashesBy_1 rfl hl (by decide) rfl (fun ls hl => ?_)
  refine lv_iconst (v := 0) hx hb dX7_clashesBy_2 (by decide) ?_
  refine lv_istore_n (lv' := [(3, .int 0), (2, .int 0), (0, .ref (E.2.1 + 1076)), (1, .int (nI na1))]) hx hb dX7_clashesBy_3 rfl hl (by decide) rfl (fun ls hl => ?_)
  exact b4_0 ls _ _ _ (0 : Int32) 0 (lv_sub hl [2, 3, 1, 0] rfl) hP hS (Nat.lt_succ_self _) (iR_w (show iR 0 (0) (0) from ⟨by decide, by decide⟩) (by decide) (by decide)) (by omega) (by omega) (iR_w hm0 (by decide) (by decide)) (iR_w hm1 (by decide) (by decide)) (by omega) (by omega)

set_option maxHeartbeats 4000000 in
set_option maxRecDepth 100000 in
theorem d_X7_areBoth (l : Launch) (E : hE) (ρ r : Nat → Nat → Int32) (Bt : Nat) (hBt : Bt ≤ 1000000) (M : Nat → Int32) (L : Nat → Nat) (X : Nat × Nat → Prop) (a1 : Int32) (hI : RI r Bt M L X ρ) : Met l yX7_areBoth (.code yX7_areBoth cX7_areBoth 2 (some .boolean) :: gw_all) (rmk 3 120) (cPre E ρ [.ref (E.2.1 + 1076), .int a1]) (cI E (fun v ρ1 => ρ = ρ1 ∧ RI r Bt M L X ρ1 ∧ (v = 0 ∨ v = 1 ∧ iR (M 0) 0 5 ∧ iR (M 1) 0 5 ∧ iR a1 1 512))) 0 0 (hA E) := by
  refine ent (own := RX7) (by decide) rfl (Nat.le_of_ble_eq_true rfl) ?_
  intro p e s m below meth c ls B hr hlk hl hP hS
  have hx := B.1.1
  have hb := B.1.2.1
  have hown := B.1.2.2.2.1
  have hts := B.1.2.2.2.2
  have hl : lv_has ls 2 [(0, .ref (E.2.1 + 1076)), (1, .int a1)] := hl
  refine lv_aload_n hx hb dX7_areBoth_0 rfl (lv_at hl 0 rfl) ?_
  refine lv_iconst (v := 0) hx hb dX7_areBoth_1 (by decide) ?_
  refine call_i (cVt (k := 1076) (av := [.int 0]) (rest := []) B hP hS (d_X7_isNet l E ρ r Bt hBt M L X 0 hI) lk_RX7_78 (hrecv (ci := 7) B hP (hk_lt (c := 7) (show hk 1076 = 7 by decide +kernel) (by decide)) (hcc7 _ _ (show hk 1076 = 7 by decide +kernel)) rfl) rfl rfl hl.1 (Nat.le_of_ble_eq_true rfl) ⟨Nat.le_of_ble_eq_true rfl, Nat.le_of_ble_eq_true rfl⟩ ⟨Nat.le_of_ble_eq_true rfl, Nat.le_of_ble_eq_true rfl⟩ dX7_areBoth_2) hS (fun r25 ρ26 H locs q27 hP hS => ?_)
  obtain ⟨rfl, hI, q27⟩ := q27
  rcases q27 with rfl | ⟨rfl, j28, hj28, ej28, i29⟩
  · skip
    refine lv_if_eq (tgt := 32) hx hb dX7_areBoth_5 (by decide) (fun _ => ?_) (fun c30 => absurd rfl c30)
    refine lv_iconst (v := 0) hx hb dX7_areBoth_32 (by decide) ?_
    exact ret_z B hr hlk hP hS dX7_areBoth_33 (Or.inl rfl) (⟨rfl, hI, (Or.inl rfl)⟩)
  · skip
    have n31 : 0 = j28 := (nI_eq (by omega) (by omega)).mp (show nI 0 = nI j28 from ej28)
    have i32 : iR (M 0) 0 5 := by rw [n31]; exact i29
    refine lv_if_eq (tgt := 32) hx hb dX7_areBoth_5 (by decide) (fun c33 => absurd c33 (iR_ne (show iR 1 (1) (1) from ⟨by decide, by decide⟩) (show iR 0 (0) (0) from ⟨by decide, by decide⟩) (by decide))) (fun _ => ?_)
    refine lv_aload_n hx hb dX7_areBoth_8 rfl (lv_at hl 0 rfl) ?_
    refine lv_iconst (v := 1) hx hb dX7_areBoth_9 (by decide) ?_
    refine call_i (cVt (k := 1076) (av := [.int 1]) (rest := []) B hP hS (d_X7_isNet l E ρ r Bt hBt M L X 1 hI) lk_RX7_78 (hrecv (ci := 7) B hP (hk_lt (c := 7) (show hk 1076 = 7 by decide +kernel) (by decide)) (hcc7 _ _ (show hk 1076 = 7 by decide +kernel)) rfl) rfl rfl hl.1 (Nat.le_of_ble_eq_true rfl) ⟨Nat.le_of_ble_eq_true rfl, Nat.le_of_ble_eq_true rfl⟩ ⟨Nat.le_of_ble_eq_true rfl, Nat.le_of_ble_eq_true rfl⟩ dX7_areBoth_10) hS (fun r34 ρ35 H locs q36 hP hS => ?_)
    obtain ⟨rfl, hI, q36⟩ := q36
    rcases q36 with rfl | ⟨rfl, j37, hj37, ej37, i38⟩
    · skip
      refine lv_if_eq (tgt := 32) hx hb dX7_areBoth_13 (by decide) (fun _ => ?_) (fun c39 => absurd rfl c39)
      refine lv_iconst (v := 0) hx hb dX7_areBoth_32 (by decide) ?_
      exact ret_z B hr hlk hP hS dX7_areBoth_33 (Or.inl rfl) (⟨rfl, hI, (Or.inl rfl)⟩)
    · skip
      have n40 : 1 = j37 := (nI_eq (by omega) (by omega)).mp (show nI 1 = nI j37 from ej37)
      have i41 : iR (M 1) 0 5 := by rw [n40]; exact i38
      refine lv_if_eq (tgt := 32) hx hb dX7_areBoth_13 (by decide) (fun c42 => absurd c42 (iR_ne (show iR 1 (1) (1) from ⟨by decide, by decide⟩) (show iR 0 (0) (0) from ⟨by decide, by decide⟩) (by decide))) (fun _ => ?_)
      refine lv_iload_n hx hb dX7_areBoth_16 rfl (lv_at hl 1 rfl) ?_
      refine lv_i2l hx hb dX7_areBoth_17 rfl ?_
      refine lv_lconst (v := 1) hx hb dX7_areBoth_18 (by decide) ?_
      refine lv_ldc2 (v := 512) hx hb hown (hts _ mw_1352) dX7_areBoth_19 ?_
      refine call_i (cS (av := [.long a1.toInt64, .long 1, .long 512]) (rest := []) B hP hS (c_in l E ρ a1.toInt64 1 512 1 512 (by decide) (by decide)) lk_RX7_71 rfl rfl hl.1 (Nat.le_of_ble_eq_true rfl) ⟨Nat.le_of_ble_eq_true rfl, Nat.le_of_ble_eq_true rfl⟩ ⟨Nat.le_of_ble_eq_true rfl, Nat.le_of_ble_eq_true rfl⟩ dX7_areBoth_22) hS (fun r43 ρ44 H locs q45 hP hS => ?_)
      obtain ⟨rfl, q45⟩ := q45
      rcases q45 with ⟨rfl, q45⟩ | ⟨rfl, q45⟩
      · skip
        have i46 : iR a1 1 512 := (lR_i _ _ _).mp q45
        refine lv_if_eq (tgt := 32) hx hb dX7_areBoth_25 (by decide) (fun c47 => absurd c47 (iR_ne (show iR 1 (1) (1) from ⟨by decide, by decide⟩) (show iR 0 (0) (0) from ⟨by decide, by decide⟩) (by decide))) (fun _ => ?_)
        refine lv_iconst (v := 1) hx hb dX7_areBoth_28 (by decide) ?_
        refine lv_goto (tgt := 33) hx hb dX7_areBoth_29 (by decide) ?_
        exact ret_z B hr hlk hP hS dX7_areBoth_33 (Or.inr rfl) (⟨rfl, hI, (Or.inr ⟨rfl, ⟨i32, i41, (iR_w (a := 1) (b := 512) i46 (by decide) (by decide))⟩⟩)⟩)
      · skip
        refine lv_if_eq (tgt := 32) hx hb dX7_areBoth_25 (by decide) (fun _ => ?_) (fun c48 => absurd rfl c48)
        refine lv_iconst (v := 0) hx hb dX7_areBoth_32 (by decide) ?_
        exact ret_z B hr hlk hP hS dX7_areBoth_33 (Or.inl rfl) (⟨rfl, hI, (Or.inl rfl)⟩)

set_option maxHeartbeats 4000000 in
set_option maxRecDepth 100000 in
theorem d_X7_comesAt (l : Launch) (E : hE) (ρ r : Nat → Nat → Int32) (Bt : Nat) (hBt : Bt ≤ 1000000) (M : Nat → Int32) (L : Nat → Nat) (X : Nat × Nat → Prop) (gn : Nat) (ugn : gn ≤ 1) (gl : Nat) (ugl : gl ≤ 3) (a2 : Int32) (hI : RI r Bt M L X ρ) : Met l yX7_comesAt (.code yX7_comesAt cX7_comesAt 3 (some .boolean) :: gw_all) (rmk 1 40) (cPre E ρ [.ref (E.2.1 + 1076), .int (nI (104 + 326 * gn + 66 * gl)), .int a2]) (cI E (fun v ρ1 => ρ = ρ1 ∧ RI r Bt M L X ρ1 ∧ iR v (0) (1))) 0 0 (hA E) := by
  refine ent (own := RX7) (by decide) rfl (Nat.le_of_ble_eq_true rfl) ?_
  intro p e s m below meth c ls B hr hlk hl hP hS
  have hx := B.1.1
  have hb := B.1.2.1
  have hown := B.1.2.2.2.1
  have hts := B.1.2.2.2.2
  have hl : lv_has ls 3 [(0, .ref (E.2.1 + 1076)), (1, .int (nI (104 + 326 * gn + 66 * gl))), (2, .int a2)] := hl
  refine lv_aload_n hx hb dX7_comesAt_0 rfl (lv_at hl 0 rfl) ?_
  refine get7 B hP (show hk 1076 = 7 by decide +kernel) 3 (by decide) mw_1030 rfl dX7_comesAt_1 ?_
  refine lv_iload_n hx hb dX7_comesAt_4 rfl (lv_at hl 1 rfl) ?_
  refine lv_bipush (v := 31) hx hb dX7_comesAt_5 (by decide) ?_
  refine lv_iadd hx hb dX7_comesAt_7 ?_
  refine lv_topi (fun z8 ez8 => ?_)
  obtain rfl : z8 = (nI (135 + 326 * gn + 66 * gl)) := ez8.trans (by rw [show (nI (104 + 326 * gn + 66 * gl)) = nI (104 + 326 * gn + 66 * gl) from rfl, show 31 = nI 31 from rfl, nI_add] <;> exact congrArg nI (by omega))
  refine aldn (n := 695) (j := (135 + 326 * gn + 66 * gl)) B hP (show hk 1078 = 8 by decide +kernel) (show hlen 1078 = 695 by decide +kernel) rfl (by omega) (by decide) dX7_comesAt_8 ?_
  refine lv_if_le (tgt := 39) hx hb dX7_comesAt_9 (by decide) (fun c9 => ?_) (fun c9 => ?_)
  · skip
    have i10 : iR (ρ 1078 (135 + 326 * gn + 66 * gl)) (-2147483648) (0) := (iR_geR (show iR 0 (0) (0) from ⟨by decide, by decide⟩) (iR_any (ρ 1078 (135 + 326 * gn + 66 * gl))) (Int32.not_lt.mpr c9) (by decide))
    refine lv_iconst (v := 0) hx hb dX7_comesAt_39 (by decide) ?_
    exact ret_z B hr hlk hP hS dX7_comesAt_40 (Or.inl rfl) (⟨rfl, hI, (iR_w (a := 0) (b := 0) (show iR 0 (0) (0) from ⟨by decide, by decide⟩) (by decide) (by decide))⟩)
  · skip
    have i11 : iR (ρ 1078 (135 + 326 * gn + 66 * gl)) (1) (2147483647) := (iR_ltR (show iR 0 (0) (0) from ⟨by decide, by decide⟩) (iR_any (ρ 1078 (135 + 326 * gn + 66 * gl))) (Int32.not_le.mp c9) (by decide))
    refine lv_iload_n hx hb dX7_comesAt_12 rfl (lv_at hl 2 rfl) ?_
    refine lv_aload_n hx hb dX7_comesAt_13 rfl (lv_at hl 0 rfl) ?_
    refine get7 B hP (show hk 1076 = 7 by decide +kernel) 3 (by decide) mw_1030 rfl dX7_comesAt_14 ?_
    refine lv_iload_n hx hb dX7_comesAt_17 rfl (lv_at hl 1 rfl) ?_
    refine lv_bipush (v := 31) hx hb dX7_comesAt_18 (by decide) ?_
    refine lv_iadd hx hb dX7_comesAt_20 ?_
    refine lv_topi (fun z12 ez12 => ?_)
    obtain rfl : z12 = (nI (135 + 326 * gn + 66 * gl)) := ez12.trans (by rw [show (nI (104 + 326 * gn + 66 * gl)) = nI (104 + 326 * gn + 66 * gl) from rfl, show 31 = nI 31 from rfl, nI_add] <;> exact congrArg nI (by omega))
    refine aldf (n := 695) (j := (135 + 326 * gn + 66 * gl)) (v := (ρ 1078 (135 + 326 * gn + 66 * gl))) B hP (show hk 1078 = 8 by decide +kernel) (show hlen 1078 = 695 by decide +kernel) rfl (by omega) (by decide) rfl dX7_comesAt_21 ?_
    refine lv_irem hx hb dX7_comesAt_22 (iR_ne i11 (show iR 0 0 0 from ⟨by decide, by decide⟩) (by decide)) ?_
    refine lv_aload_n hx hb dX7_comesAt_23 rfl (lv_at hl 0 rfl) ?_
    refine get7 B hP (show hk 1076 = 7 by decide +kernel) 3 (by decide) mw_1030 rfl dX7_comesAt_24 ?_
    refine lv_iload_n hx hb dX7_comesAt_27 rfl (lv_at hl 1 rfl) ?_
    refine lv_bipush (v := 32) hx hb dX7_comesAt_28 (by decide) ?_
    refine lv_iadd hx hb dX7_comesAt_30 ?_
    refine lv_topi (fun z13 ez13 => ?_)
    obtain rfl : z13 = (nI (136 + 326 * gn + 66 * gl)) := ez13.trans (by rw [show (nI (104 + 326 * gn + 66 * gl)) = nI (104 + 326 * gn + 66 * gl) from rfl, show 32 = nI 32 from rfl, nI_add] <;> exact congrArg nI (by omega))
    refine aldn (n := 695) (j := (136 + 326 * gn + 66 * gl)) B hP (show hk 1078 = 8 by decide +kernel) (show hlen 1078 = 695 by decide +kernel) rfl (by omega) (by decide) dX7_comesAt_31 ?_
    refine lv_icmp_ne (tgt := 39) hx hb dX7_comesAt_32 (by decide) (fun c14 => ?_) (fun c14 => ?_)
    · skip
      refine lv_iconst (v := 0) hx hb dX7_comesAt_39 (by decide) ?_
      exact ret_z B hr hlk hP hS dX7_comesAt_40 (Or.inl rfl) (⟨rfl, hI, (iR_w (a := 0) (b := 0) (show iR 0 (0) (0) from ⟨by decide, by decide⟩) (by decide) (by decide))⟩)
    · skip
      refine lv_iconst (v := 1) hx hb dX7_comesAt_35 (by decide) ?_
      refine lv_goto (tgt := 40) hx hb dX7_comesAt_36 (by decide) ?_
      exact ret_z B hr hlk hP hS dX7_comesAt_40 (Or.inr rfl) (⟨rfl, hI, (iR_w (a := 1) (b := 1) (show iR 1 (1) (1) from ⟨by decide, by decide⟩) (by decide) (by decide))⟩)

set_option maxHeartbeats 4000000 in
set_option maxRecDepth 100000 in
theorem d_X7_isAhead (l : Launch) (E : hE) (ρ r : Nat → Nat → Int32) (Bt : Nat) (hBt : Bt ≤ 1000000) (M : Nat → Int32) (L : Nat → Nat) (X : Nat × Nat → Prop) (gn : Nat) (ugn : gn ≤ 1) (na2 : Nat) (lna2 : 0 ≤ na2) (una2 : na2 ≤ 22) (na3 : Nat) (lna3 : 0 ≤ na3) (una3 : na3 ≤ 22) (hI : RI r Bt M L X ρ) : Met l yX7_isAhead (.code yX7_isAhead cX7_isAhead 8 (some .boolean) :: gw_all) (rmk 1 40) (cPre E ρ [.ref (E.2.1 + 1076), .int (nI (42 + 326 * gn)), .int (nI na2), .int (nI na3)]) (cI E (fun v ρ1 => ρ = ρ1 ∧ RI r Bt M L X ρ1 ∧ iR v (0) (1))) 0 0 (hA E) := by
  refine ent (own := RX7) (by decide) rfl (Nat.le_of_ble_eq_true rfl) ?_
  intro p e s m below meth c ls B hr hlk hl hP hS
  have hx := B.1.1
  have hb := B.1.2.1
  have hown := B.1.2.2.2.1
  have hts := B.1.2.2.2.2
  have hl : lv_has ls 8 [(0, .ref (E.2.1 + 1076)), (1, .int (nI (42 + 326 * gn))), (2, .int (nI na2)), (3, .int (nI na3))] := hl
  refine lv_aload_n hx hb dX7_isAhead_0 rfl (lv_at hl 0 rfl) ?_
  refine get7 B hP (show hk 1076 = 7 by decide +kernel) 3 (by decide) mw_1030 rfl dX7_isAhead_1 ?_
  refine lv_iload_n hx hb dX7_isAhead_4 rfl (lv_at hl 1 rfl) ?_
  refine lv_bipush (v := 39) hx hb dX7_isAhead_5 (by decide) ?_
  refine lv_iadd hx hb dX7_isAhead_7 ?_
  refine lv_topi (fun z23 ez23 => ?_)
  obtain rfl : z23 = (nI (81 + 326 * gn)) := ez23.trans (by rw [show (nI (42 + 326 * gn)) = nI (42 + 326 * gn) from rfl, show 39 = nI 39 from rfl, nI_add] <;> exact congrArg nI (by omega))
  refine lv_iload_n hx hb dX7_isAhead_8 rfl (lv_at hl 2 rfl) ?_
  refine lv_iadd hx hb dX7_isAhead_9 ?_
  refine lv_topi (fun z24 ez24 => ?_)
  obtain rfl : z24 = (nI (81 + 326 * gn + na2)) := ez24.trans (by rw [show (nI (81 + 326 * gn)) = nI (81 + 326 * gn) from rfl, show (nI na2) = nI na2 from rfl, nI_add] <;> exact congrArg nI (by omega))
  refine aldn (n := 695) (j := (81 + 326 * gn + na2)) B hP (show hk 1078 = 8 by decide +kernel) (show hlen 1078 = 695 by decide +kernel) rfl (by omega) (by decide) dX7_isAhead_10 ?_
  refine lv_i2l hx hb dX7_isAhead_11 rfl ?_
  refine lv_aload_n hx hb dX7_isAhead_12 rfl (lv_at hl 0 rfl) ?_
  refine get7 B hP (show hk 1076 = 7 by decide +kernel) 3 (by decide) mw_1030 rfl dX7_isAhead_13 ?_
  refine lv_iload_n hx hb dX7_isAhead_16 rfl (lv_at hl 1 rfl) ?_
  refine lv_bipush (v := 16) hx hb dX7_isAhead_17 (by decide) ?_
  refine lv_iadd hx hb dX7_isAhead_19 ?_
  refine lv_topi (fun z25 ez25 => ?_)
  obtain rfl : z25 = (nI (58 + 326 * gn)) := ez25.trans (by rw [show (nI (42 + 326 * gn)) = nI (42 + 326 * gn) from rfl, show 16 = nI 16 from rfl, nI_add] <;> exact congrArg nI (by omega))
  refine lv_iload_n hx hb dX7_isAhead_20 rfl (lv_at hl 3 rfl) ?_
  refine lv_iadd hx hb dX7_isAhead_21 ?_
  refine lv_topi (fun z26 ez26 => ?_)
  obtain rfl : z26 = (nI (58 + 326 * gn + na3)) := ez26.trans (by rw [show (nI (58 + 326 * gn)) = nI (58 + 326 * gn) from rfl, show (nI na3) = nI na3 from rfl, nI_add] <;> exact congrArg nI (by omega))
  refine aldn (n := 695) (j := (58 + 326 * gn + na3)) B hP (show hk 1078 = 8 by decide +kernel) (show hlen 1078 = 695 by decide +kernel) rfl (by omega) (by decide) dX7_isAhead_22 ?_
  refine lv_i2l hx hb dX7_isAhead_23 rfl ?_
  refine lv_lmul hx hb dX7_isAhead_24 ?_
  refine lv_lstore (lv' := [(4, .long ((ρ 1078 (81 + 326 * gn + na2)).toInt64 * (ρ 1078 (58 + 326 * gn + na3)).toInt64)), (0, .ref (E.2.1 + 1076)), (1, .int (nI (42 + 326 * gn))), (2, .int (nI na2)), (3, .int (nI na3))]) hx hb dX7_isAhead_25 hl (by decide) rfl (fun ls hl => ?_)
  refine lv_aload_n hx hb dX7_isAhead_27 rfl (lv_at hl 1 rfl) ?_
  refine get7 B hP (show hk 1076 = 7 by decide +kernel) 3 (by decide) mw_1030 rfl dX7_isAhead_28 ?_
  refine lv_iload_n hx hb dX7_isAhead_31 rfl (lv_at hl 2 rfl) ?_
  refine lv_bipush (v := 39) hx hb dX7_isAhead_32 (by decide) ?_
  refine lv_iadd hx hb dX7_isAhead_34 ?_
  refine lv_topi (fun z27 ez27 => ?_)
  obtain rfl : z27 = (nI (81 + 326 * gn)) := ez27.trans (by rw [show (nI (42 + 326 * gn)) = nI (42 + 326 * gn) from rfl, show 39 = nI 39 from rfl, nI_add] <;> exact congrArg nI (by omega))
  refine lv_iload_n hx hb dX7_isAhead_35 rfl (lv_at hl 4 rfl) ?_
  refine lv_iadd hx hb dX7_isAhead_36 ?_
  refine lv_topi (fun z28 ez28 => ?_)
  obtain rfl : z28 = (nI (81 + 326 * gn + na3)) := ez28.trans (by rw [show (nI (81 + 326 * gn)) = nI (81 + 326 * gn) from rfl, show (nI na3) = nI na3 from rfl, nI_add] <;> exact congrArg nI (by omega))
  refine aldn (n := 695) (j := (81 + 326 * gn + na3)) B hP (show hk 1078 = 8 by decide +kernel) (show hlen 1078 = 695 by decide +kernel) rfl (by omega) (by decide) dX7_isAhead_37 ?_
  refine lv_i2l hx hb dX7_isAhead_38 rfl ?_
  refine lv_aload_n hx hb dX7_isAhead_39 rfl (lv_at hl 1 rfl) ?_
  refine get7 B hP (show hk 1076 = 7 by decide +kernel) 3 (by decide) mw_1030 rfl dX7_isAhead_40 ?_
  refine lv_iload_n hx hb dX7_isAhead_43 rfl (lv_at hl 2 rfl) ?_
  refine lv_bipush (v := 16) hx hb dX7_isAhead_44 (by decide) ?_
  refine lv_iadd hx hb dX7_isAhead_46 ?_
  refine lv_topi (fun z29 ez29 => ?_)
  obtain rfl : z29 = (nI (58 + 326 * gn)) := ez29.trans (by rw [show (nI (42 + 326 * gn)) = nI (42 + 326 * gn) from rfl, show 16 = nI 16 from rfl, nI_add] <;> exact congrArg nI (by omega))
  refine lv_iload_n hx hb dX7_isAhead_47 rfl (lv_at hl 3 rfl) ?_
  refine lv_iadd hx hb dX7_isAhead_48 ?_
  refine lv_topi (fun z30 ez30 => ?_)
  obtain rfl : z30 = (nI (58 + 326 * gn + na2)) := ez30.trans (by rw [show (nI (58 + 326 * gn)) = nI (58 + 326 * gn) from rfl, show (nI na2) = nI na2 from rfl, nI_add] <;> exact congrArg nI (by omega))
  refine aldn (n := 695) (j := (58 + 326 * gn + na2)) B hP (show hk 1078 = 8 by decide +kernel) (show hlen 1078 = 695 by decide +kernel) rfl (by omega) (by decide) dX7_isAhead_49 ?_
  refine lv_i2l hx hb dX7_isAhead_50 rfl ?_
  refine lv_lmul hx hb dX7_isAhead_51 ?_
  refine lv_lstore (lv' := [(6, .long ((ρ 1078 (81 + 326 * gn + na3)).toInt64 * (ρ 1078 (58 + 326 * gn + na2)).toInt64)), (4, .long ((ρ 1078 (81 + 326 * gn + na2)).toInt64 * (ρ 1078 (58 + 326 * gn + na3)).toInt64)), (0, .ref (E.2.1 + 1076)), (1, .int (nI (42 + 326 * gn))), (2, .int (nI na2)), (3, .int (nI na3))]) hx hb dX7_isAhead_52 hl (by decide) rfl (fun ls hl => ?_)
  refine lv_aload_n hx hb dX7_isAhead_54 rfl (lv_at hl 2 rfl) ?_
  refine get7 B hP (show hk 1076 = 7 by decide +kernel) 3 (by decide) mw_1030 rfl dX7_isAhead_55 ?_
  refine lv_iload_n hx hb dX7_isAhead_58 rfl (lv_at hl 3 rfl) ?_
  refine lv_bipush (v := 16) hx hb dX7_isAhead_59 (by decide) ?_
  refine lv_iadd hx hb dX7_isAhead_61 ?_
  refine lv_topi (fun z31 ez31 => ?_)
  obtain rfl : z31 = (nI (58 + 326 * gn)) := ez31.trans (by rw [show (nI (42 + 326 * gn)) = nI (42 + 326 * gn) from rfl, show 16 = nI 16 from rfl, nI_add] <;> exact congrArg nI (by omega))
  refine lv_iload_n hx hb dX7_isAhead_62 rfl (lv_at hl 4 rfl) ?_
  refine lv_iadd hx hb dX7_isAhead_63 ?_
  refine lv_topi (fun z32 ez32 => ?_)
  obtain rfl : z32 = (nI (58 + 326 * gn + na2)) := ez32.trans (by rw [show (nI (58 + 326 * gn)) = nI (58 + 326 * gn) from rfl, show (nI na2) = nI na2 from rfl, nI_add] <;> exact congrArg nI (by omega))
  refine aldf (n := 695) (j := (58 + 326 * gn + na2)) (v := (ρ 1078 (58 + 326 * gn + na2))) B hP (show hk 1078 = 8 by decide +kernel) (show hlen 1078 = 695 by decide +kernel) rfl (by omega) (by decide) rfl dX7_isAhead_64 ?_
  refine lv_if_le (tgt := 93) hx hb dX7_isAhead_65 (by decide) (fun c33 => ?_) (fun c33 => ?_)
  · skip
    have i34 : iR (ρ 1078 (58 + 326 * gn + na2)) (-2147483648) (0) := (iR_geR (show iR 0 (0) (0) from ⟨by decide, by decide⟩) (iR_any (ρ 1078 (58 + 326 * gn + na2))) (Int32.not_lt.mpr c33) (by decide))
    refine lv_iconst (v := 0) hx hb dX7_isAhead_93 (by decide) ?_
    exact ret_z B hr hlk hP hS dX7_isAhead_94 (Or.inl rfl) (⟨rfl, hI, (iR_w (a := 0) (b := 0) (show iR 0 (0) (0) from ⟨by decide, by decide⟩) (by decide) (by decide))⟩)
  · skip
    have i35 : iR (ρ 1078 (58 + 326 * gn + na2)) (1) (2147483647) := (iR_ltR (show iR 0 (0) (0) from ⟨by decide, by decide⟩) (iR_any (ρ 1078 (58 + 326 * gn + na2))) (Int32.not_le.mp c33) (by decide))
    refine lv_lload hx hb dX7_isAhead_68 (lv_at hl 1 rfl) ?_
    refine lv_lload hx hb dX7_isAhead_70 (lv_at hl 0 rfl) ?_
    refine W.lcmp hx hb dX7_isAhead_72 ?_
    refine lv_if_gt (tgt := 89) hx hb dX7_isAhead_73 (by decide) (fun c36 => ?_) (fun c36 => ?_)
    · skip
      have i37 : iR (lg_cmp ((ρ 1078 (81 + 326 * gn + na2)).toInt64 * (ρ 1078 (58 + 326 * gn + na3)).toInt64) ((ρ 1078 (81 + 326 * gn + na3)).toInt64 * (ρ 1078 (58 + 326 * gn + na2)).toInt64)) (1) (2147483647) := (iR_ltR (show iR 0 (0) (0) from ⟨by decide, by decide⟩) (iR_any (lg_cmp ((ρ 1078 (81 + 326 * gn + na2)).toInt64 * (ρ 1078 (58 + 326 * gn + na3)).toInt64) ((ρ 1078 (81 + 326 * gn + na3)).toInt64 * (ρ 1078 (58 + 326 * gn + na2)).toInt64))) c36 (by decide))
      refine lv_iconst (v := 1) hx hb dX7_isAhead_89 (by decide) ?_
      refine lv_goto (tgt := 94) hx hb dX7_isAhead_90 (by decide) ?_
      exact ret_z B hr hlk hP hS dX7_isAhead_94 (Or.inr rfl) (⟨rfl, hI, (iR_w (a := 1) (b := 1) (show iR 1 (1) (1) from ⟨by decide, by decide⟩) (by decide) (by decide))⟩)
    · skip
      have i38 : iR (lg_cmp ((ρ 1078 (81 + 326 * gn + na2)).toInt64 * (ρ 1078 (58 + 326 * gn + na3)).toInt64) ((ρ 1078 (81 + 326 * gn + na3)).toInt64 * (ρ 1078 (58 + 326 * gn + na2)).toInt64)) (-2147483648) (0) := (iR_geR (show iR 0 (0) (0) from ⟨by decide, by decide⟩) (iR_any (lg_cmp ((ρ 1078 (81 + 326 * gn + na2)).toInt64 * (ρ 1078 (58 + 326 * gn + na3)).toInt64) ((ρ 1078 (81 + 326 * gn + na3)).toInt64 * (ρ 1078 (58 + 326 * gn + na2)).toInt64))) c36 (by decide))
      refine lv_lload hx hb dX7_isAhead_76 (lv_at hl 1 rfl) ?_
      refine lv_lload hx hb dX7_isAhead_78 (lv_at hl 0 rfl) ?_
      refine W.lcmp hx hb dX7_isAhead_80 ?_
      refine lv_if_ne (tgt := 93) hx hb dX7_isAhead_81 (by decide) (fun c39 => ?_) (fun c39 => ?_)
      · skip
        have i40 : iR (lg_cmp ((ρ 1078 (81 + 326 * gn + na2)).toInt64 * (ρ 1078 (58 + 326 * gn + na3)).toInt64) ((ρ 1078 (81 + 326 * gn + na3)).toInt64 * (ρ 1078 (58 + 326 * gn + na2)).toInt64)) (-2147483648) (-1) := (iR_neL i38 (show iR 0 (0) (0) from ⟨by decide, by decide⟩) c39 (by decide) (by decide))
        refine lv_iconst (v := 0) hx hb dX7_isAhead_93 (by decide) ?_
        exact ret_z B hr hlk hP hS dX7_isAhead_94 (Or.inl rfl) (⟨rfl, hI, (iR_w (a := 0) (b := 0) (show iR 0 (0) (0) from ⟨by decide, by decide⟩) (by decide) (by decide))⟩)
      · skip
        have i41 : iR (lg_cmp ((ρ 1078 (81 + 326 * gn + na2)).toInt64 * (ρ 1078 (58 + 326 * gn + na3)).toInt64) ((ρ 1078 (81 + 326 * gn + na3)).toInt64 * (ρ 1078 (58 + 326 * gn + na2)).toInt64)) (0) (0) := (by rw [c39]; exact ⟨by decide, by decide⟩)
        refine lv_iload_n hx hb dX7_isAhead_84 rfl (lv_at hl 4 rfl) ?_
        refine lv_iload_n hx hb dX7_isAhead_85 rfl (lv_at hl 5 rfl) ?_
        refine lv_icmp_ge (tgt := 93) hx hb dX7_isAhead_86 (by decide) (fun c42 => ?_) (fun c42 => ?_)
        · skip
          have n43 := mt (nx_lt (a := na2) (b := na3) (by omega) (by omega)).mpr (show ¬ (nI na2 < nI na3) from (Int32.not_lt.mpr c42))
          refine lv_iconst (v := 0) hx hb dX7_isAhead_93 (by decide) ?_
          exact ret_z B hr hlk hP hS dX7_isAhead_94 (Or.inl rfl) (⟨rfl, hI, (iR_w (a := 0) (b := 0) (show iR 0 (0) (0) from ⟨by decide, by decide⟩) (by decide) (by decide))⟩)
        · skip
          have n44 := (nx_lt (a := na2) (b := na3) (by omega) (by omega)).mp (show (nI na2 < nI na3) from (Int32.not_le.mp c42))
          refine lv_iconst (v := 1) hx hb dX7_isAhead_89 (by decide) ?_
          refine lv_goto (tgt := 94) hx hb dX7_isAhead_90 (by decide) ?_
          exact ret_z B hr hlk hP hS dX7_isAhead_94 (Or.inr rfl) (⟨rfl, hI, (iR_w (a := 1) (b := 1) (show iR 1 (1) (1) from ⟨by decide, by decide⟩) (by decide) (by decide))⟩)

set_option maxHeartbeats 4000000 in
set_option maxRecDepth 100000 in
theorem d_X7_isEmpty (l : Launch) (E : hE) (ρ r : Nat → Nat → Int32) (Bt : Nat) (hBt : Bt ≤ 1000000) (M : Nat → Int32) (L : Nat → Nat) (X : Nat × Nat → Prop) (na1 : Nat) (lna1 : 0 ≤ na1) (una1 : na1 ≤ 1) (na2 : Nat) (lna2 : 0 ≤ na2) (una2 : na2 ≤ 3) (hI : RI r Bt M L X ρ) : Met l yX7_isEmpty (.code yX7_isEmpty cX7_isEmpty 4 (some .boolean) :: gw_all) (rmk 3 120) (cPre E ρ [.ref (E.2.1 + 1076), .int (nI na1), .int (nI na2)]) (cI E (fun v ρ1 => ρ = ρ1 ∧ RI r Bt M L X ρ1 ∧ iR v (0) (1))) 0 0 (hA E) := by
  refine ent (own := RX7) (by decide) rfl (Nat.le_of_ble_eq_true rfl) ?_
  intro p e s m below meth c ls B hr hlk hl hP hS
  have hx := B.1.1
  have hb := B.1.2.1
  have hown := B.1.2.2.2.1
  have hts := B.1.2.2.2.2
  have hl : lv_has ls 4 [(0, .ref (E.2.1 + 1076)), (1, .int (nI na1)), (2, .int (nI na2))] := hl
  refine lv_iload_n hx hb dX7_isEmpty_0 rfl (lv_at hl 1 rfl) ?_
  refine lv_iload_n hx hb dX7_isEmpty_1 rfl (lv_at hl 2 rfl) ?_
  refine call_i (cS (av := [.int (nI na1), .int (nI na2)]) (rest := []) B hP hS (d_X7_linkAt l E ρ r Bt hBt M L X na1 (by omega) (by omega) na2 (by omega) (by omega) hI) lk_RX7_82 rfl rfl hl.1 (Nat.le_of_ble_eq_true rfl) ⟨Nat.le_of_ble_eq_true rfl, Nat.le_of_ble_eq_true rfl⟩ ⟨Nat.le_of_ble_eq_true rfl, Nat.le_of_ble_eq_true rfl⟩ dX7_isEmpty_2) hS (fun r18 ρ19 H locs q20 hP hS => ?_)
  obtain ⟨rfl, hI, q20⟩ := q20
  obtain rfl : r18 = nI (104 + 326 * na1 + 66 * na2) := q20.trans (congrArg nI (by omega))
  refine lv_istore_n (lv' := [(3, .int (nI (104 + 326 * na1 + 66 * na2))), (0, .ref (E.2.1 + 1076)), (1, .int (nI na1)), (2, .int (nI na2))]) hx hb dX7_isEmpty_5 rfl hl (by decide) rfl (fun ls hl => ?_)
  refine lv_aload_n hx hb dX7_isEmpty_6 rfl (lv_at hl 1 rfl) ?_
  refine get7 B hP (show hk 1076 = 7 by decide +kernel) 3 (by decide) mw_1030 rfl dX7_isEmpty_7 ?_
  refine lv_iload_n hx hb dX7_isEmpty_10 rfl (lv_at hl 0 rfl) ?_
  refine lv_iconst (v := 5) hx hb dX7_isEmpty_11 (by decide) ?_
  refine lv_iadd hx hb dX7_isEmpty_12 ?_
  refine lv_topi (fun z21 ez21 => ?_)
  obtain rfl : z21 = (nI (109 + 326 * na1 + 66 * na2)) := ez21.trans (by rw [show (nI (104 + 326 * na1 + 66 * na2)) = nI (104 + 326 * na1 + 66 * na2) from rfl, show 5 = nI 5 from rfl, nI_add] <;> exact congrArg nI (by omega))
  refine aldn (n := 695) (j := (109 + 326 * na1 + 66 * na2)) B hP (show hk 1078 = 8 by decide +kernel) (show hlen 1078 = 695 by decide +kernel) rfl (by omega) (by decide) dX7_isEmpty_13 ?_
  have i22 : iR (ρ 1078 (109 + 326 * na1 + 66 * na2)) (0) (8) := g_ndown (n0 := na1) (l0 := na2) (j := (109 + 326 * na1 + 66 * na2)) hI (by omega) (by omega) (by omega)
  obtain ⟨j23, lj23, uj23, ej23⟩ := iR_nat (a := 0) (b := 8) i22
  refine lv_topi (fun z24 ez24 => ?_)
  obtain rfl : z24 = nI j23 := ez24.trans ej23
  refine lv_if_ne (tgt := 33) hx hb dX7_isEmpty_14 (by decide) (fun c25 => ?_) (fun c25 => ?_)
  · skip
    have n26 := mt (nI_eq (a := j23) (b := 0) (by omega) (by omega)).mpr (show ¬ (nI j23 = nI 0) from c25)
    refine lv_iconst (v := 0) hx hb dX7_isEmpty_33 (by decide) ?_
    exact ret_z B hr hlk hP hS dX7_isEmpty_34 (Or.inl rfl) (⟨rfl, hI, (iR_w (a := 0) (b := 0) (show iR 0 (0) (0) from ⟨by decide, by decide⟩) (by decide) (by decide))⟩)
  · skip
    have n27 := (nI_eq (a := j23) (b := 0) (by omega) (by omega)).mp (show (nI j23 = nI 0) from c25)
    refine lv_aload_n hx hb dX7_isEmpty_17 rfl (lv_at hl 1 rfl) ?_
    refine get7 B hP (show hk 1076 = 7 by decide +kernel) 3 (by decide) mw_1030 rfl dX7_isEmpty_18 ?_
    refine lv_iload_n hx hb dX7_isEmpty_21 rfl (lv_at hl 0 rfl) ?_
    refine lv_bipush (v := 14) hx hb dX7_isEmpty_22 (by decide) ?_
    refine lv_iadd hx hb dX7_isEmpty_24 ?_
    refine lv_topi (fun z28 ez28 => ?_)
    obtain rfl : z28 = (nI (118 + 326 * na1 + 66 * na2)) := ez28.trans (by rw [show (nI (104 + 326 * na1 + 66 * na2)) = nI (104 + 326 * na1 + 66 * na2) from rfl, show 14 = nI 14 from rfl, nI_add] <;> exact congrArg nI (by omega))
    refine aldn (n := 695) (j := (118 + 326 * na1 + 66 * na2)) B hP (show hk 1078 = 8 by decide +kernel) (show hlen 1078 = 695 by decide +kernel) rfl (by omega) (by decide) dX7_isEmpty_25 ?_
    have i29 : iR (ρ 1078 (118 + 326 * na1 + 66 * na2)) (0) (8) := g_nup (n0 := na1) (l0 := na2) (j := (118 + 326 * na1 + 66 * na2)) hI (by omega) (by omega) (by omega)
    obtain ⟨j30, lj30, uj30, ej30⟩ := iR_nat (a := 0) (b := 8) i29
    refine lv_topi (fun z31 ez31 => ?_)
    obtain rfl : z31 = nI j30 := ez31.trans ej30
    refine lv_if_ne (tgt := 33) hx hb dX7_isEmpty_26 (by decide) (fun c32 => ?_) (fun c32 => ?_)
    · skip
      have n33 := mt (nI_eq (a := j30) (b := 0) (by omega) (by omega)).mpr (show ¬ (nI j30 = nI 0) from c32)
      refine lv_iconst (v := 0) hx hb dX7_isEmpty_33 (by decide) ?_
      exact ret_z B hr hlk hP hS dX7_isEmpty_34 (Or.inl rfl) (⟨rfl, hI, (iR_w (a := 0) (b := 0) (show iR 0 (0) (0) from ⟨by decide, by decide⟩) (by decide) (by decide))⟩)
    · skip
      have n34 := (nI_eq (a := j30) (b := 0) (by omega) (by omega)).mp (show (nI j30 = nI 0) from c32)
      refine lv_iconst (v := 1) hx hb dX7_isEmpty_29 (by decide) ?_
      refine lv_goto (tgt := 34) hx hb dX7_isEmpty_30 (by decide) ?_
      exact ret_z B hr hlk hP hS dX7_isEmpty_34 (Or.inr rfl) (⟨rfl, hI, (iR_w (a := 1) (b := 1) (show iR 1 (1) (1) from ⟨by decide, by decide⟩) (by decide) (by decide))⟩)

set_option maxHeartbeats 4000000 in
set_option maxRecDepth 100000 in
theorem d_X7_otherMaps (l : Launch) (E : hE) (ρ r : Nat → Nat → Int32) (Bt : Nat) (hBt : Bt ≤ 1000000) (M : Nat → Int32) (L : Nat → Nat) (X : Nat × Nat → Prop) (hI : RI r Bt M L X ρ) : Met l yX7_otherMaps (.code yX7_otherMaps cX7_otherMaps 4 (some .int) :: gw_all) (rmk 3 120) (cPre E ρ [.ref (E.2.1 + 1076)]) (cI E (fun v ρ1 => ρ = ρ1 ∧ RI r Bt M L X ρ1)) 0 0 (hA E) := by
  refine ent (own := RX7) (by decide) rfl (Nat.le_of_ble_eq_true rfl) ?_
  intro p e s m below meth c ls B hr hlk hl hP hS
  have hx := B.1.1
  have hb := B.1.2.1
  have hown := B.1.2.2.2.1
  have hts := B.1.2.2.2.2
  have hl : lv_has ls 4 [(0, .ref (E.2.1 + 1076))] := hl
  have b4_0 : ∀ (ls : Array Slot) (H : Heap) (locs : List Loc) (d4 : Nat) (x4_1 : Int32) (j4_2 : Nat), lv_has ls 4 [(0, .ref (E.2.1 + 1076)), (1, .int x4_1), (2, .int (nI j4_2))] → WP E ρ H → va_S (hA E) s.heap H locs → 3 - j4_2 < d4 → iR x4_1 (-2147483648) (2147483647) → 0 ≤ j4_2 → j4_2 ≤ 2 → W p l e (rmk 3 120) s m ([.ref (E.2.1 + 1076)] : List Value).toArray below meth c H locs 0 0 (MQ below (cI E (fun v ρ1 => ρ = ρ1 ∧ RI r Bt M L X ρ1)) ([.ref (E.2.1 + 1076)] : List Value).toArray s 0 0 (hA E)) (F0 m 4 ls []) := by
    intro ls H locs d4
    induction d4 generalizing ls H locs with
    | zero => intro x4_1 j4_2 hl hP hS hd4 hx4_1 lj4_2 uj4_2; exact absurd hd4 (Nat.not_lt_zero _)
    | succ d4 ih4 =>
      intro x4_1 j4_2 hl hP hS hd4 hx4_1 lj4_2 uj4_2
      have b75_0 : ∀ (ls : Array Slot) (H : Heap) (locs : List Loc) (x75_1 : Int32), lv_has ls 4 [(0, .ref (E.2.1 + 1076)), (1, .int x75_1), (2, .int (nI j4_2))] → WP E ρ H → va_S (hA E) s.heap H locs → iR x75_1 (-2147483648) (2147483647) → 0 ≤ j4_2 → j4_2 ≤ 1 → W p l e (rmk 3 120) s m ([.ref (E.2.1 + 1076)] : List Value).toArray below meth c H locs 0 0 (MQ below (cI E (fun v ρ1 => ρ = ρ1 ∧ RI r Bt M L X ρ1)) ([.ref (E.2.1 + 1076)] : List Value).toArray s 0 0 (hA E)) (F0 m 75 ls []) := by
        intro ls H locs x75_1 hl hP hS hx75_1 tlj4_2 tuj4_2
        refine lv_iinc (v := (nI (1 + j4_2))) (lv' := [(2, .int (nI (1 + j4_2))), (0, .ref (E.2.1 + 1076)), (1, .int x75_1)]) hx hb dX7_otherMaps_75 hl (k := 2) rfl (show nI j4_2 + nI 1 = _ from (nI_add _ _).trans (congrArg nI (by omega))) (by decide) rfl (fun ls hl => ?_)
        refine lv_goto (tgt := 4) hx hb dX7_otherMaps_78 (by decide) ?_
        exact ih4 ls _ _ (x75_1 : Int32) (1 + j4_2) (lv_sub hl [1, 2, 0] rfl) hP hS (by omega) (iR_w hx75_1 (by decide) (by decide)) (by omega) (by omega)
      have b11_0 : ∀ (ls : Array Slot) (H : Heap) (locs : List Loc) (d11 : Nat) (x11_1 : Int32) (j11_3 : Nat), lv_has ls 4 [(0, .ref (E.2.1 + 1076)), (1, .int x11_1), (2, .int (nI j4_2)), (3, .int (nI j11_3))] → WP E ρ H → va_S (hA E) s.heap H locs → 5 - j11_3 < d11 → iR x11_1 (-2147483648) (2147483647) → 0 ≤ j11_3 → j11_3 ≤ 4 → 0 ≤ j4_2 → j4_2 ≤ 1 → W p l e (rmk 3 120) s m ([.ref (E.2.1 + 1076)] : List Value).toArray below meth c H locs 0 0 (MQ below (cI E (fun v ρ1 => ρ = ρ1 ∧ RI r Bt M L X ρ1)) ([.ref (E.2.1 + 1076)] : List Value).toArray s 0 0 (hA E)) (F0 m 11 ls []) := by
        intro ls H locs d11
        induction d11 generalizing ls H locs with
        | zero => intro x11_1 j11_3 hl hP hS hd11 hx11_1 lj11_3 uj11_3 tlj4_2 tuj4_2; exact absurd hd11 (Nat.not_lt_zero _)
        | succ d11 ih11 =>
          intro x11_1 j11_3 hl hP hS hd11 hx11_1 lj11_3 uj11_3 tlj4_2 tuj4_2
          have b67_0 : ∀ (ls : Array Slot) (H : Heap) (locs : List Loc) , lv_has ls 4 [(0, .ref (E.2.1 + 1076)), (2, .int (nI j4_2)), (3, .int (nI j11_3))] → WP E ρ H → va_S (hA E) s.heap H locs → iR (M j4_2) (0) (5) → iR (ρ 1078 (105 + 326 * j4_2 + 66 * j11_3)) (1) (8388607) → iR (ρ 1078 (44 + 326 * j4_2)) (1) (8388607) → 1 ≤ (L j4_2) → (L j4_2) ≤ 4 → 0 ≤ j11_3 → j11_3 ≤ 3 → 0 ≤ j4_2 → j4_2 ≤ 1 → j11_3 + 1 ≤ L j4_2 → W p l e (rmk 3 120) s m ([.ref (E.2.1 + 1076)] : List Value).toArray below meth c H locs 0 0 (MQ below (cI E (fun v ρ1 => ρ = ρ1 ∧ RI r Bt M L X ρ1)) ([.ref (E.2.1 + 1076)] : List Value).toArray s 0 0 (hA E)) (F0 m 67 ls [.int 0, .int x11_1]) := by
            intro ls H locs  hl hP hS f_M_j4_2_ f_ρ_1078__105___326___j4_2___66___j11_3__ f_ρ_1078__44___326___j4_2__ tl_L_j4_2_ tu_L_j4_2_ tlj11_3 tuj11_3 tlj4_2 tuj4_2 hr67_0
            refine lv_iadd hx hb dX7_otherMaps_67 ?_
            refine lv_istore_n (lv' := [(1, .int (x11_1 + 0)), (0, .ref (E.2.1 + 1076)), (2, .int (nI j4_2)), (3, .int (nI j11_3))]) hx hb dX7_otherMaps_68 rfl hl (by decide) rfl (fun ls hl => ?_)
            refine lv_iinc (v := (nI (1 + j11_3))) (lv' := [(3, .int (nI (1 + j11_3))), (1, .int (x11_1 + 0)), (0, .ref (E.2.1 + 1076)), (2, .int (nI j4_2))]) hx hb dX7_otherMaps_69 hl (k := 3) rfl (show nI j11_3 + nI 1 = _ from (nI_add _ _).trans (congrArg nI (by omega))) (by decide) rfl (fun ls hl => ?_)
            refine lv_goto (tgt := 11) hx hb dX7_otherMaps_72 (by decide) ?_
            exact ih11 ls _ _ ((x11_1 + 0) : Int32) (1 + j11_3) (lv_sub hl [2, 1, 3, 0] rfl) hP hS (by omega) (iR_w (iR_add (a' := -2147483648) (b' := 2147483647) hx11_1 (show iR 0 (0) (0) from ⟨by decide, by decide⟩) (by decide) (by decide) (by decide) (by decide)) (by decide) (by decide)) (by omega) (by omega) (by omega) (by omega)
          have b67_1 : ∀ (ls : Array Slot) (H : Heap) (locs : List Loc) , lv_has ls 4 [(0, .ref (E.2.1 + 1076)), (2, .int (nI j4_2)), (3, .int (nI j11_3))] → WP E ρ H → va_S (hA E) s.heap H locs → iR (M j4_2) (0) (5) → iR (ρ 1078 (105 + 326 * j4_2 + 66 * j11_3)) (1) (8388607) → iR (ρ 1078 (44 + 326 * j4_2)) (1) (8388607) → 1 ≤ (L j4_2) → (L j4_2) ≤ 4 → 0 ≤ j11_3 → j11_3 ≤ 3 → 0 ≤ j4_2 → j4_2 ≤ 1 → j11_3 + 1 ≤ L j4_2 → W p l e (rmk 3 120) s m ([.ref (E.2.1 + 1076)] : List Value).toArray below meth c H locs 0 0 (MQ below (cI E (fun v ρ1 => ρ = ρ1 ∧ RI r Bt M L X ρ1)) ([.ref (E.2.1 + 1076)] : List Value).toArray s 0 0 (hA E)) (F0 m 67 ls [.int 1, .int x11_1]) := by
            intro ls H locs  hl hP hS f_M_j4_2_ f_ρ_1078__105___326___j4_2___66___j11_3__ f_ρ_1078__44___326___j4_2__ tl_L_j4_2_ tu_L_j4_2_ tlj11_3 tuj11_3 tlj4_2 tuj4_2 hr67_0
            refine lv_iadd hx hb dX7_otherMaps_67 ?_
            refine lv_istore_n (lv' := [(1, .int (x11_1 + 1)), (0, .ref (E.2.1 + 1076)), (2, .int (nI j4_2)), (3, .int (nI j11_3))]) hx hb dX7_otherMaps_68 rfl hl (by decide) rfl (fun ls hl => ?_)
            refine lv_iinc (v := (nI (1 + j11_3))) (lv' := [(3, .int (nI (1 + j11_3))), (1, .int (x11_1 + 1)), (0, .ref (E.2.1 + 1076)), (2, .int (nI j4_2))]) hx hb dX7_otherMaps_69 hl (k := 3) rfl (show nI j11_3 + nI 1 = _ from (nI_add _ _).trans (congrArg nI (by omega))) (by decide) rfl (fun ls hl => ?_)
            refine lv_goto (tgt := 11) hx hb dX7_otherMaps_72 (by decide) ?_
            exact ih11 ls _ _ ((x11_1 + 1) : Int32) (1 + j11_3) (lv_sub hl [2, 1, 3, 0] rfl) hP hS (by omega) (iR_w (iR_any (x11_1 + 1)) (by decide) (by decide)) (by omega) (by omega) (by omega) (by omega)
          refine lv_aload_n hx hb dX7_otherMaps_11 rfl (lv_at hl 0 rfl) ?_
          refine lv_iload_n hx hb dX7_otherMaps_12 rfl (lv_at hl 2 rfl) ?_
          refine call_i (cVt (k := 1076) (av := [.int (nI j4_2)]) (rest := []) B hP hS (d_X7_isNet l E ρ r Bt hBt M L X (nI j4_2) hI) lk_RX7_78 (hrecv (ci := 7) B hP (hk_lt (c := 7) (show hk 1076 = 7 by decide +kernel) (by decide)) (hcc7 _ _ (show hk 1076 = 7 by decide +kernel)) rfl) rfl rfl hl.1 (Nat.le_of_ble_eq_true rfl) ⟨Nat.le_of_ble_eq_true rfl, Nat.le_of_ble_eq_true rfl⟩ ⟨Nat.le_of_ble_eq_true rfl, Nat.le_of_ble_eq_true rfl⟩ dX7_otherMaps_13) hS (fun r2477 ρ2478 H locs q2479 hP hS => ?_)
          obtain ⟨rfl, hI, q2479⟩ := q2479
          rcases q2479 with rfl | ⟨rfl, j2480, hj2480, ej2480, i2481⟩
          · skip
            refine lv_if_eq (tgt := 75) hx hb dX7_otherMaps_16 (by decide) (fun _ => ?_) (fun c2482 => absurd rfl c2482)
            exact b75_0 ls _ _ (x11_1 : Int32) (lv_sub hl [0, 1, 2] rfl) hP hS (iR_w hx11_1 (by decide) (by decide)) (by omega) (by omega)
          · skip
            have n2483 : j4_2 = j2480 := (nI_eq (by omega) (by omega)).mp (show nI j4_2 = nI j2480 from ej2480)
            have i2484 : iR (M j4_2) 0 5 := by rw [n2483]; exact i2481
            refine lv_if_eq (tgt := 75) hx hb dX7_otherMaps_16 (by decide) (fun c2485 => absurd c2485 (iR_ne (show iR 1 (1) (1) from ⟨by decide, by decide⟩) (show iR 0 (0) (0) from ⟨by decide, by decide⟩) (by decide))) (fun _ => ?_)
            refine lv_iload_n hx hb dX7_otherMaps_19 rfl (lv_at hl 3 rfl) ?_
            refine lv_aload_n hx hb dX7_otherMaps_20 rfl (lv_at hl 0 rfl) ?_
            refine get7 B hP (show hk 1076 = 7 by decide +kernel) 3 (by decide) mw_1030 rfl dX7_otherMaps_21 ?_
            refine lv_iload_n hx hb dX7_otherMaps_24 rfl (lv_at hl 2 rfl) ?_
            refine call_i (cS (av := [.int (nI j4_2)]) (rest := [.ref (E.2.1 + 1078), .int (nI j11_3)]) B hP hS (d_X7_netAt l E ρ r Bt hBt M L X j4_2 (by omega) (by omega) hI) lk_RX7_75 rfl rfl hl.1 (Nat.le_of_ble_eq_true rfl) ⟨Nat.le_of_ble_eq_true rfl, Nat.le_of_ble_eq_true rfl⟩ ⟨Nat.le_of_ble_eq_true rfl, Nat.le_of_ble_eq_true rfl⟩ dX7_otherMaps_25) hS (fun r2486 ρ2487 H locs q2488 hP hS => ?_)
            obtain ⟨rfl, hI, q2488⟩ := q2488
            obtain rfl : r2486 = nI (42 + 326 * j4_2) := q2488.trans (congrArg nI (by omega))
            refine lv_bipush (v := 6) hx hb dX7_otherMaps_28 (by decide) ?_
            refine lv_iadd hx hb dX7_otherMaps_30 ?_
            refine lv_topi (fun z2489 ez2489 => ?_)
            obtain rfl : z2489 = (nI (48 + 326 * j4_2)) := ez2489.trans (by rw [show (nI (42 + 326 * j4_2)) = nI (42 + 326 * j4_2) from rfl, show 6 = nI 6 from rfl, nI_add] <;> exact congrArg nI (by omega))
            have := RI_Lb (n := j4_2) hI (by omega)
            refine aldf (n := 695) (j := (48 + 326 * j4_2)) (v := (nI (L j4_2))) B hP (show hk 1078 = 8 by decide +kernel) (show hlen 1078 = 695 by decide +kernel) rfl (by omega) (by decide) (g_l (n0 := j4_2) hI (by omega) (by omega)) dX7_otherMaps_31 ?_
            refine lv_icmp_ge (tgt := 75) hx hb dX7_otherMaps_32 (by decide) (fun c2490 => ?_) (fun c2490 => ?_)
            · skip
              have n2491 := mt (nx_lt (a := j11_3) (b := (L j4_2)) (by omega) (by omega)).mpr (show ¬ (nI j11_3 < nI (L j4_2)) from (Int32.not_lt.mpr c2490))
              exact b75_0 ls _ _ (x11_1 : Int32) (lv_sub hl [0, 1, 2] rfl) hP hS (iR_w hx11_1 (by decide) (by decide)) (by omega) (by omega)
            · skip
              have n2492 := (nx_lt (a := j11_3) (b := (L j4_2)) (by omega) (by omega)).mp (show (nI j11_3 < nI (L j4_2)) from (Int32.not_le.mp c2490))
              refine lv_iload_n hx hb dX7_otherMaps_35 rfl (lv_at hl 1 rfl) ?_
              refine lv_aload_n hx hb dX7_otherMaps_36 rfl (lv_at hl 0 rfl) ?_
              refine get7 B hP (show hk 1076 = 7 by decide +kernel) 3 (by decide) mw_1030 rfl dX7_otherMaps_37 ?_
              refine lv_iload_n hx hb dX7_otherMaps_40 rfl (lv_at hl 2 rfl) ?_
              refine lv_iload_n hx hb dX7_otherMaps_41 rfl (lv_at hl 3 rfl) ?_
              refine call_i (cS (av := [.int (nI j4_2), .int (nI j11_3)]) (rest := [.ref (E.2.1 + 1078), .int x11_1]) B hP hS (d_X7_linkAt l E ρ r Bt hBt M L X j4_2 (by omega) (by omega) j11_3 (by omega) (by omega) hI) lk_RX7_82 rfl rfl hl.1 (Nat.le_of_ble_eq_true rfl) ⟨Nat.le_of_ble_eq_true rfl, Nat.le_of_ble_eq_true rfl⟩ ⟨Nat.le_of_ble_eq_true rfl, Nat.le_of_ble_eq_true rfl⟩ dX7_otherMaps_42) hS (fun r2493 ρ2494 H locs q2495 hP hS => ?_)
              obtain ⟨rfl, hI, q2495⟩ := q2495
              obtain rfl : r2493 = nI (104 + 326 * j4_2 + 66 * j11_3) := q2495.trans (congrArg nI (by omega))
              refine lv_iconst (v := 1) hx hb dX7_otherMaps_45 (by decide) ?_
              refine lv_iadd hx hb dX7_otherMaps_46 ?_
              refine lv_topi (fun z2496 ez2496 => ?_)
              obtain rfl : z2496 = (nI (105 + 326 * j4_2 + 66 * j11_3)) := ez2496.trans (by rw [show (nI (104 + 326 * j4_2 + 66 * j11_3)) = nI (104 + 326 * j4_2 + 66 * j11_3) from rfl, show 1 = nI 1 from rfl, nI_add] <;> exact congrArg nI (by omega))
              refine aldn (n := 695) (j := (105 + 326 * j4_2 + 66 * j11_3)) B hP (show hk 1078 = 8 by decide +kernel) (show hlen 1078 = 695 by decide +kernel) rfl (by omega) (by decide) dX7_otherMaps_47 ?_
              have i2497 : iR (ρ 1078 (105 + 326 * j4_2 + 66 * j11_3)) (1) (8388607) := g_itsmap (n0 := j4_2) (l0 := j11_3) (j := (105 + 326 * j4_2 + 66 * j11_3)) hI (by omega) (by omega) (by omega)
              obtain ⟨j2498, lj2498, uj2498, ej2498⟩ := iR_nat (a := 1) (b := 8388607) i2497
              refine lv_topi (fun z2499 ez2499 => ?_)
              obtain rfl : z2499 = nI j2498 := ez2499.trans ej2498
              refine lv_aload_n hx hb dX7_otherMaps_48 rfl (lv_at hl 0 rfl) ?_
              refine get7 B hP (show hk 1076 = 7 by decide +kernel) 3 (by decide) mw_1030 rfl dX7_otherMaps_49 ?_
              refine lv_iload_n hx hb dX7_otherMaps_52 rfl (lv_at hl 2 rfl) ?_
              refine call_i (cS (av := [.int (nI j4_2)]) (rest := [.ref (E.2.1 + 1078), .int (nI j2498), .int x11_1]) B hP hS (d_X7_netAt l E ρ r Bt hBt M L X j4_2 (by omega) (by omega) hI) lk_RX7_75 rfl rfl hl.1 (Nat.le_of_ble_eq_true rfl) ⟨Nat.le_of_ble_eq_true rfl, Nat.le_of_ble_eq_true rfl⟩ ⟨Nat.le_of_ble_eq_true rfl, Nat.le_of_ble_eq_true rfl⟩ dX7_otherMaps_53) hS (fun r2500 ρ2501 H locs q2502 hP hS => ?_)
              obtain ⟨rfl, hI, q2502⟩ := q2502
              obtain rfl : r2500 = nI (42 + 326 * j4_2) := q2502.trans (congrArg nI (by omega))
              refine lv_iconst (v := 2) hx hb dX7_otherMaps_56 (by decide) ?_
              refine lv_iadd hx hb dX7_otherMaps_57 ?_
              refine lv_topi (fun z2503 ez2503 => ?_)
              obtain rfl : z2503 = (nI (44 + 326 * j4_2)) := ez2503.trans (by rw [show (nI (42 + 326 * j4_2)) = nI (42 + 326 * j4_2) from rfl, show 2 = nI 2 from rfl, nI_add] <;> exact congrArg nI (by omega))
              refine aldn (n := 695) (j := (44 + 326 * j4_2)) B hP (show hk 1078 = 8 by decide +kernel) (show hlen 1078 = 695 by decide +kernel) rfl (by omega) (by decide) dX7_otherMaps_58 ?_
              have i2504 : iR (ρ 1078 (44 + 326 * j4_2)) (1) (8388607) := g_map (n0 := j4_2) (j := (44 + 326 * j4_2)) hI (by omega) i2484 (by omega)
              obtain ⟨j2505, lj2505, uj2505, ej2505⟩ := iR_nat (a := 1) (b := 8388607) i2504
              refine lv_topi (fun z2506 ez2506 => ?_)
              obtain rfl : z2506 = nI j2505 := ez2506.trans ej2505
              refine lv_icmp_ne (tgt := 66) hx hb dX7_otherMaps_59 (by decide) (fun c2507 => ?_) (fun c2507 => ?_)
              · skip
                have n2508 := mt (nI_eq (a := j2498) (b := j2505) (by omega) (by omega)).mpr (show ¬ (nI j2498 = nI j2505) from c2507)
                refine lv_iconst (v := 1) hx hb dX7_otherMaps_66 (by decide) ?_
                exact b67_1 ls _ _  (lv_sub hl [0, 2, 3] rfl) hP hS (iR_w i2484 (by decide) (by decide)) (iR_w i2497 (by decide) (by decide)) (iR_w i2504 (by decide) (by decide)) (by omega) (by omega) (by omega) (by omega) (by omega) (by omega) (by omega)
              · skip
                have n2509 := (nI_eq (a := j2498) (b := j2505) (by omega) (by omega)).mp (show (nI j2498 = nI j2505) from c2507)
                refine lv_iconst (v := 0) hx hb dX7_otherMaps_62 (by decide) ?_
                refine lv_goto (tgt := 67) hx hb dX7_otherMaps_63 (by decide) ?_
                exact b67_0 ls _ _  (lv_sub hl [0, 2, 3] rfl) hP hS (iR_w i2484 (by decide) (by decide)) (iR_w i2497 (by decide) (by decide)) (iR_w i2504 (by decide) (by decide)) (by omega) (by omega) (by omega) (by omega) (by omega) (by omega) (by omega)
      refine lv_iload_n hx hb dX7_otherMaps_4 rfl (lv_at hl 2 rfl) ?_
      refine lv_iconst (v := 2) hx hb dX7_otherMaps_5 (by decide) ?_
      refine lv_icmp_ge (tgt := 81) hx hb dX7_otherMaps_6 (by decide) (fun c2510 => ?_) (fun c2510 => ?_)
      · skip
        have n2511 := mt (nx_lt (a := j4_2) (b := 2) (by omega) (by omega)).mpr (show ¬ (nI j4_2 < nI 2) from (Int32.not_lt.mpr c2510))
        refine lv_iload_n hx hb dX7_otherMaps_81 rfl (lv_at hl 1 rfl) ?_
        exact ret_i B hr hlk hP hS dX7_otherMaps_82 (⟨rfl, hI⟩)
      · skip
        have n2512 := (nx_lt (a := j4_2) (b := 2) (by omega) (by omega)).mp (show (nI j4_2 < nI 2) from (Int32.not_le.mp c2510))
        refine lv_iconst (v := 0) hx hb dX7_otherMaps_9 (by decide) ?_
        refine lv_istore_n (lv' := [(3, .int 0), (0, .ref (E.2.1 + 1076)), (1, .int x4_1), (2, .int (nI j4_2))]) hx hb dX7_otherMaps_10 rfl hl (by decide) rfl (fun ls hl => ?_)
        exact b11_0 ls _ _ _ (x4_1 : Int32) 0 (lv_sub hl [1, 2, 3, 0] rfl) hP hS (Nat.lt_succ_self _) (iR_w hx4_1 (by decide) (by decide)) (by omega) (by omega) (by omega) (by omega)
  refine lv_iconst (v := 0) hx hb dX7_otherMaps_0 (by decide) ?_
  refine lv_istore_n (lv' := [(1, .int 0), (0, .ref (E.2.1 + 1076))]) hx hb dX7_otherMaps_1 rfl hl (by decide) rfl (fun ls hl => ?_)
  refine lv_iconst (v := 0) hx hb dX7_otherMaps_2 (by decide) ?_
  refine lv_istore_n (lv' := [(2, .int 0), (1, .int 0), (0, .ref (E.2.1 + 1076))]) hx hb dX7_otherMaps_3 rfl hl (by decide) rfl (fun ls hl => ?_)
  exact b4_0 ls _ _ _ (0 : Int32) 0 (lv_sub hl [2, 1, 0] rfl) hP hS (Nat.lt_succ_self _) (iR_w (show iR 0 (0) (0) from ⟨by decide, by decide⟩) (by decide) (by decide)) (by omega) (by omega)

set_option maxHeartbeats 4000000 in
set_option maxRecDepth 100000 in
theorem d_X7_canTurn (l : Launch) (E : hE) (ρ r : Nat → Nat → Int32) (Bt : Nat) (hBt : Bt ≤ 1000000) (M : Nat → Int32) (L : Nat → Nat) (X : Nat × Nat → Prop) (a1 : Int32) (hI : RI r Bt M L X ρ) : Met l yX7_canTurn (.code yX7_canTurn cX7_canTurn 2 (some .boolean) :: gw_all) (rmk 1 40) (cPre E ρ [.ref (E.2.1 + 1076), .int a1]) (cI E (fun v ρ1 => ρ = ρ1 ∧ RI r Bt M L X ρ1 ∧ (v = 0 ∨ v = 1 ∧ iR a1 1 200))) 0 0 (hA E) := by
  refine ent (own := RX7) (by decide) rfl (Nat.le_of_ble_eq_true rfl) ?_
  intro p e s m below meth c ls B hr hlk hl hP hS
  have hx := B.1.1
  have hb := B.1.2.1
  have hown := B.1.2.2.2.1
  have hts := B.1.2.2.2.2
  have hl : lv_has ls 2 [(0, .ref (E.2.1 + 1076)), (1, .int a1)] := hl
  refine lv_iload_n hx hb dX7_canTurn_0 rfl (lv_at hl 1 rfl) ?_
  refine lv_i2l hx hb dX7_canTurn_1 rfl ?_
  refine lv_lconst (v := 1) hx hb dX7_canTurn_2 (by decide) ?_
  refine lv_ldc2 (v := 200) hx hb hown (hts _ mw_1255) dX7_canTurn_3 ?_
  refine call_i (cS (av := [.long a1.toInt64, .long 1, .long 200]) (rest := []) B hP hS (c_in l E ρ a1.toInt64 1 200 1 200 (by decide) (by decide)) lk_RX7_71 rfl rfl hl.1 (Nat.le_of_ble_eq_true rfl) ⟨Nat.le_of_ble_eq_true rfl, Nat.le_of_ble_eq_true rfl⟩ ⟨Nat.le_of_ble_eq_true rfl, Nat.le_of_ble_eq_true rfl⟩ dX7_canTurn_6) hS (fun r17 ρ18 H locs q19 hP hS => ?_)
  obtain ⟨rfl, q19⟩ := q19
  rcases q19 with ⟨rfl, q19⟩ | ⟨rfl, q19⟩
  · skip
    have i20 : iR a1 1 200 := (lR_i _ _ _).mp q19
    refine lv_if_eq (tgt := 32) hx hb dX7_canTurn_9 (by decide) (fun c21 => absurd c21 (iR_ne (show iR 1 (1) (1) from ⟨by decide, by decide⟩) (show iR 0 (0) (0) from ⟨by decide, by decide⟩) (by decide))) (fun _ => ?_)
    refine lv_aload_n hx hb dX7_canTurn_12 rfl (lv_at hl 0 rfl) ?_
    refine get7 B hP (show hk 1076 = 7 by decide +kernel) 3 (by decide) mw_1030 rfl dX7_canTurn_13 ?_
    refine lv_bipush (v := 7) hx hb dX7_canTurn_16 (by decide) ?_
    refine aldn (n := 695) (j := 7) B hP (show hk 1078 = 8 by decide +kernel) (show hlen 1078 = 695 by decide +kernel) rfl (by omega) (by decide) dX7_canTurn_18 ?_
    have i22 : iR (ρ 1078 7) (0) (1000000) := (iR_w (g_time hI) (by omega) (by omega))
    obtain ⟨j23, lj23, uj23, ej23⟩ := iR_nat (a := 0) (b := 1000000) i22
    refine lv_topi (fun z24 ez24 => ?_)
    obtain rfl : z24 = nI j23 := ez24.trans ej23
    refine lv_iconst (v := 2) hx hb dX7_canTurn_19 (by decide) ?_
    refine lv_iload_n hx hb dX7_canTurn_20 rfl (lv_at hl 1 rfl) ?_
    obtain ⟨j25, lj25, uj25, ej25⟩ := iR_nat (a := 1) (b := 200) i20
    refine lv_topi (fun z26 ez26 => ?_)
    obtain rfl : z26 = nI j25 := ez26.trans ej25
    refine lv_imul hx hb dX7_canTurn_21 ?_
    refine lv_topi (fun z27 ez27 => ?_)
    obtain rfl : z27 = (nI (2 * j25)) := ez27.trans (by rw [show 2 = nI 2 from rfl, show (nI j25) = nI j25 from rfl, nI_mul] <;> exact congrArg nI (by omega))
    refine lv_iadd hx hb dX7_canTurn_22 ?_
    refine lv_topi (fun z28 ez28 => ?_)
    obtain rfl : z28 = (nI (2 * j25 + j23)) := ez28.trans (by rw [show (nI j23) = nI j23 from rfl, show (nI (2 * j25)) = nI (2 * j25) from rfl, nI_add] <;> exact congrArg nI (by omega))
    refine lv_ldc (v := 99998) hx hb hown (hts _ mw_1256) dX7_canTurn_23 ?_
    refine lv_icmp_gt (tgt := 32) hx hb dX7_canTurn_25 (by decide) (fun c29 => ?_) (fun c29 => ?_)
    · skip
      have n30 := (nx_lt (a := 99998) (b := (2 * j25 + j23)) (by omega) (by omega)).mp (show (nI 99998 < nI (2 * j25 + j23)) from c29)
      refine lv_iconst (v := 0) hx hb dX7_canTurn_32 (by decide) ?_
      exact ret_z B hr hlk hP hS dX7_canTurn_33 (Or.inl rfl) (⟨rfl, hI, (Or.inl rfl)⟩)
    · skip
      have n31 := mt (nx_lt (a := 99998) (b := (2 * j25 + j23)) (by omega) (by omega)).mpr (show ¬ (nI 99998 < nI (2 * j25 + j23)) from c29)
      refine lv_iconst (v := 1) hx hb dX7_canTurn_28 (by decide) ?_
      refine lv_goto (tgt := 33) hx hb dX7_canTurn_29 (by decide) ?_
      exact ret_z B hr hlk hP hS dX7_canTurn_33 (Or.inr rfl) (⟨rfl, hI, (Or.inr ⟨rfl, (iR_w (a := 1) (b := 200) i20 (by decide) (by decide))⟩)⟩)
  · skip
    refine lv_if_eq (tgt := 32) hx hb dX7_canTurn_9 (by decide) (fun _ => ?_) (fun c32 => absurd rfl c32)
    refine lv_iconst (v := 0) hx hb dX7_canTurn_32 (by decide) ?_
    exact ret_z B hr hlk hP hS dX7_canTurn_33 (Or.inl rfl) (⟨rfl, hI, (Or.inl rfl)⟩)

set_option maxHeartbeats 4000000 in
set_option maxRecDepth 100000 in
theorem d_X7_heardOfAll (l : Launch) (E : hE) (ρ r : Nat → Nat → Int32) (Bt : Nat) (hBt : Bt ≤ 1000000) (M : Nat → Int32) (L : Nat → Nat) (X : Nat × Nat → Prop) (hI : RI r Bt M L X ρ) : Met l yX7_heardOfAll (.code yX7_heardOfAll cX7_heardOfAll 4 (some .int) :: gw_all) (rmk 3 120) (cPre E ρ [.ref (E.2.1 + 1076)]) (cI E (fun v ρ1 => ρ = ρ1 ∧ RI r Bt M L X ρ1)) 0 0 (hA E) := by
  refine ent (own := RX7) (by decide) rfl (Nat.le_of_ble_eq_true rfl) ?_
  intro p e s m below meth c ls B hr hlk hl hP hS
  have hx := B.1.1
  have hb := B.1.2.1
  have hown := B.1.2.2.2.1
  have hts := B.1.2.2.2.2
  have hl : lv_has ls 4 [(0, .ref (E.2.1 + 1076))] := hl
  have b4_0 : ∀ (ls : Array Slot) (H : Heap) (locs : List Loc) (d4 : Nat) (x4_1 : Int32) (j4_2 : Nat), lv_has ls 4 [(0, .ref (E.2.1 + 1076)), (1, .int x4_1), (2, .int (nI j4_2))] → WP E ρ H → va_S (hA E) s.heap H locs → 3 - j4_2 < d4 → iR x4_1 (-2147483648) (2147483647) → 0 ≤ j4_2 → j4_2 ≤ 2 → W p l e (rmk 3 120) s m ([.ref (E.2.1 + 1076)] : List Value).toArray below meth c H locs 0 0 (MQ below (cI E (fun v ρ1 => ρ = ρ1 ∧ RI r Bt M L X ρ1)) ([.ref (E.2.1 + 1076)] : List Value).toArray s 0 0 (hA E)) (F0 m 4 ls []) := by
    intro ls H locs d4
    induction d4 generalizing ls H locs with
    | zero => intro x4_1 j4_2 hl hP hS hd4 hx4_1 lj4_2 uj4_2; exact absurd hd4 (Nat.not_lt_zero _)
    | succ d4 ih4 =>
      intro x4_1 j4_2 hl hP hS hd4 hx4_1 lj4_2 uj4_2
      have b71_0 : ∀ (ls : Array Slot) (H : Heap) (locs : List Loc) (x71_1 : Int32), lv_has ls 4 [(0, .ref (E.2.1 + 1076)), (1, .int x71_1), (2, .int (nI j4_2))] → WP E ρ H → va_S (hA E) s.heap H locs → iR x71_1 (-2147483648) (2147483647) → 0 ≤ j4_2 → j4_2 ≤ 1 → W p l e (rmk 3 120) s m ([.ref (E.2.1 + 1076)] : List Value).toArray below meth c H locs 0 0 (MQ below (cI E (fun v ρ1 => ρ = ρ1 ∧ RI r Bt M L X ρ1)) ([.ref (E.2.1 + 1076)] : List Value).toArray s 0 0 (hA E)) (F0 m 71 ls []) := by
        intro ls H locs x71_1 hl hP hS hx71_1 tlj4_2 tuj4_2
        refine lv_iinc (v := (nI (1 + j4_2))) (lv' := [(2, .int (nI (1 + j4_2))), (0, .ref (E.2.1 + 1076)), (1, .int x71_1)]) hx hb dX7_heardOfAll_71 hl (k := 2) rfl (show nI j4_2 + nI 1 = _ from (nI_add _ _).trans (congrArg nI (by omega))) (by decide) rfl (fun ls hl => ?_)
        refine lv_goto (tgt := 4) hx hb dX7_heardOfAll_74 (by decide) ?_
        exact ih4 ls _ _ (x71_1 : Int32) (1 + j4_2) (lv_sub hl [1, 2, 0] rfl) hP hS (by omega) (iR_w hx71_1 (by decide) (by decide)) (by omega) (by omega)
      have b11_0 : ∀ (ls : Array Slot) (H : Heap) (locs : List Loc) (d11 : Nat) (x11_1 : Int32) (j11_3 : Nat), lv_has ls 4 [(0, .ref (E.2.1 + 1076)), (1, .int x11_1), (2, .int (nI j4_2)), (3, .int (nI j11_3))] → WP E ρ H → va_S (hA E) s.heap H locs → 5 - j11_3 < d11 → iR x11_1 (-2147483648) (2147483647) → 0 ≤ j11_3 → j11_3 ≤ 4 → 0 ≤ j4_2 → j4_2 ≤ 1 → W p l e (rmk 3 120) s m ([.ref (E.2.1 + 1076)] : List Value).toArray below meth c H locs 0 0 (MQ below (cI E (fun v ρ1 => ρ = ρ1 ∧ RI r Bt M L X ρ1)) ([.ref (E.2.1 + 1076)] : List Value).toArray s 0 0 (hA E)) (F0 m 11 ls []) := by
        intro ls H locs d11
        induction d11 generalizing ls H locs with
        | zero => intro x11_1 j11_3 hl hP hS hd11 hx11_1 lj11_3 uj11_3 tlj4_2 tuj4_2; exact absurd hd11 (Nat.not_lt_zero _)
        | succ d11 ih11 =>
          intro x11_1 j11_3 hl hP hS hd11 hx11_1 lj11_3 uj11_3 tlj4_2 tuj4_2
          refine lv_aload_n hx hb dX7_heardOfAll_11 rfl (lv_at hl 0 rfl) ?_
          refine lv_iload_n hx hb dX7_heardOfAll_12 rfl (lv_at hl 2 rfl) ?_
          refine call_i (cVt (k := 1076) (av := [.int (nI j4_2)]) (rest := []) B hP hS (d_X7_isNet l E ρ r Bt hBt M L X (nI j4_2) hI) lk_RX7_78 (hrecv (ci := 7) B hP (hk_lt (c := 7) (show hk 1076 = 7 by decide +kernel) (by decide)) (hcc7 _ _ (show hk 1076 = 7 by decide +kernel)) rfl) rfl rfl hl.1 (Nat.le_of_ble_eq_true rfl) ⟨Nat.le_of_ble_eq_true rfl, Nat.le_of_ble_eq_true rfl⟩ ⟨Nat.le_of_ble_eq_true rfl, Nat.le_of_ble_eq_true rfl⟩ dX7_heardOfAll_13) hS (fun r225 ρ226 H locs q227 hP hS => ?_)
          obtain ⟨rfl, hI, q227⟩ := q227
          rcases q227 with rfl | ⟨rfl, j228, hj228, ej228, i229⟩
          · skip
            refine lv_if_eq (tgt := 71) hx hb dX7_heardOfAll_16 (by decide) (fun _ => ?_) (fun c230 => absurd rfl c230)
            exact b71_0 ls _ _ (x11_1 : Int32) (lv_sub hl [0, 1, 2] rfl) hP hS (iR_w hx11_1 (by decide) (by decide)) (by omega) (by omega)
          · skip
            have n231 : j4_2 = j228 := (nI_eq (by omega) (by omega)).mp (show nI j4_2 = nI j228 from ej228)
            have i232 : iR (M j4_2) 0 5 := by rw [n231]; exact i229
            refine lv_if_eq (tgt := 71) hx hb dX7_heardOfAll_16 (by decide) (fun c233 => absurd c233 (iR_ne (show iR 1 (1) (1) from ⟨by decide, by decide⟩) (show iR 0 (0) (0) from ⟨by decide, by decide⟩) (by decide))) (fun _ => ?_)
            refine lv_iload_n hx hb dX7_heardOfAll_19 rfl (lv_at hl 3 rfl) ?_
            refine lv_aload_n hx hb dX7_heardOfAll_20 rfl (lv_at hl 0 rfl) ?_
            refine get7 B hP (show hk 1076 = 7 by decide +kernel) 3 (by decide) mw_1030 rfl dX7_heardOfAll_21 ?_
            refine lv_iload_n hx hb dX7_heardOfAll_24 rfl (lv_at hl 2 rfl) ?_
            refine call_i (cS (av := [.int (nI j4_2)]) (rest := [.ref (E.2.1 + 1078), .int (nI j11_3)]) B hP hS (d_X7_netAt l E ρ r Bt hBt M L X j4_2 (by omega) (by omega) hI) lk_RX7_75 rfl rfl hl.1 (Nat.le_of_ble_eq_true rfl) ⟨Nat.le_of_ble_eq_true rfl, Nat.le_of_ble_eq_true rfl⟩ ⟨Nat.le_of_ble_eq_true rfl, Nat.le_of_ble_eq_true rfl⟩ dX7_heardOfAll_25) hS (fun r234 ρ235 H locs q236 hP hS => ?_)
            obtain ⟨rfl, hI, q236⟩ := q236
            obtain rfl : r234 = nI (42 + 326 * j4_2) := q236.trans (congrArg nI (by omega))
            refine lv_bipush (v := 6) hx hb dX7_heardOfAll_28 (by decide) ?_
            refine lv_iadd hx hb dX7_heardOfAll_30 ?_
            refine lv_topi (fun z237 ez237 => ?_)
            obtain rfl : z237 = (nI (48 + 326 * j4_2)) := ez237.trans (by rw [show (nI (42 + 326 * j4_2)) = nI (42 + 326 * j4_2) from rfl, show 6 = nI 6 from rfl, nI_add] <;> exact congrArg nI (by omega))
            have := RI_Lb (n := j4_2) hI (by omega)
            refine aldf (n := 695) (j := (48 + 326 * j4_2)) (v := (nI (L j4_2))) B hP (show hk 1078 = 8 by decide +kernel) (show hlen 1078 = 695 by decide +kernel) rfl (by omega) (by decide) (g_l (n0 := j4_2) hI (by omega) (by omega)) dX7_heardOfAll_31 ?_
            refine lv_icmp_ge (tgt := 71) hx hb dX7_heardOfAll_32 (by decide) (fun c238 => ?_) (fun c238 => ?_)
            · skip
              have n239 := mt (nx_lt (a := j11_3) (b := (L j4_2)) (by omega) (by omega)).mpr (show ¬ (nI j11_3 < nI (L j4_2)) from (Int32.not_lt.mpr c238))
              exact b71_0 ls _ _ (x11_1 : Int32) (lv_sub hl [0, 1, 2] rfl) hP hS (iR_w hx11_1 (by decide) (by decide)) (by omega) (by omega)
            · skip
              have n240 := (nx_lt (a := j11_3) (b := (L j4_2)) (by omega) (by omega)).mp (show (nI j11_3 < nI (L j4_2)) from (Int32.not_le.mp c238))
              refine lv_iload_n hx hb dX7_heardOfAll_35 rfl (lv_at hl 1 rfl) ?_
              refine lv_aload_n hx hb dX7_heardOfAll_36 rfl (lv_at hl 0 rfl) ?_
              refine get7 B hP (show hk 1076 = 7 by decide +kernel) 3 (by decide) mw_1030 rfl dX7_heardOfAll_37 ?_
              refine lv_iload_n hx hb dX7_heardOfAll_40 rfl (lv_at hl 2 rfl) ?_
              refine lv_iload_n hx hb dX7_heardOfAll_41 rfl (lv_at hl 3 rfl) ?_
              refine call_i (cS (av := [.int (nI j4_2), .int (nI j11_3)]) (rest := [.ref (E.2.1 + 1078), .int x11_1]) B hP hS (d_X7_linkAt l E ρ r Bt hBt M L X j4_2 (by omega) (by omega) j11_3 (by omega) (by omega) hI) lk_RX7_82 rfl rfl hl.1 (Nat.le_of_ble_eq_true rfl) ⟨Nat.le_of_ble_eq_true rfl, Nat.le_of_ble_eq_true rfl⟩ ⟨Nat.le_of_ble_eq_true rfl, Nat.le_of_ble_eq_true rfl⟩ dX7_heardOfAll_42) hS (fun r241 ρ242 H locs q243 hP hS => ?_)
              obtain ⟨rfl, hI, q243⟩ := q243
              obtain rfl : r241 = nI (104 + 326 * j4_2 + 66 * j11_3) := q243.trans (congrArg nI (by omega))
              refine lv_bipush (v := 27) hx hb dX7_heardOfAll_45 (by decide) ?_
              refine lv_iadd hx hb dX7_heardOfAll_47 ?_
              refine lv_topi (fun z244 ez244 => ?_)
              obtain rfl : z244 = (nI (131 + 326 * j4_2 + 66 * j11_3)) := ez244.trans (by rw [show (nI (104 + 326 * j4_2 + 66 * j11_3)) = nI (104 + 326 * j4_2 + 66 * j11_3) from rfl, show 27 = nI 27 from rfl, nI_add] <;> exact congrArg nI (by omega))
              refine aldn (n := 695) (j := (131 + 326 * j4_2 + 66 * j11_3)) B hP (show hk 1078 = 8 by decide +kernel) (show hlen 1078 = 695 by decide +kernel) rfl (by omega) (by decide) dX7_heardOfAll_48 ?_
              refine lv_aload_n hx hb dX7_heardOfAll_49 rfl (lv_at hl 0 rfl) ?_
              refine get7 B hP (show hk 1076 = 7 by decide +kernel) 3 (by decide) mw_1030 rfl dX7_heardOfAll_50 ?_
              refine lv_iload_n hx hb dX7_heardOfAll_53 rfl (lv_at hl 2 rfl) ?_
              refine lv_iload_n hx hb dX7_heardOfAll_54 rfl (lv_at hl 3 rfl) ?_
              refine call_i (cS (av := [.int (nI j4_2), .int (nI j11_3)]) (rest := [.ref (E.2.1 + 1078), .int (ρ 1078 (131 + 326 * j4_2 + 66 * j11_3)), .int x11_1]) B hP hS (d_X7_linkAt l E ρ r Bt hBt M L X j4_2 (by omega) (by omega) j11_3 (by omega) (by omega) hI) lk_RX7_82 rfl rfl hl.1 (Nat.le_of_ble_eq_true rfl) ⟨Nat.le_of_ble_eq_true rfl, Nat.le_of_ble_eq_true rfl⟩ ⟨Nat.le_of_ble_eq_true rfl, Nat.le_of_ble_eq_true rfl⟩ dX7_heardOfAll_55) hS (fun r245 ρ246 H locs q247 hP hS => ?_)
              obtain ⟨rfl, hI, q247⟩ := q247
              obtain rfl : r245 = nI (104 + 326 * j4_2 + 66 * j11_3) := q247.trans (congrArg nI (by omega))
              refine lv_bipush (v := 29) hx hb dX7_heardOfAll_58 (by decide) ?_
              refine lv_iadd hx hb dX7_heardOfAll_60 ?_
              refine lv_topi (fun z248 ez248 => ?_)
              obtain rfl : z248 = (nI (133 + 326 * j4_2 + 66 * j11_3)) := ez248.trans (by rw [show (nI (104 + 326 * j4_2 + 66 * j11_3)) = nI (104 + 326 * j4_2 + 66 * j11_3) from rfl, show 29 = nI 29 from rfl, nI_add] <;> exact congrArg nI (by omega))
              refine aldn (n := 695) (j := (133 + 326 * j4_2 + 66 * j11_3)) B hP (show hk 1078 = 8 by decide +kernel) (show hlen 1078 = 695 by decide +kernel) rfl (by omega) (by decide) dX7_heardOfAll_61 ?_
              refine lv_iadd hx hb dX7_heardOfAll_62 ?_
              refine lv_iadd hx hb dX7_heardOfAll_63 ?_
              refine lv_istore_n (lv' := [(1, .int (x11_1 + ((ρ 1078 (131 + 326 * j4_2 + 66 * j11_3)) + (ρ 1078 (133 + 326 * j4_2 + 66 * j11_3))))), (0, .ref (E.2.1 + 1076)), (2, .int (nI j4_2)), (3, .int (nI j11_3))]) hx hb dX7_heardOfAll_64 rfl hl (by decide) rfl (fun ls hl => ?_)
              refine lv_iinc (v := (nI (1 + j11_3))) (lv' := [(3, .int (nI (1 + j11_3))), (1, .int (x11_1 + ((ρ 1078 (131 + 326 * j4_2 + 66 * j11_3)) + (ρ 1078 (133 + 326 * j4_2 + 66 * j11_3))))), (0, .ref (E.2.1 + 1076)), (2, .int (nI j4_2))]) hx hb dX7_heardOfAll_65 hl (k := 3) rfl (show nI j11_3 + nI 1 = _ from (nI_add _ _).trans (congrArg nI (by omega))) (by decide) rfl (fun ls hl => ?_)
              refine lv_goto (tgt := 11) hx hb dX7_heardOfAll_68 (by decide) ?_
              exact ih11 ls _ _ ((x11_1 + ((ρ 1078 (131 + 326 * j4_2 + 66 * j11_3)) + (ρ 1078 (133 + 326 * j4_2 + 66 * j11_3)))) : Int32) (1 + j11_3) (lv_sub hl [2, 1, 3, 0] rfl) hP hS (by omega) (iR_w (iR_any (x11_1 + ((ρ 1078 (131 + 326 * j4_2 + 66 * j11_3)) + (ρ 1078 (133 + 326 * j4_2 + 66 * j11_3))))) (by decide) (by decide)) (by omega) (by omega) (by omega) (by omega)
      refine lv_iload_n hx hb dX7_heardOfAll_4 rfl (lv_at hl 2 rfl) ?_
      refine lv_iconst (v := 2) hx hb dX7_heardOfAll_5 (by decide) ?_
      refine lv_icmp_ge (tgt := 77) hx hb dX7_heardOfAll_6 (by decide) (fun c249 => ?_) (fun c249 => ?_)
      · skip
        have n250 := mt (nx_lt (a := j4_2) (b := 2) (by omega) (by omega)).mpr (show ¬ (nI j4_2 < nI 2) from (Int32.not_lt.mpr c249))
        refine lv_iload_n hx hb dX7_heardOfAll_77 rfl (lv_at hl 1 rfl) ?_
        exact ret_i B hr hlk hP hS dX7_heardOfAll_78 (⟨rfl, hI⟩)
      · skip
        have n251 := (nx_lt (a := j4_2) (b := 2) (by omega) (by omega)).mp (show (nI j4_2 < nI 2) from (Int32.not_le.mp c249))
        refine lv_iconst (v := 0) hx hb dX7_heardOfAll_9 (by decide) ?_
        refine lv_istore_n (lv' := [(3, .int 0), (0, .ref (E.2.1 + 1076)), (1, .int x4_1), (2, .int (nI j4_2))]) hx hb dX7_heardOfAll_10 rfl hl (by decide) rfl (fun ls hl => ?_)
        exact b11_0 ls _ _ _ (x4_1 : Int32) 0 (lv_sub hl [1, 2, 3, 0] rfl) hP hS (Nat.lt_succ_self _) (iR_w hx4_1 (by decide) (by decide)) (by omega) (by omega) (by omega) (by omega)
  refine lv_iconst (v := 0) hx hb dX7_heardOfAll_0 (by decide) ?_
  refine lv_istore_n (lv' := [(1, .int 0), (0, .ref (E.2.1 + 1076))]) hx hb dX7_heardOfAll_1 rfl hl (by decide) rfl (fun ls hl => ?_)
  refine lv_iconst (v := 0) hx hb dX7_heardOfAll_2 (by decide) ?_
  refine lv_istore_n (lv' := [(2, .int 0), (1, .int 0), (0, .ref (E.2.1 + 1076))]) hx hb dX7_heardOfAll_3 rfl hl (by decide) rfl (fun ls hl => ?_)
  exact b4_0 ls _ _ _ (0 : Int32) 0 (lv_sub hl [2, 1, 0] rfl) hP hS (Nat.lt_succ_self _) (iR_w (show iR 0 (0) (0) from ⟨by decide, by decide⟩) (by decide) (by decide)) (by omega) (by omega)
