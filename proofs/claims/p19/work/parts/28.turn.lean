theorem dX7_sendsDown_0 : decode cX7_sendsDown 0 = .ok (.iconst 0, 1) := by decide +kernel
theorem dX7_sendsDown_1 : decode cX7_sendsDown 1 = .ok (.istore_n 1, 1) := by decide +kernel
theorem dX7_sendsDown_2 : decode cX7_sendsDown 2 = .ok (.iload_n 1, 1) := by decide +kernel
theorem dX7_sendsDown_3 : decode cX7_sendsDown 3 = .ok (.iconst 2, 1) := by decide +kernel
theorem dX7_sendsDown_4 : decode cX7_sendsDown 4 = .ok (.if_icmp .ge 67, 3) := by decide +kernel
theorem dX7_sendsDown_7 : decode cX7_sendsDown 7 = .ok (.aload_n 0, 1) := by decide +kernel
theorem dX7_sendsDown_8 : decode cX7_sendsDown 8 = .ok (.getfield 35, 3) := by decide +kernel
theorem dX7_sendsDown_11 : decode cX7_sendsDown 11 = .ok (.iload_n 1, 1) := by decide +kernel
theorem dX7_sendsDown_12 : decode cX7_sendsDown 12 = .ok (.aload_n 0, 1) := by decide +kernel
theorem dX7_sendsDown_13 : decode cX7_sendsDown 13 = .ok (.getfield 32, 3) := by decide +kernel
theorem dX7_sendsDown_16 : decode cX7_sendsDown 16 = .ok (.iload_n 1, 1) := by decide +kernel
theorem dX7_sendsDown_17 : decode cX7_sendsDown 17 = .ok (.iaload, 1) := by decide +kernel
theorem dX7_sendsDown_18 : decode cX7_sendsDown 18 = .ok (.iconst (-1), 1) := by decide +kernel
theorem dX7_sendsDown_19 : decode cX7_sendsDown 19 = .ok (.if_icmp .ne 9, 3) := by decide +kernel
theorem dX7_sendsDown_22 : decode cX7_sendsDown 22 = .ok (.iconst (-1), 1) := by decide +kernel
theorem dX7_sendsDown_23 : decode cX7_sendsDown 23 = .ok (.iload_n 1, 1) := by decide +kernel
theorem dX7_sendsDown_24 : decode cX7_sendsDown 24 = .ok (.isub, 1) := by decide +kernel
theorem dX7_sendsDown_25 : decode cX7_sendsDown 25 = .ok (.goto 20, 3) := by decide +kernel
theorem dX7_sendsDown_28 : decode cX7_sendsDown 28 = .ok (.aload_n 0, 1) := by decide +kernel
theorem dX7_sendsDown_29 : decode cX7_sendsDown 29 = .ok (.iload_n 1, 1) := by decide +kernel
theorem dX7_sendsDown_30 : decode cX7_sendsDown 30 = .ok (.aload_n 0, 1) := by decide +kernel
theorem dX7_sendsDown_31 : decode cX7_sendsDown 31 = .ok (.getfield 13, 3) := by decide +kernel
theorem dX7_sendsDown_34 : decode cX7_sendsDown 34 = .ok (.bipush 7, 2) := by decide +kernel
theorem dX7_sendsDown_36 : decode cX7_sendsDown 36 = .ok (.iaload, 1) := by decide +kernel
theorem dX7_sendsDown_37 : decode cX7_sendsDown 37 = .ok (.aload_n 0, 1) := by decide +kernel
theorem dX7_sendsDown_38 : decode cX7_sendsDown 38 = .ok (.iload_n 1, 1) := by decide +kernel
theorem dX7_sendsDown_39 : decode cX7_sendsDown 39 = .ok (.invokevirtual 196, 3) := by decide +kernel
theorem dX7_sendsDown_42 : decode cX7_sendsDown 42 = .ok (.invokevirtual 114, 3) := by decide +kernel
theorem dX7_sendsDown_45 : decode cX7_sendsDown 45 = .ok (.iastore, 1) := by decide +kernel
theorem dX7_sendsDown_46 : decode cX7_sendsDown 46 = .ok (.aload_n 0, 1) := by decide +kernel
theorem dX7_sendsDown_47 : decode cX7_sendsDown 47 = .ok (.getfield 38, 3) := by decide +kernel
theorem dX7_sendsDown_50 : decode cX7_sendsDown 50 = .ok (.iload_n 1, 1) := by decide +kernel
theorem dX7_sendsDown_51 : decode cX7_sendsDown 51 = .ok (.aload_n 0, 1) := by decide +kernel
theorem dX7_sendsDown_52 : decode cX7_sendsDown 52 = .ok (.getfield 35, 3) := by decide +kernel
theorem dX7_sendsDown_55 : decode cX7_sendsDown 55 = .ok (.iload_n 1, 1) := by decide +kernel
theorem dX7_sendsDown_56 : decode cX7_sendsDown 56 = .ok (.iaload, 1) := by decide +kernel
theorem dX7_sendsDown_57 : decode cX7_sendsDown 57 = .ok (.iastore, 1) := by decide +kernel
theorem dX7_sendsDown_58 : decode cX7_sendsDown 58 = .ok (.aload_n 0, 1) := by decide +kernel
theorem dX7_sendsDown_59 : decode cX7_sendsDown 59 = .ok (.getfield 47, 3) := by decide +kernel
theorem dX7_sendsDown_62 : decode cX7_sendsDown 62 = .ok (.iload_n 1, 1) := by decide +kernel
theorem dX7_sendsDown_63 : decode cX7_sendsDown 63 = .ok (.iconst 0, 1) := by decide +kernel
theorem dX7_sendsDown_64 : decode cX7_sendsDown 64 = .ok (.bastore, 1) := by decide +kernel
theorem dX7_sendsDown_65 : decode cX7_sendsDown 65 = .ok (.iinc 1 1, 3) := by decide +kernel
theorem dX7_sendsDown_68 : decode cX7_sendsDown 68 = .ok (.goto (-66), 3) := by decide +kernel
theorem dX7_sendsDown_71 : decode cX7_sendsDown 71 = .ok (.iconst 0, 1) := by decide +kernel
theorem dX7_sendsDown_72 : decode cX7_sendsDown 72 = .ok (.istore_n 1, 1) := by decide +kernel
theorem dX7_sendsDown_73 : decode cX7_sendsDown 73 = .ok (.iload_n 1, 1) := by decide +kernel
theorem dX7_sendsDown_74 : decode cX7_sendsDown 74 = .ok (.iconst 2, 1) := by decide +kernel
theorem dX7_sendsDown_75 : decode cX7_sendsDown 75 = .ok (.if_icmp .ge 242, 3) := by decide +kernel
theorem dX7_sendsDown_78 : decode cX7_sendsDown 78 = .ok (.aload_n 0, 1) := by decide +kernel
theorem dX7_sendsDown_79 : decode cX7_sendsDown 79 = .ok (.getfield 32, 3) := by decide +kernel
theorem dX7_sendsDown_82 : decode cX7_sendsDown 82 = .ok (.iload_n 1, 1) := by decide +kernel
theorem dX7_sendsDown_83 : decode cX7_sendsDown 83 = .ok (.iaload, 1) := by decide +kernel
theorem dX7_sendsDown_84 : decode cX7_sendsDown 84 = .ok (.bipush (-2), 2) := by decide +kernel
theorem dX7_sendsDown_86 : decode cX7_sendsDown 86 = .ok (.if_icmp .ne 11, 3) := by decide +kernel
theorem dX7_sendsDown_89 : decode cX7_sendsDown 89 = .ok (.aload_n 0, 1) := by decide +kernel
theorem dX7_sendsDown_90 : decode cX7_sendsDown 90 = .ok (.iload_n 1, 1) := by decide +kernel
theorem dX7_sendsDown_91 : decode cX7_sendsDown 91 = .ok (.invokevirtual 199, 3) := by decide +kernel
theorem dX7_sendsDown_94 : decode cX7_sendsDown 94 = .ok (.goto 217, 3) := by decide +kernel
theorem dX7_sendsDown_97 : decode cX7_sendsDown 97 = .ok (.aload_n 0, 1) := by decide +kernel
theorem dX7_sendsDown_98 : decode cX7_sendsDown 98 = .ok (.getfield 32, 3) := by decide +kernel
theorem dX7_sendsDown_101 : decode cX7_sendsDown 101 = .ok (.iload_n 1, 1) := by decide +kernel
theorem dX7_sendsDown_102 : decode cX7_sendsDown 102 = .ok (.iaload, 1) := by decide +kernel
theorem dX7_sendsDown_103 : decode cX7_sendsDown 103 = .ok (.iconst (-1), 1) := by decide +kernel
theorem dX7_sendsDown_104 : decode cX7_sendsDown 104 = .ok (.if_icmp .eq 207, 3) := by decide +kernel
theorem dX7_sendsDown_107 : decode cX7_sendsDown 107 = .ok (.iload_n 1, 1) := by decide +kernel
theorem dX7_sendsDown_108 : decode cX7_sendsDown 108 = .ok (.invokestatic 75, 3) := by decide +kernel
theorem dX7_sendsDown_111 : decode cX7_sendsDown 111 = .ok (.istore_n 2, 1) := by decide +kernel
theorem dX7_sendsDown_112 : decode cX7_sendsDown 112 = .ok (.iload_n 1, 1) := by decide +kernel
theorem dX7_sendsDown_113 : decode cX7_sendsDown 113 = .ok (.aload_n 0, 1) := by decide +kernel
theorem dX7_sendsDown_114 : decode cX7_sendsDown 114 = .ok (.getfield 32, 3) := by decide +kernel
theorem dX7_sendsDown_117 : decode cX7_sendsDown 117 = .ok (.iload_n 1, 1) := by decide +kernel
theorem dX7_sendsDown_118 : decode cX7_sendsDown 118 = .ok (.iaload, 1) := by decide +kernel
theorem dX7_sendsDown_119 : decode cX7_sendsDown 119 = .ok (.invokestatic 82, 3) := by decide +kernel
theorem dX7_sendsDown_122 : decode cX7_sendsDown 122 = .ok (.istore_n 3, 1) := by decide +kernel
theorem dX7_sendsDown_123 : decode cX7_sendsDown 123 = .ok (.aload_n 0, 1) := by decide +kernel
theorem dX7_sendsDown_124 : decode cX7_sendsDown 124 = .ok (.getfield 13, 3) := by decide +kernel
theorem dX7_sendsDown_127 : decode cX7_sendsDown 127 = .ok (.bipush 11, 2) := by decide +kernel
theorem dX7_sendsDown_129 : decode cX7_sendsDown 129 = .ok (.dup2, 1) := by decide +kernel
theorem dX7_sendsDown_130 : decode cX7_sendsDown 130 = .ok (.iaload, 1) := by decide +kernel
theorem dX7_sendsDown_131 : decode cX7_sendsDown 131 = .ok (.iconst 1, 1) := by decide +kernel
theorem dX7_sendsDown_132 : decode cX7_sendsDown 132 = .ok (.iadd, 1) := by decide +kernel
theorem dX7_sendsDown_133 : decode cX7_sendsDown 133 = .ok (.iastore, 1) := by decide +kernel
theorem dX7_sendsDown_134 : decode cX7_sendsDown 134 = .ok (.aload_n 0, 1) := by decide +kernel
theorem dX7_sendsDown_135 : decode cX7_sendsDown 135 = .ok (.getfield 13, 3) := by decide +kernel
theorem dX7_sendsDown_138 : decode cX7_sendsDown 138 = .ok (.iload_n 3, 1) := by decide +kernel
theorem dX7_sendsDown_139 : decode cX7_sendsDown 139 = .ok (.bipush 38, 2) := by decide +kernel
theorem dX7_sendsDown_141 : decode cX7_sendsDown 141 = .ok (.iadd, 1) := by decide +kernel
theorem dX7_sendsDown_142 : decode cX7_sendsDown 142 = .ok (.dup2, 1) := by decide +kernel
theorem dX7_sendsDown_143 : decode cX7_sendsDown 143 = .ok (.iaload, 1) := by decide +kernel
theorem dX7_sendsDown_144 : decode cX7_sendsDown 144 = .ok (.iconst 1, 1) := by decide +kernel
theorem dX7_sendsDown_145 : decode cX7_sendsDown 145 = .ok (.iadd, 1) := by decide +kernel
theorem dX7_sendsDown_146 : decode cX7_sendsDown 146 = .ok (.iastore, 1) := by decide +kernel
theorem dX7_sendsDown_147 : decode cX7_sendsDown 147 = .ok (.aload_n 0, 1) := by decide +kernel
theorem dX7_sendsDown_148 : decode cX7_sendsDown 148 = .ok (.getfield 13, 3) := by decide +kernel
theorem dX7_sendsDown_151 : decode cX7_sendsDown 151 = .ok (.iload_n 2, 1) := by decide +kernel
theorem dX7_sendsDown_152 : decode cX7_sendsDown 152 = .ok (.bipush 16, 2) := by decide +kernel
theorem dX7_sendsDown_154 : decode cX7_sendsDown 154 = .ok (.iadd, 1) := by decide +kernel
theorem dX7_sendsDown_155 : decode cX7_sendsDown 155 = .ok (.aload_n 0, 1) := by decide +kernel
theorem dX7_sendsDown_156 : decode cX7_sendsDown 156 = .ok (.getfield 35, 3) := by decide +kernel
theorem dX7_sendsDown_159 : decode cX7_sendsDown 159 = .ok (.iload_n 1, 1) := by decide +kernel
theorem dX7_sendsDown_160 : decode cX7_sendsDown 160 = .ok (.iaload, 1) := by decide +kernel
theorem dX7_sendsDown_161 : decode cX7_sendsDown 161 = .ok (.iadd, 1) := by decide +kernel
theorem dX7_sendsDown_162 : decode cX7_sendsDown 162 = .ok (.dup2, 1) := by decide +kernel
theorem dX7_sendsDown_163 : decode cX7_sendsDown 163 = .ok (.iaload, 1) := by decide +kernel
theorem dX7_sendsDown_164 : decode cX7_sendsDown 164 = .ok (.iconst 1, 1) := by decide +kernel
theorem dX7_sendsDown_165 : decode cX7_sendsDown 165 = .ok (.iadd, 1) := by decide +kernel
theorem dX7_sendsDown_166 : decode cX7_sendsDown 166 = .ok (.iastore, 1) := by decide +kernel
theorem dX7_sendsDown_167 : decode cX7_sendsDown 167 = .ok (.aload_n 0, 1) := by decide +kernel
theorem dX7_sendsDown_168 : decode cX7_sendsDown 168 = .ok (.getfield 41, 3) := by decide +kernel
theorem dX7_sendsDown_171 : decode cX7_sendsDown 171 = .ok (.iload_n 1, 1) := by decide +kernel
theorem dX7_sendsDown_172 : decode cX7_sendsDown 172 = .ok (.aload_n 0, 1) := by decide +kernel
theorem dX7_sendsDown_173 : decode cX7_sendsDown 173 = .ok (.getfield 13, 3) := by decide +kernel
theorem dX7_sendsDown_176 : decode cX7_sendsDown 176 = .ok (.iload_n 3, 1) := by decide +kernel
theorem dX7_sendsDown_177 : decode cX7_sendsDown 177 = .ok (.iconst 5, 1) := by decide +kernel
theorem dX7_sendsDown_178 : decode cX7_sendsDown 178 = .ok (.iadd, 1) := by decide +kernel
theorem dX7_sendsDown_179 : decode cX7_sendsDown 179 = .ok (.iaload, 1) := by decide +kernel
theorem dX7_sendsDown_180 : decode cX7_sendsDown 180 = .ok (.ifCond .le 7, 3) := by decide +kernel
theorem dX7_sendsDown_183 : decode cX7_sendsDown 183 = .ok (.iconst 1, 1) := by decide +kernel
theorem dX7_sendsDown_184 : decode cX7_sendsDown 184 = .ok (.goto 4, 3) := by decide +kernel
theorem dX7_sendsDown_187 : decode cX7_sendsDown 187 = .ok (.iconst 0, 1) := by decide +kernel
theorem dX7_sendsDown_188 : decode cX7_sendsDown 188 = .ok (.bastore, 1) := by decide +kernel
theorem dX7_sendsDown_189 : decode cX7_sendsDown 189 = .ok (.aload_n 0, 1) := by decide +kernel
theorem dX7_sendsDown_190 : decode cX7_sendsDown 190 = .ok (.getfield 44, 3) := by decide +kernel
theorem dX7_sendsDown_193 : decode cX7_sendsDown 193 = .ok (.iload_n 1, 1) := by decide +kernel
theorem dX7_sendsDown_194 : decode cX7_sendsDown 194 = .ok (.aload_n 0, 1) := by decide +kernel
theorem dX7_sendsDown_195 : decode cX7_sendsDown 195 = .ok (.getfield 13, 3) := by decide +kernel
theorem dX7_sendsDown_198 : decode cX7_sendsDown 198 = .ok (.iload_n 3, 1) := by decide +kernel
theorem dX7_sendsDown_199 : decode cX7_sendsDown 199 = .ok (.iconst 4, 1) := by decide +kernel
theorem dX7_sendsDown_200 : decode cX7_sendsDown 200 = .ok (.iadd, 1) := by decide +kernel
theorem dX7_sendsDown_201 : decode cX7_sendsDown 201 = .ok (.iaload, 1) := by decide +kernel
theorem dX7_sendsDown_202 : decode cX7_sendsDown 202 = .ok (.ifCond .ne 7, 3) := by decide +kernel
theorem dX7_sendsDown_205 : decode cX7_sendsDown 205 = .ok (.iconst 1, 1) := by decide +kernel
theorem dX7_sendsDown_206 : decode cX7_sendsDown 206 = .ok (.goto 4, 3) := by decide +kernel
theorem dX7_sendsDown_209 : decode cX7_sendsDown 209 = .ok (.iconst 0, 1) := by decide +kernel
theorem dX7_sendsDown_210 : decode cX7_sendsDown 210 = .ok (.bastore, 1) := by decide +kernel
theorem dX7_sendsDown_211 : decode cX7_sendsDown 211 = .ok (.aload_n 0, 1) := by decide +kernel
theorem dX7_sendsDown_212 : decode cX7_sendsDown 212 = .ok (.iload_n 1, 1) := by decide +kernel
theorem dX7_sendsDown_213 : decode cX7_sendsDown 213 = .ok (.aload_n 0, 1) := by decide +kernel
theorem dX7_sendsDown_214 : decode cX7_sendsDown 214 = .ok (.iload_n 1, 1) := by decide +kernel
theorem dX7_sendsDown_215 : decode cX7_sendsDown 215 = .ok (.aload_n 0, 1) := by decide +kernel
theorem dX7_sendsDown_216 : decode cX7_sendsDown 216 = .ok (.getfield 13, 3) := by decide +kernel
theorem dX7_sendsDown_219 : decode cX7_sendsDown 219 = .ok (.bipush 7, 2) := by decide +kernel
theorem dX7_sendsDown_221 : decode cX7_sendsDown 221 = .ok (.iaload, 1) := by decide +kernel
theorem dX7_sendsDown_222 : decode cX7_sendsDown 222 = .ok (.aload_n 0, 1) := by decide +kernel
theorem dX7_sendsDown_223 : decode cX7_sendsDown 223 = .ok (.getfield 13, 3) := by decide +kernel
theorem dX7_sendsDown_226 : decode cX7_sendsDown 226 = .ok (.iload_n 3, 1) := by decide +kernel
theorem dX7_sendsDown_227 : decode cX7_sendsDown 227 = .ok (.iconst 1, 1) := by decide +kernel
theorem dX7_sendsDown_228 : decode cX7_sendsDown 228 = .ok (.iadd, 1) := by decide +kernel
theorem dX7_sendsDown_229 : decode cX7_sendsDown 229 = .ok (.iaload, 1) := by decide +kernel
theorem dX7_sendsDown_230 : decode cX7_sendsDown 230 = .ok (.invokevirtual 114, 3) := by decide +kernel
theorem dX7_sendsDown_233 : decode cX7_sendsDown 233 = .ok (.invokevirtual 202, 3) := by decide +kernel
theorem dX7_sendsDown_236 : decode cX7_sendsDown 236 = .ok (.istore 4, 2) := by decide +kernel
theorem dX7_sendsDown_238 : decode cX7_sendsDown 238 = .ok (.aload_n 0, 1) := by decide +kernel
theorem dX7_sendsDown_239 : decode cX7_sendsDown 239 = .ok (.getfield 13, 3) := by decide +kernel
theorem dX7_sendsDown_242 : decode cX7_sendsDown 242 = .ok (.iload_n 3, 1) := by decide +kernel
theorem dX7_sendsDown_243 : decode cX7_sendsDown 243 = .ok (.bipush 37, 2) := by decide +kernel
theorem dX7_sendsDown_245 : decode cX7_sendsDown 245 = .ok (.iadd, 1) := by decide +kernel
theorem dX7_sendsDown_246 : decode cX7_sendsDown 246 = .ok (.iload 4, 2) := by decide +kernel
theorem dX7_sendsDown_248 : decode cX7_sendsDown 248 = .ok (.ifCond .ne 7, 3) := by decide +kernel
theorem dX7_sendsDown_251 : decode cX7_sendsDown 251 = .ok (.iconst 0, 1) := by decide +kernel
theorem dX7_sendsDown_252 : decode cX7_sendsDown 252 = .ok (.goto 8, 3) := by decide +kernel
theorem dX7_sendsDown_255 : decode cX7_sendsDown 255 = .ok (.bipush 10, 2) := by decide +kernel
theorem dX7_sendsDown_257 : decode cX7_sendsDown 257 = .ok (.iload 4, 2) := by decide +kernel
theorem dX7_sendsDown_259 : decode cX7_sendsDown 259 = .ok (.iadd, 1) := by decide +kernel
theorem dX7_sendsDown_260 : decode cX7_sendsDown 260 = .ok (.iastore, 1) := by decide +kernel
theorem dX7_sendsDown_261 : decode cX7_sendsDown 261 = .ok (.aload_n 0, 1) := by decide +kernel
theorem dX7_sendsDown_262 : decode cX7_sendsDown 262 = .ok (.getfield 47, 3) := by decide +kernel
theorem dX7_sendsDown_265 : decode cX7_sendsDown 265 = .ok (.iload_n 1, 1) := by decide +kernel
theorem dX7_sendsDown_266 : decode cX7_sendsDown 266 = .ok (.iload 4, 2) := by decide +kernel
theorem dX7_sendsDown_268 : decode cX7_sendsDown 268 = .ok (.ifCond .ne 7, 3) := by decide +kernel
theorem dX7_sendsDown_271 : decode cX7_sendsDown 271 = .ok (.iconst 1, 1) := by decide +kernel
theorem dX7_sendsDown_272 : decode cX7_sendsDown 272 = .ok (.goto 4, 3) := by decide +kernel
theorem dX7_sendsDown_275 : decode cX7_sendsDown 275 = .ok (.iconst 0, 1) := by decide +kernel
theorem dX7_sendsDown_276 : decode cX7_sendsDown 276 = .ok (.bastore, 1) := by decide +kernel
theorem dX7_sendsDown_277 : decode cX7_sendsDown 277 = .ok (.aload_n 0, 1) := by decide +kernel
theorem dX7_sendsDown_278 : decode cX7_sendsDown 278 = .ok (.getfield 13, 3) := by decide +kernel
theorem dX7_sendsDown_281 : decode cX7_sendsDown 281 = .ok (.bipush 13, 2) := by decide +kernel
theorem dX7_sendsDown_283 : decode cX7_sendsDown 283 = .ok (.iload 4, 2) := by decide +kernel
theorem dX7_sendsDown_285 : decode cX7_sendsDown 285 = .ok (.iadd, 1) := by decide +kernel
theorem dX7_sendsDown_286 : decode cX7_sendsDown 286 = .ok (.iload 4, 2) := by decide +kernel
theorem dX7_sendsDown_288 : decode cX7_sendsDown 288 = .ok (.ifCond .ne 7, 3) := by decide +kernel
theorem dX7_sendsDown_291 : decode cX7_sendsDown 291 = .ok (.iconst 0, 1) := by decide +kernel
theorem dX7_sendsDown_292 : decode cX7_sendsDown 292 = .ok (.goto 4, 3) := by decide +kernel
theorem dX7_sendsDown_295 : decode cX7_sendsDown 295 = .ok (.iconst 1, 1) := by decide +kernel
theorem dX7_sendsDown_296 : decode cX7_sendsDown 296 = .ok (.isub, 1) := by decide +kernel
theorem dX7_sendsDown_297 : decode cX7_sendsDown 297 = .ok (.dup2, 1) := by decide +kernel
theorem dX7_sendsDown_298 : decode cX7_sendsDown 298 = .ok (.iaload, 1) := by decide +kernel
theorem dX7_sendsDown_299 : decode cX7_sendsDown 299 = .ok (.iload 4, 2) := by decide +kernel
theorem dX7_sendsDown_301 : decode cX7_sendsDown 301 = .ok (.ifCond .ne 7, 3) := by decide +kernel
theorem dX7_sendsDown_304 : decode cX7_sendsDown 304 = .ok (.iconst 0, 1) := by decide +kernel
theorem dX7_sendsDown_305 : decode cX7_sendsDown 305 = .ok (.goto 4, 3) := by decide +kernel
theorem dX7_sendsDown_308 : decode cX7_sendsDown 308 = .ok (.iconst 1, 1) := by decide +kernel
theorem dX7_sendsDown_309 : decode cX7_sendsDown 309 = .ok (.iadd, 1) := by decide +kernel
theorem dX7_sendsDown_310 : decode cX7_sendsDown 310 = .ok (.iastore, 1) := by decide +kernel
theorem dX7_sendsDown_311 : decode cX7_sendsDown 311 = .ok (.iinc 1 1, 3) := by decide +kernel
theorem dX7_sendsDown_314 : decode cX7_sendsDown 314 = .ok (.goto (-241), 3) := by decide +kernel
theorem dX7_sendsDown_317 : decode cX7_sendsDown 317 = .ok (.iconst 0, 1) := by decide +kernel
theorem dX7_sendsDown_318 : decode cX7_sendsDown 318 = .ok (.istore_n 1, 1) := by decide +kernel
theorem dX7_sendsDown_319 : decode cX7_sendsDown 319 = .ok (.iload_n 1, 1) := by decide +kernel
theorem dX7_sendsDown_320 : decode cX7_sendsDown 320 = .ok (.iconst 2, 1) := by decide +kernel
theorem dX7_sendsDown_321 : decode cX7_sendsDown 321 = .ok (.if_icmp .ge 33, 3) := by decide +kernel
theorem dX7_sendsDown_324 : decode cX7_sendsDown 324 = .ok (.aload_n 0, 1) := by decide +kernel
theorem dX7_sendsDown_325 : decode cX7_sendsDown 325 = .ok (.getfield 47, 3) := by decide +kernel
theorem dX7_sendsDown_328 : decode cX7_sendsDown 328 = .ok (.iload_n 1, 1) := by decide +kernel
theorem dX7_sendsDown_329 : decode cX7_sendsDown 329 = .ok (.baload, 1) := by decide +kernel
theorem dX7_sendsDown_330 : decode cX7_sendsDown 330 = .ok (.ifCond .eq 18, 3) := by decide +kernel
theorem dX7_sendsDown_333 : decode cX7_sendsDown 333 = .ok (.aload_n 0, 1) := by decide +kernel
theorem dX7_sendsDown_334 : decode cX7_sendsDown 334 = .ok (.iload_n 1, 1) := by decide +kernel
theorem dX7_sendsDown_335 : decode cX7_sendsDown 335 = .ok (.iload_n 1, 1) := by decide +kernel
theorem dX7_sendsDown_336 : decode cX7_sendsDown 336 = .ok (.aload_n 0, 1) := by decide +kernel
theorem dX7_sendsDown_337 : decode cX7_sendsDown 337 = .ok (.getfield 32, 3) := by decide +kernel
theorem dX7_sendsDown_340 : decode cX7_sendsDown 340 = .ok (.iload_n 1, 1) := by decide +kernel
theorem dX7_sendsDown_341 : decode cX7_sendsDown 341 = .ok (.iaload, 1) := by decide +kernel
theorem dX7_sendsDown_342 : decode cX7_sendsDown 342 = .ok (.invokestatic 82, 3) := by decide +kernel
theorem dX7_sendsDown_345 : decode cX7_sendsDown 345 = .ok (.invokevirtual 205, 3) := by decide +kernel
theorem dX7_sendsDown_348 : decode cX7_sendsDown 348 = .ok (.iinc 1 1, 3) := by decide +kernel
theorem dX7_sendsDown_351 : decode cX7_sendsDown 351 = .ok (.goto (-32), 3) := by decide +kernel
theorem dX7_sendsDown_354 : decode cX7_sendsDown 354 = .ok (.return_, 1) := by decide +kernel
theorem dX7_sendsUp_0 : decode cX7_sendsUp 0 = .ok (.iconst 0, 1) := by decide +kernel
theorem dX7_sendsUp_1 : decode cX7_sendsUp 1 = .ok (.istore_n 1, 1) := by decide +kernel
theorem dX7_sendsUp_2 : decode cX7_sendsUp 2 = .ok (.iload_n 1, 1) := by decide +kernel
theorem dX7_sendsUp_3 : decode cX7_sendsUp 3 = .ok (.iconst 2, 1) := by decide +kernel
theorem dX7_sendsUp_4 : decode cX7_sendsUp 4 = .ok (.if_icmp .ge 61, 3) := by decide +kernel
theorem dX7_sendsUp_7 : decode cX7_sendsUp 7 = .ok (.aload_n 0, 1) := by decide +kernel
theorem dX7_sendsUp_8 : decode cX7_sendsUp 8 = .ok (.getfield 35, 3) := by decide +kernel
theorem dX7_sendsUp_11 : decode cX7_sendsUp 11 = .ok (.iload_n 1, 1) := by decide +kernel
theorem dX7_sendsUp_12 : decode cX7_sendsUp 12 = .ok (.aload_n 0, 1) := by decide +kernel
theorem dX7_sendsUp_13 : decode cX7_sendsUp 13 = .ok (.getfield 47, 3) := by decide +kernel
theorem dX7_sendsUp_16 : decode cX7_sendsUp 16 = .ok (.iload_n 1, 1) := by decide +kernel
theorem dX7_sendsUp_17 : decode cX7_sendsUp 17 = .ok (.baload, 1) := by decide +kernel
theorem dX7_sendsUp_18 : decode cX7_sendsUp 18 = .ok (.ifCond .eq 37, 3) := by decide +kernel
theorem dX7_sendsUp_21 : decode cX7_sendsUp 21 = .ok (.aload_n 0, 1) := by decide +kernel
theorem dX7_sendsUp_22 : decode cX7_sendsUp 22 = .ok (.iload_n 1, 1) := by decide +kernel
theorem dX7_sendsUp_23 : decode cX7_sendsUp 23 = .ok (.aload_n 0, 1) := by decide +kernel
theorem dX7_sendsUp_24 : decode cX7_sendsUp 24 = .ok (.getfield 13, 3) := by decide +kernel
theorem dX7_sendsUp_27 : decode cX7_sendsUp 27 = .ok (.bipush 7, 2) := by decide +kernel
theorem dX7_sendsUp_29 : decode cX7_sendsUp 29 = .ok (.iaload, 1) := by decide +kernel
theorem dX7_sendsUp_30 : decode cX7_sendsUp 30 = .ok (.iconst 1, 1) := by decide +kernel
theorem dX7_sendsUp_31 : decode cX7_sendsUp 31 = .ok (.iadd, 1) := by decide +kernel
theorem dX7_sendsUp_32 : decode cX7_sendsUp 32 = .ok (.aload_n 0, 1) := by decide +kernel
theorem dX7_sendsUp_33 : decode cX7_sendsUp 33 = .ok (.getfield 13, 3) := by decide +kernel
theorem dX7_sendsUp_36 : decode cX7_sendsUp 36 = .ok (.iload_n 1, 1) := by decide +kernel
theorem dX7_sendsUp_37 : decode cX7_sendsUp 37 = .ok (.aload_n 0, 1) := by decide +kernel
theorem dX7_sendsUp_38 : decode cX7_sendsUp 38 = .ok (.getfield 32, 3) := by decide +kernel
theorem dX7_sendsUp_41 : decode cX7_sendsUp 41 = .ok (.iload_n 1, 1) := by decide +kernel
theorem dX7_sendsUp_42 : decode cX7_sendsUp 42 = .ok (.iaload, 1) := by decide +kernel
theorem dX7_sendsUp_43 : decode cX7_sendsUp 43 = .ok (.invokestatic 82, 3) := by decide +kernel
theorem dX7_sendsUp_46 : decode cX7_sendsUp 46 = .ok (.iconst 1, 1) := by decide +kernel
theorem dX7_sendsUp_47 : decode cX7_sendsUp 47 = .ok (.iadd, 1) := by decide +kernel
theorem dX7_sendsUp_48 : decode cX7_sendsUp 48 = .ok (.iaload, 1) := by decide +kernel
theorem dX7_sendsUp_49 : decode cX7_sendsUp 49 = .ok (.invokevirtual 114, 3) := by decide +kernel
theorem dX7_sendsUp_52 : decode cX7_sendsUp 52 = .ok (.goto 6, 3) := by decide +kernel
theorem dX7_sendsUp_55 : decode cX7_sendsUp 55 = .ok (.iconst (-1), 1) := by decide +kernel
theorem dX7_sendsUp_56 : decode cX7_sendsUp 56 = .ok (.iload_n 1, 1) := by decide +kernel
theorem dX7_sendsUp_57 : decode cX7_sendsUp 57 = .ok (.isub, 1) := by decide +kernel
theorem dX7_sendsUp_58 : decode cX7_sendsUp 58 = .ok (.iastore, 1) := by decide +kernel
theorem dX7_sendsUp_59 : decode cX7_sendsUp 59 = .ok (.iinc 1 1, 3) := by decide +kernel
theorem dX7_sendsUp_62 : decode cX7_sendsUp 62 = .ok (.goto (-60), 3) := by decide +kernel
theorem dX7_sendsUp_65 : decode cX7_sendsUp 65 = .ok (.iconst 0, 1) := by decide +kernel
theorem dX7_sendsUp_66 : decode cX7_sendsUp 66 = .ok (.istore_n 1, 1) := by decide +kernel
theorem dX7_sendsUp_67 : decode cX7_sendsUp 67 = .ok (.iload_n 1, 1) := by decide +kernel
theorem dX7_sendsUp_68 : decode cX7_sendsUp 68 = .ok (.iconst 2, 1) := by decide +kernel
theorem dX7_sendsUp_69 : decode cX7_sendsUp 69 = .ok (.if_icmp .ge 133, 3) := by decide +kernel
theorem dX7_sendsUp_72 : decode cX7_sendsUp 72 = .ok (.aload_n 0, 1) := by decide +kernel
theorem dX7_sendsUp_73 : decode cX7_sendsUp 73 = .ok (.getfield 47, 3) := by decide +kernel
theorem dX7_sendsUp_76 : decode cX7_sendsUp 76 = .ok (.iload_n 1, 1) := by decide +kernel
theorem dX7_sendsUp_77 : decode cX7_sendsUp 77 = .ok (.baload, 1) := by decide +kernel
theorem dX7_sendsUp_78 : decode cX7_sendsUp 78 = .ok (.ifCond .eq 118, 3) := by decide +kernel
theorem dX7_sendsUp_81 : decode cX7_sendsUp 81 = .ok (.iload_n 1, 1) := by decide +kernel
theorem dX7_sendsUp_82 : decode cX7_sendsUp 82 = .ok (.aload_n 0, 1) := by decide +kernel
theorem dX7_sendsUp_83 : decode cX7_sendsUp 83 = .ok (.getfield 32, 3) := by decide +kernel
theorem dX7_sendsUp_86 : decode cX7_sendsUp 86 = .ok (.iload_n 1, 1) := by decide +kernel
theorem dX7_sendsUp_87 : decode cX7_sendsUp 87 = .ok (.iaload, 1) := by decide +kernel
theorem dX7_sendsUp_88 : decode cX7_sendsUp 88 = .ok (.invokestatic 82, 3) := by decide +kernel
theorem dX7_sendsUp_91 : decode cX7_sendsUp 91 = .ok (.istore_n 2, 1) := by decide +kernel
theorem dX7_sendsUp_92 : decode cX7_sendsUp 92 = .ok (.aload_n 0, 1) := by decide +kernel
theorem dX7_sendsUp_93 : decode cX7_sendsUp 93 = .ok (.getfield 13, 3) := by decide +kernel
theorem dX7_sendsUp_96 : decode cX7_sendsUp 96 = .ok (.bipush 12, 2) := by decide +kernel
theorem dX7_sendsUp_98 : decode cX7_sendsUp 98 = .ok (.dup2, 1) := by decide +kernel
theorem dX7_sendsUp_99 : decode cX7_sendsUp 99 = .ok (.iaload, 1) := by decide +kernel
theorem dX7_sendsUp_100 : decode cX7_sendsUp 100 = .ok (.iconst 1, 1) := by decide +kernel
theorem dX7_sendsUp_101 : decode cX7_sendsUp 101 = .ok (.iadd, 1) := by decide +kernel
theorem dX7_sendsUp_102 : decode cX7_sendsUp 102 = .ok (.iastore, 1) := by decide +kernel
theorem dX7_sendsUp_103 : decode cX7_sendsUp 103 = .ok (.aload_n 0, 1) := by decide +kernel
theorem dX7_sendsUp_104 : decode cX7_sendsUp 104 = .ok (.iload_n 1, 1) := by decide +kernel
theorem dX7_sendsUp_105 : decode cX7_sendsUp 105 = .ok (.aload_n 0, 1) := by decide +kernel
theorem dX7_sendsUp_106 : decode cX7_sendsUp 106 = .ok (.iload_n 1, 1) := by decide +kernel
theorem dX7_sendsUp_107 : decode cX7_sendsUp 107 = .ok (.aload_n 0, 1) := by decide +kernel
theorem dX7_sendsUp_108 : decode cX7_sendsUp 108 = .ok (.getfield 13, 3) := by decide +kernel
theorem dX7_sendsUp_111 : decode cX7_sendsUp 111 = .ok (.bipush 7, 2) := by decide +kernel
theorem dX7_sendsUp_113 : decode cX7_sendsUp 113 = .ok (.iaload, 1) := by decide +kernel
theorem dX7_sendsUp_114 : decode cX7_sendsUp 114 = .ok (.iconst 1, 1) := by decide +kernel
theorem dX7_sendsUp_115 : decode cX7_sendsUp 115 = .ok (.iadd, 1) := by decide +kernel
theorem dX7_sendsUp_116 : decode cX7_sendsUp 116 = .ok (.aload_n 0, 1) := by decide +kernel
theorem dX7_sendsUp_117 : decode cX7_sendsUp 117 = .ok (.getfield 13, 3) := by decide +kernel
theorem dX7_sendsUp_120 : decode cX7_sendsUp 120 = .ok (.iload_n 1, 1) := by decide +kernel
theorem dX7_sendsUp_121 : decode cX7_sendsUp 121 = .ok (.invokestatic 75, 3) := by decide +kernel
theorem dX7_sendsUp_124 : decode cX7_sendsUp 124 = .ok (.iconst 2, 1) := by decide +kernel
theorem dX7_sendsUp_125 : decode cX7_sendsUp 125 = .ok (.iadd, 1) := by decide +kernel
theorem dX7_sendsUp_126 : decode cX7_sendsUp 126 = .ok (.iaload, 1) := by decide +kernel
theorem dX7_sendsUp_127 : decode cX7_sendsUp 127 = .ok (.invokevirtual 114, 3) := by decide +kernel
theorem dX7_sendsUp_130 : decode cX7_sendsUp 130 = .ok (.invokevirtual 202, 3) := by decide +kernel
theorem dX7_sendsUp_133 : decode cX7_sendsUp 133 = .ok (.istore_n 3, 1) := by decide +kernel
theorem dX7_sendsUp_134 : decode cX7_sendsUp 134 = .ok (.aload_n 0, 1) := by decide +kernel
theorem dX7_sendsUp_135 : decode cX7_sendsUp 135 = .ok (.getfield 13, 3) := by decide +kernel
theorem dX7_sendsUp_138 : decode cX7_sendsUp 138 = .ok (.iload_n 2, 1) := by decide +kernel
theorem dX7_sendsUp_139 : decode cX7_sendsUp 139 = .ok (.bipush 37, 2) := by decide +kernel
theorem dX7_sendsUp_141 : decode cX7_sendsUp 141 = .ok (.iadd, 1) := by decide +kernel
theorem dX7_sendsUp_142 : decode cX7_sendsUp 142 = .ok (.iload_n 3, 1) := by decide +kernel
theorem dX7_sendsUp_143 : decode cX7_sendsUp 143 = .ok (.ifCond .ne 7, 3) := by decide +kernel
theorem dX7_sendsUp_146 : decode cX7_sendsUp 146 = .ok (.iconst 0, 1) := by decide +kernel
theorem dX7_sendsUp_147 : decode cX7_sendsUp 147 = .ok (.goto 7, 3) := by decide +kernel
theorem dX7_sendsUp_150 : decode cX7_sendsUp 150 = .ok (.bipush 20, 2) := by decide +kernel
theorem dX7_sendsUp_152 : decode cX7_sendsUp 152 = .ok (.iload_n 3, 1) := by decide +kernel
theorem dX7_sendsUp_153 : decode cX7_sendsUp 153 = .ok (.iadd, 1) := by decide +kernel
theorem dX7_sendsUp_154 : decode cX7_sendsUp 154 = .ok (.iastore, 1) := by decide +kernel
theorem dX7_sendsUp_155 : decode cX7_sendsUp 155 = .ok (.aload_n 0, 1) := by decide +kernel
theorem dX7_sendsUp_156 : decode cX7_sendsUp 156 = .ok (.getfield 13, 3) := by decide +kernel
theorem dX7_sendsUp_159 : decode cX7_sendsUp 159 = .ok (.bipush 13, 2) := by decide +kernel
theorem dX7_sendsUp_161 : decode cX7_sendsUp 161 = .ok (.iload_n 3, 1) := by decide +kernel
theorem dX7_sendsUp_162 : decode cX7_sendsUp 162 = .ok (.iadd, 1) := by decide +kernel
theorem dX7_sendsUp_163 : decode cX7_sendsUp 163 = .ok (.iload_n 3, 1) := by decide +kernel
theorem dX7_sendsUp_164 : decode cX7_sendsUp 164 = .ok (.ifCond .ne 7, 3) := by decide +kernel
theorem dX7_sendsUp_167 : decode cX7_sendsUp 167 = .ok (.iconst 0, 1) := by decide +kernel
theorem dX7_sendsUp_168 : decode cX7_sendsUp 168 = .ok (.goto 4, 3) := by decide +kernel
theorem dX7_sendsUp_171 : decode cX7_sendsUp 171 = .ok (.iconst 1, 1) := by decide +kernel
theorem dX7_sendsUp_172 : decode cX7_sendsUp 172 = .ok (.isub, 1) := by decide +kernel
theorem dX7_sendsUp_173 : decode cX7_sendsUp 173 = .ok (.dup2, 1) := by decide +kernel
theorem dX7_sendsUp_174 : decode cX7_sendsUp 174 = .ok (.iaload, 1) := by decide +kernel
theorem dX7_sendsUp_175 : decode cX7_sendsUp 175 = .ok (.iload_n 3, 1) := by decide +kernel
theorem dX7_sendsUp_176 : decode cX7_sendsUp 176 = .ok (.ifCond .ne 7, 3) := by decide +kernel
theorem dX7_sendsUp_179 : decode cX7_sendsUp 179 = .ok (.iconst 0, 1) := by decide +kernel
theorem dX7_sendsUp_180 : decode cX7_sendsUp 180 = .ok (.goto 4, 3) := by decide +kernel
theorem dX7_sendsUp_183 : decode cX7_sendsUp 183 = .ok (.iconst 1, 1) := by decide +kernel
theorem dX7_sendsUp_184 : decode cX7_sendsUp 184 = .ok (.iadd, 1) := by decide +kernel
theorem dX7_sendsUp_185 : decode cX7_sendsUp 185 = .ok (.iastore, 1) := by decide +kernel
theorem dX7_sendsUp_186 : decode cX7_sendsUp 186 = .ok (.iload_n 3, 1) := by decide +kernel
theorem dX7_sendsUp_187 : decode cX7_sendsUp 187 = .ok (.ifCond .ne 9, 3) := by decide +kernel
theorem dX7_sendsUp_190 : decode cX7_sendsUp 190 = .ok (.aload_n 0, 1) := by decide +kernel
theorem dX7_sendsUp_191 : decode cX7_sendsUp 191 = .ok (.iload_n 1, 1) := by decide +kernel
theorem dX7_sendsUp_192 : decode cX7_sendsUp 192 = .ok (.iload_n 2, 1) := by decide +kernel
theorem dX7_sendsUp_193 : decode cX7_sendsUp 193 = .ok (.invokevirtual 215, 3) := by decide +kernel
theorem dX7_sendsUp_196 : decode cX7_sendsUp 196 = .ok (.iinc 1 1, 3) := by decide +kernel
theorem dX7_sendsUp_199 : decode cX7_sendsUp 199 = .ok (.goto (-132), 3) := by decide +kernel
theorem dX7_sendsUp_202 : decode cX7_sendsUp 202 = .ok (.return_, 1) := by decide +kernel
theorem dX7_turn_0 : decode cX7_turn 0 = .ok (.iconst 0, 1) := by decide +kernel
theorem dX7_turn_1 : decode cX7_turn 1 = .ok (.istore_n 1, 1) := by decide +kernel
theorem dX7_turn_2 : decode cX7_turn 2 = .ok (.iload_n 1, 1) := by decide +kernel
theorem dX7_turn_3 : decode cX7_turn 3 = .ok (.iconst 2, 1) := by decide +kernel
theorem dX7_turn_4 : decode cX7_turn 4 = .ok (.if_icmp .ge 93, 3) := by decide +kernel
theorem dX7_turn_7 : decode cX7_turn 7 = .ok (.iload_n 1, 1) := by decide +kernel
theorem dX7_turn_8 : decode cX7_turn 8 = .ok (.invokestatic 75, 3) := by decide +kernel
theorem dX7_turn_11 : decode cX7_turn 11 = .ok (.istore_n 2, 1) := by decide +kernel
theorem dX7_turn_12 : decode cX7_turn 12 = .ok (.iconst (-1), 1) := by decide +kernel
theorem dX7_turn_13 : decode cX7_turn 13 = .ok (.istore_n 3, 1) := by decide +kernel
theorem dX7_turn_14 : decode cX7_turn 14 = .ok (.aload_n 0, 1) := by decide +kernel
theorem dX7_turn_15 : decode cX7_turn 15 = .ok (.iload_n 1, 1) := by decide +kernel
theorem dX7_turn_16 : decode cX7_turn 16 = .ok (.invokevirtual 78, 3) := by decide +kernel
theorem dX7_turn_19 : decode cX7_turn 19 = .ok (.ifCond .eq 72, 3) := by decide +kernel
theorem dX7_turn_22 : decode cX7_turn 22 = .ok (.iload_n 3, 1) := by decide +kernel
theorem dX7_turn_23 : decode cX7_turn 23 = .ok (.aload_n 0, 1) := by decide +kernel
theorem dX7_turn_24 : decode cX7_turn 24 = .ok (.getfield 13, 3) := by decide +kernel
theorem dX7_turn_27 : decode cX7_turn 27 = .ok (.iload_n 2, 1) := by decide +kernel
theorem dX7_turn_28 : decode cX7_turn 28 = .ok (.bipush 6, 2) := by decide +kernel
theorem dX7_turn_30 : decode cX7_turn 30 = .ok (.iadd, 1) := by decide +kernel
theorem dX7_turn_31 : decode cX7_turn 31 = .ok (.iaload, 1) := by decide +kernel
theorem dX7_turn_32 : decode cX7_turn 32 = .ok (.if_icmp .ge 59, 3) := by decide +kernel
theorem dX7_turn_35 : decode cX7_turn 35 = .ok (.iload_n 3, 1) := by decide +kernel
theorem dX7_turn_36 : decode cX7_turn 36 = .ok (.iconst (-1), 1) := by decide +kernel
theorem dX7_turn_37 : decode cX7_turn 37 = .ok (.if_icmp .ne 9, 3) := by decide +kernel
theorem dX7_turn_40 : decode cX7_turn 40 = .ok (.iload_n 2, 1) := by decide +kernel
theorem dX7_turn_41 : decode cX7_turn 41 = .ok (.iconst 3, 1) := by decide +kernel
theorem dX7_turn_42 : decode cX7_turn 42 = .ok (.iadd, 1) := by decide +kernel
theorem dX7_turn_43 : decode cX7_turn 43 = .ok (.goto 10, 3) := by decide +kernel
theorem dX7_turn_46 : decode cX7_turn 46 = .ok (.iload_n 1, 1) := by decide +kernel
theorem dX7_turn_47 : decode cX7_turn 47 = .ok (.iload_n 3, 1) := by decide +kernel
theorem dX7_turn_48 : decode cX7_turn 48 = .ok (.invokestatic 82, 3) := by decide +kernel
theorem dX7_turn_51 : decode cX7_turn 51 = .ok (.iconst 2, 1) := by decide +kernel
theorem dX7_turn_52 : decode cX7_turn 52 = .ok (.iadd, 1) := by decide +kernel
theorem dX7_turn_53 : decode cX7_turn 53 = .ok (.istore 4, 2) := by decide +kernel
theorem dX7_turn_55 : decode cX7_turn 55 = .ok (.aload_n 0, 1) := by decide +kernel
theorem dX7_turn_56 : decode cX7_turn 56 = .ok (.iload 4, 2) := by decide +kernel
theorem dX7_turn_58 : decode cX7_turn 58 = .ok (.iload 4, 2) := by decide +kernel
theorem dX7_turn_60 : decode cX7_turn 60 = .ok (.iconst 1, 1) := by decide +kernel
theorem dX7_turn_61 : decode cX7_turn 61 = .ok (.iadd, 1) := by decide +kernel
theorem dX7_turn_62 : decode cX7_turn 62 = .ok (.iload 4, 2) := by decide +kernel
theorem dX7_turn_64 : decode cX7_turn 64 = .ok (.iconst 1, 1) := by decide +kernel
theorem dX7_turn_65 : decode cX7_turn 65 = .ok (.isub, 1) := by decide +kernel
theorem dX7_turn_66 : decode cX7_turn 66 = .ok (.iload_n 3, 1) := by decide +kernel
theorem dX7_turn_67 : decode cX7_turn 67 = .ok (.iconst (-1), 1) := by decide +kernel
theorem dX7_turn_68 : decode cX7_turn 68 = .ok (.if_icmp .ne 10, 3) := by decide +kernel
theorem dX7_turn_71 : decode cX7_turn 71 = .ok (.iload_n 2, 1) := by decide +kernel
theorem dX7_turn_72 : decode cX7_turn 72 = .ok (.bipush 7, 2) := by decide +kernel
theorem dX7_turn_74 : decode cX7_turn 74 = .ok (.iadd, 1) := by decide +kernel
theorem dX7_turn_75 : decode cX7_turn 75 = .ok (.goto 7, 3) := by decide +kernel
theorem dX7_turn_78 : decode cX7_turn 78 = .ok (.iload 4, 2) := by decide +kernel
theorem dX7_turn_80 : decode cX7_turn 80 = .ok (.iconst 1, 1) := by decide +kernel
theorem dX7_turn_81 : decode cX7_turn 81 = .ok (.isub, 1) := by decide +kernel
theorem dX7_turn_82 : decode cX7_turn 82 = .ok (.invokevirtual 218, 3) := by decide +kernel
theorem dX7_turn_85 : decode cX7_turn 85 = .ok (.iinc 3 1, 3) := by decide +kernel
theorem dX7_turn_88 : decode cX7_turn 88 = .ok (.goto (-74), 3) := by decide +kernel
theorem dX7_turn_91 : decode cX7_turn 91 = .ok (.iinc 1 1, 3) := by decide +kernel
theorem dX7_turn_94 : decode cX7_turn 94 = .ok (.goto (-92), 3) := by decide +kernel
theorem dX7_turn_97 : decode cX7_turn 97 = .ok (.iconst 0, 1) := by decide +kernel
theorem dX7_turn_98 : decode cX7_turn 98 = .ok (.istore_n 1, 1) := by decide +kernel
theorem dX7_turn_99 : decode cX7_turn 99 = .ok (.iload_n 1, 1) := by decide +kernel
theorem dX7_turn_100 : decode cX7_turn 100 = .ok (.iconst 2, 1) := by decide +kernel
theorem dX7_turn_101 : decode cX7_turn 101 = .ok (.if_icmp .ge 80, 3) := by decide +kernel
theorem dX7_turn_104 : decode cX7_turn 104 = .ok (.iconst 0, 1) := by decide +kernel
theorem dX7_turn_105 : decode cX7_turn 105 = .ok (.istore_n 2, 1) := by decide +kernel
theorem dX7_turn_106 : decode cX7_turn 106 = .ok (.aload_n 0, 1) := by decide +kernel
theorem dX7_turn_107 : decode cX7_turn 107 = .ok (.iload_n 1, 1) := by decide +kernel
theorem dX7_turn_108 : decode cX7_turn 108 = .ok (.invokevirtual 78, 3) := by decide +kernel
theorem dX7_turn_111 : decode cX7_turn 111 = .ok (.ifCond .eq 64, 3) := by decide +kernel
theorem dX7_turn_114 : decode cX7_turn 114 = .ok (.iload_n 2, 1) := by decide +kernel
theorem dX7_turn_115 : decode cX7_turn 115 = .ok (.aload_n 0, 1) := by decide +kernel
theorem dX7_turn_116 : decode cX7_turn 116 = .ok (.getfield 13, 3) := by decide +kernel
theorem dX7_turn_119 : decode cX7_turn 119 = .ok (.iload_n 1, 1) := by decide +kernel
theorem dX7_turn_120 : decode cX7_turn 120 = .ok (.invokestatic 75, 3) := by decide +kernel
theorem dX7_turn_123 : decode cX7_turn 123 = .ok (.bipush 6, 2) := by decide +kernel
theorem dX7_turn_125 : decode cX7_turn 125 = .ok (.iadd, 1) := by decide +kernel
theorem dX7_turn_126 : decode cX7_turn 126 = .ok (.iaload, 1) := by decide +kernel
theorem dX7_turn_127 : decode cX7_turn 127 = .ok (.if_icmp .ge 48, 3) := by decide +kernel
theorem dX7_turn_130 : decode cX7_turn 130 = .ok (.aload_n 0, 1) := by decide +kernel
theorem dX7_turn_131 : decode cX7_turn 131 = .ok (.iload_n 1, 1) := by decide +kernel
theorem dX7_turn_132 : decode cX7_turn 132 = .ok (.iload_n 2, 1) := by decide +kernel
theorem dX7_turn_133 : decode cX7_turn 133 = .ok (.invokestatic 82, 3) := by decide +kernel
theorem dX7_turn_136 : decode cX7_turn 136 = .ok (.invokevirtual 221, 3) := by decide +kernel
theorem dX7_turn_139 : decode cX7_turn 139 = .ok (.aload_n 0, 1) := by decide +kernel
theorem dX7_turn_140 : decode cX7_turn 140 = .ok (.getfield 13, 3) := by decide +kernel
theorem dX7_turn_143 : decode cX7_turn 143 = .ok (.iload_n 1, 1) := by decide +kernel
theorem dX7_turn_144 : decode cX7_turn 144 = .ok (.iload_n 2, 1) := by decide +kernel
theorem dX7_turn_145 : decode cX7_turn 145 = .ok (.invokestatic 82, 3) := by decide +kernel
theorem dX7_turn_148 : decode cX7_turn 148 = .ok (.bipush 42, 2) := by decide +kernel
theorem dX7_turn_150 : decode cX7_turn 150 = .ok (.iadd, 1) := by decide +kernel
theorem dX7_turn_151 : decode cX7_turn 151 = .ok (.dup2, 1) := by decide +kernel
theorem dX7_turn_152 : decode cX7_turn 152 = .ok (.iaload, 1) := by decide +kernel
theorem dX7_turn_153 : decode cX7_turn 153 = .ok (.aload_n 0, 1) := by decide +kernel
theorem dX7_turn_154 : decode cX7_turn 154 = .ok (.iload_n 1, 1) := by decide +kernel
theorem dX7_turn_155 : decode cX7_turn 155 = .ok (.iload_n 2, 1) := by decide +kernel
theorem dX7_turn_156 : decode cX7_turn 156 = .ok (.invokevirtual 182, 3) := by decide +kernel
theorem dX7_turn_159 : decode cX7_turn 159 = .ok (.ifCond .eq 7, 3) := by decide +kernel
theorem dX7_turn_162 : decode cX7_turn 162 = .ok (.iconst 1, 1) := by decide +kernel
theorem dX7_turn_163 : decode cX7_turn 163 = .ok (.goto 4, 3) := by decide +kernel
theorem dX7_turn_166 : decode cX7_turn 166 = .ok (.iconst 0, 1) := by decide +kernel
theorem dX7_turn_167 : decode cX7_turn 167 = .ok (.iadd, 1) := by decide +kernel
theorem dX7_turn_168 : decode cX7_turn 168 = .ok (.iastore, 1) := by decide +kernel
theorem dX7_turn_169 : decode cX7_turn 169 = .ok (.iinc 2 1, 3) := by decide +kernel
theorem dX7_turn_172 : decode cX7_turn 172 = .ok (.goto (-66), 3) := by decide +kernel
theorem dX7_turn_175 : decode cX7_turn 175 = .ok (.iinc 1 1, 3) := by decide +kernel
theorem dX7_turn_178 : decode cX7_turn 178 = .ok (.goto (-79), 3) := by decide +kernel
theorem dX7_turn_181 : decode cX7_turn 181 = .ok (.iconst 0, 1) := by decide +kernel
theorem dX7_turn_182 : decode cX7_turn 182 = .ok (.istore_n 1, 1) := by decide +kernel
theorem dX7_turn_183 : decode cX7_turn 183 = .ok (.iload_n 1, 1) := by decide +kernel
theorem dX7_turn_184 : decode cX7_turn 184 = .ok (.iconst 2, 1) := by decide +kernel
theorem dX7_turn_185 : decode cX7_turn 185 = .ok (.if_icmp .ge 32, 3) := by decide +kernel
theorem dX7_turn_188 : decode cX7_turn 188 = .ok (.aload_n 0, 1) := by decide +kernel
theorem dX7_turn_189 : decode cX7_turn 189 = .ok (.getfield 32, 3) := by decide +kernel
theorem dX7_turn_192 : decode cX7_turn 192 = .ok (.iload_n 1, 1) := by decide +kernel
theorem dX7_turn_193 : decode cX7_turn 193 = .ok (.aload_n 0, 1) := by decide +kernel
theorem dX7_turn_194 : decode cX7_turn 194 = .ok (.iload_n 1, 1) := by decide +kernel
theorem dX7_turn_195 : decode cX7_turn 195 = .ok (.invokevirtual 78, 3) := by decide +kernel
theorem dX7_turn_198 : decode cX7_turn 198 = .ok (.ifCond .eq 11, 3) := by decide +kernel
theorem dX7_turn_201 : decode cX7_turn 201 = .ok (.aload_n 0, 1) := by decide +kernel
theorem dX7_turn_202 : decode cX7_turn 202 = .ok (.iload_n 1, 1) := by decide +kernel
theorem dX7_turn_203 : decode cX7_turn 203 = .ok (.invokevirtual 224, 3) := by decide +kernel
theorem dX7_turn_206 : decode cX7_turn 206 = .ok (.goto 4, 3) := by decide +kernel
theorem dX7_turn_209 : decode cX7_turn 209 = .ok (.iconst (-1), 1) := by decide +kernel
theorem dX7_turn_210 : decode cX7_turn 210 = .ok (.iastore, 1) := by decide +kernel
theorem dX7_turn_211 : decode cX7_turn 211 = .ok (.iinc 1 1, 3) := by decide +kernel
theorem dX7_turn_214 : decode cX7_turn 214 = .ok (.goto (-31), 3) := by decide +kernel
theorem dX7_turn_217 : decode cX7_turn 217 = .ok (.aload_n 0, 1) := by decide +kernel
theorem dX7_turn_218 : decode cX7_turn 218 = .ok (.invokevirtual 227, 3) := by decide +kernel
theorem dX7_turn_221 : decode cX7_turn 221 = .ok (.aload_n 0, 1) := by decide +kernel
theorem dX7_turn_222 : decode cX7_turn 222 = .ok (.invokevirtual 230, 3) := by decide +kernel
theorem dX7_turn_225 : decode cX7_turn 225 = .ok (.iconst 0, 1) := by decide +kernel
theorem dX7_turn_226 : decode cX7_turn 226 = .ok (.istore_n 1, 1) := by decide +kernel
theorem dX7_turn_227 : decode cX7_turn 227 = .ok (.iload_n 1, 1) := by decide +kernel
theorem dX7_turn_228 : decode cX7_turn 228 = .ok (.iconst 2, 1) := by decide +kernel
theorem dX7_turn_229 : decode cX7_turn 229 = .ok (.if_icmp .ge 127, 3) := by decide +kernel
theorem dX7_turn_232 : decode cX7_turn 232 = .ok (.iconst 0, 1) := by decide +kernel
theorem dX7_turn_233 : decode cX7_turn 233 = .ok (.istore_n 2, 1) := by decide +kernel
theorem dX7_turn_234 : decode cX7_turn 234 = .ok (.aload_n 0, 1) := by decide +kernel
theorem dX7_turn_235 : decode cX7_turn 235 = .ok (.iload_n 1, 1) := by decide +kernel
theorem dX7_turn_236 : decode cX7_turn 236 = .ok (.invokevirtual 78, 3) := by decide +kernel
theorem dX7_turn_239 : decode cX7_turn 239 = .ok (.ifCond .eq 111, 3) := by decide +kernel
theorem dX7_turn_242 : decode cX7_turn 242 = .ok (.iload_n 2, 1) := by decide +kernel
theorem dX7_turn_243 : decode cX7_turn 243 = .ok (.aload_n 0, 1) := by decide +kernel
theorem dX7_turn_244 : decode cX7_turn 244 = .ok (.getfield 13, 3) := by decide +kernel
theorem dX7_turn_247 : decode cX7_turn 247 = .ok (.iload_n 1, 1) := by decide +kernel
theorem dX7_turn_248 : decode cX7_turn 248 = .ok (.invokestatic 75, 3) := by decide +kernel
theorem dX7_turn_251 : decode cX7_turn 251 = .ok (.bipush 6, 2) := by decide +kernel
theorem dX7_turn_253 : decode cX7_turn 253 = .ok (.iadd, 1) := by decide +kernel
theorem dX7_turn_254 : decode cX7_turn 254 = .ok (.iaload, 1) := by decide +kernel
theorem dX7_turn_255 : decode cX7_turn 255 = .ok (.if_icmp .ge 95, 3) := by decide +kernel
theorem dX7_turn_258 : decode cX7_turn 258 = .ok (.iload_n 1, 1) := by decide +kernel
theorem dX7_turn_259 : decode cX7_turn 259 = .ok (.iload_n 2, 1) := by decide +kernel
theorem dX7_turn_260 : decode cX7_turn 260 = .ok (.invokestatic 82, 3) := by decide +kernel
theorem dX7_turn_263 : decode cX7_turn 263 = .ok (.istore_n 3, 1) := by decide +kernel
theorem dX7_turn_264 : decode cX7_turn 264 = .ok (.aload_n 0, 1) := by decide +kernel
theorem dX7_turn_265 : decode cX7_turn 265 = .ok (.getfield 13, 3) := by decide +kernel
theorem dX7_turn_268 : decode cX7_turn 268 = .ok (.iload_n 3, 1) := by decide +kernel
theorem dX7_turn_269 : decode cX7_turn 269 = .ok (.bipush 36, 2) := by decide +kernel
theorem dX7_turn_271 : decode cX7_turn 271 = .ok (.iadd, 1) := by decide +kernel
theorem dX7_turn_272 : decode cX7_turn 272 = .ok (.iaload, 1) := by decide +kernel
theorem dX7_turn_273 : decode cX7_turn 273 = .ok (.ifCond .le 71, 3) := by decide +kernel
theorem dX7_turn_276 : decode cX7_turn 276 = .ok (.aload_n 0, 1) := by decide +kernel
theorem dX7_turn_277 : decode cX7_turn 277 = .ok (.getfield 13, 3) := by decide +kernel
theorem dX7_turn_280 : decode cX7_turn 280 = .ok (.iload_n 3, 1) := by decide +kernel
theorem dX7_turn_281 : decode cX7_turn 281 = .ok (.bipush 36, 2) := by decide +kernel
theorem dX7_turn_283 : decode cX7_turn 283 = .ok (.iadd, 1) := by decide +kernel
theorem dX7_turn_284 : decode cX7_turn 284 = .ok (.dup2, 1) := by decide +kernel
theorem dX7_turn_285 : decode cX7_turn 285 = .ok (.iaload, 1) := by decide +kernel
theorem dX7_turn_286 : decode cX7_turn 286 = .ok (.iconst 1, 1) := by decide +kernel
theorem dX7_turn_287 : decode cX7_turn 287 = .ok (.isub, 1) := by decide +kernel
theorem dX7_turn_288 : decode cX7_turn 288 = .ok (.iastore, 1) := by decide +kernel
theorem dX7_turn_289 : decode cX7_turn 289 = .ok (.aload_n 0, 1) := by decide +kernel
theorem dX7_turn_290 : decode cX7_turn 290 = .ok (.getfield 13, 3) := by decide +kernel
theorem dX7_turn_293 : decode cX7_turn 293 = .ok (.iload_n 3, 1) := by decide +kernel
theorem dX7_turn_294 : decode cX7_turn 294 = .ok (.bipush 35, 2) := by decide +kernel
theorem dX7_turn_296 : decode cX7_turn 296 = .ok (.iadd, 1) := by decide +kernel
theorem dX7_turn_297 : decode cX7_turn 297 = .ok (.dup2, 1) := by decide +kernel
theorem dX7_turn_298 : decode cX7_turn 298 = .ok (.iaload, 1) := by decide +kernel
theorem dX7_turn_299 : decode cX7_turn 299 = .ok (.aload_n 0, 1) := by decide +kernel
theorem dX7_turn_300 : decode cX7_turn 300 = .ok (.getfield 13, 3) := by decide +kernel
theorem dX7_turn_303 : decode cX7_turn 303 = .ok (.iload_n 3, 1) := by decide +kernel
theorem dX7_turn_304 : decode cX7_turn 304 = .ok (.bipush 36, 2) := by decide +kernel
theorem dX7_turn_306 : decode cX7_turn 306 = .ok (.iadd, 1) := by decide +kernel
theorem dX7_turn_307 : decode cX7_turn 307 = .ok (.iaload, 1) := by decide +kernel
theorem dX7_turn_308 : decode cX7_turn 308 = .ok (.ifCond .ne 7, 3) := by decide +kernel
theorem dX7_turn_311 : decode cX7_turn 311 = .ok (.iconst 1, 1) := by decide +kernel
theorem dX7_turn_312 : decode cX7_turn 312 = .ok (.goto 4, 3) := by decide +kernel
theorem dX7_turn_315 : decode cX7_turn 315 = .ok (.iconst 0, 1) := by decide +kernel
theorem dX7_turn_316 : decode cX7_turn 316 = .ok (.iadd, 1) := by decide +kernel
theorem dX7_turn_317 : decode cX7_turn 317 = .ok (.iastore, 1) := by decide +kernel
theorem dX7_turn_318 : decode cX7_turn 318 = .ok (.aload_n 0, 1) := by decide +kernel
theorem dX7_turn_319 : decode cX7_turn 319 = .ok (.dup, 1) := by decide +kernel
theorem dX7_turn_320 : decode cX7_turn 320 = .ok (.getfield 233, 3) := by decide +kernel
theorem dX7_turn_323 : decode cX7_turn 323 = .ok (.aload_n 0, 1) := by decide +kernel
theorem dX7_turn_324 : decode cX7_turn 324 = .ok (.getfield 13, 3) := by decide +kernel
theorem dX7_turn_327 : decode cX7_turn 327 = .ok (.iload_n 3, 1) := by decide +kernel
theorem dX7_turn_328 : decode cX7_turn 328 = .ok (.bipush 36, 2) := by decide +kernel
theorem dX7_turn_330 : decode cX7_turn 330 = .ok (.iadd, 1) := by decide +kernel
theorem dX7_turn_331 : decode cX7_turn 331 = .ok (.iaload, 1) := by decide +kernel
theorem dX7_turn_332 : decode cX7_turn 332 = .ok (.ifCond .ne 7, 3) := by decide +kernel
theorem dX7_turn_335 : decode cX7_turn 335 = .ok (.iconst 1, 1) := by decide +kernel
theorem dX7_turn_336 : decode cX7_turn 336 = .ok (.goto 4, 3) := by decide +kernel
theorem dX7_turn_339 : decode cX7_turn 339 = .ok (.iconst 0, 1) := by decide +kernel
theorem dX7_turn_340 : decode cX7_turn 340 = .ok (.iadd, 1) := by decide +kernel
theorem dX7_turn_341 : decode cX7_turn 341 = .ok (.putfield 233, 3) := by decide +kernel
theorem dX7_turn_344 : decode cX7_turn 344 = .ok (.iinc 2 1, 3) := by decide +kernel
theorem dX7_turn_347 : decode cX7_turn 347 = .ok (.goto (-113), 3) := by decide +kernel
theorem dX7_turn_350 : decode cX7_turn 350 = .ok (.iinc 1 1, 3) := by decide +kernel
theorem dX7_turn_353 : decode cX7_turn 353 = .ok (.goto (-126), 3) := by decide +kernel
theorem dX7_turn_356 : decode cX7_turn 356 = .ok (.aload_n 0, 1) := by decide +kernel
theorem dX7_turn_357 : decode cX7_turn 357 = .ok (.getfield 13, 3) := by decide +kernel
theorem dX7_turn_360 : decode cX7_turn 360 = .ok (.bipush 7, 2) := by decide +kernel
theorem dX7_turn_362 : decode cX7_turn 362 = .ok (.dup2, 1) := by decide +kernel
theorem dX7_turn_363 : decode cX7_turn 363 = .ok (.iaload, 1) := by decide +kernel
theorem dX7_turn_364 : decode cX7_turn 364 = .ok (.iconst 2, 1) := by decide +kernel
theorem dX7_turn_365 : decode cX7_turn 365 = .ok (.iadd, 1) := by decide +kernel
theorem dX7_turn_366 : decode cX7_turn 366 = .ok (.iastore, 1) := by decide +kernel
theorem dX7_turn_367 : decode cX7_turn 367 = .ok (.return_, 1) := by decide +kernel
theorem dX7_turnsBy_0 : decode cX7_turnsBy 0 = .ok (.aload_n 0, 1) := by decide +kernel
theorem dX7_turnsBy_1 : decode cX7_turnsBy 1 = .ok (.iconst 0, 1) := by decide +kernel
theorem dX7_turnsBy_2 : decode cX7_turnsBy 2 = .ok (.putfield 189, 3) := by decide +kernel
theorem dX7_turnsBy_5 : decode cX7_turnsBy 5 = .ok (.aload_n 0, 1) := by decide +kernel
theorem dX7_turnsBy_6 : decode cX7_turnsBy 6 = .ok (.iconst 0, 1) := by decide +kernel
theorem dX7_turnsBy_7 : decode cX7_turnsBy 7 = .ok (.putfield 233, 3) := by decide +kernel
theorem dX7_turnsBy_10 : decode cX7_turnsBy 10 = .ok (.iconst 0, 1) := by decide +kernel
theorem dX7_turnsBy_11 : decode cX7_turnsBy 11 = .ok (.istore_n 2, 1) := by decide +kernel
theorem dX7_turnsBy_12 : decode cX7_turnsBy 12 = .ok (.iload_n 2, 1) := by decide +kernel
theorem dX7_turnsBy_13 : decode cX7_turnsBy 13 = .ok (.iload_n 1, 1) := by decide +kernel
theorem dX7_turnsBy_14 : decode cX7_turnsBy 14 = .ok (.if_icmp .ge 13, 3) := by decide +kernel
theorem dX7_turnsBy_17 : decode cX7_turnsBy 17 = .ok (.aload_n 0, 1) := by decide +kernel
theorem dX7_turnsBy_18 : decode cX7_turnsBy 18 = .ok (.invokevirtual 236, 3) := by decide +kernel
theorem dX7_turnsBy_21 : decode cX7_turnsBy 21 = .ok (.iinc 2 1, 3) := by decide +kernel
theorem dX7_turnsBy_24 : decode cX7_turnsBy 24 = .ok (.goto (-12), 3) := by decide +kernel
theorem dX7_turnsBy_27 : decode cX7_turnsBy 27 = .ok (.return_, 1) := by decide +kernel
theorem lk_RX7_196 : LkV RX7 196 RX7 yX7_mapFor cX7_mapFor 4 (some .int) 1 := ⟨⟨mw_1293, mw_1295, mw_31, mw_59, mw_1296⟩, by decide +kernel⟩
theorem lk_RX7_199 : LkV RX7 199 RX7 yX7_casts cX7_casts 6 none 1 := ⟨⟨mw_1297, mw_1299, mw_32, mw_59, mw_1300⟩, by decide +kernel⟩
theorem lk_RX7_205 : LkV RX7 205 RX7 yX7_memberHears cX7_memberHears 4 none 2 := ⟨⟨mw_1312, mw_1314, mw_35, mw_59, mw_1315⟩, by decide +kernel⟩
set_option maxHeartbeats 4000000 in
set_option maxRecDepth 100000 in
theorem d_X7_sendsDown (l : Launch) (E : hE) (ρ r : Nat → Nat → Int32) (Bt : Nat) (hBt : Bt ≤ 1000000) (M : Nat → Int32) (L : Nat → Nat) (hI : TI r Bt M L 2 0 0 0 0 2 0 ρ) : Met l yX7_sendsDown (.code yX7_sendsDown cX7_sendsDown 5 none :: gw_all) (rmk 8 320) (cPre E ρ [.ref (E.2.1 + 1076)]) (cV E (fun ρ1 => TI r Bt M L 2 2 0 2 2 2 0 ρ1)) 0 0 (hA E) := by
  refine ent (own := RX7) (by decide) rfl (Nat.le_of_ble_eq_true rfl) ?_
  intro p e s m below meth c ls B hr hlk hl hP hS
  have hx := B.1.1
  have hb := B.1.2.1
  have hown := B.1.2.2.2.1
  have hts := B.1.2.2.2.2
  have hl : lv_has ls 5 [(0, .ref (E.2.1 + 1076))] := hl
  have hT := hI
  have hI := TI_RI hT
  have b319_0 : ∀ (ls : Array Slot) (ρ : Nat → Nat → Int32) (H : Heap) (locs : List Loc) (d319 : Nat) (j319_1 : Nat), lv_has ls 5 [(0, .ref (E.2.1 + 1076)), (1, .int (nI j319_1))] → WP E ρ H → va_S (hA E) s.heap H locs → TI r Bt M L 2 2 0 2 2 2 0 ρ → 3 - j319_1 < d319 → 0 ≤ j319_1 → j319_1 ≤ 2 → W p l e (rmk 8 320) s m ([.ref (E.2.1 + 1076)] : List Value).toArray below meth c H locs 0 0 (MQ below (cV E (fun ρ1 => TI r Bt M L 2 2 0 2 2 2 0 ρ1)) ([.ref (E.2.1 + 1076)] : List Value).toArray s 0 0 (hA E)) (F0 m 319 ls []) := by
    intro ls ρ H locs d319
    induction d319 generalizing ls ρ H locs with
    | zero => intro j319_1 hl hP hS hI hd319 lj319_1 uj319_1; exact absurd hd319 (Nat.not_lt_zero _)
    | succ d319 ih319 =>
      intro j319_1 hl hP hS hI hd319 lj319_1 uj319_1
      have b348_0 : ∀ (ls : Array Slot) (ρ : Nat → Nat → Int32) (H : Heap) (locs : List Loc) , lv_has ls 5 [(0, .ref (E.2.1 + 1076)), (1, .int (nI j319_1))] → WP E ρ H → va_S (hA E) s.heap H locs → TI r Bt M L 2 2 0 2 2 2 0 ρ → 0 ≤ j319_1 → j319_1 ≤ 1 → W p l e (rmk 8 320) s m ([.ref (E.2.1 + 1076)] : List Value).toArray below meth c H locs 0 0 (MQ below (cV E (fun ρ1 => TI r Bt M L 2 2 0 2 2 2 0 ρ1)) ([.ref (E.2.1 + 1076)] : List Value).toArray s 0 0 (hA E)) (F0 m 348 ls []) := by
        intro ls ρ H locs  hl hP hS hI tlj319_1 tuj319_1
        have hT := hI
        have hI := TI_RI hT
        refine lv_iinc (v := (nI (1 + j319_1))) (lv' := [(1, .int (nI (1 + j319_1))), (0, .ref (E.2.1 + 1076))]) hx hb dX7_sendsDown_348 hl (k := 1) rfl (show nI j319_1 + nI 1 = _ from (nI_add _ _).trans (congrArg nI (by omega))) (by decide) rfl (fun ls hl => ?_)
        refine lv_goto (tgt := 319) hx hb dX7_sendsDown_351 (by decide) ?_
        exact ih319 ls ρ _ _ (1 + j319_1) (lv_sub hl [1, 0] rfl) hP hS (TI_w hT (fun m a b => by omega) (fun m a b => by omega) (by omega) (by omega) (by omega)) (by omega) (by omega) (by omega)
      have hT := hI
      have hI := TI_RI hT
      refine lv_iload_n hx hb dX7_sendsDown_319 rfl (lv_at hl 1 rfl) ?_
      refine lv_iconst (v := 2) hx hb dX7_sendsDown_320 (by decide) ?_
      refine lv_icmp_ge (tgt := 354) hx hb dX7_sendsDown_321 (by decide) (fun c389 => ?_) (fun c389 => ?_)
      · skip
        have n390 := mt (nx_lt (a := j319_1) (b := 2) (by omega) (by omega)).mpr (show ¬ (nI j319_1 < nI 2) from (Int32.not_lt.mpr c389))
        exact ret_v B hr hlk hP hS dX7_sendsDown_354 (TI_w hT (fun m a b => by omega) (fun m a b => by omega) (by omega) (by omega) (by omega))
      · skip
        have n391 := (nx_lt (a := j319_1) (b := 2) (by omega) (by omega)).mp (show (nI j319_1 < nI 2) from (Int32.not_le.mp c389))
        refine lv_aload_n hx hb dX7_sendsDown_324 rfl (lv_at hl 0 rfl) ?_
        refine get7 B hP (show hk 1076 = 7 by decide +kernel) 15 (by decide) mw_1042 rfl dX7_sendsDown_325 ?_
        refine lv_iload_n hx hb dX7_sendsDown_328 rfl (lv_at hl 1 rfl) ?_
        refine zldn (n := 2) (j := j319_1) B hP (show hk 1089 = 9 by decide +kernel) (show hlen 1089 = 2 by decide +kernel) rfl (by omega) (by decide) dX7_sendsDown_329 ?_
        have i392 : iR (ρ 1089 j319_1) 0 1 := (hT.2.2.2.1 j319_1 (by omega)).2.2.2.2
        obtain ⟨j393, lj393, uj393, ej393⟩ := iR_nat (a := 0) (b := 1) i392
        refine lv_topi (fun z394 ez394 => ?_)
        obtain rfl : z394 = nI j393 := ez394.trans ej393
        refine lv_if_eq (tgt := 348) hx hb dX7_sendsDown_330 (by decide) (fun c395 => ?_) (fun c395 => ?_)
        · skip
          have n396 := (nI_eq (a := j393) (b := 0) (by omega) (by omega)).mp (show (nI j393 = nI 0) from c395)
          exact b348_0 ls ρ _ _  (lv_sub hl [0, 1] rfl) hP hS (TI_w hT (fun m a b => by omega) (fun m a b => by omega) (by omega) (by omega) (by omega)) (by omega) (by omega)
        · skip
          have n397 := mt (nI_eq (a := j393) (b := 0) (by omega) (by omega)).mpr (show ¬ (nI j393 = nI 0) from c395)
          refine lv_aload_n hx hb dX7_sendsDown_333 rfl (lv_at hl 0 rfl) ?_
          refine lv_iload_n hx hb dX7_sendsDown_334 rfl (lv_at hl 1 rfl) ?_
          refine lv_iload_n hx hb dX7_sendsDown_335 rfl (lv_at hl 1 rfl) ?_
          refine lv_aload_n hx hb dX7_sendsDown_336 rfl (lv_at hl 0 rfl) ?_
          refine get7 B hP (show hk 1076 = 7 by decide +kernel) 10 (by decide) mw_1037 rfl dX7_sendsDown_337 ?_
          refine lv_iload_n hx hb dX7_sendsDown_340 rfl (lv_at hl 1 rfl) ?_
          refine aldn (n := 2) (j := j319_1) B hP (show hk 1084 = 8 by decide +kernel) (show hlen 1084 = 2 by decide +kernel) rfl (by omega) (by decide) dX7_sendsDown_341 ?_
          have i398 : iR (ρ 1084 j319_1) 0 3 := hT.2.2.2.2.2.1 j319_1 (by omega) (by omega) (ej393.trans (congrArg nI (show j393 = 1 by omega)))
          have i399 : iR (M j319_1) 0 5 := (hT.2.2.2.2.1 j319_1 (by omega) (by omega)).2 (m_ne (iR_w (a := 0) (b := 3) (a' := 0) (b' := 3) i398 (by decide) (by decide)))
          have i400 : iR (ρ 1084 j319_1) (-1) ((L j319_1 : Int) - 1) := ⟨Int.le_trans (by decide) (show (0 : Int) ≤ _ from i398.1), (hT.2.2.2.2.1 j319_1 (by omega) (by omega)).1.2⟩
          have := RI_Lb (n := j319_1) hI (by omega)
          obtain ⟨j401, lj401, uj401, ej401⟩ := iR_nat (a := 0) (b := 3) i398
          refine lv_topi (fun z402 ez402 => ?_)
          obtain rfl : z402 = nI j401 := ez402.trans ej401
          have : j401 < L j319_1 := rl_lt i400 ej401 (by omega)
          refine call_i (cS (av := [.int (nI j319_1), .int (nI j401)]) (rest := [.int (nI j319_1), .ref (E.2.1 + 1076)]) B hP hS (d_X7_linkAt l E ρ ρ Bt hBt M L (XT 2 2 0 2 (ρ 1084) (ρ 1087)) j319_1 (by omega) (by omega) j401 (by omega) (by omega) hI) lk_RX7_82 rfl rfl hl.1 (Nat.le_of_ble_eq_true rfl) ⟨Nat.le_of_ble_eq_true rfl, Nat.le_of_ble_eq_true rfl⟩ ⟨Nat.le_of_ble_eq_true rfl, Nat.le_of_ble_eq_true rfl⟩ dX7_sendsDown_342) hS (fun r403 ρ404 H locs q405 hP hS => ?_)
          obtain ⟨rfl, -, q405⟩ := q405
          obtain rfl : r403 = nI (104 + 326 * j319_1 + 66 * j401) := q405.trans (congrArg nI (by omega))
          refine call_v (cVt (k := 1076) (av := [.int (nI j319_1), .int (nI (104 + 326 * j319_1 + 66 * j401))]) (rest := []) B hP hS (d_X7_memberHears l E ρ ρ Bt hBt M L (XT 2 2 0 2 (ρ 1084) (ρ 1087)) j319_1 (by omega) j401 (by omega) hI i399 (by omega) (hT.2.2.2.1 j319_1 (by omega)).2.2.1 (hT.2.2.2.1 j319_1 (by omega)).2.2.2.1 (XT_no (by omega))) lk_RX7_205 (hrecv (ci := 7) B hP (hk_lt (c := 7) (show hk 1076 = 7 by decide +kernel) (by decide)) (hcc7 _ _ (show hk 1076 = 7 by decide +kernel)) rfl) rfl rfl hl.1 (Nat.le_of_ble_eq_true rfl) ⟨Nat.le_of_ble_eq_true rfl, Nat.le_of_ble_eq_true rfl⟩ ⟨Nat.le_of_ble_eq_true rfl, Nat.le_of_ble_eq_true rfl⟩ dX7_sendsDown_345) hS (fun ρ408 H locs q409 hP hS => ?_)
          have hR410 := q409
          have hT := TI_back hT hR410
          have hI := TI_RI hT
          exact b348_0 ls ρ408 _ _  (lv_sub hl [0, 1] rfl) hP hS (TI_w hT (fun m a b => by omega) (fun m a b => by omega) (by omega) (by omega) (by omega)) (by omega) (by omega)
  have b73_0 : ∀ (ls : Array Slot) (ρ : Nat → Nat → Int32) (H : Heap) (locs : List Loc) (d73 : Nat) (j73_1 : Nat), lv_has ls 5 [(0, .ref (E.2.1 + 1076)), (1, .int (nI j73_1))] → WP E ρ H → va_S (hA E) s.heap H locs → TI r Bt M L 2 j73_1 0 2 j73_1 2 0 ρ → 3 - j73_1 < d73 → 0 ≤ j73_1 → j73_1 ≤ 2 → W p l e (rmk 8 320) s m ([.ref (E.2.1 + 1076)] : List Value).toArray below meth c H locs 0 0 (MQ below (cV E (fun ρ1 => TI r Bt M L 2 2 0 2 2 2 0 ρ1)) ([.ref (E.2.1 + 1076)] : List Value).toArray s 0 0 (hA E)) (F0 m 73 ls []) := by
    intro ls ρ H locs d73
    induction d73 generalizing ls ρ H locs with
    | zero => intro j73_1 hl hP hS hI hd73 lj73_1 uj73_1; exact absurd hd73 (Nat.not_lt_zero _)
    | succ d73 ih73 =>
      intro j73_1 hl hP hS hI hd73 lj73_1 uj73_1
      have b311_0 : ∀ (ls : Array Slot) (ρ : Nat → Nat → Int32) (H : Heap) (locs : List Loc) , lv_has ls 5 [(0, .ref (E.2.1 + 1076)), (1, .int (nI j73_1))] → WP E ρ H → va_S (hA E) s.heap H locs → TI r Bt M L 2 (j73_1 + 1) 0 2 (j73_1 + 1) 2 0 ρ → 0 ≤ j73_1 → j73_1 ≤ 1 → W p l e (rmk 8 320) s m ([.ref (E.2.1 + 1076)] : List Value).toArray below meth c H locs 0 0 (MQ below (cV E (fun ρ1 => TI r Bt M L 2 2 0 2 2 2 0 ρ1)) ([.ref (E.2.1 + 1076)] : List Value).toArray s 0 0 (hA E)) (F0 m 311 ls []) := by
        intro ls ρ H locs  hl hP hS hI tlj73_1 tuj73_1
        have hT := hI
        have hI := TI_RI hT
        refine lv_iinc (v := (nI (1 + j73_1))) (lv' := [(1, .int (nI (1 + j73_1))), (0, .ref (E.2.1 + 1076))]) hx hb dX7_sendsDown_311 hl (k := 1) rfl (show nI j73_1 + nI 1 = _ from (nI_add _ _).trans (congrArg nI (by omega))) (by decide) rfl (fun ls hl => ?_)
        refine lv_goto (tgt := 73) hx hb dX7_sendsDown_314 (by decide) ?_
        exact ih73 ls ρ _ _ (1 + j73_1) (lv_sub hl [1, 0] rfl) hP hS (TI_w hT (fun m a b => by omega) (fun m a b => by omega) (by omega) (by omega) (by omega)) (by omega) (by omega) (by omega)
      have b309_0 : ∀ (ls : Array Slot) (ρ : Nat → Nat → Int32) (H : Heap) (locs : List Loc) (j309_s1 : Nat) (x309_s2 : Int32), lv_has ls 5 [(0, .ref (E.2.1 + 1076)), (1, .int (nI j73_1))] → WP E ρ H → va_S (hA E) s.heap H locs → TI r Bt M L 2 j73_1 0 2 (j73_1 + 1) 2 0 ρ → 13 ≤ j309_s1 → j309_s1 ≤ 13 → iR x309_s2 (-2147483648) (2147483647) → iR (M j73_1) (0) (5) → 0 ≤ (L j73_1) → (L j73_1) ≤ 4 → 0 ≤ j73_1 → j73_1 ≤ 1 → W p l e (rmk 8 320) s m ([.ref (E.2.1 + 1076)] : List Value).toArray below meth c H locs 0 0 (MQ below (cV E (fun ρ1 => TI r Bt M L 2 2 0 2 2 2 0 ρ1)) ([.ref (E.2.1 + 1076)] : List Value).toArray s 0 0 (hA E)) (F0 m 309 ls [.int 0, .int x309_s2, .int (nI j309_s1), .ref (E.2.1 + 1078)]) := by
        intro ls ρ H locs j309_s1 x309_s2 hl hP hS hI lj309_s1 uj309_s1 hx309_s2 f_M_j73_1_ tl_L_j73_1_ tu_L_j73_1_ tlj73_1 tuj73_1
        have hT := hI
        have hI := TI_RI hT
        refine lv_iadd hx hb dX7_sendsDown_309 ?_
        refine astn (n := 695) (j := j309_s1) B hP hS (show hk 1078 = 8 by decide +kernel) (show hlen 1078 = 695 by decide +kernel) rfl (by omega) (by decide) dX7_sendsDown_310 (fun H locs hP hS => ?_)
        obtain ⟨ρ411, e412⟩ : ∃ z, z = up ρ 1078 j309_s1 (x309_s2 + 0) := ⟨_, rfl⟩
        rw [← e412] at hP
        have hT : TI r Bt M L 2 j73_1 0 2 (j73_1 + 1) 2 0 ρ411 := by rw [e412]; exact TI_back hT (RI_up hI (ok_head (by omega) (by omega) (by omega)))
        have hI := TI_RI hT
        exact b311_0 ls ρ411 _ _  (lv_sub hl [0, 1] rfl) hP hS (TI_w hT (fun m a b => by omega) (fun m a b => by omega) (by omega) (by omega) (by omega)) (by omega) (by omega)
      have b309_1 : ∀ (ls : Array Slot) (ρ : Nat → Nat → Int32) (H : Heap) (locs : List Loc) (j309_s1 : Nat) (x309_s2 : Int32), lv_has ls 5 [(0, .ref (E.2.1 + 1076)), (1, .int (nI j73_1))] → WP E ρ H → va_S (hA E) s.heap H locs → TI r Bt M L 2 j73_1 0 2 (j73_1 + 1) 2 0 ρ → 13 ≤ j309_s1 → j309_s1 ≤ 15 → iR x309_s2 (-2147483648) (2147483647) → iR (M j73_1) (0) (5) → 0 ≤ (L j73_1) → (L j73_1) ≤ 4 → 0 ≤ j73_1 → j73_1 ≤ 1 → W p l e (rmk 8 320) s m ([.ref (E.2.1 + 1076)] : List Value).toArray below meth c H locs 0 0 (MQ below (cV E (fun ρ1 => TI r Bt M L 2 2 0 2 2 2 0 ρ1)) ([.ref (E.2.1 + 1076)] : List Value).toArray s 0 0 (hA E)) (F0 m 309 ls [.int 1, .int x309_s2, .int (nI j309_s1), .ref (E.2.1 + 1078)]) := by
        intro ls ρ H locs j309_s1 x309_s2 hl hP hS hI lj309_s1 uj309_s1 hx309_s2 f_M_j73_1_ tl_L_j73_1_ tu_L_j73_1_ tlj73_1 tuj73_1
        have hT := hI
        have hI := TI_RI hT
        refine lv_iadd hx hb dX7_sendsDown_309 ?_
        refine astn (n := 695) (j := j309_s1) B hP hS (show hk 1078 = 8 by decide +kernel) (show hlen 1078 = 695 by decide +kernel) rfl (by omega) (by decide) dX7_sendsDown_310 (fun H locs hP hS => ?_)
        obtain ⟨ρ413, e414⟩ : ∃ z, z = up ρ 1078 j309_s1 (x309_s2 + 1) := ⟨_, rfl⟩
        rw [← e414] at hP
        have hT : TI r Bt M L 2 j73_1 0 2 (j73_1 + 1) 2 0 ρ413 := by rw [e414]; exact TI_back hT (RI_up hI (ok_head (by omega) (by omega) (by omega)))
        have hI := TI_RI hT
        exact b311_0 ls ρ413 _ _  (lv_sub hl [0, 1] rfl) hP hS (TI_w hT (fun m a b => by omega) (fun m a b => by omega) (by omega) (by omega) (by omega)) (by omega) (by omega)
      have b296_0 : ∀ (ls : Array Slot) (ρ : Nat → Nat → Int32) (H : Heap) (locs : List Loc) (j296_4 : Nat) (j296_s1 : Nat), lv_has ls 5 [(0, .ref (E.2.1 + 1076)), (1, .int (nI j73_1)), (4, .int (nI j296_4))] → WP E ρ H → va_S (hA E) s.heap H locs → TI r Bt M L 2 j73_1 0 2 (j73_1 + 1) 2 0 ρ → 0 ≤ j296_4 → j296_4 ≤ 0 → 13 ≤ j296_s1 → j296_s1 ≤ 13 → iR (M j73_1) (0) (5) → 0 ≤ (L j73_1) → (L j73_1) ≤ 4 → 0 ≤ j73_1 → j73_1 ≤ 1 → W p l e (rmk 8 320) s m ([.ref (E.2.1 + 1076)] : List Value).toArray below meth c H locs 0 0 (MQ below (cV E (fun ρ1 => TI r Bt M L 2 2 0 2 2 2 0 ρ1)) ([.ref (E.2.1 + 1076)] : List Value).toArray s 0 0 (hA E)) (F0 m 296 ls [.int 0, .int (nI j296_s1), .ref (E.2.1 + 1078)]) := by
        intro ls ρ H locs j296_4 j296_s1 hl hP hS hI lj296_4 uj296_4 lj296_s1 uj296_s1 f_M_j73_1_ tl_L_j73_1_ tu_L_j73_1_ tlj73_1 tuj73_1
        have hT := hI
        have hI := TI_RI hT
        refine lv_isub hx hb dX7_sendsDown_296 ?_
        refine lv_topi (fun z415 ez415 => ?_)
        obtain rfl : z415 = (nI j296_s1) := ez415.trans (nI_subE (a := j296_s1) (b := 0) (q := j296_s1) (by omega))
        refine lv_dup2_11 hx hb dX7_sendsDown_297 rfl rfl ?_
        refine aldn (n := 695) (j := j296_s1) B hP (show hk 1078 = 8 by decide +kernel) (show hlen 1078 = 695 by decide +kernel) rfl (by omega) (by decide) dX7_sendsDown_298 ?_
        refine lv_iload hx hb dX7_sendsDown_299 (lv_at hl 2 rfl) ?_
        refine lv_if_ne (tgt := 308) hx hb dX7_sendsDown_301 (by decide) (fun c416 => absurd (iR_is (nI_iR (j := j296_4) (a := 0) (b := 0) (by omega) (by omega) (by omega)) rfl) c416) (fun _ => ?_)
        refine lv_iconst (v := 0) hx hb dX7_sendsDown_304 (by decide) ?_
        refine lv_goto (tgt := 309) hx hb dX7_sendsDown_305 (by decide) ?_
        exact b309_0 ls ρ _ _ j296_s1 ((ρ 1078 j296_s1) : Int32) (lv_sub hl [0, 1] rfl) hP hS (TI_w hT (fun m a b => by omega) (fun m a b => by omega) (by omega) (by omega) (by omega)) (by omega) (by omega) (iR_w (iR_any (ρ 1078 j296_s1)) (by decide) (by decide)) (iR_w f_M_j73_1_ (by decide) (by decide)) (by omega) (by omega) (by omega) (by omega)
      have b296_1 : ∀ (ls : Array Slot) (ρ : Nat → Nat → Int32) (H : Heap) (locs : List Loc) (j296_4 : Nat) (j296_s1 : Nat), lv_has ls 5 [(0, .ref (E.2.1 + 1076)), (1, .int (nI j73_1)), (4, .int (nI j296_4))] → WP E ρ H → va_S (hA E) s.heap H locs → TI r Bt M L 2 j73_1 0 2 (j73_1 + 1) 2 0 ρ → 1 ≤ j296_4 → j296_4 ≤ 3 → 14 ≤ j296_s1 → j296_s1 ≤ 16 → iR (M j73_1) (0) (5) → 0 ≤ (L j73_1) → (L j73_1) ≤ 4 → 0 ≤ j73_1 → j73_1 ≤ 1 → W p l e (rmk 8 320) s m ([.ref (E.2.1 + 1076)] : List Value).toArray below meth c H locs 0 0 (MQ below (cV E (fun ρ1 => TI r Bt M L 2 2 0 2 2 2 0 ρ1)) ([.ref (E.2.1 + 1076)] : List Value).toArray s 0 0 (hA E)) (F0 m 296 ls [.int 1, .int (nI j296_s1), .ref (E.2.1 + 1078)]) := by
        intro ls ρ H locs j296_4 j296_s1 hl hP hS hI lj296_4 uj296_4 lj296_s1 uj296_s1 f_M_j73_1_ tl_L_j73_1_ tu_L_j73_1_ tlj73_1 tuj73_1
        have hT := hI
        have hI := TI_RI hT
        refine lv_isub hx hb dX7_sendsDown_296 ?_
        obtain ⟨j417, hj417⟩ : ∃ q, j296_s1 = q + 1 := ⟨j296_s1 - 1, by omega⟩
        refine lv_topi (fun z418 ez418 => ?_)
        obtain rfl : z418 = (nI j417) := ez418.trans (nI_subE (a := j296_s1) (b := 1) hj417)
        refine lv_dup2_11 hx hb dX7_sendsDown_297 rfl rfl ?_
        refine aldn (n := 695) (j := j417) B hP (show hk 1078 = 8 by decide +kernel) (show hlen 1078 = 695 by decide +kernel) rfl (by omega) (by decide) dX7_sendsDown_298 ?_
        refine lv_iload hx hb dX7_sendsDown_299 (lv_at hl 2 rfl) ?_
        refine lv_if_ne (tgt := 308) hx hb dX7_sendsDown_301 (by decide) (fun _ => ?_) (fun c419 => absurd c419 (iR_ne (nI_iR (j := j296_4) (a := 1) (b := 3) (by omega) (by omega) (by omega)) (show iR 0 (0) (0) from ⟨by decide, by decide⟩) (by decide)))
        refine lv_iconst (v := 1) hx hb dX7_sendsDown_308 (by decide) ?_
        exact b309_1 ls ρ _ _ j417 ((ρ 1078 j417) : Int32) (lv_sub hl [0, 1] rfl) hP hS (TI_w hT (fun m a b => by omega) (fun m a b => by omega) (by omega) (by omega) (by omega)) (by omega) (by omega) (iR_w (iR_any (ρ 1078 j417)) (by decide) (by decide)) (iR_w f_M_j73_1_ (by decide) (by decide)) (by omega) (by omega) (by omega) (by omega)
      have b276_0 : ∀ (ls : Array Slot) (ρ : Nat → Nat → Int32) (H : Heap) (locs : List Loc) (l276_3 : Nat) (j276_4 : Nat), lv_has ls 5 [(0, .ref (E.2.1 + 1076)), (1, .int (nI j73_1)), (3, .int (nI (104 + 326 * j73_1 + 66 * l276_3))), (4, .int (nI j276_4))] → WP E ρ H → va_S (hA E) s.heap H locs → TI r Bt M L 2 j73_1 0 2 (j73_1 + 1) j73_1 l276_3 ρ → l276_3 ≤ 3 → 1 ≤ j276_4 → j276_4 ≤ 3 → iR (M j73_1) (0) (5) → 0 ≤ (L j73_1) → (L j73_1) ≤ 4 → 0 ≤ j73_1 → j73_1 ≤ 1 → l276_3 + 0 ≤ L j73_1 → l276_3 + 1 ≤ L j73_1 → W p l e (rmk 8 320) s m ([.ref (E.2.1 + 1076)] : List Value).toArray below meth c H locs 0 0 (MQ below (cV E (fun ρ1 => TI r Bt M L 2 2 0 2 2 2 0 ρ1)) ([.ref (E.2.1 + 1076)] : List Value).toArray s 0 0 (hA E)) (F0 m 276 ls [.int 0, .int (nI j73_1), .ref (E.2.1 + 1089)]) := by
        intro ls ρ H locs l276_3 j276_4 hl hP hS hI ul276_3 lj276_4 uj276_4 f_M_j73_1_ tl_L_j73_1_ tu_L_j73_1_ tlj73_1 tuj73_1 hr276_0 hr276_1
        have hT := hI
        have hI := TI_RI hT
        refine zstn (n := 2) (j := j73_1) B hP hS (show hk 1089 = 9 by decide +kernel) (show hlen 1089 = 2 by decide +kernel) rfl (by omega) (by decide) rfl dX7_sendsDown_276 (fun H locs hP hS => ?_)
        obtain ⟨ρ420, e421⟩ : ∃ z, z = up ρ 1089 j73_1 0 := ⟨_, rfl⟩
        rw [← e421] at hP
        have hT : TI r Bt M L 2 j73_1 0 2 (j73_1 + 1) j73_1 l276_3 ρ420 := by rw [e421]; exact TI_up9 hT (iR_w (a := 0) (b := 0) (show iR 0 (0) (0) from ⟨by decide, by decide⟩) (by decide) (by decide)) (fun m a b => by omega) (fun z => absurd z (by decide))
        have hI := TI_RI hT
        refine lv_aload_n hx hb dX7_sendsDown_277 rfl (lv_at hl 0 rfl) ?_
        refine get7 B hP (show hk 1076 = 7 by decide +kernel) 3 (by decide) mw_1030 rfl dX7_sendsDown_278 ?_
        refine lv_bipush (v := 13) hx hb dX7_sendsDown_281 (by decide) ?_
        refine lv_iload hx hb dX7_sendsDown_283 (lv_at hl 3 rfl) ?_
        refine lv_iadd hx hb dX7_sendsDown_285 ?_
        refine lv_topi (fun z422 ez422 => ?_)
        obtain rfl : z422 = (nI (13 + j276_4)) := ez422.trans (by rw [show 13 = nI 13 from rfl, show (nI j276_4) = nI j276_4 from rfl, nI_add] <;> exact congrArg nI (by omega))
        refine lv_iload hx hb dX7_sendsDown_286 (lv_at hl 3 rfl) ?_
        refine lv_if_ne (tgt := 295) hx hb dX7_sendsDown_288 (by decide) (fun _ => ?_) (fun c423 => absurd c423 (iR_ne (nI_iR (j := j276_4) (a := 1) (b := 3) (by omega) (by omega) (by omega)) (show iR 0 (0) (0) from ⟨by decide, by decide⟩) (by decide)))
        refine lv_iconst (v := 1) hx hb dX7_sendsDown_295 (by decide) ?_
        exact b296_1 ls ρ420 _ _ j276_4 (13 + j276_4) (lv_sub hl [0, 1, 3] rfl) hP hS (TI_w hT (fun m a b => by omega) (fun m a b => by omega) (by omega) (by omega) (by omega)) (by omega) (by omega) (by omega) (by omega) (iR_w f_M_j73_1_ (by decide) (by decide)) (by omega) (by omega) (by omega) (by omega)
      have b276_1 : ∀ (ls : Array Slot) (ρ : Nat → Nat → Int32) (H : Heap) (locs : List Loc) (l276_3 : Nat) (j276_4 : Nat), lv_has ls 5 [(0, .ref (E.2.1 + 1076)), (1, .int (nI j73_1)), (3, .int (nI (104 + 326 * j73_1 + 66 * l276_3))), (4, .int (nI j276_4))] → WP E ρ H → va_S (hA E) s.heap H locs → TI r Bt M L 2 j73_1 0 2 (j73_1 + 1) j73_1 l276_3 ρ → l276_3 ≤ 3 → 0 ≤ j276_4 → j276_4 ≤ 0 → iR (M j73_1) (0) (5) → 0 ≤ (L j73_1) → (L j73_1) ≤ 4 → 0 ≤ j73_1 → j73_1 ≤ 1 → l276_3 + 0 ≤ L j73_1 → l276_3 + 1 ≤ L j73_1 → W p l e (rmk 8 320) s m ([.ref (E.2.1 + 1076)] : List Value).toArray below meth c H locs 0 0 (MQ below (cV E (fun ρ1 => TI r Bt M L 2 2 0 2 2 2 0 ρ1)) ([.ref (E.2.1 + 1076)] : List Value).toArray s 0 0 (hA E)) (F0 m 276 ls [.int 1, .int (nI j73_1), .ref (E.2.1 + 1089)]) := by
        intro ls ρ H locs l276_3 j276_4 hl hP hS hI ul276_3 lj276_4 uj276_4 f_M_j73_1_ tl_L_j73_1_ tu_L_j73_1_ tlj73_1 tuj73_1 hr276_0 hr276_1
        have hT := hI
        have hI := TI_RI hT
        refine zstn (n := 2) (j := j73_1) B hP hS (show hk 1089 = 9 by decide +kernel) (show hlen 1089 = 2 by decide +kernel) rfl (by omega) (by decide) rfl dX7_sendsDown_276 (fun H locs hP hS => ?_)
        obtain ⟨ρ424, e425⟩ : ∃ z, z = up ρ 1089 j73_1 1 := ⟨_, rfl⟩
        rw [← e425] at hP
        have hT : TI r Bt M L 2 j73_1 0 2 (j73_1 + 1) j73_1 l276_3 ρ424 := by rw [e425]; exact TI_up9 hT (iR_w (a := 1) (b := 1) (show iR 1 (1) (1) from ⟨by decide, by decide⟩) (by decide) (by decide)) (fun m a b => by omega) (fun _ => by rw [(hT.2.2.2.2.2.2 j73_1 (by omega) (by omega)).1]; exact nI_iR (by omega) (by omega) (by omega))
        have hI := TI_RI hT
        refine lv_aload_n hx hb dX7_sendsDown_277 rfl (lv_at hl 0 rfl) ?_
        refine get7 B hP (show hk 1076 = 7 by decide +kernel) 3 (by decide) mw_1030 rfl dX7_sendsDown_278 ?_
        refine lv_bipush (v := 13) hx hb dX7_sendsDown_281 (by decide) ?_
        refine lv_iload hx hb dX7_sendsDown_283 (lv_at hl 3 rfl) ?_
        refine lv_iadd hx hb dX7_sendsDown_285 ?_
        refine lv_topi (fun z426 ez426 => ?_)
        obtain rfl : z426 = (nI (13 + j276_4)) := ez426.trans (by rw [show 13 = nI 13 from rfl, show (nI j276_4) = nI j276_4 from rfl, nI_add] <;> exact congrArg nI (by omega))
        refine lv_iload hx hb dX7_sendsDown_286 (lv_at hl 3 rfl) ?_
        refine lv_if_ne (tgt := 295) hx hb dX7_sendsDown_288 (by decide) (fun c427 => absurd (iR_is (nI_iR (j := j276_4) (a := 0) (b := 0) (by omega) (by omega) (by omega)) rfl) c427) (fun _ => ?_)
        refine lv_iconst (v := 0) hx hb dX7_sendsDown_291 (by decide) ?_
        refine lv_goto (tgt := 296) hx hb dX7_sendsDown_292 (by decide) ?_
        exact b296_0 ls ρ424 _ _ j276_4 (13 + j276_4) (lv_sub hl [0, 1, 3] rfl) hP hS (TI_w hT (fun m a b => by omega) (fun m a b => by omega) (by omega) (by omega) (by omega)) (by omega) (by omega) (by omega) (by omega) (iR_w f_M_j73_1_ (by decide) (by decide)) (by omega) (by omega) (by omega) (by omega)
      have b260_0 : ∀ (ls : Array Slot) (ρ : Nat → Nat → Int32) (H : Heap) (locs : List Loc) (l260_3 : Nat) (j260_4 : Nat) (l260_s1 : Nat) (j260_s2 : Nat), lv_has ls 5 [(0, .ref (E.2.1 + 1076)), (1, .int (nI j73_1)), (3, .int (nI (104 + 326 * j73_1 + 66 * l260_3))), (4, .int (nI j260_4))] → WP E ρ H → va_S (hA E) s.heap H locs → TI r Bt M L 2 j73_1 0 2 (j73_1 + 1) j73_1 l260_3 ρ → l260_3 ≤ 3 → 1 ≤ j260_4 → j260_4 ≤ 3 → l260_s1 ≤ 3 → 11 ≤ j260_s2 → j260_s2 ≤ 13 → iR (M j73_1) (0) (5) → 0 ≤ (L j73_1) → (L j73_1) ≤ 4 → 0 ≤ j73_1 → j73_1 ≤ 1 → l260_s1 + 0 ≤ L j73_1 → l260_s1 + 1 ≤ L j73_1 → l260_3 + 0 ≤ L j73_1 → l260_3 + 1 ≤ L j73_1 → W p l e (rmk 8 320) s m ([.ref (E.2.1 + 1076)] : List Value).toArray below meth c H locs 0 0 (MQ below (cV E (fun ρ1 => TI r Bt M L 2 2 0 2 2 2 0 ρ1)) ([.ref (E.2.1 + 1076)] : List Value).toArray s 0 0 (hA E)) (F0 m 260 ls [.int (nI j260_s2), .int (nI (141 + 326 * j73_1 + 66 * l260_s1)), .ref (E.2.1 + 1078)]) := by
        intro ls ρ H locs l260_3 j260_4 l260_s1 j260_s2 hl hP hS hI ul260_3 lj260_4 uj260_4 ul260_s1 lj260_s2 uj260_s2 f_M_j73_1_ tl_L_j73_1_ tu_L_j73_1_ tlj73_1 tuj73_1 hr260_0 hr260_1 hr260_2 hr260_3
        have hT := hI
        have hI := TI_RI hT
        refine astn (n := 695) (j := (141 + 326 * j73_1 + 66 * l260_s1)) B hP hS (show hk 1078 = 8 by decide +kernel) (show hlen 1078 = 695 by decide +kernel) rfl (by omega) (by decide) dX7_sendsDown_260 (fun H locs hP hS => ?_)
        obtain ⟨ρ428, e429⟩ : ∃ z, z = up ρ 1078 (141 + 326 * j73_1 + 66 * l260_s1) (nI j260_s2) := ⟨_, rfl⟩
        rw [← e429] at hP
        have hT : TI r Bt M L 2 j73_1 0 2 (j73_1 + 1) j73_1 l260_3 ρ428 := by rw [e429]; exact TI_back hT (RI_up hI (ok_link (n0 := j73_1) (l0 := l260_s1) (j := (141 + 326 * j73_1 + 66 * l260_s1)) 37 (by omega) (by omega) (by omega) (by omega)))
        have hI := TI_RI hT
        refine lv_aload_n hx hb dX7_sendsDown_261 rfl (lv_at hl 0 rfl) ?_
        refine get7 B hP (show hk 1076 = 7 by decide +kernel) 15 (by decide) mw_1042 rfl dX7_sendsDown_262 ?_
        refine lv_iload_n hx hb dX7_sendsDown_265 rfl (lv_at hl 1 rfl) ?_
        refine lv_iload hx hb dX7_sendsDown_266 (lv_at hl 3 rfl) ?_
        refine lv_if_ne (tgt := 275) hx hb dX7_sendsDown_268 (by decide) (fun _ => ?_) (fun c430 => absurd c430 (iR_ne (nI_iR (j := j260_4) (a := 1) (b := 3) (by omega) (by omega) (by omega)) (show iR 0 (0) (0) from ⟨by decide, by decide⟩) (by decide)))
        refine lv_iconst (v := 0) hx hb dX7_sendsDown_275 (by decide) ?_
        exact b276_0 ls ρ428 _ _ l260_3 j260_4 (lv_sub hl [0, 1, 2, 3] rfl) hP hS (TI_w hT (fun m a b => by omega) (fun m a b => by omega) (by omega) (by omega) (by omega)) (by omega) (by omega) (by omega) (iR_w f_M_j73_1_ (by decide) (by decide)) (by omega) (by omega) (by omega) (by omega) (by omega) (by omega)
      have b260_1 : ∀ (ls : Array Slot) (ρ : Nat → Nat → Int32) (H : Heap) (locs : List Loc) (l260_3 : Nat) (j260_4 : Nat) (l260_s1 : Nat), lv_has ls 5 [(0, .ref (E.2.1 + 1076)), (1, .int (nI j73_1)), (3, .int (nI (104 + 326 * j73_1 + 66 * l260_3))), (4, .int (nI j260_4))] → WP E ρ H → va_S (hA E) s.heap H locs → TI r Bt M L 2 j73_1 0 2 (j73_1 + 1) j73_1 l260_3 ρ → l260_3 ≤ 3 → 0 ≤ j260_4 → j260_4 ≤ 0 → l260_s1 ≤ 3 → iR (M j73_1) (0) (5) → 0 ≤ (L j73_1) → (L j73_1) ≤ 4 → 0 ≤ j73_1 → j73_1 ≤ 1 → l260_s1 + 0 ≤ L j73_1 → l260_s1 + 1 ≤ L j73_1 → l260_3 + 0 ≤ L j73_1 → l260_3 + 1 ≤ L j73_1 → W p l e (rmk 8 320) s m ([.ref (E.2.1 + 1076)] : List Value).toArray below meth c H locs 0 0 (MQ below (cV E (fun ρ1 => TI r Bt M L 2 2 0 2 2 2 0 ρ1)) ([.ref (E.2.1 + 1076)] : List Value).toArray s 0 0 (hA E)) (F0 m 260 ls [.int 0, .int (nI (141 + 326 * j73_1 + 66 * l260_s1)), .ref (E.2.1 + 1078)]) := by
        intro ls ρ H locs l260_3 j260_4 l260_s1 hl hP hS hI ul260_3 lj260_4 uj260_4 ul260_s1 f_M_j73_1_ tl_L_j73_1_ tu_L_j73_1_ tlj73_1 tuj73_1 hr260_0 hr260_1 hr260_2 hr260_3
        have hT := hI
        have hI := TI_RI hT
        refine astn (n := 695) (j := (141 + 326 * j73_1 + 66 * l260_s1)) B hP hS (show hk 1078 = 8 by decide +kernel) (show hlen 1078 = 695 by decide +kernel) rfl (by omega) (by decide) dX7_sendsDown_260 (fun H locs hP hS => ?_)
        obtain ⟨ρ431, e432⟩ : ∃ z, z = up ρ 1078 (141 + 326 * j73_1 + 66 * l260_s1) 0 := ⟨_, rfl⟩
        rw [← e432] at hP
        have hT : TI r Bt M L 2 j73_1 0 2 (j73_1 + 1) j73_1 l260_3 ρ431 := by rw [e432]; exact TI_back hT (RI_up hI (ok_link (n0 := j73_1) (l0 := l260_s1) (j := (141 + 326 * j73_1 + 66 * l260_s1)) 37 (by omega) (by omega) (by omega) (by omega)))
        have hI := TI_RI hT
        refine lv_aload_n hx hb dX7_sendsDown_261 rfl (lv_at hl 0 rfl) ?_
        refine get7 B hP (show hk 1076 = 7 by decide +kernel) 15 (by decide) mw_1042 rfl dX7_sendsDown_262 ?_
        refine lv_iload_n hx hb dX7_sendsDown_265 rfl (lv_at hl 1 rfl) ?_
        refine lv_iload hx hb dX7_sendsDown_266 (lv_at hl 3 rfl) ?_
        refine lv_if_ne (tgt := 275) hx hb dX7_sendsDown_268 (by decide) (fun c433 => absurd (iR_is (nI_iR (j := j260_4) (a := 0) (b := 0) (by omega) (by omega) (by omega)) rfl) c433) (fun _ => ?_)
        refine lv_iconst (v := 1) hx hb dX7_sendsDown_271 (by decide) ?_
        refine lv_goto (tgt := 276) hx hb dX7_sendsDown_272 (by decide) ?_
        exact b276_1 ls ρ431 _ _ l260_3 j260_4 (lv_sub hl [0, 1, 2, 3] rfl) hP hS (TI_w hT (fun m a b => by omega) (fun m a b => by omega) (by omega) (by omega) (by omega)) (by omega) (by omega) (by omega) (iR_w f_M_j73_1_ (by decide) (by decide)) (by omega) (by omega) (by omega) (by omega) (by omega) (by omega)
      have b210_0 : ∀ (ls : Array Slot) (ρ : Nat → Nat → Int32) (H : Heap) (locs : List Loc) (l210_3 : Nat), lv_has ls 5 [(0, .ref (E.2.1 + 1076)), (1, .int (nI j73_1)), (3, .int (nI (104 + 326 * j73_1 + 66 * l210_3)))] → WP E ρ H → va_S (hA E) s.heap H locs → TI r Bt M L 2 j73_1 0 2 (j73_1 + 1) j73_1 l210_3 ρ → l210_3 ≤ 3 → iR (M j73_1) (0) (5) → 0 ≤ (L j73_1) → (L j73_1) ≤ 4 → 0 ≤ j73_1 → j73_1 ≤ 1 → l210_3 + 0 ≤ L j73_1 → l210_3 + 1 ≤ L j73_1 → W p l e (rmk 8 320) s m ([.ref (E.2.1 + 1076)] : List Value).toArray below meth c H locs 0 0 (MQ below (cV E (fun ρ1 => TI r Bt M L 2 2 0 2 2 2 0 ρ1)) ([.ref (E.2.1 + 1076)] : List Value).toArray s 0 0 (hA E)) (F0 m 210 ls [.int 0, .int (nI j73_1), .ref (E.2.1 + 1088)]) := by
        intro ls ρ H locs l210_3 hl hP hS hI ul210_3 f_M_j73_1_ tl_L_j73_1_ tu_L_j73_1_ tlj73_1 tuj73_1 hr210_0 hr210_1
        have hT := hI
        have hI := TI_RI hT
        refine zstn (n := 2) (j := j73_1) B hP hS (show hk 1088 = 9 by decide +kernel) (show hlen 1088 = 2 by decide +kernel) rfl (by omega) (by decide) rfl dX7_sendsDown_210 (fun H locs hP hS => ?_)
        obtain ⟨ρ434, e435⟩ : ∃ z, z = up ρ 1088 j73_1 0 := ⟨_, rfl⟩
        rw [← e435] at hP
        have hT : TI r Bt M L 2 j73_1 0 2 (j73_1 + 1) j73_1 l210_3 ρ434 := by rw [e435]; exact TI_up8 hT (iR_w (a := 0) (b := 0) (show iR 0 (0) (0) from ⟨by decide, by decide⟩) (by decide) (by decide))
        have hI := TI_RI hT
        refine lv_aload_n hx hb dX7_sendsDown_211 rfl (lv_at hl 0 rfl) ?_
        refine lv_iload_n hx hb dX7_sendsDown_212 rfl (lv_at hl 1 rfl) ?_
        refine lv_aload_n hx hb dX7_sendsDown_213 rfl (lv_at hl 0 rfl) ?_
        refine lv_iload_n hx hb dX7_sendsDown_214 rfl (lv_at hl 1 rfl) ?_
        refine lv_aload_n hx hb dX7_sendsDown_215 rfl (lv_at hl 0 rfl) ?_
        refine get7 B hP (show hk 1076 = 7 by decide +kernel) 3 (by decide) mw_1030 rfl dX7_sendsDown_216 ?_
        refine lv_bipush (v := 7) hx hb dX7_sendsDown_219 (by decide) ?_
        refine aldn (n := 695) (j := 7) B hP (show hk 1078 = 8 by decide +kernel) (show hlen 1078 = 695 by decide +kernel) rfl (by omega) (by decide) dX7_sendsDown_221 ?_
        have i436 : iR (ρ434 1078 7) (0) (1000000) := (iR_w (g_time hI) (by omega) (by omega))
        obtain ⟨j437, lj437, uj437, ej437⟩ := iR_nat (a := 0) (b := 1000000) i436
        refine lv_topi (fun z438 ez438 => ?_)
        obtain rfl : z438 = nI j437 := ez438.trans ej437
        have := time_le (g_time hI) ej437 (by omega)
        refine lv_aload_n hx hb dX7_sendsDown_222 rfl (lv_at hl 0 rfl) ?_
        refine get7 B hP (show hk 1076 = 7 by decide +kernel) 3 (by decide) mw_1030 rfl dX7_sendsDown_223 ?_
        refine lv_iload_n hx hb dX7_sendsDown_226 rfl (lv_at hl 2 rfl) ?_
        refine lv_iconst (v := 1) hx hb dX7_sendsDown_227 (by decide) ?_
        refine lv_iadd hx hb dX7_sendsDown_228 ?_
        refine lv_topi (fun z439 ez439 => ?_)
        obtain rfl : z439 = (nI (105 + 326 * j73_1 + 66 * l210_3)) := ez439.trans (by rw [show (nI (104 + 326 * j73_1 + 66 * l210_3)) = nI (104 + 326 * j73_1 + 66 * l210_3) from rfl, show 1 = nI 1 from rfl, nI_add] <;> exact congrArg nI (by omega))
        refine aldn (n := 695) (j := (105 + 326 * j73_1 + 66 * l210_3)) B hP (show hk 1078 = 8 by decide +kernel) (show hlen 1078 = 695 by decide +kernel) rfl (by omega) (by decide) dX7_sendsDown_229 ?_
        have i440 : iR (ρ434 1078 (105 + 326 * j73_1 + 66 * l210_3)) (1) (8388607) := g_itsmap (n0 := j73_1) (l0 := l210_3) (j := (105 + 326 * j73_1 + 66 * l210_3)) hI (by omega) (by omega) (by omega)
        obtain ⟨j441, lj441, uj441, ej441⟩ := iR_nat (a := 1) (b := 8388607) i440
        refine lv_topi (fun z442 ez442 => ?_)
        obtain rfl : z442 = nI j441 := ez442.trans ej441
        refine call_i (cVt (k := 1076) (av := [.int (nI j73_1), .int (nI j437), .int (nI j441)]) (rest := [.int (nI j73_1), .ref (E.2.1 + 1076)]) B hP hS (d_X7_hopOf l E ρ434 ρ434 Bt hBt M L (XT 2 j73_1 0 (j73_1 + 1) (ρ434 1084) (ρ434 1087)) j73_1 (by omega) (by omega) (nI j437) j441 (by omega) (by omega) hI) lk_RX7_114 (hrecv (ci := 7) B hP (hk_lt (c := 7) (show hk 1076 = 7 by decide +kernel) (by decide)) (hcc7 _ _ (show hk 1076 = 7 by decide +kernel)) rfl) rfl rfl hl.1 (Nat.le_of_ble_eq_true rfl) ⟨Nat.le_of_ble_eq_true rfl, Nat.le_of_ble_eq_true rfl⟩ ⟨Nat.le_of_ble_eq_true rfl, Nat.le_of_ble_eq_true rfl⟩ dX7_sendsDown_230) hS (fun r443 ρ444 H locs q445 hP hS => ?_)
        obtain ⟨rfl, -, q445⟩ := q445
        obtain ⟨j447, lj447, uj447, ej447⟩ := iR_nat (a := 0) (b := 22) q445
        refine lv_topi (fun z448 ez448 => ?_)
        obtain rfl : z448 = nI j447 := ez448.trans ej447
        refine call_i (cVt (k := 1076) (av := [.int (nI j73_1), .int (nI j447)]) (rest := []) B hP hS (d_X7_whyNot l E ρ434 ρ434 Bt hBt M L (XT 2 j73_1 0 (j73_1 + 1) (ρ434 1084) (ρ434 1087)) j73_1 (by omega) (by omega) (nI j447) hI (fun n hn => (hT.2.2.2.1 n hn).1)) lk_RX7_202 (hrecv (ci := 7) B hP (hk_lt (c := 7) (show hk 1076 = 7 by decide +kernel) (by decide)) (hcc7 _ _ (show hk 1076 = 7 by decide +kernel)) rfl) rfl rfl hl.1 (Nat.le_of_ble_eq_true rfl) ⟨Nat.le_of_ble_eq_true rfl, Nat.le_of_ble_eq_true rfl⟩ ⟨Nat.le_of_ble_eq_true rfl, Nat.le_of_ble_eq_true rfl⟩ dX7_sendsDown_233) hS (fun r449 ρ450 H locs q451 hP hS => ?_)
        obtain ⟨hR452, q451⟩ := q451
        have hT := TI_back hT hR452
        have hI := TI_RI hT
        obtain ⟨j453, lj453, uj453, ej453⟩ := iR_nat (a := 0) (b := 3) q451
        refine lv_topi (fun z454 ez454 => ?_)
        obtain rfl : z454 = nI j453 := ez454.trans ej453
        refine lv_istore (lv' := [(4, .int (nI j453)), (0, .ref (E.2.1 + 1076)), (1, .int (nI j73_1)), (3, .int (nI (104 + 326 * j73_1 + 66 * l210_3)))]) hx hb dX7_sendsDown_236 hl (by decide) rfl (fun ls hl => ?_)
        refine lv_aload_n hx hb dX7_sendsDown_238 rfl (lv_at hl 1 rfl) ?_
        refine get7 B hP (show hk 1076 = 7 by decide +kernel) 3 (by decide) mw_1030 rfl dX7_sendsDown_239 ?_
        refine lv_iload_n hx hb dX7_sendsDown_242 rfl (lv_at hl 3 rfl) ?_
        refine lv_bipush (v := 37) hx hb dX7_sendsDown_243 (by decide) ?_
        refine lv_iadd hx hb dX7_sendsDown_245 ?_
        refine lv_topi (fun z455 ez455 => ?_)
        obtain rfl : z455 = (nI (141 + 326 * j73_1 + 66 * l210_3)) := ez455.trans (by rw [show (nI (104 + 326 * j73_1 + 66 * l210_3)) = nI (104 + 326 * j73_1 + 66 * l210_3) from rfl, show 37 = nI 37 from rfl, nI_add] <;> exact congrArg nI (by omega))
        refine lv_iload hx hb dX7_sendsDown_246 (lv_at hl 0 rfl) ?_
        refine lv_if_ne (tgt := 255) hx hb dX7_sendsDown_248 (by decide) (fun c456 => ?_) (fun c456 => ?_)
        · skip
          have n457 := mt (nI_eq (a := j453) (b := 0) (by omega) (by omega)).mpr (show ¬ (nI j453 = nI 0) from c456)
          refine lv_bipush (v := 10) hx hb dX7_sendsDown_255 (by decide) ?_
          refine lv_iload hx hb dX7_sendsDown_257 (lv_at hl 0 rfl) ?_
          refine lv_iadd hx hb dX7_sendsDown_259 ?_
          refine lv_topi (fun z458 ez458 => ?_)
          obtain rfl : z458 = (nI (10 + j453)) := ez458.trans (by rw [show 10 = nI 10 from rfl, show (nI j453) = nI j453 from rfl, nI_add] <;> exact congrArg nI (by omega))
          exact b260_0 ls ρ450 _ _ l210_3 j453 l210_3 (10 + j453) (lv_sub hl [1, 2, 3, 0] rfl) hP hS (TI_w hT (fun m a b => by omega) (fun m a b => by omega) (by omega) (by omega) (by omega)) (by omega) (by omega) (by omega) (by omega) (by omega) (by omega) (iR_w f_M_j73_1_ (by decide) (by decide)) (by omega) (by omega) (by omega) (by omega) (by omega) (by omega) (by omega) (by omega)
        · skip
          have n459 := (nI_eq (a := j453) (b := 0) (by omega) (by omega)).mp (show (nI j453 = nI 0) from c456)
          refine lv_iconst (v := 0) hx hb dX7_sendsDown_251 (by decide) ?_
          refine lv_goto (tgt := 260) hx hb dX7_sendsDown_252 (by decide) ?_
          exact b260_1 ls ρ450 _ _ l210_3 j453 l210_3 (lv_sub hl [1, 2, 3, 0] rfl) hP hS (TI_w hT (fun m a b => by omega) (fun m a b => by omega) (by omega) (by omega) (by omega)) (by omega) (by omega) (by omega) (by omega) (iR_w f_M_j73_1_ (by decide) (by decide)) (by omega) (by omega) (by omega) (by omega) (by omega) (by omega) (by omega) (by omega)
      have b210_1 : ∀ (ls : Array Slot) (ρ : Nat → Nat → Int32) (H : Heap) (locs : List Loc) (l210_3 : Nat), lv_has ls 5 [(0, .ref (E.2.1 + 1076)), (1, .int (nI j73_1)), (3, .int (nI (104 + 326 * j73_1 + 66 * l210_3)))] → WP E ρ H → va_S (hA E) s.heap H locs → TI r Bt M L 2 j73_1 0 2 (j73_1 + 1) j73_1 l210_3 ρ → l210_3 ≤ 3 → iR (M j73_1) (0) (5) → 0 ≤ (L j73_1) → (L j73_1) ≤ 4 → 0 ≤ j73_1 → j73_1 ≤ 1 → l210_3 + 0 ≤ L j73_1 → l210_3 + 1 ≤ L j73_1 → W p l e (rmk 8 320) s m ([.ref (E.2.1 + 1076)] : List Value).toArray below meth c H locs 0 0 (MQ below (cV E (fun ρ1 => TI r Bt M L 2 2 0 2 2 2 0 ρ1)) ([.ref (E.2.1 + 1076)] : List Value).toArray s 0 0 (hA E)) (F0 m 210 ls [.int 1, .int (nI j73_1), .ref (E.2.1 + 1088)]) := by
        intro ls ρ H locs l210_3 hl hP hS hI ul210_3 f_M_j73_1_ tl_L_j73_1_ tu_L_j73_1_ tlj73_1 tuj73_1 hr210_0 hr210_1
        have hT := hI
        have hI := TI_RI hT
        refine zstn (n := 2) (j := j73_1) B hP hS (show hk 1088 = 9 by decide +kernel) (show hlen 1088 = 2 by decide +kernel) rfl (by omega) (by decide) rfl dX7_sendsDown_210 (fun H locs hP hS => ?_)
        obtain ⟨ρ460, e461⟩ : ∃ z, z = up ρ 1088 j73_1 1 := ⟨_, rfl⟩
        rw [← e461] at hP
        have hT : TI r Bt M L 2 j73_1 0 2 (j73_1 + 1) j73_1 l210_3 ρ460 := by rw [e461]; exact TI_up8 hT (iR_w (a := 1) (b := 1) (show iR 1 (1) (1) from ⟨by decide, by decide⟩) (by decide) (by decide))
        have hI := TI_RI hT
        refine lv_aload_n hx hb dX7_sendsDown_211 rfl (lv_at hl 0 rfl) ?_
        refine lv_iload_n hx hb dX7_sendsDown_212 rfl (lv_at hl 1 rfl) ?_
        refine lv_aload_n hx hb dX7_sendsDown_213 rfl (lv_at hl 0 rfl) ?_
        refine lv_iload_n hx hb dX7_sendsDown_214 rfl (lv_at hl 1 rfl) ?_
        refine lv_aload_n hx hb dX7_sendsDown_215 rfl (lv_at hl 0 rfl) ?_
        refine get7 B hP (show hk 1076 = 7 by decide +kernel) 3 (by decide) mw_1030 rfl dX7_sendsDown_216 ?_
        refine lv_bipush (v := 7) hx hb dX7_sendsDown_219 (by decide) ?_
        refine aldn (n := 695) (j := 7) B hP (show hk 1078 = 8 by decide +kernel) (show hlen 1078 = 695 by decide +kernel) rfl (by omega) (by decide) dX7_sendsDown_221 ?_
        have i462 : iR (ρ460 1078 7) (0) (1000000) := (iR_w (g_time hI) (by omega) (by omega))
        obtain ⟨j463, lj463, uj463, ej463⟩ := iR_nat (a := 0) (b := 1000000) i462
        refine lv_topi (fun z464 ez464 => ?_)
        obtain rfl : z464 = nI j463 := ez464.trans ej463
        have := time_le (g_time hI) ej463 (by omega)
        refine lv_aload_n hx hb dX7_sendsDown_222 rfl (lv_at hl 0 rfl) ?_
        refine get7 B hP (show hk 1076 = 7 by decide +kernel) 3 (by decide) mw_1030 rfl dX7_sendsDown_223 ?_
        refine lv_iload_n hx hb dX7_sendsDown_226 rfl (lv_at hl 2 rfl) ?_
        refine lv_iconst (v := 1) hx hb dX7_sendsDown_227 (by decide) ?_
        refine lv_iadd hx hb dX7_sendsDown_228 ?_
        refine lv_topi (fun z465 ez465 => ?_)
        obtain rfl : z465 = (nI (105 + 326 * j73_1 + 66 * l210_3)) := ez465.trans (by rw [show (nI (104 + 326 * j73_1 + 66 * l210_3)) = nI (104 + 326 * j73_1 + 66 * l210_3) from rfl, show 1 = nI 1 from rfl, nI_add] <;> exact congrArg nI (by omega))
        refine aldn (n := 695) (j := (105 + 326 * j73_1 + 66 * l210_3)) B hP (show hk 1078 = 8 by decide +kernel) (show hlen 1078 = 695 by decide +kernel) rfl (by omega) (by decide) dX7_sendsDown_229 ?_
        have i466 : iR (ρ460 1078 (105 + 326 * j73_1 + 66 * l210_3)) (1) (8388607) := g_itsmap (n0 := j73_1) (l0 := l210_3) (j := (105 + 326 * j73_1 + 66 * l210_3)) hI (by omega) (by omega) (by omega)
        obtain ⟨j467, lj467, uj467, ej467⟩ := iR_nat (a := 1) (b := 8388607) i466
        refine lv_topi (fun z468 ez468 => ?_)
        obtain rfl : z468 = nI j467 := ez468.trans ej467
        refine call_i (cVt (k := 1076) (av := [.int (nI j73_1), .int (nI j463), .int (nI j467)]) (rest := [.int (nI j73_1), .ref (E.2.1 + 1076)]) B hP hS (d_X7_hopOf l E ρ460 ρ460 Bt hBt M L (XT 2 j73_1 0 (j73_1 + 1) (ρ460 1084) (ρ460 1087)) j73_1 (by omega) (by omega) (nI j463) j467 (by omega) (by omega) hI) lk_RX7_114 (hrecv (ci := 7) B hP (hk_lt (c := 7) (show hk 1076 = 7 by decide +kernel) (by decide)) (hcc7 _ _ (show hk 1076 = 7 by decide +kernel)) rfl) rfl rfl hl.1 (Nat.le_of_ble_eq_true rfl) ⟨Nat.le_of_ble_eq_true rfl, Nat.le_of_ble_eq_true rfl⟩ ⟨Nat.le_of_ble_eq_true rfl, Nat.le_of_ble_eq_true rfl⟩ dX7_sendsDown_230) hS (fun r469 ρ470 H locs q471 hP hS => ?_)
        obtain ⟨rfl, -, q471⟩ := q471
        obtain ⟨j473, lj473, uj473, ej473⟩ := iR_nat (a := 0) (b := 22) q471
        refine lv_topi (fun z474 ez474 => ?_)
        obtain rfl : z474 = nI j473 := ez474.trans ej473
        refine call_i (cVt (k := 1076) (av := [.int (nI j73_1), .int (nI j473)]) (rest := []) B hP hS (d_X7_whyNot l E ρ460 ρ460 Bt hBt M L (XT 2 j73_1 0 (j73_1 + 1) (ρ460 1084) (ρ460 1087)) j73_1 (by omega) (by omega) (nI j473) hI (fun n hn => (hT.2.2.2.1 n hn).1)) lk_RX7_202 (hrecv (ci := 7) B hP (hk_lt (c := 7) (show hk 1076 = 7 by decide +kernel) (by decide)) (hcc7 _ _ (show hk 1076 = 7 by decide +kernel)) rfl) rfl rfl hl.1 (Nat.le_of_ble_eq_true rfl) ⟨Nat.le_of_ble_eq_true rfl, Nat.le_of_ble_eq_true rfl⟩ ⟨Nat.le_of_ble_eq_true rfl, Nat.le_of_ble_eq_true rfl⟩ dX7_sendsDown_233) hS (fun r475 ρ476 H locs q477 hP hS => ?_)
        obtain ⟨hR478, q477⟩ := q477
        have hT := TI_back hT hR478
        have hI := TI_RI hT
        obtain ⟨j479, lj479, uj479, ej479⟩ := iR_nat (a := 0) (b := 3) q477
        refine lv_topi (fun z480 ez480 => ?_)
        obtain rfl : z480 = nI j479 := ez480.trans ej479
        refine lv_istore (lv' := [(4, .int (nI j479)), (0, .ref (E.2.1 + 1076)), (1, .int (nI j73_1)), (3, .int (nI (104 + 326 * j73_1 + 66 * l210_3)))]) hx hb dX7_sendsDown_236 hl (by decide) rfl (fun ls hl => ?_)
        refine lv_aload_n hx hb dX7_sendsDown_238 rfl (lv_at hl 1 rfl) ?_
        refine get7 B hP (show hk 1076 = 7 by decide +kernel) 3 (by decide) mw_1030 rfl dX7_sendsDown_239 ?_
        refine lv_iload_n hx hb dX7_sendsDown_242 rfl (lv_at hl 3 rfl) ?_
        refine lv_bipush (v := 37) hx hb dX7_sendsDown_243 (by decide) ?_
        refine lv_iadd hx hb dX7_sendsDown_245 ?_
        refine lv_topi (fun z481 ez481 => ?_)
        obtain rfl : z481 = (nI (141 + 326 * j73_1 + 66 * l210_3)) := ez481.trans (by rw [show (nI (104 + 326 * j73_1 + 66 * l210_3)) = nI (104 + 326 * j73_1 + 66 * l210_3) from rfl, show 37 = nI 37 from rfl, nI_add] <;> exact congrArg nI (by omega))
        refine lv_iload hx hb dX7_sendsDown_246 (lv_at hl 0 rfl) ?_
        refine lv_if_ne (tgt := 255) hx hb dX7_sendsDown_248 (by decide) (fun c482 => ?_) (fun c482 => ?_)
        · skip
          have n483 := mt (nI_eq (a := j479) (b := 0) (by omega) (by omega)).mpr (show ¬ (nI j479 = nI 0) from c482)
          refine lv_bipush (v := 10) hx hb dX7_sendsDown_255 (by decide) ?_
          refine lv_iload hx hb dX7_sendsDown_257 (lv_at hl 0 rfl) ?_
          refine lv_iadd hx hb dX7_sendsDown_259 ?_
          refine lv_topi (fun z484 ez484 => ?_)
          obtain rfl : z484 = (nI (10 + j479)) := ez484.trans (by rw [show 10 = nI 10 from rfl, show (nI j479) = nI j479 from rfl, nI_add] <;> exact congrArg nI (by omega))
          exact b260_0 ls ρ476 _ _ l210_3 j479 l210_3 (10 + j479) (lv_sub hl [1, 2, 3, 0] rfl) hP hS (TI_w hT (fun m a b => by omega) (fun m a b => by omega) (by omega) (by omega) (by omega)) (by omega) (by omega) (by omega) (by omega) (by omega) (by omega) (iR_w f_M_j73_1_ (by decide) (by decide)) (by omega) (by omega) (by omega) (by omega) (by omega) (by omega) (by omega) (by omega)
        · skip
          have n485 := (nI_eq (a := j479) (b := 0) (by omega) (by omega)).mp (show (nI j479 = nI 0) from c482)
          refine lv_iconst (v := 0) hx hb dX7_sendsDown_251 (by decide) ?_
          refine lv_goto (tgt := 260) hx hb dX7_sendsDown_252 (by decide) ?_
          exact b260_1 ls ρ476 _ _ l210_3 j479 l210_3 (lv_sub hl [1, 2, 3, 0] rfl) hP hS (TI_w hT (fun m a b => by omega) (fun m a b => by omega) (by omega) (by omega) (by omega)) (by omega) (by omega) (by omega) (by omega) (iR_w f_M_j73_1_ (by decide) (by decide)) (by omega) (by omega) (by omega) (by omega) (by omega) (by omega) (by omega) (by omega)
      have hT := hI
      have hI := TI_RI hT
      refine lv_iload_n hx hb dX7_sendsDown_73 rfl (lv_at hl 1 rfl) ?_
      refine lv_iconst (v := 2) hx hb dX7_sendsDown_74 (by decide) ?_
      refine lv_icmp_ge (tgt := 317) hx hb dX7_sendsDown_75 (by decide) (fun c486 => ?_) (fun c486 => ?_)
      · skip
        have n487 := mt (nx_lt (a := j73_1) (b := 2) (by omega) (by omega)).mpr (show ¬ (nI j73_1 < nI 2) from (Int32.not_lt.mpr c486))
        refine lv_iconst (v := 0) hx hb dX7_sendsDown_317 (by decide) ?_
        refine lv_istore_n (lv' := [(1, .int 0), (0, .ref (E.2.1 + 1076))]) hx hb dX7_sendsDown_318 rfl hl (by decide) rfl (fun ls hl => ?_)
        exact b319_0 ls ρ _ _ _ 0 (lv_sub hl [1, 0] rfl) hP hS (TI_w hT (fun m a b => by omega) (fun m a b => by omega) (by omega) (by omega) (by omega)) (Nat.lt_succ_self _) (by omega) (by omega)
      · skip
        have n488 := (nx_lt (a := j73_1) (b := 2) (by omega) (by omega)).mp (show (nI j73_1 < nI 2) from (Int32.not_le.mp c486))
        refine lv_aload_n hx hb dX7_sendsDown_78 rfl (lv_at hl 0 rfl) ?_
        refine get7 B hP (show hk 1076 = 7 by decide +kernel) 10 (by decide) mw_1037 rfl dX7_sendsDown_79 ?_
        refine lv_iload_n hx hb dX7_sendsDown_82 rfl (lv_at hl 1 rfl) ?_
        refine aldn (n := 2) (j := j73_1) B hP (show hk 1084 = 8 by decide +kernel) (show hlen 1084 = 2 by decide +kernel) rfl (by omega) (by decide) dX7_sendsDown_83 ?_
        have i489 : iR (ρ 1084 j73_1) (-2) 3 := iR_w (hT.2.2.2.2.1 j73_1 (by omega) (by omega)).1 (by decide) (by have := RI_Lb (n := j73_1) hI (by omega); omega)
        refine lv_bipush (v := (-2)) hx hb dX7_sendsDown_84 (by decide) ?_
        refine lv_icmp_ne (tgt := 97) hx hb dX7_sendsDown_86 (by decide) (fun c490 => ?_) (fun c490 => ?_)
        · skip
          have i491 : iR (ρ 1084 j73_1) (-1) (3) := (iR_neL i489 (show iR (-2) (-2) (-2) from ⟨by decide, by decide⟩) c490 (by decide) (by decide))
          refine lv_aload_n hx hb dX7_sendsDown_97 rfl (lv_at hl 0 rfl) ?_
          refine get7 B hP (show hk 1076 = 7 by decide +kernel) 10 (by decide) mw_1037 rfl dX7_sendsDown_98 ?_
          refine lv_iload_n hx hb dX7_sendsDown_101 rfl (lv_at hl 1 rfl) ?_
          refine aldf (n := 2) (j := j73_1) (v := (ρ 1084 j73_1)) B hP (show hk 1084 = 8 by decide +kernel) (show hlen 1084 = 2 by decide +kernel) rfl (by omega) (by decide) rfl dX7_sendsDown_102 ?_
          have i493 : iR (ρ 1084 j73_1) (-1) ((L j73_1 : Int) - 1) := ⟨Int.le_trans (by decide) (show (-1 : Int) ≤ _ from i491.1), (hT.2.2.2.2.1 j73_1 (by omega) (by omega)).1.2⟩
          have := RI_Lb (n := j73_1) hI (by omega)
          refine lv_iconst (v := (-1)) hx hb dX7_sendsDown_103 (by decide) ?_
          refine lv_icmp_eq (tgt := 311) hx hb dX7_sendsDown_104 (by decide) (fun c494 => ?_) (fun c494 => ?_)
          · skip
            have i495 : iR (ρ 1084 j73_1) (-1) (-1) := (by rw [c494]; exact ⟨by decide, by decide⟩)
            have hT := TI_q4 (p4 := j73_1 + 1) hT rfl rfl (iR_w (b' := -1) i495 (Int.le_refl _) (by decide))
            have hI := TI_RI hT
            exact b311_0 ls ρ _ _  (lv_sub hl [0, 1] rfl) hP hS (TI_w hT (fun m a b => by omega) (fun m a b => by omega) (by omega) (by omega) (by omega)) (by omega) (by omega)
          · skip
            have i497 : iR (ρ 1084 j73_1) (0) (3) := (iR_neL i491 (show iR (-1) (-1) (-1) from ⟨by decide, by decide⟩) c494 (by decide) (by decide))
            have i498 : iR (M j73_1) 0 5 := (hT.2.2.2.2.1 j73_1 (by omega) (by omega)).2 c494
            refine lv_iload_n hx hb dX7_sendsDown_107 rfl (lv_at hl 1 rfl) ?_
            refine call_i (cS (av := [.int (nI j73_1)]) (rest := []) B hP hS (d_X7_netAt l E ρ ρ Bt hBt M L (XT 2 j73_1 0 j73_1 (ρ 1084) (ρ 1087)) j73_1 (by omega) (by omega) hI) lk_RX7_75 rfl rfl hl.1 (Nat.le_of_ble_eq_true rfl) ⟨Nat.le_of_ble_eq_true rfl, Nat.le_of_ble_eq_true rfl⟩ ⟨Nat.le_of_ble_eq_true rfl, Nat.le_of_ble_eq_true rfl⟩ dX7_sendsDown_108) hS (fun r499 ρ500 H locs q501 hP hS => ?_)
            obtain ⟨rfl, -, q501⟩ := q501
            obtain rfl : r499 = nI (42 + 326 * j73_1) := q501.trans (congrArg nI (by omega))
            refine lv_istore_n (lv' := [(2, .int (nI (42 + 326 * j73_1))), (0, .ref (E.2.1 + 1076)), (1, .int (nI j73_1))]) hx hb dX7_sendsDown_111 rfl hl (by decide) rfl (fun ls hl => ?_)
            refine lv_iload_n hx hb dX7_sendsDown_112 rfl (lv_at hl 2 rfl) ?_
            refine lv_aload_n hx hb dX7_sendsDown_113 rfl (lv_at hl 1 rfl) ?_
            refine get7 B hP (show hk 1076 = 7 by decide +kernel) 10 (by decide) mw_1037 rfl dX7_sendsDown_114 ?_
            refine lv_iload_n hx hb dX7_sendsDown_117 rfl (lv_at hl 2 rfl) ?_
            refine aldf (n := 2) (j := j73_1) (v := (ρ 1084 j73_1)) B hP (show hk 1084 = 8 by decide +kernel) (show hlen 1084 = 2 by decide +kernel) rfl (by omega) (by decide) rfl dX7_sendsDown_118 ?_
            obtain ⟨j503, lj503, uj503, ej503⟩ := iR_nat (a := 0) (b := 3) i497
            refine lv_topi (fun z504 ez504 => ?_)
            obtain rfl : z504 = nI j503 := ez504.trans ej503
            have : j503 < L j73_1 := rl_lt i493 ej503 (by omega)
            refine call_i (cS (av := [.int (nI j73_1), .int (nI j503)]) (rest := []) B hP hS (d_X7_linkAt l E ρ ρ Bt hBt M L (XT 2 j73_1 0 j73_1 (ρ 1084) (ρ 1087)) j73_1 (by omega) (by omega) j503 (by omega) (by omega) hI) lk_RX7_82 rfl rfl hl.1 (Nat.le_of_ble_eq_true rfl) ⟨Nat.le_of_ble_eq_true rfl, Nat.le_of_ble_eq_true rfl⟩ ⟨Nat.le_of_ble_eq_true rfl, Nat.le_of_ble_eq_true rfl⟩ dX7_sendsDown_119) hS (fun r505 ρ506 H locs q507 hP hS => ?_)
            obtain ⟨rfl, -, q507⟩ := q507
            obtain rfl : r505 = nI (104 + 326 * j73_1 + 66 * j503) := q507.trans (congrArg nI (by omega))
            refine lv_istore_n (lv' := [(3, .int (nI (104 + 326 * j73_1 + 66 * j503))), (2, .int (nI (42 + 326 * j73_1))), (0, .ref (E.2.1 + 1076)), (1, .int (nI j73_1))]) hx hb dX7_sendsDown_122 rfl hl (by decide) rfl (fun ls hl => ?_)
            have hT := TI_qc (n0 := j73_1) (l0 := j503) hT ej503 (by omega)
            have hI := TI_RI hT
            refine lv_aload_n hx hb dX7_sendsDown_123 rfl (lv_at hl 2 rfl) ?_
            refine get7 B hP (show hk 1076 = 7 by decide +kernel) 3 (by decide) mw_1030 rfl dX7_sendsDown_124 ?_
            refine lv_bipush (v := 11) hx hb dX7_sendsDown_127 (by decide) ?_
            refine lv_dup2_11 hx hb dX7_sendsDown_129 rfl rfl ?_
            refine aldn (n := 695) (j := 11) B hP (show hk 1078 = 8 by decide +kernel) (show hlen 1078 = 695 by decide +kernel) rfl (by omega) (by decide) dX7_sendsDown_130 ?_
            refine lv_iconst (v := 1) hx hb dX7_sendsDown_131 (by decide) ?_
            refine lv_iadd hx hb dX7_sendsDown_132 ?_
            refine astn (n := 695) (j := 11) B hP hS (show hk 1078 = 8 by decide +kernel) (show hlen 1078 = 695 by decide +kernel) rfl (by omega) (by decide) dX7_sendsDown_133 (fun H locs hP hS => ?_)
            obtain ⟨ρ509, e510⟩ : ∃ z, z = up ρ 1078 11 ((ρ 1078 11) + 1) := ⟨_, rfl⟩
            rw [← e510] at hP
            have hT : TI r Bt M L 2 j73_1 0 2 j73_1 j73_1 j503 ρ509 := by rw [e510]; exact TI_back hT (RI_up hI (ok_head (by omega) (by omega) (by omega)))
            have hI := TI_RI hT
            refine lv_aload_n hx hb dX7_sendsDown_134 rfl (lv_at hl 2 rfl) ?_
            refine get7 B hP (show hk 1076 = 7 by decide +kernel) 3 (by decide) mw_1030 rfl dX7_sendsDown_135 ?_
            refine lv_iload_n hx hb dX7_sendsDown_138 rfl (lv_at hl 0 rfl) ?_
            refine lv_bipush (v := 38) hx hb dX7_sendsDown_139 (by decide) ?_
            refine lv_iadd hx hb dX7_sendsDown_141 ?_
            refine lv_topi (fun z511 ez511 => ?_)
            obtain rfl : z511 = (nI (142 + 326 * j73_1 + 66 * j503)) := ez511.trans (by rw [show (nI (104 + 326 * j73_1 + 66 * j503)) = nI (104 + 326 * j73_1 + 66 * j503) from rfl, show 38 = nI 38 from rfl, nI_add] <;> exact congrArg nI (by omega))
            refine lv_dup2_11 hx hb dX7_sendsDown_142 rfl rfl ?_
            refine aldn (n := 695) (j := (142 + 326 * j73_1 + 66 * j503)) B hP (show hk 1078 = 8 by decide +kernel) (show hlen 1078 = 695 by decide +kernel) rfl (by omega) (by decide) dX7_sendsDown_143 ?_
            refine lv_iconst (v := 1) hx hb dX7_sendsDown_144 (by decide) ?_
            refine lv_iadd hx hb dX7_sendsDown_145 ?_
            refine astn (n := 695) (j := (142 + 326 * j73_1 + 66 * j503)) B hP hS (show hk 1078 = 8 by decide +kernel) (show hlen 1078 = 695 by decide +kernel) rfl (by omega) (by decide) dX7_sendsDown_146 (fun H locs hP hS => ?_)
            obtain ⟨ρ512, e513⟩ : ∃ z, z = up ρ509 1078 (142 + 326 * j73_1 + 66 * j503) ((ρ509 1078 (142 + 326 * j73_1 + 66 * j503)) + 1) := ⟨_, rfl⟩
            rw [← e513] at hP
            have hT : TI r Bt M L 2 j73_1 0 2 j73_1 j73_1 j503 ρ512 := by rw [e513]; exact TI_back hT (RI_up hI (ok_link (n0 := j73_1) (l0 := j503) (j := (142 + 326 * j73_1 + 66 * j503)) 38 (by omega) (by omega) (by omega) (by omega)))
            have hI := TI_RI hT
            refine lv_aload_n hx hb dX7_sendsDown_147 rfl (lv_at hl 2 rfl) ?_
            refine get7 B hP (show hk 1076 = 7 by decide +kernel) 3 (by decide) mw_1030 rfl dX7_sendsDown_148 ?_
            refine lv_iload_n hx hb dX7_sendsDown_151 rfl (lv_at hl 1 rfl) ?_
            refine lv_bipush (v := 16) hx hb dX7_sendsDown_152 (by decide) ?_
            refine lv_iadd hx hb dX7_sendsDown_154 ?_
            refine lv_topi (fun z514 ez514 => ?_)
            obtain rfl : z514 = (nI (58 + 326 * j73_1)) := ez514.trans (by rw [show (nI (42 + 326 * j73_1)) = nI (42 + 326 * j73_1) from rfl, show 16 = nI 16 from rfl, nI_add] <;> exact congrArg nI (by omega))
            refine lv_aload_n hx hb dX7_sendsDown_155 rfl (lv_at hl 2 rfl) ?_
            refine get7 B hP (show hk 1076 = 7 by decide +kernel) 11 (by decide) mw_1038 rfl dX7_sendsDown_156 ?_
            refine lv_iload_n hx hb dX7_sendsDown_159 rfl (lv_at hl 3 rfl) ?_
            refine aldn (n := 2) (j := j73_1) B hP (show hk 1085 = 8 by decide +kernel) (show hlen 1085 = 2 by decide +kernel) rfl (by omega) (by decide) dX7_sendsDown_160 ?_
            have i515 : iR (ρ512 1085 j73_1) (-2) 22 := (hT.2.2.2.1 j73_1 (by omega)).1
            refine lv_iadd hx hb dX7_sendsDown_161 ?_
            obtain ⟨j516, uj516, fj516⟩ := nI_addneg (y := (ρ512 1085 j73_1)) (k := 2) (m := 24) (iR_w i515 (by decide) (by decide))
            refine lv_topi (fun z517 ez517 => ?_)
            obtain rfl : z517 = (nI (56 + 326 * j73_1 + j516)) := ez517.trans ((fj516 (58 + 326 * j73_1) (by omega)).trans (congrArg nI (by omega)))
            refine lv_dup2_11 hx hb dX7_sendsDown_162 rfl rfl ?_
            refine aldn (n := 695) (j := (56 + 326 * j73_1 + j516)) B hP (show hk 1078 = 8 by decide +kernel) (show hlen 1078 = 695 by decide +kernel) rfl (by omega) (by decide) dX7_sendsDown_163 ?_
            refine lv_iconst (v := 1) hx hb dX7_sendsDown_164 (by decide) ?_
            refine lv_iadd hx hb dX7_sendsDown_165 ?_
            refine astn (n := 695) (j := (56 + 326 * j73_1 + j516)) B hP hS (show hk 1078 = 8 by decide +kernel) (show hlen 1078 = 695 by decide +kernel) rfl (by omega) (by decide) dX7_sendsDown_166 (fun H locs hP hS => ?_)
            obtain ⟨ρ518, e519⟩ : ∃ z, z = up ρ512 1078 (56 + 326 * j73_1 + j516) ((ρ512 1078 (56 + 326 * j73_1 + j516)) + 1) := ⟨_, rfl⟩
            rw [← e519] at hP
            have hT : TI r Bt M L 2 j73_1 0 2 j73_1 j73_1 j503 ρ518 := by rw [e519]; exact TI_back hT (RI_up hI (ok_net (n0 := j73_1) (j := (56 + 326 * j73_1 + j516)) (14 + j516) (by omega) (by omega) (by omega)))
            have hI := TI_RI hT
            refine lv_aload_n hx hb dX7_sendsDown_167 rfl (lv_at hl 2 rfl) ?_
            refine get7 B hP (show hk 1076 = 7 by decide +kernel) 13 (by decide) mw_1040 rfl dX7_sendsDown_168 ?_
            refine lv_iload_n hx hb dX7_sendsDown_171 rfl (lv_at hl 3 rfl) ?_
            refine lv_aload_n hx hb dX7_sendsDown_172 rfl (lv_at hl 2 rfl) ?_
            refine get7 B hP (show hk 1076 = 7 by decide +kernel) 3 (by decide) mw_1030 rfl dX7_sendsDown_173 ?_
            refine lv_iload_n hx hb dX7_sendsDown_176 rfl (lv_at hl 0 rfl) ?_
            refine lv_iconst (v := 5) hx hb dX7_sendsDown_177 (by decide) ?_
            refine lv_iadd hx hb dX7_sendsDown_178 ?_
            refine lv_topi (fun z520 ez520 => ?_)
            obtain rfl : z520 = (nI (109 + 326 * j73_1 + 66 * j503)) := ez520.trans (by rw [show (nI (104 + 326 * j73_1 + 66 * j503)) = nI (104 + 326 * j73_1 + 66 * j503) from rfl, show 5 = nI 5 from rfl, nI_add] <;> exact congrArg nI (by omega))
            refine aldn (n := 695) (j := (109 + 326 * j73_1 + 66 * j503)) B hP (show hk 1078 = 8 by decide +kernel) (show hlen 1078 = 695 by decide +kernel) rfl (by omega) (by decide) dX7_sendsDown_179 ?_
            have i521 : iR (ρ518 1078 (109 + 326 * j73_1 + 66 * j503)) (0) (8) := g_ndown (n0 := j73_1) (l0 := j503) (j := (109 + 326 * j73_1 + 66 * j503)) hI (by omega) (by omega) (by omega)
            obtain ⟨j522, lj522, uj522, ej522⟩ := iR_nat (a := 0) (b := 8) i521
            refine lv_topi (fun z523 ez523 => ?_)
            obtain rfl : z523 = nI j522 := ez523.trans ej522
            refine lv_if_le (tgt := 187) hx hb dX7_sendsDown_180 (by decide) (fun c524 => ?_) (fun c524 => ?_)
            · skip
              have n525 := mt (nx_lt (a := 0) (b := j522) (by omega) (by omega)).mpr (show ¬ (nI 0 < nI j522) from (Int32.not_lt.mpr c524))
              refine lv_iconst (v := 0) hx hb dX7_sendsDown_187 (by decide) ?_
              refine zstn (n := 2) (j := j73_1) B hP hS (show hk 1087 = 9 by decide +kernel) (show hlen 1087 = 2 by decide +kernel) rfl (by omega) (by decide) rfl dX7_sendsDown_188 (fun H locs hP hS => ?_)
              obtain ⟨ρ526, e527⟩ : ∃ z, z = up ρ518 1087 j73_1 0 := ⟨_, rfl⟩
              rw [← e527] at hP
              have hT : TI r Bt M L 2 j73_1 0 2 (j73_1 + 1) j73_1 j503 ρ526 := by rw [e527]; exact TI_up7 hT (iR_w (a := 0) (b := 0) (show iR 0 (0) (0) from ⟨by decide, by decide⟩) (by decide) (by decide)) (fun m a b => by omega) (fun z => absurd z (by decide))
              have hI := TI_RI hT
              refine lv_aload_n hx hb dX7_sendsDown_189 rfl (lv_at hl 2 rfl) ?_
              refine get7 B hP (show hk 1076 = 7 by decide +kernel) 14 (by decide) mw_1041 rfl dX7_sendsDown_190 ?_
              refine lv_iload_n hx hb dX7_sendsDown_193 rfl (lv_at hl 3 rfl) ?_
              refine lv_aload_n hx hb dX7_sendsDown_194 rfl (lv_at hl 2 rfl) ?_
              refine get7 B hP (show hk 1076 = 7 by decide +kernel) 3 (by decide) mw_1030 rfl dX7_sendsDown_195 ?_
              refine lv_iload_n hx hb dX7_sendsDown_198 rfl (lv_at hl 0 rfl) ?_
              refine lv_iconst (v := 4) hx hb dX7_sendsDown_199 (by decide) ?_
              refine lv_iadd hx hb dX7_sendsDown_200 ?_
              refine lv_topi (fun z528 ez528 => ?_)
              obtain rfl : z528 = (nI (108 + 326 * j73_1 + 66 * j503)) := ez528.trans (by rw [show (nI (104 + 326 * j73_1 + 66 * j503)) = nI (104 + 326 * j73_1 + 66 * j503) from rfl, show 4 = nI 4 from rfl, nI_add] <;> exact congrArg nI (by omega))
              refine aldn (n := 695) (j := (108 + 326 * j73_1 + 66 * j503)) B hP (show hk 1078 = 8 by decide +kernel) (show hlen 1078 = 695 by decide +kernel) rfl (by omega) (by decide) dX7_sendsDown_201 ?_
              refine lv_if_ne (tgt := 209) hx hb dX7_sendsDown_202 (by decide) (fun c529 => ?_) (fun c529 => ?_)
              · skip
                refine lv_iconst (v := 0) hx hb dX7_sendsDown_209 (by decide) ?_
                exact b210_0 ls ρ526 _ _ j503 (lv_sub hl [2, 3, 0] rfl) hP hS (TI_w hT (fun m a b => by omega) (fun m a b => by omega) (by omega) (by omega) (by omega)) (by omega) (iR_w i498 (by decide) (by decide)) (by omega) (by omega) (by omega) (by omega) (by omega) (by omega)
              · skip
                have i530 : iR (ρ526 1078 (108 + 326 * j73_1 + 66 * j503)) (0) (0) := (by rw [c529]; exact ⟨by decide, by decide⟩)
                refine lv_iconst (v := 1) hx hb dX7_sendsDown_205 (by decide) ?_
                refine lv_goto (tgt := 210) hx hb dX7_sendsDown_206 (by decide) ?_
                exact b210_1 ls ρ526 _ _ j503 (lv_sub hl [2, 3, 0] rfl) hP hS (TI_w hT (fun m a b => by omega) (fun m a b => by omega) (by omega) (by omega) (by omega)) (by omega) (iR_w i498 (by decide) (by decide)) (by omega) (by omega) (by omega) (by omega) (by omega) (by omega)
            · skip
              have n531 := (nx_lt (a := 0) (b := j522) (by omega) (by omega)).mp (show (nI 0 < nI j522) from (Int32.not_le.mp c524))
              refine lv_iconst (v := 1) hx hb dX7_sendsDown_183 (by decide) ?_
              refine lv_goto (tgt := 188) hx hb dX7_sendsDown_184 (by decide) ?_
              refine zstn (n := 2) (j := j73_1) B hP hS (show hk 1087 = 9 by decide +kernel) (show hlen 1087 = 2 by decide +kernel) rfl (by omega) (by decide) rfl dX7_sendsDown_188 (fun H locs hP hS => ?_)
              obtain ⟨ρ532, e533⟩ : ∃ z, z = up ρ518 1087 j73_1 1 := ⟨_, rfl⟩
              rw [← e533] at hP
              have hT : TI r Bt M L 2 j73_1 0 2 (j73_1 + 1) j73_1 j503 ρ532 := by rw [e533]; exact TI_up7 hT (iR_w (a := 1) (b := 1) (show iR 1 (1) (1) from ⟨by decide, by decide⟩) (by decide) (by decide)) (fun m a b => by omega) (fun _ l hl e => by have e2 := (nI_eq (a := j503) (b := l) (by omega) (by omega)).mp ((hT.2.2.2.2.2.2 j73_1 (by omega) (by omega)).1.symm.trans e); rw [← e2, show 109 + 326 * j73_1 + 66 * j503 = (109 + 326 * j73_1 + 66 * j503) by omega, show ρ518 1078 (109 + 326 * j73_1 + 66 * j503) = (nI j522) from ej522]; exact iR_w (nI_iR (j := j522) (a := 1) (b := 8) (by omega) (by omega) (by omega)) (by decide) (by decide))
              have hI := TI_RI hT
              refine lv_aload_n hx hb dX7_sendsDown_189 rfl (lv_at hl 2 rfl) ?_
              refine get7 B hP (show hk 1076 = 7 by decide +kernel) 14 (by decide) mw_1041 rfl dX7_sendsDown_190 ?_
              refine lv_iload_n hx hb dX7_sendsDown_193 rfl (lv_at hl 3 rfl) ?_
              refine lv_aload_n hx hb dX7_sendsDown_194 rfl (lv_at hl 2 rfl) ?_
              refine get7 B hP (show hk 1076 = 7 by decide +kernel) 3 (by decide) mw_1030 rfl dX7_sendsDown_195 ?_
              refine lv_iload_n hx hb dX7_sendsDown_198 rfl (lv_at hl 0 rfl) ?_
              refine lv_iconst (v := 4) hx hb dX7_sendsDown_199 (by decide) ?_
              refine lv_iadd hx hb dX7_sendsDown_200 ?_
              refine lv_topi (fun z534 ez534 => ?_)
              obtain rfl : z534 = (nI (108 + 326 * j73_1 + 66 * j503)) := ez534.trans (by rw [show (nI (104 + 326 * j73_1 + 66 * j503)) = nI (104 + 326 * j73_1 + 66 * j503) from rfl, show 4 = nI 4 from rfl, nI_add] <;> exact congrArg nI (by omega))
              refine aldn (n := 695) (j := (108 + 326 * j73_1 + 66 * j503)) B hP (show hk 1078 = 8 by decide +kernel) (show hlen 1078 = 695 by decide +kernel) rfl (by omega) (by decide) dX7_sendsDown_201 ?_
              refine lv_if_ne (tgt := 209) hx hb dX7_sendsDown_202 (by decide) (fun c535 => ?_) (fun c535 => ?_)
              · skip
                refine lv_iconst (v := 0) hx hb dX7_sendsDown_209 (by decide) ?_
                exact b210_0 ls ρ532 _ _ j503 (lv_sub hl [2, 3, 0] rfl) hP hS (TI_w hT (fun m a b => by omega) (fun m a b => by omega) (by omega) (by omega) (by omega)) (by omega) (iR_w i498 (by decide) (by decide)) (by omega) (by omega) (by omega) (by omega) (by omega) (by omega)
              · skip
                have i536 : iR (ρ532 1078 (108 + 326 * j73_1 + 66 * j503)) (0) (0) := (by rw [c535]; exact ⟨by decide, by decide⟩)
                refine lv_iconst (v := 1) hx hb dX7_sendsDown_205 (by decide) ?_
                refine lv_goto (tgt := 210) hx hb dX7_sendsDown_206 (by decide) ?_
                exact b210_1 ls ρ532 _ _ j503 (lv_sub hl [2, 3, 0] rfl) hP hS (TI_w hT (fun m a b => by omega) (fun m a b => by omega) (by omega) (by omega) (by omega)) (by omega) (iR_w i498 (by decide) (by decide)) (by omega) (by omega) (by omega) (by omega) (by omega) (by omega)
        · skip
          have i537 : iR (ρ 1084 j73_1) (-2) (-2) := (by rw [c490]; exact ⟨by decide, by decide⟩)
          have i538 : iR (M j73_1) 0 5 := (hT.2.2.2.2.1 j73_1 (by omega) (by omega)).2 (m_ne2 i537)
          have hT := TI_q4 (p4 := j73_1 + 1) hT rfl rfl (iR_w (b' := -1) i537 (Int.le_refl _) (by decide))
          have hI := TI_RI hT
          refine lv_aload_n hx hb dX7_sendsDown_89 rfl (lv_at hl 0 rfl) ?_
          refine lv_iload_n hx hb dX7_sendsDown_90 rfl (lv_at hl 1 rfl) ?_
          refine call_v (cVt (k := 1076) (av := [.int (nI j73_1)]) (rest := []) B hP hS (d_X7_casts l E ρ ρ Bt hBt M L (XT 2 j73_1 0 (j73_1 + 1) (ρ 1084) (ρ 1087)) j73_1 (by omega) (by omega) hI i538 (Or.inl ⟨rfl, by simp only; omega, by simp only; omega, iR_is i537 rfl⟩) (fun n hn => (hT.2.2.2.1 n hn).1)) lk_RX7_199 (hrecv (ci := 7) B hP (hk_lt (c := 7) (show hk 1076 = 7 by decide +kernel) (by decide)) (hcc7 _ _ (show hk 1076 = 7 by decide +kernel)) rfl) rfl rfl hl.1 (Nat.le_of_ble_eq_true rfl) ⟨Nat.le_of_ble_eq_true rfl, Nat.le_of_ble_eq_true rfl⟩ ⟨Nat.le_of_ble_eq_true rfl, Nat.le_of_ble_eq_true rfl⟩ dX7_sendsDown_91) hS (fun ρ540 H locs q541 hP hS => ?_)
          have hR542 := q541
          have hT := TI_back20 (p1 := j73_1 + 1) hT hR542 rfl (by omega)
          have hI := TI_RI hT
          refine lv_goto (tgt := 311) hx hb dX7_sendsDown_94 (by decide) ?_
          exact b311_0 ls ρ540 _ _  (lv_sub hl [0, 1] rfl) hP hS (TI_w hT (fun m a b => by omega) (fun m a b => by omega) (by omega) (by omega) (by omega)) (by omega) (by omega)
  have b2_0 : ∀ (ls : Array Slot) (ρ : Nat → Nat → Int32) (H : Heap) (locs : List Loc) (d2 : Nat) (j2_1 : Nat), lv_has ls 5 [(0, .ref (E.2.1 + 1076)), (1, .int (nI j2_1))] → WP E ρ H → va_S (hA E) s.heap H locs → TI r Bt M L 2 0 0 j2_1 0 2 0 ρ → 3 - j2_1 < d2 → 0 ≤ j2_1 → j2_1 ≤ 2 → W p l e (rmk 8 320) s m ([.ref (E.2.1 + 1076)] : List Value).toArray below meth c H locs 0 0 (MQ below (cV E (fun ρ1 => TI r Bt M L 2 2 0 2 2 2 0 ρ1)) ([.ref (E.2.1 + 1076)] : List Value).toArray s 0 0 (hA E)) (F0 m 2 ls []) := by
    intro ls ρ H locs d2
    induction d2 generalizing ls ρ H locs with
    | zero => intro j2_1 hl hP hS hI hd2 lj2_1 uj2_1; exact absurd hd2 (Nat.not_lt_zero _)
    | succ d2 ih2 =>
      intro j2_1 hl hP hS hI hd2 lj2_1 uj2_1
      have b45_0 : ∀ (ls : Array Slot) (ρ : Nat → Nat → Int32) (H : Heap) (locs : List Loc) (x45_s2 : Int32), lv_has ls 5 [(0, .ref (E.2.1 + 1076)), (1, .int (nI j2_1))] → WP E ρ H → va_S (hA E) s.heap H locs → TI r Bt M L 2 0 0 j2_1 0 2 0 ρ → iR x45_s2 (-2) (22) → 0 ≤ j2_1 → j2_1 ≤ 1 → W p l e (rmk 8 320) s m ([.ref (E.2.1 + 1076)] : List Value).toArray below meth c H locs 0 0 (MQ below (cV E (fun ρ1 => TI r Bt M L 2 2 0 2 2 2 0 ρ1)) ([.ref (E.2.1 + 1076)] : List Value).toArray s 0 0 (hA E)) (F0 m 45 ls [.int x45_s2, .int (nI j2_1), .ref (E.2.1 + 1085)]) := by
        intro ls ρ H locs x45_s2 hl hP hS hI hx45_s2 tlj2_1 tuj2_1
        have hT := hI
        have hI := TI_RI hT
        refine astn (n := 2) (j := j2_1) B hP hS (show hk 1085 = 8 by decide +kernel) (show hlen 1085 = 2 by decide +kernel) rfl (by omega) (by decide) dX7_sendsDown_45 (fun H locs hP hS => ?_)
        obtain ⟨ρ543, e544⟩ : ∃ z, z = up ρ 1085 j2_1 x45_s2 := ⟨_, rfl⟩
        rw [← e544] at hP
        have hT : TI r Bt M L 2 0 0 j2_1 0 2 0 ρ543 := by rw [e544]; exact TI_up5 hT (iR_w (a := -2) (b := 22) hx45_s2 (by decide) (by decide))
        have hI := TI_RI hT
        refine lv_aload_n hx hb dX7_sendsDown_46 rfl (lv_at hl 0 rfl) ?_
        refine get7 B hP (show hk 1076 = 7 by decide +kernel) 12 (by decide) mw_1039 rfl dX7_sendsDown_47 ?_
        refine lv_iload_n hx hb dX7_sendsDown_50 rfl (lv_at hl 1 rfl) ?_
        refine lv_aload_n hx hb dX7_sendsDown_51 rfl (lv_at hl 0 rfl) ?_
        refine get7 B hP (show hk 1076 = 7 by decide +kernel) 11 (by decide) mw_1038 rfl dX7_sendsDown_52 ?_
        refine lv_iload_n hx hb dX7_sendsDown_55 rfl (lv_at hl 1 rfl) ?_
        refine aldf (n := 2) (j := j2_1) (v := x45_s2) B hP (show hk 1085 = 8 by decide +kernel) (show hlen 1085 = 2 by decide +kernel) rfl (by omega) (by decide) (by rw [e544]; exact up_get_at) dX7_sendsDown_56 ?_
        refine astn (n := 2) (j := j2_1) B hP hS (show hk 1086 = 8 by decide +kernel) (show hlen 1086 = 2 by decide +kernel) rfl (by omega) (by decide) dX7_sendsDown_57 (fun H locs hP hS => ?_)
        obtain ⟨ρ545, e546⟩ : ∃ z, z = up ρ543 1086 j2_1 x45_s2 := ⟨_, rfl⟩
        rw [← e546] at hP
        have hT : TI r Bt M L 2 0 0 j2_1 0 2 0 ρ545 := by rw [e546]; exact TI_up6 hT (iR_w (a := -2) (b := 22) hx45_s2 (by decide) (by decide))
        have hI := TI_RI hT
        refine lv_aload_n hx hb dX7_sendsDown_58 rfl (lv_at hl 0 rfl) ?_
        refine get7 B hP (show hk 1076 = 7 by decide +kernel) 15 (by decide) mw_1042 rfl dX7_sendsDown_59 ?_
        refine lv_iload_n hx hb dX7_sendsDown_62 rfl (lv_at hl 1 rfl) ?_
        refine lv_iconst (v := 0) hx hb dX7_sendsDown_63 (by decide) ?_
        refine zstn (n := 2) (j := j2_1) B hP hS (show hk 1089 = 9 by decide +kernel) (show hlen 1089 = 2 by decide +kernel) rfl (by omega) (by decide) rfl dX7_sendsDown_64 (fun H locs hP hS => ?_)
        obtain ⟨ρ547, e548⟩ : ∃ z, z = up ρ545 1089 j2_1 0 := ⟨_, rfl⟩
        rw [← e548] at hP
        have hT : TI r Bt M L 2 0 0 (j2_1 + 1) 0 2 0 ρ547 := by rw [e548]; exact TI_up9 hT (iR_w (a := 0) (b := 0) (show iR 0 (0) (0) from ⟨by decide, by decide⟩) (by decide) (by decide)) (fun m a b => by omega) (fun z => absurd z (by decide))
        have hI := TI_RI hT
        refine lv_iinc (v := (nI (1 + j2_1))) (lv' := [(1, .int (nI (1 + j2_1))), (0, .ref (E.2.1 + 1076))]) hx hb dX7_sendsDown_65 hl (k := 1) rfl (show nI j2_1 + nI 1 = _ from (nI_add _ _).trans (congrArg nI (by omega))) (by decide) rfl (fun ls hl => ?_)
        refine lv_goto (tgt := 2) hx hb dX7_sendsDown_68 (by decide) ?_
        exact ih2 ls ρ547 _ _ (1 + j2_1) (lv_sub hl [1, 0] rfl) hP hS (TI_w hT (fun m a b => by omega) (fun m a b => by omega) (by omega) (by omega) (by omega)) (by omega) (by omega) (by omega)
      have hT := hI
      have hI := TI_RI hT
      refine lv_iload_n hx hb dX7_sendsDown_2 rfl (lv_at hl 1 rfl) ?_
      refine lv_iconst (v := 2) hx hb dX7_sendsDown_3 (by decide) ?_
      refine lv_icmp_ge (tgt := 71) hx hb dX7_sendsDown_4 (by decide) (fun c549 => ?_) (fun c549 => ?_)
      · skip
        have n550 := mt (nx_lt (a := j2_1) (b := 2) (by omega) (by omega)).mpr (show ¬ (nI j2_1 < nI 2) from (Int32.not_lt.mpr c549))
        refine lv_iconst (v := 0) hx hb dX7_sendsDown_71 (by decide) ?_
        refine lv_istore_n (lv' := [(1, .int 0), (0, .ref (E.2.1 + 1076))]) hx hb dX7_sendsDown_72 rfl hl (by decide) rfl (fun ls hl => ?_)
        exact b73_0 ls ρ _ _ _ 0 (lv_sub hl [1, 0] rfl) hP hS (TI_w hT (fun m a b => by omega) (fun m a b => by omega) (by omega) (by omega) (by omega)) (Nat.lt_succ_self _) (by omega) (by omega)
      · skip
        have n551 := (nx_lt (a := j2_1) (b := 2) (by omega) (by omega)).mp (show (nI j2_1 < nI 2) from (Int32.not_le.mp c549))
        refine lv_aload_n hx hb dX7_sendsDown_7 rfl (lv_at hl 0 rfl) ?_
        refine get7 B hP (show hk 1076 = 7 by decide +kernel) 11 (by decide) mw_1038 rfl dX7_sendsDown_8 ?_
        refine lv_iload_n hx hb dX7_sendsDown_11 rfl (lv_at hl 1 rfl) ?_
        refine lv_aload_n hx hb dX7_sendsDown_12 rfl (lv_at hl 0 rfl) ?_
        refine get7 B hP (show hk 1076 = 7 by decide +kernel) 10 (by decide) mw_1037 rfl dX7_sendsDown_13 ?_
        refine lv_iload_n hx hb dX7_sendsDown_16 rfl (lv_at hl 1 rfl) ?_
        refine aldn (n := 2) (j := j2_1) B hP (show hk 1084 = 8 by decide +kernel) (show hlen 1084 = 2 by decide +kernel) rfl (by omega) (by decide) dX7_sendsDown_17 ?_
        have i552 : iR (ρ 1084 j2_1) (-2) 3 := iR_w (hT.2.2.2.2.1 j2_1 (by omega) (by omega)).1 (by decide) (by have := RI_Lb (n := j2_1) hI (by omega); omega)
        refine lv_iconst (v := (-1)) hx hb dX7_sendsDown_18 (by decide) ?_
        refine lv_icmp_ne (tgt := 28) hx hb dX7_sendsDown_19 (by decide) (fun c553 => ?_) (fun c553 => ?_)
        · skip
          have i554 : iR (M j2_1) 0 5 := (hT.2.2.2.2.1 j2_1 (by omega) (by omega)).2 c553
          refine lv_aload_n hx hb dX7_sendsDown_28 rfl (lv_at hl 0 rfl) ?_
          refine lv_iload_n hx hb dX7_sendsDown_29 rfl (lv_at hl 1 rfl) ?_
          refine lv_aload_n hx hb dX7_sendsDown_30 rfl (lv_at hl 0 rfl) ?_
          refine get7 B hP (show hk 1076 = 7 by decide +kernel) 3 (by decide) mw_1030 rfl dX7_sendsDown_31 ?_
          refine lv_bipush (v := 7) hx hb dX7_sendsDown_34 (by decide) ?_
          refine aldn (n := 695) (j := 7) B hP (show hk 1078 = 8 by decide +kernel) (show hlen 1078 = 695 by decide +kernel) rfl (by omega) (by decide) dX7_sendsDown_36 ?_
          have i555 : iR (ρ 1078 7) (0) (1000000) := (iR_w (g_time hI) (by omega) (by omega))
          obtain ⟨j556, lj556, uj556, ej556⟩ := iR_nat (a := 0) (b := 1000000) i555
          refine lv_topi (fun z557 ez557 => ?_)
          obtain rfl : z557 = nI j556 := ez557.trans ej556
          have := time_le (g_time hI) ej556 (by omega)
          refine lv_aload_n hx hb dX7_sendsDown_37 rfl (lv_at hl 0 rfl) ?_
          refine lv_iload_n hx hb dX7_sendsDown_38 rfl (lv_at hl 1 rfl) ?_
          refine call_i (cVt (k := 1076) (av := [.int (nI j2_1)]) (rest := [.int (nI j556), .int (nI j2_1), .ref (E.2.1 + 1076), .int (nI j2_1), .ref (E.2.1 + 1085)]) B hP hS (d_X7_mapFor l E ρ ρ Bt hBt M L (XT 2 0 0 0 (ρ 1084) (ρ 1087)) j2_1 (by omega) (by omega) hI i554 (iR_w (hT.2.2.2.2.1 j2_1 (by omega) (by omega)).1 (by decide) (by have := RI_Lb (n := j2_1) hI (by omega); omega))) lk_RX7_196 (hrecv (ci := 7) B hP (hk_lt (c := 7) (show hk 1076 = 7 by decide +kernel) (by decide)) (hcc7 _ _ (show hk 1076 = 7 by decide +kernel)) rfl) rfl rfl hl.1 (Nat.le_of_ble_eq_true rfl) ⟨Nat.le_of_ble_eq_true rfl, Nat.le_of_ble_eq_true rfl⟩ ⟨Nat.le_of_ble_eq_true rfl, Nat.le_of_ble_eq_true rfl⟩ dX7_sendsDown_39) hS (fun r558 ρ559 H locs q560 hP hS => ?_)
          obtain ⟨rfl, -, q560⟩ := q560
          obtain ⟨j562, lj562, uj562, ej562⟩ := iR_nat (a := 1) (b := 8388607) q560
          refine lv_topi (fun z563 ez563 => ?_)
          obtain rfl : z563 = nI j562 := ez563.trans ej562
          refine call_i (cVt (k := 1076) (av := [.int (nI j2_1), .int (nI j556), .int (nI j562)]) (rest := [.int (nI j2_1), .ref (E.2.1 + 1085)]) B hP hS (d_X7_hopOf l E ρ ρ Bt hBt M L (XT 2 0 0 0 (ρ 1084) (ρ 1087)) j2_1 (by omega) (by omega) (nI j556) j562 (by omega) (by omega) hI) lk_RX7_114 (hrecv (ci := 7) B hP (hk_lt (c := 7) (show hk 1076 = 7 by decide +kernel) (by decide)) (hcc7 _ _ (show hk 1076 = 7 by decide +kernel)) rfl) rfl rfl hl.1 (Nat.le_of_ble_eq_true rfl) ⟨Nat.le_of_ble_eq_true rfl, Nat.le_of_ble_eq_true rfl⟩ ⟨Nat.le_of_ble_eq_true rfl, Nat.le_of_ble_eq_true rfl⟩ dX7_sendsDown_42) hS (fun r564 ρ565 H locs q566 hP hS => ?_)
          obtain ⟨rfl, -, q566⟩ := q566
          obtain ⟨j568, lj568, uj568, ej568⟩ := iR_nat (a := 0) (b := 22) q566
          refine lv_topi (fun z569 ez569 => ?_)
          obtain rfl : z569 = nI j568 := ez569.trans ej568
          exact b45_0 ls ρ _ _ ((nI j568) : Int32) (lv_sub hl [0, 1] rfl) hP hS (TI_w hT (fun m a b => by omega) (fun m a b => by omega) (by omega) (by omega) (by omega)) (iR_w (nI_iR (j := j568) (a := 0) (b := 22) (by omega) (by omega) (by omega)) (by decide) (by decide)) (by omega) (by omega)
        · skip
          have i570 : iR (ρ 1084 j2_1) (-1) (-1) := (by rw [c553]; exact ⟨by decide, by decide⟩)
          refine lv_iconst (v := (-1)) hx hb dX7_sendsDown_22 (by decide) ?_
          refine lv_iload_n hx hb dX7_sendsDown_23 rfl (lv_at hl 1 rfl) ?_
          refine lv_isub hx hb dX7_sendsDown_24 ?_
          refine lv_goto (tgt := 45) hx hb dX7_sendsDown_25 (by decide) ?_
          exact b45_0 ls ρ _ _ (((-1) - (nI j2_1)) : Int32) (lv_sub hl [0, 1] rfl) hP hS (TI_w hT (fun m a b => by omega) (fun m a b => by omega) (by omega) (by omega) (by omega)) (iR_w (iR_sub (a' := -2) (b' := -1) (show iR (-1) (-1) (-1) from ⟨by decide, by decide⟩) (nI_iR (j := j2_1) (a := 0) (b := 1) (by omega) (by omega) (by omega)) (by decide) (by decide) (by decide) (by decide)) (by decide) (by decide)) (by omega) (by omega)
  refine lv_iconst (v := 0) hx hb dX7_sendsDown_0 (by decide) ?_
  refine lv_istore_n (lv' := [(1, .int 0), (0, .ref (E.2.1 + 1076))]) hx hb dX7_sendsDown_1 rfl hl (by decide) rfl (fun ls hl => ?_)
  exact b2_0 ls ρ _ _ _ 0 (lv_sub hl [1, 0] rfl) hP hS (TI_w hT (fun m a b => by omega) (fun m a b => by omega) (by omega) (by omega) (by omega)) (Nat.lt_succ_self _) (by omega) (by omega)

theorem lk_RX7_215 : LkV RX7 215 RX7 yX7_masterHears cX7_masterHears 3 none 2 := ⟨⟨mw_1332, mw_1334, mw_40, mw_59, mw_1335⟩, by decide +kernel⟩
set_option maxHeartbeats 4000000 in
set_option maxRecDepth 100000 in
theorem d_X7_sendsUp (l : Launch) (E : hE) (ρ r : Nat → Nat → Int32) (Bt : Nat) (hBt : Bt ≤ 1000000) (M : Nat → Int32) (L : Nat → Nat) (hI : TI r Bt M L 2 2 0 2 2 2 0 ρ) : Met l yX7_sendsUp (.code yX7_sendsUp cX7_sendsUp 4 none :: gw_all) (rmk 6 240) (cPre E ρ [.ref (E.2.1 + 1076)]) (cV E (fun ρ1 => TI r Bt M L 0 0 0 0 0 2 0 ρ1)) 0 0 (hA E) := by
  refine ent (own := RX7) (by decide) rfl (Nat.le_of_ble_eq_true rfl) ?_
  intro p e s m below meth c ls B hr hlk hl hP hS
  have hx := B.1.1
  have hb := B.1.2.1
  have hown := B.1.2.2.2.1
  have hts := B.1.2.2.2.2
  have hl : lv_has ls 4 [(0, .ref (E.2.1 + 1076))] := hl
  have hT := hI
  have hI := TI_RI hT
  have b67_0 : ∀ (ls : Array Slot) (ρ : Nat → Nat → Int32) (H : Heap) (locs : List Loc) (d67 : Nat) (j67_1 : Nat), lv_has ls 4 [(0, .ref (E.2.1 + 1076)), (1, .int (nI j67_1))] → WP E ρ H → va_S (hA E) s.heap H locs → TI r Bt M L 2 2 j67_1 2 2 2 0 ρ → 3 - j67_1 < d67 → 0 ≤ j67_1 → j67_1 ≤ 2 → W p l e (rmk 6 240) s m ([.ref (E.2.1 + 1076)] : List Value).toArray below meth c H locs 0 0 (MQ below (cV E (fun ρ1 => TI r Bt M L 0 0 0 0 0 2 0 ρ1)) ([.ref (E.2.1 + 1076)] : List Value).toArray s 0 0 (hA E)) (F0 m 67 ls []) := by
    intro ls ρ H locs d67
    induction d67 generalizing ls ρ H locs with
    | zero => intro j67_1 hl hP hS hI hd67 lj67_1 uj67_1; exact absurd hd67 (Nat.not_lt_zero _)
    | succ d67 ih67 =>
      intro j67_1 hl hP hS hI hd67 lj67_1 uj67_1
      have b196_0 : ∀ (ls : Array Slot) (ρ : Nat → Nat → Int32) (H : Heap) (locs : List Loc) , lv_has ls 4 [(0, .ref (E.2.1 + 1076)), (1, .int (nI j67_1))] → WP E ρ H → va_S (hA E) s.heap H locs → TI r Bt M L 2 2 (j67_1 + 1) 2 2 2 0 ρ → 0 ≤ j67_1 → j67_1 ≤ 1 → W p l e (rmk 6 240) s m ([.ref (E.2.1 + 1076)] : List Value).toArray below meth c H locs 0 0 (MQ below (cV E (fun ρ1 => TI r Bt M L 0 0 0 0 0 2 0 ρ1)) ([.ref (E.2.1 + 1076)] : List Value).toArray s 0 0 (hA E)) (F0 m 196 ls []) := by
        intro ls ρ H locs  hl hP hS hI tlj67_1 tuj67_1
        have hT := hI
        have hI := TI_RI hT
        refine lv_iinc (v := (nI (1 + j67_1))) (lv' := [(1, .int (nI (1 + j67_1))), (0, .ref (E.2.1 + 1076))]) hx hb dX7_sendsUp_196 hl (k := 1) rfl (show nI j67_1 + nI 1 = _ from (nI_add _ _).trans (congrArg nI (by omega))) (by decide) rfl (fun ls hl => ?_)
        refine lv_goto (tgt := 67) hx hb dX7_sendsUp_199 (by decide) ?_
        exact ih67 ls ρ _ _ (1 + j67_1) (lv_sub hl [1, 0] rfl) hP hS (TI_w hT (fun m a b => by omega) (fun m a b => by omega) (by omega) (by omega) (by omega)) (by omega) (by omega) (by omega)
      have b184_0 : ∀ (ls : Array Slot) (ρ : Nat → Nat → Int32) (H : Heap) (locs : List Loc) (l184_2 : Nat) (j184_3 : Nat) (j184_s1 : Nat) (x184_s2 : Int32), lv_has ls 4 [(0, .ref (E.2.1 + 1076)), (1, .int (nI j67_1)), (2, .int (nI (104 + 326 * j67_1 + 66 * l184_2))), (3, .int (nI j184_3))] → WP E ρ H → va_S (hA E) s.heap H locs → TI r Bt M L 2 2 j67_1 2 2 j67_1 l184_2 ρ → l184_2 ≤ 3 → 0 ≤ j184_3 → j184_3 ≤ 0 → 13 ≤ j184_s1 → j184_s1 ≤ 13 → iR x184_s2 (-2147483648) (2147483647) → iR (M j67_1) (0) (5) → 0 ≤ (L j67_1) → (L j67_1) ≤ 4 → 0 ≤ j67_1 → j67_1 ≤ 1 → l184_2 + 0 ≤ L j67_1 → l184_2 + 1 ≤ L j67_1 → W p l e (rmk 6 240) s m ([.ref (E.2.1 + 1076)] : List Value).toArray below meth c H locs 0 0 (MQ below (cV E (fun ρ1 => TI r Bt M L 0 0 0 0 0 2 0 ρ1)) ([.ref (E.2.1 + 1076)] : List Value).toArray s 0 0 (hA E)) (F0 m 184 ls [.int 0, .int x184_s2, .int (nI j184_s1), .ref (E.2.1 + 1078)]) := by
        intro ls ρ H locs l184_2 j184_3 j184_s1 x184_s2 hl hP hS hI ul184_2 lj184_3 uj184_3 lj184_s1 uj184_s1 hx184_s2 f_M_j67_1_ tl_L_j67_1_ tu_L_j67_1_ tlj67_1 tuj67_1 hr184_0 hr184_1
        have hT := hI
        have hI := TI_RI hT
        refine lv_iadd hx hb dX7_sendsUp_184 ?_
        refine astn (n := 695) (j := j184_s1) B hP hS (show hk 1078 = 8 by decide +kernel) (show hlen 1078 = 695 by decide +kernel) rfl (by omega) (by decide) dX7_sendsUp_185 (fun H locs hP hS => ?_)
        obtain ⟨ρ266, e267⟩ : ∃ z, z = up ρ 1078 j184_s1 (x184_s2 + 0) := ⟨_, rfl⟩
        rw [← e267] at hP
        have hT : TI r Bt M L 2 2 j67_1 2 2 j67_1 l184_2 ρ266 := by rw [e267]; exact TI_back hT (RI_up hI (ok_head (by omega) (by omega) (by omega)))
        have hI := TI_RI hT
        refine lv_iload_n hx hb dX7_sendsUp_186 rfl (lv_at hl 3 rfl) ?_
        refine lv_if_ne (tgt := 196) hx hb dX7_sendsUp_187 (by decide) (fun c268 => absurd (iR_is (nI_iR (j := j184_3) (a := 0) (b := 0) (by omega) (by omega) (by omega)) rfl) c268) (fun _ => ?_)
        refine lv_aload_n hx hb dX7_sendsUp_190 rfl (lv_at hl 0 rfl) ?_
        refine lv_iload_n hx hb dX7_sendsUp_191 rfl (lv_at hl 1 rfl) ?_
        refine lv_iload_n hx hb dX7_sendsUp_192 rfl (lv_at hl 2 rfl) ?_
        refine call_v (cVt (k := 1076) (av := [.int (nI j67_1), .int (nI (104 + 326 * j67_1 + 66 * l184_2))]) (rest := []) B hP hS (d_X7_masterHears l E ρ266 ρ266 Bt hBt M L (XT 2 2 j67_1 2 (ρ266 1084) (ρ266 1087)) j67_1 (by omega) l184_2 (by omega) hI (hT.2.2.2.1 j67_1 (by omega)).2.1 (hT.2.2.2.1 j67_1 (by omega)).2.2.1 (hT.2.2.2.1 j67_1 (by omega)).2.2.2.1 (fun z => Or.inr ⟨l184_2, by omega, rfl, by simp only; omega, by simp only; omega, (hT.2.2.2.2.2.2 j67_1 (by omega) (by omega)).1, z⟩)) lk_RX7_215 (hrecv (ci := 7) B hP (hk_lt (c := 7) (show hk 1076 = 7 by decide +kernel) (by decide)) (hcc7 _ _ (show hk 1076 = 7 by decide +kernel)) rfl) rfl rfl hl.1 (Nat.le_of_ble_eq_true rfl) ⟨Nat.le_of_ble_eq_true rfl, Nat.le_of_ble_eq_true rfl⟩ ⟨Nat.le_of_ble_eq_true rfl, Nat.le_of_ble_eq_true rfl⟩ dX7_sendsUp_193) hS (fun ρ270 H locs q271 hP hS => ?_)
        have hR272 := q271
        have hT := TI_back10 (p2 := j67_1 + 1) hT hR272 rfl (by omega) (by omega)
        have hI := TI_RI hT
        exact b196_0 ls ρ270 _ _  (lv_sub hl [0, 1] rfl) hP hS (TI_w hT (fun m a b => by omega) (fun m a b => by omega) (by omega) (by omega) (by omega)) (by omega) (by omega)
      have b184_1 : ∀ (ls : Array Slot) (ρ : Nat → Nat → Int32) (H : Heap) (locs : List Loc) (l184_2 : Nat) (j184_3 : Nat) (j184_s1 : Nat) (x184_s2 : Int32), lv_has ls 4 [(0, .ref (E.2.1 + 1076)), (1, .int (nI j67_1)), (2, .int (nI (104 + 326 * j67_1 + 66 * l184_2))), (3, .int (nI j184_3))] → WP E ρ H → va_S (hA E) s.heap H locs → TI r Bt M L 2 2 j67_1 2 2 j67_1 l184_2 ρ → l184_2 ≤ 3 → 1 ≤ j184_3 → j184_3 ≤ 3 → 13 ≤ j184_s1 → j184_s1 ≤ 15 → iR x184_s2 (-2147483648) (2147483647) → iR (M j67_1) (0) (5) → 0 ≤ (L j67_1) → (L j67_1) ≤ 4 → 0 ≤ j67_1 → j67_1 ≤ 1 → l184_2 + 0 ≤ L j67_1 → l184_2 + 1 ≤ L j67_1 → W p l e (rmk 6 240) s m ([.ref (E.2.1 + 1076)] : List Value).toArray below meth c H locs 0 0 (MQ below (cV E (fun ρ1 => TI r Bt M L 0 0 0 0 0 2 0 ρ1)) ([.ref (E.2.1 + 1076)] : List Value).toArray s 0 0 (hA E)) (F0 m 184 ls [.int 1, .int x184_s2, .int (nI j184_s1), .ref (E.2.1 + 1078)]) := by
        intro ls ρ H locs l184_2 j184_3 j184_s1 x184_s2 hl hP hS hI ul184_2 lj184_3 uj184_3 lj184_s1 uj184_s1 hx184_s2 f_M_j67_1_ tl_L_j67_1_ tu_L_j67_1_ tlj67_1 tuj67_1 hr184_0 hr184_1
        have hT := hI
        have hI := TI_RI hT
        refine lv_iadd hx hb dX7_sendsUp_184 ?_
        refine astn (n := 695) (j := j184_s1) B hP hS (show hk 1078 = 8 by decide +kernel) (show hlen 1078 = 695 by decide +kernel) rfl (by omega) (by decide) dX7_sendsUp_185 (fun H locs hP hS => ?_)
        obtain ⟨ρ273, e274⟩ : ∃ z, z = up ρ 1078 j184_s1 (x184_s2 + 1) := ⟨_, rfl⟩
        rw [← e274] at hP
        have hT : TI r Bt M L 2 2 j67_1 2 2 j67_1 l184_2 ρ273 := by rw [e274]; exact TI_back hT (RI_up hI (ok_head (by omega) (by omega) (by omega)))
        have hI := TI_RI hT
        refine lv_iload_n hx hb dX7_sendsUp_186 rfl (lv_at hl 3 rfl) ?_
        refine lv_if_ne (tgt := 196) hx hb dX7_sendsUp_187 (by decide) (fun _ => ?_) (fun c275 => absurd c275 (iR_ne (nI_iR (j := j184_3) (a := 1) (b := 3) (by omega) (by omega) (by omega)) (show iR 0 (0) (0) from ⟨by decide, by decide⟩) (by decide)))
        exact b196_0 ls ρ273 _ _  (lv_sub hl [0, 1] rfl) hP hS (TI_w hT (fun m a b => by omega) (fun m a b => by omega) (by omega) (by omega) (by omega)) (by omega) (by omega)
      have b172_0 : ∀ (ls : Array Slot) (ρ : Nat → Nat → Int32) (H : Heap) (locs : List Loc) (l172_2 : Nat) (j172_3 : Nat) (j172_s1 : Nat), lv_has ls 4 [(0, .ref (E.2.1 + 1076)), (1, .int (nI j67_1)), (2, .int (nI (104 + 326 * j67_1 + 66 * l172_2))), (3, .int (nI j172_3))] → WP E ρ H → va_S (hA E) s.heap H locs → TI r Bt M L 2 2 j67_1 2 2 j67_1 l172_2 ρ → l172_2 ≤ 3 → 0 ≤ j172_3 → j172_3 ≤ 0 → 13 ≤ j172_s1 → j172_s1 ≤ 13 → iR (M j67_1) (0) (5) → 0 ≤ (L j67_1) → (L j67_1) ≤ 4 → 0 ≤ j67_1 → j67_1 ≤ 1 → l172_2 + 0 ≤ L j67_1 → l172_2 + 1 ≤ L j67_1 → W p l e (rmk 6 240) s m ([.ref (E.2.1 + 1076)] : List Value).toArray below meth c H locs 0 0 (MQ below (cV E (fun ρ1 => TI r Bt M L 0 0 0 0 0 2 0 ρ1)) ([.ref (E.2.1 + 1076)] : List Value).toArray s 0 0 (hA E)) (F0 m 172 ls [.int 0, .int (nI j172_s1), .ref (E.2.1 + 1078)]) := by
        intro ls ρ H locs l172_2 j172_3 j172_s1 hl hP hS hI ul172_2 lj172_3 uj172_3 lj172_s1 uj172_s1 f_M_j67_1_ tl_L_j67_1_ tu_L_j67_1_ tlj67_1 tuj67_1 hr172_0 hr172_1
        have hT := hI
        have hI := TI_RI hT
        refine lv_isub hx hb dX7_sendsUp_172 ?_
        refine lv_topi (fun z276 ez276 => ?_)
        obtain rfl : z276 = (nI j172_s1) := ez276.trans (nI_subE (a := j172_s1) (b := 0) (q := j172_s1) (by omega))
        refine lv_dup2_11 hx hb dX7_sendsUp_173 rfl rfl ?_
        refine aldn (n := 695) (j := j172_s1) B hP (show hk 1078 = 8 by decide +kernel) (show hlen 1078 = 695 by decide +kernel) rfl (by omega) (by decide) dX7_sendsUp_174 ?_
        refine lv_iload_n hx hb dX7_sendsUp_175 rfl (lv_at hl 3 rfl) ?_
        refine lv_if_ne (tgt := 183) hx hb dX7_sendsUp_176 (by decide) (fun c277 => absurd (iR_is (nI_iR (j := j172_3) (a := 0) (b := 0) (by omega) (by omega) (by omega)) rfl) c277) (fun _ => ?_)
        refine lv_iconst (v := 0) hx hb dX7_sendsUp_179 (by decide) ?_
        refine lv_goto (tgt := 184) hx hb dX7_sendsUp_180 (by decide) ?_
        exact b184_0 ls ρ _ _ l172_2 j172_3 j172_s1 ((ρ 1078 j172_s1) : Int32) (lv_sub hl [0, 1, 2, 3] rfl) hP hS (TI_w hT (fun m a b => by omega) (fun m a b => by omega) (by omega) (by omega) (by omega)) (by omega) (by omega) (by omega) (by omega) (by omega) (iR_w (iR_any (ρ 1078 j172_s1)) (by decide) (by decide)) (iR_w f_M_j67_1_ (by decide) (by decide)) (by omega) (by omega) (by omega) (by omega) (by omega) (by omega)
      have b172_1 : ∀ (ls : Array Slot) (ρ : Nat → Nat → Int32) (H : Heap) (locs : List Loc) (l172_2 : Nat) (j172_3 : Nat) (j172_s1 : Nat), lv_has ls 4 [(0, .ref (E.2.1 + 1076)), (1, .int (nI j67_1)), (2, .int (nI (104 + 326 * j67_1 + 66 * l172_2))), (3, .int (nI j172_3))] → WP E ρ H → va_S (hA E) s.heap H locs → TI r Bt M L 2 2 j67_1 2 2 j67_1 l172_2 ρ → l172_2 ≤ 3 → 1 ≤ j172_3 → j172_3 ≤ 3 → 14 ≤ j172_s1 → j172_s1 ≤ 16 → iR (M j67_1) (0) (5) → 0 ≤ (L j67_1) → (L j67_1) ≤ 4 → 0 ≤ j67_1 → j67_1 ≤ 1 → l172_2 + 0 ≤ L j67_1 → l172_2 + 1 ≤ L j67_1 → W p l e (rmk 6 240) s m ([.ref (E.2.1 + 1076)] : List Value).toArray below meth c H locs 0 0 (MQ below (cV E (fun ρ1 => TI r Bt M L 0 0 0 0 0 2 0 ρ1)) ([.ref (E.2.1 + 1076)] : List Value).toArray s 0 0 (hA E)) (F0 m 172 ls [.int 1, .int (nI j172_s1), .ref (E.2.1 + 1078)]) := by
        intro ls ρ H locs l172_2 j172_3 j172_s1 hl hP hS hI ul172_2 lj172_3 uj172_3 lj172_s1 uj172_s1 f_M_j67_1_ tl_L_j67_1_ tu_L_j67_1_ tlj67_1 tuj67_1 hr172_0 hr172_1
        have hT := hI
        have hI := TI_RI hT
        refine lv_isub hx hb dX7_sendsUp_172 ?_
        obtain ⟨j278, hj278⟩ : ∃ q, j172_s1 = q + 1 := ⟨j172_s1 - 1, by omega⟩
        refine lv_topi (fun z279 ez279 => ?_)
        obtain rfl : z279 = (nI j278) := ez279.trans (nI_subE (a := j172_s1) (b := 1) hj278)
        refine lv_dup2_11 hx hb dX7_sendsUp_173 rfl rfl ?_
        refine aldn (n := 695) (j := j278) B hP (show hk 1078 = 8 by decide +kernel) (show hlen 1078 = 695 by decide +kernel) rfl (by omega) (by decide) dX7_sendsUp_174 ?_
        refine lv_iload_n hx hb dX7_sendsUp_175 rfl (lv_at hl 3 rfl) ?_
        refine lv_if_ne (tgt := 183) hx hb dX7_sendsUp_176 (by decide) (fun _ => ?_) (fun c280 => absurd c280 (iR_ne (nI_iR (j := j172_3) (a := 1) (b := 3) (by omega) (by omega) (by omega)) (show iR 0 (0) (0) from ⟨by decide, by decide⟩) (by decide)))
        refine lv_iconst (v := 1) hx hb dX7_sendsUp_183 (by decide) ?_
        exact b184_1 ls ρ _ _ l172_2 j172_3 j278 ((ρ 1078 j278) : Int32) (lv_sub hl [0, 1, 2, 3] rfl) hP hS (TI_w hT (fun m a b => by omega) (fun m a b => by omega) (by omega) (by omega) (by omega)) (by omega) (by omega) (by omega) (by omega) (by omega) (iR_w (iR_any (ρ 1078 j278)) (by decide) (by decide)) (iR_w f_M_j67_1_ (by decide) (by decide)) (by omega) (by omega) (by omega) (by omega) (by omega) (by omega)
      have b154_0 : ∀ (ls : Array Slot) (ρ : Nat → Nat → Int32) (H : Heap) (locs : List Loc) (l154_2 : Nat) (j154_3 : Nat) (l154_s1 : Nat) (j154_s2 : Nat), lv_has ls 4 [(0, .ref (E.2.1 + 1076)), (1, .int (nI j67_1)), (2, .int (nI (104 + 326 * j67_1 + 66 * l154_2))), (3, .int (nI j154_3))] → WP E ρ H → va_S (hA E) s.heap H locs → TI r Bt M L 2 2 j67_1 2 2 j67_1 l154_2 ρ → l154_2 ≤ 3 → 1 ≤ j154_3 → j154_3 ≤ 3 → l154_s1 ≤ 3 → 21 ≤ j154_s2 → j154_s2 ≤ 23 → iR (M j67_1) (0) (5) → 0 ≤ (L j67_1) → (L j67_1) ≤ 4 → 0 ≤ j67_1 → j67_1 ≤ 1 → l154_s1 + 0 ≤ L j67_1 → l154_s1 + 1 ≤ L j67_1 → l154_2 + 0 ≤ L j67_1 → l154_2 + 1 ≤ L j67_1 → W p l e (rmk 6 240) s m ([.ref (E.2.1 + 1076)] : List Value).toArray below meth c H locs 0 0 (MQ below (cV E (fun ρ1 => TI r Bt M L 0 0 0 0 0 2 0 ρ1)) ([.ref (E.2.1 + 1076)] : List Value).toArray s 0 0 (hA E)) (F0 m 154 ls [.int (nI j154_s2), .int (nI (141 + 326 * j67_1 + 66 * l154_s1)), .ref (E.2.1 + 1078)]) := by
        intro ls ρ H locs l154_2 j154_3 l154_s1 j154_s2 hl hP hS hI ul154_2 lj154_3 uj154_3 ul154_s1 lj154_s2 uj154_s2 f_M_j67_1_ tl_L_j67_1_ tu_L_j67_1_ tlj67_1 tuj67_1 hr154_0 hr154_1 hr154_2 hr154_3
        have hT := hI
        have hI := TI_RI hT
        refine astn (n := 695) (j := (141 + 326 * j67_1 + 66 * l154_s1)) B hP hS (show hk 1078 = 8 by decide +kernel) (show hlen 1078 = 695 by decide +kernel) rfl (by omega) (by decide) dX7_sendsUp_154 (fun H locs hP hS => ?_)
        obtain ⟨ρ281, e282⟩ : ∃ z, z = up ρ 1078 (141 + 326 * j67_1 + 66 * l154_s1) (nI j154_s2) := ⟨_, rfl⟩
        rw [← e282] at hP
        have hT : TI r Bt M L 2 2 j67_1 2 2 j67_1 l154_2 ρ281 := by rw [e282]; exact TI_back hT (RI_up hI (ok_link (n0 := j67_1) (l0 := l154_s1) (j := (141 + 326 * j67_1 + 66 * l154_s1)) 37 (by omega) (by omega) (by omega) (by omega)))
        have hI := TI_RI hT
        refine lv_aload_n hx hb dX7_sendsUp_155 rfl (lv_at hl 0 rfl) ?_
        refine get7 B hP (show hk 1076 = 7 by decide +kernel) 3 (by decide) mw_1030 rfl dX7_sendsUp_156 ?_
        refine lv_bipush (v := 13) hx hb dX7_sendsUp_159 (by decide) ?_
        refine lv_iload_n hx hb dX7_sendsUp_161 rfl (lv_at hl 3 rfl) ?_
        refine lv_iadd hx hb dX7_sendsUp_162 ?_
        refine lv_topi (fun z283 ez283 => ?_)
        obtain rfl : z283 = (nI (13 + j154_3)) := ez283.trans (by rw [show 13 = nI 13 from rfl, show (nI j154_3) = nI j154_3 from rfl, nI_add] <;> exact congrArg nI (by omega))
        refine lv_iload_n hx hb dX7_sendsUp_163 rfl (lv_at hl 3 rfl) ?_
        refine lv_if_ne (tgt := 171) hx hb dX7_sendsUp_164 (by decide) (fun _ => ?_) (fun c284 => absurd c284 (iR_ne (nI_iR (j := j154_3) (a := 1) (b := 3) (by omega) (by omega) (by omega)) (show iR 0 (0) (0) from ⟨by decide, by decide⟩) (by decide)))
        refine lv_iconst (v := 1) hx hb dX7_sendsUp_171 (by decide) ?_
        exact b172_1 ls ρ281 _ _ l154_2 j154_3 (13 + j154_3) (lv_sub hl [0, 1, 2, 3] rfl) hP hS (TI_w hT (fun m a b => by omega) (fun m a b => by omega) (by omega) (by omega) (by omega)) (by omega) (by omega) (by omega) (by omega) (by omega) (iR_w f_M_j67_1_ (by decide) (by decide)) (by omega) (by omega) (by omega) (by omega) (by omega) (by omega)
      have b154_1 : ∀ (ls : Array Slot) (ρ : Nat → Nat → Int32) (H : Heap) (locs : List Loc) (l154_2 : Nat) (j154_3 : Nat) (l154_s1 : Nat), lv_has ls 4 [(0, .ref (E.2.1 + 1076)), (1, .int (nI j67_1)), (2, .int (nI (104 + 326 * j67_1 + 66 * l154_2))), (3, .int (nI j154_3))] → WP E ρ H → va_S (hA E) s.heap H locs → TI r Bt M L 2 2 j67_1 2 2 j67_1 l154_2 ρ → l154_2 ≤ 3 → 0 ≤ j154_3 → j154_3 ≤ 0 → l154_s1 ≤ 3 → iR (M j67_1) (0) (5) → 0 ≤ (L j67_1) → (L j67_1) ≤ 4 → 0 ≤ j67_1 → j67_1 ≤ 1 → l154_s1 + 0 ≤ L j67_1 → l154_s1 + 1 ≤ L j67_1 → l154_2 + 0 ≤ L j67_1 → l154_2 + 1 ≤ L j67_1 → W p l e (rmk 6 240) s m ([.ref (E.2.1 + 1076)] : List Value).toArray below meth c H locs 0 0 (MQ below (cV E (fun ρ1 => TI r Bt M L 0 0 0 0 0 2 0 ρ1)) ([.ref (E.2.1 + 1076)] : List Value).toArray s 0 0 (hA E)) (F0 m 154 ls [.int 0, .int (nI (141 + 326 * j67_1 + 66 * l154_s1)), .ref (E.2.1 + 1078)]) := by
        intro ls ρ H locs l154_2 j154_3 l154_s1 hl hP hS hI ul154_2 lj154_3 uj154_3 ul154_s1 f_M_j67_1_ tl_L_j67_1_ tu_L_j67_1_ tlj67_1 tuj67_1 hr154_0 hr154_1 hr154_2 hr154_3
        have hT := hI
        have hI := TI_RI hT
        refine astn (n := 695) (j := (141 + 326 * j67_1 + 66 * l154_s1)) B hP hS (show hk 1078 = 8 by decide +kernel) (show hlen 1078 = 695 by decide +kernel) rfl (by omega) (by decide) dX7_sendsUp_154 (fun H locs hP hS => ?_)
        obtain ⟨ρ285, e286⟩ : ∃ z, z = up ρ 1078 (141 + 326 * j67_1 + 66 * l154_s1) 0 := ⟨_, rfl⟩
        rw [← e286] at hP
        have hT : TI r Bt M L 2 2 j67_1 2 2 j67_1 l154_2 ρ285 := by rw [e286]; exact TI_back hT (RI_up hI (ok_link (n0 := j67_1) (l0 := l154_s1) (j := (141 + 326 * j67_1 + 66 * l154_s1)) 37 (by omega) (by omega) (by omega) (by omega)))
        have hI := TI_RI hT
        refine lv_aload_n hx hb dX7_sendsUp_155 rfl (lv_at hl 0 rfl) ?_
        refine get7 B hP (show hk 1076 = 7 by decide +kernel) 3 (by decide) mw_1030 rfl dX7_sendsUp_156 ?_
        refine lv_bipush (v := 13) hx hb dX7_sendsUp_159 (by decide) ?_
        refine lv_iload_n hx hb dX7_sendsUp_161 rfl (lv_at hl 3 rfl) ?_
        refine lv_iadd hx hb dX7_sendsUp_162 ?_
        refine lv_topi (fun z287 ez287 => ?_)
        obtain rfl : z287 = (nI (13 + j154_3)) := ez287.trans (by rw [show 13 = nI 13 from rfl, show (nI j154_3) = nI j154_3 from rfl, nI_add] <;> exact congrArg nI (by omega))
        refine lv_iload_n hx hb dX7_sendsUp_163 rfl (lv_at hl 3 rfl) ?_
        refine lv_if_ne (tgt := 171) hx hb dX7_sendsUp_164 (by decide) (fun c288 => absurd (iR_is (nI_iR (j := j154_3) (a := 0) (b := 0) (by omega) (by omega) (by omega)) rfl) c288) (fun _ => ?_)
        refine lv_iconst (v := 0) hx hb dX7_sendsUp_167 (by decide) ?_
        refine lv_goto (tgt := 172) hx hb dX7_sendsUp_168 (by decide) ?_
        exact b172_0 ls ρ285 _ _ l154_2 j154_3 (13 + j154_3) (lv_sub hl [0, 1, 2, 3] rfl) hP hS (TI_w hT (fun m a b => by omega) (fun m a b => by omega) (by omega) (by omega) (by omega)) (by omega) (by omega) (by omega) (by omega) (by omega) (iR_w f_M_j67_1_ (by decide) (by decide)) (by omega) (by omega) (by omega) (by omega) (by omega) (by omega)
      have hT := hI
      have hI := TI_RI hT
      refine lv_iload_n hx hb dX7_sendsUp_67 rfl (lv_at hl 1 rfl) ?_
      refine lv_iconst (v := 2) hx hb dX7_sendsUp_68 (by decide) ?_
      refine lv_icmp_ge (tgt := 202) hx hb dX7_sendsUp_69 (by decide) (fun c289 => ?_) (fun c289 => ?_)
      · skip
        have n290 := mt (nx_lt (a := j67_1) (b := 2) (by omega) (by omega)).mpr (show ¬ (nI j67_1 < nI 2) from (Int32.not_lt.mpr c289))
        exact ret_v B hr hlk hP hS dX7_sendsUp_202 (TI_w hT (fun m a b => by omega) (fun m a b => by omega) (by omega) (by omega) (by omega))
      · skip
        have n291 := (nx_lt (a := j67_1) (b := 2) (by omega) (by omega)).mp (show (nI j67_1 < nI 2) from (Int32.not_le.mp c289))
        refine lv_aload_n hx hb dX7_sendsUp_72 rfl (lv_at hl 0 rfl) ?_
        refine get7 B hP (show hk 1076 = 7 by decide +kernel) 15 (by decide) mw_1042 rfl dX7_sendsUp_73 ?_
        refine lv_iload_n hx hb dX7_sendsUp_76 rfl (lv_at hl 1 rfl) ?_
        refine zldn (n := 2) (j := j67_1) B hP (show hk 1089 = 9 by decide +kernel) (show hlen 1089 = 2 by decide +kernel) rfl (by omega) (by decide) dX7_sendsUp_77 ?_
        have i292 : iR (ρ 1089 j67_1) 0 1 := (hT.2.2.2.1 j67_1 (by omega)).2.2.2.2
        obtain ⟨j293, lj293, uj293, ej293⟩ := iR_nat (a := 0) (b := 1) i292
        refine lv_topi (fun z294 ez294 => ?_)
        obtain rfl : z294 = nI j293 := ez294.trans ej293
        refine lv_if_eq (tgt := 196) hx hb dX7_sendsUp_78 (by decide) (fun c295 => ?_) (fun c295 => ?_)
        · skip
          have n296 := (nI_eq (a := j293) (b := 0) (by omega) (by omega)).mp (show (nI j293 = nI 0) from c295)
          exact b196_0 ls ρ _ _  (lv_sub hl [0, 1] rfl) hP hS (TI_w hT (fun m a b => by omega) (fun m a b => by omega) (by omega) (by omega) (by omega)) (by omega) (by omega)
        · skip
          have n297 := mt (nI_eq (a := j293) (b := 0) (by omega) (by omega)).mpr (show ¬ (nI j293 = nI 0) from c295)
          refine lv_iload_n hx hb dX7_sendsUp_81 rfl (lv_at hl 1 rfl) ?_
          refine lv_aload_n hx hb dX7_sendsUp_82 rfl (lv_at hl 0 rfl) ?_
          refine get7 B hP (show hk 1076 = 7 by decide +kernel) 10 (by decide) mw_1037 rfl dX7_sendsUp_83 ?_
          refine lv_iload_n hx hb dX7_sendsUp_86 rfl (lv_at hl 1 rfl) ?_
          refine aldn (n := 2) (j := j67_1) B hP (show hk 1084 = 8 by decide +kernel) (show hlen 1084 = 2 by decide +kernel) rfl (by omega) (by decide) dX7_sendsUp_87 ?_
          have i298 : iR (ρ 1084 j67_1) 0 3 := hT.2.2.2.2.2.1 j67_1 (by omega) (by omega) (ej293.trans (congrArg nI (show j293 = 1 by omega)))
          have i299 : iR (M j67_1) 0 5 := (hT.2.2.2.2.1 j67_1 (by omega) (by omega)).2 (m_ne (iR_w (a := 0) (b := 3) (a' := 0) (b' := 3) i298 (by decide) (by decide)))
          have i300 : iR (ρ 1084 j67_1) (-1) ((L j67_1 : Int) - 1) := ⟨Int.le_trans (by decide) (show (0 : Int) ≤ _ from i298.1), (hT.2.2.2.2.1 j67_1 (by omega) (by omega)).1.2⟩
          have := RI_Lb (n := j67_1) hI (by omega)
          obtain ⟨j301, lj301, uj301, ej301⟩ := iR_nat (a := 0) (b := 3) i298
          refine lv_topi (fun z302 ez302 => ?_)
          obtain rfl : z302 = nI j301 := ez302.trans ej301
          have : j301 < L j67_1 := rl_lt i300 ej301 (by omega)
          refine call_i (cS (av := [.int (nI j67_1), .int (nI j301)]) (rest := []) B hP hS (d_X7_linkAt l E ρ ρ Bt hBt M L (XT 2 2 j67_1 2 (ρ 1084) (ρ 1087)) j67_1 (by omega) (by omega) j301 (by omega) (by omega) hI) lk_RX7_82 rfl rfl hl.1 (Nat.le_of_ble_eq_true rfl) ⟨Nat.le_of_ble_eq_true rfl, Nat.le_of_ble_eq_true rfl⟩ ⟨Nat.le_of_ble_eq_true rfl, Nat.le_of_ble_eq_true rfl⟩ dX7_sendsUp_88) hS (fun r303 ρ304 H locs q305 hP hS => ?_)
          obtain ⟨rfl, -, q305⟩ := q305
          obtain rfl : r303 = nI (104 + 326 * j67_1 + 66 * j301) := q305.trans (congrArg nI (by omega))
          refine lv_istore_n (lv' := [(2, .int (nI (104 + 326 * j67_1 + 66 * j301))), (0, .ref (E.2.1 + 1076)), (1, .int (nI j67_1))]) hx hb dX7_sendsUp_91 rfl hl (by decide) rfl (fun ls hl => ?_)
          have hT := TI_qc (n0 := j67_1) (l0 := j301) hT ej301 (by omega)
          have hI := TI_RI hT
          refine lv_aload_n hx hb dX7_sendsUp_92 rfl (lv_at hl 1 rfl) ?_
          refine get7 B hP (show hk 1076 = 7 by decide +kernel) 3 (by decide) mw_1030 rfl dX7_sendsUp_93 ?_
          refine lv_bipush (v := 12) hx hb dX7_sendsUp_96 (by decide) ?_
          refine lv_dup2_11 hx hb dX7_sendsUp_98 rfl rfl ?_
          refine aldn (n := 695) (j := 12) B hP (show hk 1078 = 8 by decide +kernel) (show hlen 1078 = 695 by decide +kernel) rfl (by omega) (by decide) dX7_sendsUp_99 ?_
          refine lv_iconst (v := 1) hx hb dX7_sendsUp_100 (by decide) ?_
          refine lv_iadd hx hb dX7_sendsUp_101 ?_
          refine astn (n := 695) (j := 12) B hP hS (show hk 1078 = 8 by decide +kernel) (show hlen 1078 = 695 by decide +kernel) rfl (by omega) (by decide) dX7_sendsUp_102 (fun H locs hP hS => ?_)
          obtain ⟨ρ307, e308⟩ : ∃ z, z = up ρ 1078 12 ((ρ 1078 12) + 1) := ⟨_, rfl⟩
          rw [← e308] at hP
          have hT : TI r Bt M L 2 2 j67_1 2 2 j67_1 j301 ρ307 := by rw [e308]; exact TI_back hT (RI_up hI (ok_head (by omega) (by omega) (by omega)))
          have hI := TI_RI hT
          refine lv_aload_n hx hb dX7_sendsUp_103 rfl (lv_at hl 1 rfl) ?_
          refine lv_iload_n hx hb dX7_sendsUp_104 rfl (lv_at hl 2 rfl) ?_
          refine lv_aload_n hx hb dX7_sendsUp_105 rfl (lv_at hl 1 rfl) ?_
          refine lv_iload_n hx hb dX7_sendsUp_106 rfl (lv_at hl 2 rfl) ?_
          refine lv_aload_n hx hb dX7_sendsUp_107 rfl (lv_at hl 1 rfl) ?_
          refine get7 B hP (show hk 1076 = 7 by decide +kernel) 3 (by decide) mw_1030 rfl dX7_sendsUp_108 ?_
          refine lv_bipush (v := 7) hx hb dX7_sendsUp_111 (by decide) ?_
          refine aldn (n := 695) (j := 7) B hP (show hk 1078 = 8 by decide +kernel) (show hlen 1078 = 695 by decide +kernel) rfl (by omega) (by decide) dX7_sendsUp_113 ?_
          have i309 : iR (ρ307 1078 7) (0) (1000000) := (iR_w (g_time hI) (by omega) (by omega))
          obtain ⟨j310, lj310, uj310, ej310⟩ := iR_nat (a := 0) (b := 1000000) i309
          refine lv_topi (fun z311 ez311 => ?_)
          obtain rfl : z311 = nI j310 := ez311.trans ej310
          have := time_le (g_time hI) ej310 (by omega)
          refine lv_iconst (v := 1) hx hb dX7_sendsUp_114 (by decide) ?_
          refine lv_iadd hx hb dX7_sendsUp_115 ?_
          refine lv_topi (fun z312 ez312 => ?_)
          obtain rfl : z312 = (nI (1 + j310)) := ez312.trans (by rw [show (nI j310) = nI j310 from rfl, show 1 = nI 1 from rfl, nI_add] <;> exact congrArg nI (by omega))
          refine lv_aload_n hx hb dX7_sendsUp_116 rfl (lv_at hl 1 rfl) ?_
          refine get7 B hP (show hk 1076 = 7 by decide +kernel) 3 (by decide) mw_1030 rfl dX7_sendsUp_117 ?_
          refine lv_iload_n hx hb dX7_sendsUp_120 rfl (lv_at hl 2 rfl) ?_
          refine call_i (cS (av := [.int (nI j67_1)]) (rest := [.ref (E.2.1 + 1078), .int (nI (1 + j310)), .int (nI j67_1), .ref (E.2.1 + 1076), .int (nI j67_1), .ref (E.2.1 + 1076)]) B hP hS (d_X7_netAt l E ρ307 ρ307 Bt hBt M L (XT 2 2 j67_1 2 (ρ307 1084) (ρ307 1087)) j67_1 (by omega) (by omega) hI) lk_RX7_75 rfl rfl hl.1 (Nat.le_of_ble_eq_true rfl) ⟨Nat.le_of_ble_eq_true rfl, Nat.le_of_ble_eq_true rfl⟩ ⟨Nat.le_of_ble_eq_true rfl, Nat.le_of_ble_eq_true rfl⟩ dX7_sendsUp_121) hS (fun r313 ρ314 H locs q315 hP hS => ?_)
          obtain ⟨rfl, -, q315⟩ := q315
          obtain rfl : r313 = nI (42 + 326 * j67_1) := q315.trans (congrArg nI (by omega))
          refine lv_iconst (v := 2) hx hb dX7_sendsUp_124 (by decide) ?_
          refine lv_iadd hx hb dX7_sendsUp_125 ?_
          refine lv_topi (fun z317 ez317 => ?_)
          obtain rfl : z317 = (nI (44 + 326 * j67_1)) := ez317.trans (by rw [show (nI (42 + 326 * j67_1)) = nI (42 + 326 * j67_1) from rfl, show 2 = nI 2 from rfl, nI_add] <;> exact congrArg nI (by omega))
          refine aldn (n := 695) (j := (44 + 326 * j67_1)) B hP (show hk 1078 = 8 by decide +kernel) (show hlen 1078 = 695 by decide +kernel) rfl (by omega) (by decide) dX7_sendsUp_126 ?_
          have i318 : iR (ρ307 1078 (44 + 326 * j67_1)) (1) (8388607) := g_map (n0 := j67_1) (j := (44 + 326 * j67_1)) hI (by omega) i299 (by omega)
          obtain ⟨j319, lj319, uj319, ej319⟩ := iR_nat (a := 1) (b := 8388607) i318
          refine lv_topi (fun z320 ez320 => ?_)
          obtain rfl : z320 = nI j319 := ez320.trans ej319
          refine call_i (cVt (k := 1076) (av := [.int (nI j67_1), .int (nI (1 + j310)), .int (nI j319)]) (rest := [.int (nI j67_1), .ref (E.2.1 + 1076)]) B hP hS (d_X7_hopOf l E ρ307 ρ307 Bt hBt M L (XT 2 2 j67_1 2 (ρ307 1084) (ρ307 1087)) j67_1 (by omega) (by omega) (nI (1 + j310)) j319 (by omega) (by omega) hI) lk_RX7_114 (hrecv (ci := 7) B hP (hk_lt (c := 7) (show hk 1076 = 7 by decide +kernel) (by decide)) (hcc7 _ _ (show hk 1076 = 7 by decide +kernel)) rfl) rfl rfl hl.1 (Nat.le_of_ble_eq_true rfl) ⟨Nat.le_of_ble_eq_true rfl, Nat.le_of_ble_eq_true rfl⟩ ⟨Nat.le_of_ble_eq_true rfl, Nat.le_of_ble_eq_true rfl⟩ dX7_sendsUp_127) hS (fun r321 ρ322 H locs q323 hP hS => ?_)
          obtain ⟨rfl, -, q323⟩ := q323
          obtain ⟨j325, lj325, uj325, ej325⟩ := iR_nat (a := 0) (b := 22) q323
          refine lv_topi (fun z326 ez326 => ?_)
          obtain rfl : z326 = nI j325 := ez326.trans ej325
          refine call_i (cVt (k := 1076) (av := [.int (nI j67_1), .int (nI j325)]) (rest := []) B hP hS (d_X7_whyNot l E ρ307 ρ307 Bt hBt M L (XT 2 2 j67_1 2 (ρ307 1084) (ρ307 1087)) j67_1 (by omega) (by omega) (nI j325) hI (fun n hn => (hT.2.2.2.1 n hn).1)) lk_RX7_202 (hrecv (ci := 7) B hP (hk_lt (c := 7) (show hk 1076 = 7 by decide +kernel) (by decide)) (hcc7 _ _ (show hk 1076 = 7 by decide +kernel)) rfl) rfl rfl hl.1 (Nat.le_of_ble_eq_true rfl) ⟨Nat.le_of_ble_eq_true rfl, Nat.le_of_ble_eq_true rfl⟩ ⟨Nat.le_of_ble_eq_true rfl, Nat.le_of_ble_eq_true rfl⟩ dX7_sendsUp_130) hS (fun r327 ρ328 H locs q329 hP hS => ?_)
          obtain ⟨hR330, q329⟩ := q329
          have hT := TI_back hT hR330
          have hI := TI_RI hT
          obtain ⟨j331, lj331, uj331, ej331⟩ := iR_nat (a := 0) (b := 3) q329
          refine lv_topi (fun z332 ez332 => ?_)
          obtain rfl : z332 = nI j331 := ez332.trans ej331
          refine lv_istore_n (lv' := [(3, .int (nI j331)), (2, .int (nI (104 + 326 * j67_1 + 66 * j301))), (0, .ref (E.2.1 + 1076)), (1, .int (nI j67_1))]) hx hb dX7_sendsUp_133 rfl hl (by decide) rfl (fun ls hl => ?_)
          refine lv_aload_n hx hb dX7_sendsUp_134 rfl (lv_at hl 2 rfl) ?_
          refine get7 B hP (show hk 1076 = 7 by decide +kernel) 3 (by decide) mw_1030 rfl dX7_sendsUp_135 ?_
          refine lv_iload_n hx hb dX7_sendsUp_138 rfl (lv_at hl 1 rfl) ?_
          refine lv_bipush (v := 37) hx hb dX7_sendsUp_139 (by decide) ?_
          refine lv_iadd hx hb dX7_sendsUp_141 ?_
          refine lv_topi (fun z333 ez333 => ?_)
          obtain rfl : z333 = (nI (141 + 326 * j67_1 + 66 * j301)) := ez333.trans (by rw [show (nI (104 + 326 * j67_1 + 66 * j301)) = nI (104 + 326 * j67_1 + 66 * j301) from rfl, show 37 = nI 37 from rfl, nI_add] <;> exact congrArg nI (by omega))
          refine lv_iload_n hx hb dX7_sendsUp_142 rfl (lv_at hl 0 rfl) ?_
          refine lv_if_ne (tgt := 150) hx hb dX7_sendsUp_143 (by decide) (fun c334 => ?_) (fun c334 => ?_)
          · skip
            have n335 := mt (nI_eq (a := j331) (b := 0) (by omega) (by omega)).mpr (show ¬ (nI j331 = nI 0) from c334)
            refine lv_bipush (v := 20) hx hb dX7_sendsUp_150 (by decide) ?_
            refine lv_iload_n hx hb dX7_sendsUp_152 rfl (lv_at hl 0 rfl) ?_
            refine lv_iadd hx hb dX7_sendsUp_153 ?_
            refine lv_topi (fun z336 ez336 => ?_)
            obtain rfl : z336 = (nI (20 + j331)) := ez336.trans (by rw [show 20 = nI 20 from rfl, show (nI j331) = nI j331 from rfl, nI_add] <;> exact congrArg nI (by omega))
            exact b154_0 ls ρ328 _ _ j301 j331 j301 (20 + j331) (lv_sub hl [2, 3, 1, 0] rfl) hP hS (TI_w hT (fun m a b => by omega) (fun m a b => by omega) (by omega) (by omega) (by omega)) (by omega) (by omega) (by omega) (by omega) (by omega) (by omega) (iR_w i299 (by decide) (by decide)) (by omega) (by omega) (by omega) (by omega) (by omega) (by omega) (by omega) (by omega)
          · skip
            have n337 := (nI_eq (a := j331) (b := 0) (by omega) (by omega)).mp (show (nI j331 = nI 0) from c334)
            refine lv_iconst (v := 0) hx hb dX7_sendsUp_146 (by decide) ?_
            refine lv_goto (tgt := 154) hx hb dX7_sendsUp_147 (by decide) ?_
            exact b154_1 ls ρ328 _ _ j301 j331 j301 (lv_sub hl [2, 3, 1, 0] rfl) hP hS (TI_w hT (fun m a b => by omega) (fun m a b => by omega) (by omega) (by omega) (by omega)) (by omega) (by omega) (by omega) (by omega) (iR_w i299 (by decide) (by decide)) (by omega) (by omega) (by omega) (by omega) (by omega) (by omega) (by omega) (by omega)
  have b2_0 : ∀ (ls : Array Slot) (ρ : Nat → Nat → Int32) (H : Heap) (locs : List Loc) (d2 : Nat) (j2_1 : Nat), lv_has ls 4 [(0, .ref (E.2.1 + 1076)), (1, .int (nI j2_1))] → WP E ρ H → va_S (hA E) s.heap H locs → TI r Bt M L 2 2 0 2 2 2 0 ρ → 3 - j2_1 < d2 → 0 ≤ j2_1 → j2_1 ≤ 2 → W p l e (rmk 6 240) s m ([.ref (E.2.1 + 1076)] : List Value).toArray below meth c H locs 0 0 (MQ below (cV E (fun ρ1 => TI r Bt M L 0 0 0 0 0 2 0 ρ1)) ([.ref (E.2.1 + 1076)] : List Value).toArray s 0 0 (hA E)) (F0 m 2 ls []) := by
    intro ls ρ H locs d2
    induction d2 generalizing ls ρ H locs with
    | zero => intro j2_1 hl hP hS hI hd2 lj2_1 uj2_1; exact absurd hd2 (Nat.not_lt_zero _)
    | succ d2 ih2 =>
      intro j2_1 hl hP hS hI hd2 lj2_1 uj2_1
      have b58_0 : ∀ (ls : Array Slot) (ρ : Nat → Nat → Int32) (H : Heap) (locs : List Loc) (x58_s2 : Int32), lv_has ls 4 [(0, .ref (E.2.1 + 1076)), (1, .int (nI j2_1))] → WP E ρ H → va_S (hA E) s.heap H locs → TI r Bt M L 2 2 0 2 2 2 0 ρ → iR x58_s2 (-2) (22) → 0 ≤ j2_1 → j2_1 ≤ 1 → W p l e (rmk 6 240) s m ([.ref (E.2.1 + 1076)] : List Value).toArray below meth c H locs 0 0 (MQ below (cV E (fun ρ1 => TI r Bt M L 0 0 0 0 0 2 0 ρ1)) ([.ref (E.2.1 + 1076)] : List Value).toArray s 0 0 (hA E)) (F0 m 58 ls [.int x58_s2, .int (nI j2_1), .ref (E.2.1 + 1085)]) := by
        intro ls ρ H locs x58_s2 hl hP hS hI hx58_s2 tlj2_1 tuj2_1
        have hT := hI
        have hI := TI_RI hT
        refine astn (n := 2) (j := j2_1) B hP hS (show hk 1085 = 8 by decide +kernel) (show hlen 1085 = 2 by decide +kernel) rfl (by omega) (by decide) dX7_sendsUp_58 (fun H locs hP hS => ?_)
        obtain ⟨ρ338, e339⟩ : ∃ z, z = up ρ 1085 j2_1 x58_s2 := ⟨_, rfl⟩
        rw [← e339] at hP
        have hT : TI r Bt M L 2 2 0 2 2 2 0 ρ338 := by rw [e339]; exact TI_up5 hT (iR_w (a := -2) (b := 22) hx58_s2 (by decide) (by decide))
        have hI := TI_RI hT
        refine lv_iinc (v := (nI (1 + j2_1))) (lv' := [(1, .int (nI (1 + j2_1))), (0, .ref (E.2.1 + 1076))]) hx hb dX7_sendsUp_59 hl (k := 1) rfl (show nI j2_1 + nI 1 = _ from (nI_add _ _).trans (congrArg nI (by omega))) (by decide) rfl (fun ls hl => ?_)
        refine lv_goto (tgt := 2) hx hb dX7_sendsUp_62 (by decide) ?_
        exact ih2 ls ρ338 _ _ (1 + j2_1) (lv_sub hl [1, 0] rfl) hP hS (TI_w hT (fun m a b => by omega) (fun m a b => by omega) (by omega) (by omega) (by omega)) (by omega) (by omega) (by omega)
      have hT := hI
      have hI := TI_RI hT
      refine lv_iload_n hx hb dX7_sendsUp_2 rfl (lv_at hl 1 rfl) ?_
      refine lv_iconst (v := 2) hx hb dX7_sendsUp_3 (by decide) ?_
      refine lv_icmp_ge (tgt := 65) hx hb dX7_sendsUp_4 (by decide) (fun c340 => ?_) (fun c340 => ?_)
      · skip
        have n341 := mt (nx_lt (a := j2_1) (b := 2) (by omega) (by omega)).mpr (show ¬ (nI j2_1 < nI 2) from (Int32.not_lt.mpr c340))
        refine lv_iconst (v := 0) hx hb dX7_sendsUp_65 (by decide) ?_
        refine lv_istore_n (lv' := [(1, .int 0), (0, .ref (E.2.1 + 1076))]) hx hb dX7_sendsUp_66 rfl hl (by decide) rfl (fun ls hl => ?_)
        exact b67_0 ls ρ _ _ _ 0 (lv_sub hl [1, 0] rfl) hP hS (TI_w hT (fun m a b => by omega) (fun m a b => by omega) (by omega) (by omega) (by omega)) (Nat.lt_succ_self _) (by omega) (by omega)
      · skip
        have n342 := (nx_lt (a := j2_1) (b := 2) (by omega) (by omega)).mp (show (nI j2_1 < nI 2) from (Int32.not_le.mp c340))
        refine lv_aload_n hx hb dX7_sendsUp_7 rfl (lv_at hl 0 rfl) ?_
        refine get7 B hP (show hk 1076 = 7 by decide +kernel) 11 (by decide) mw_1038 rfl dX7_sendsUp_8 ?_
        refine lv_iload_n hx hb dX7_sendsUp_11 rfl (lv_at hl 1 rfl) ?_
        refine lv_aload_n hx hb dX7_sendsUp_12 rfl (lv_at hl 0 rfl) ?_
        refine get7 B hP (show hk 1076 = 7 by decide +kernel) 15 (by decide) mw_1042 rfl dX7_sendsUp_13 ?_
        refine lv_iload_n hx hb dX7_sendsUp_16 rfl (lv_at hl 1 rfl) ?_
        refine zldn (n := 2) (j := j2_1) B hP (show hk 1089 = 9 by decide +kernel) (show hlen 1089 = 2 by decide +kernel) rfl (by omega) (by decide) dX7_sendsUp_17 ?_
        have i343 : iR (ρ 1089 j2_1) 0 1 := (hT.2.2.2.1 j2_1 (by omega)).2.2.2.2
        obtain ⟨j344, lj344, uj344, ej344⟩ := iR_nat (a := 0) (b := 1) i343
        refine lv_topi (fun z345 ez345 => ?_)
        obtain rfl : z345 = nI j344 := ez345.trans ej344
        refine lv_if_eq (tgt := 55) hx hb dX7_sendsUp_18 (by decide) (fun c346 => ?_) (fun c346 => ?_)
        · skip
          have n347 := (nI_eq (a := j344) (b := 0) (by omega) (by omega)).mp (show (nI j344 = nI 0) from c346)
          refine lv_iconst (v := (-1)) hx hb dX7_sendsUp_55 (by decide) ?_
          refine lv_iload_n hx hb dX7_sendsUp_56 rfl (lv_at hl 1 rfl) ?_
          refine lv_isub hx hb dX7_sendsUp_57 ?_
          exact b58_0 ls ρ _ _ (((-1) - (nI j2_1)) : Int32) (lv_sub hl [0, 1] rfl) hP hS (TI_w hT (fun m a b => by omega) (fun m a b => by omega) (by omega) (by omega) (by omega)) (iR_w (iR_sub (a' := -2) (b' := -1) (show iR (-1) (-1) (-1) from ⟨by decide, by decide⟩) (nI_iR (j := j2_1) (a := 0) (b := 1) (by omega) (by omega) (by omega)) (by decide) (by decide) (by decide) (by decide)) (by decide) (by decide)) (by omega) (by omega)
        · skip
          have n348 := mt (nI_eq (a := j344) (b := 0) (by omega) (by omega)).mpr (show ¬ (nI j344 = nI 0) from c346)
          refine lv_aload_n hx hb dX7_sendsUp_21 rfl (lv_at hl 0 rfl) ?_
          refine lv_iload_n hx hb dX7_sendsUp_22 rfl (lv_at hl 1 rfl) ?_
          refine lv_aload_n hx hb dX7_sendsUp_23 rfl (lv_at hl 0 rfl) ?_
          refine get7 B hP (show hk 1076 = 7 by decide +kernel) 3 (by decide) mw_1030 rfl dX7_sendsUp_24 ?_
          refine lv_bipush (v := 7) hx hb dX7_sendsUp_27 (by decide) ?_
          refine aldn (n := 695) (j := 7) B hP (show hk 1078 = 8 by decide +kernel) (show hlen 1078 = 695 by decide +kernel) rfl (by omega) (by decide) dX7_sendsUp_29 ?_
          have i349 : iR (ρ 1078 7) (0) (1000000) := (iR_w (g_time hI) (by omega) (by omega))
          obtain ⟨j350, lj350, uj350, ej350⟩ := iR_nat (a := 0) (b := 1000000) i349
          refine lv_topi (fun z351 ez351 => ?_)
          obtain rfl : z351 = nI j350 := ez351.trans ej350
          have := time_le (g_time hI) ej350 (by omega)
          refine lv_iconst (v := 1) hx hb dX7_sendsUp_30 (by decide) ?_
          refine lv_iadd hx hb dX7_sendsUp_31 ?_
          refine lv_topi (fun z352 ez352 => ?_)
          obtain rfl : z352 = (nI (1 + j350)) := ez352.trans (by rw [show (nI j350) = nI j350 from rfl, show 1 = nI 1 from rfl, nI_add] <;> exact congrArg nI (by omega))
          refine lv_aload_n hx hb dX7_sendsUp_32 rfl (lv_at hl 0 rfl) ?_
          refine get7 B hP (show hk 1076 = 7 by decide +kernel) 3 (by decide) mw_1030 rfl dX7_sendsUp_33 ?_
          refine lv_iload_n hx hb dX7_sendsUp_36 rfl (lv_at hl 1 rfl) ?_
          refine lv_aload_n hx hb dX7_sendsUp_37 rfl (lv_at hl 0 rfl) ?_
          refine get7 B hP (show hk 1076 = 7 by decide +kernel) 10 (by decide) mw_1037 rfl dX7_sendsUp_38 ?_
          refine lv_iload_n hx hb dX7_sendsUp_41 rfl (lv_at hl 1 rfl) ?_
          refine aldn (n := 2) (j := j2_1) B hP (show hk 1084 = 8 by decide +kernel) (show hlen 1084 = 2 by decide +kernel) rfl (by omega) (by decide) dX7_sendsUp_42 ?_
          have i353 : iR (ρ 1084 j2_1) 0 3 := hT.2.2.2.2.2.1 j2_1 (by omega) (by omega) (ej344.trans (congrArg nI (show j344 = 1 by omega)))
          have i354 : iR (M j2_1) 0 5 := (hT.2.2.2.2.1 j2_1 (by omega) (by omega)).2 (m_ne (iR_w (a := 0) (b := 3) (a' := 0) (b' := 3) i353 (by decide) (by decide)))
          have i355 : iR (ρ 1084 j2_1) (-1) ((L j2_1 : Int) - 1) := ⟨Int.le_trans (by decide) (show (0 : Int) ≤ _ from i353.1), (hT.2.2.2.2.1 j2_1 (by omega) (by omega)).1.2⟩
          have := RI_Lb (n := j2_1) hI (by omega)
          obtain ⟨j356, lj356, uj356, ej356⟩ := iR_nat (a := 0) (b := 3) i353
          refine lv_topi (fun z357 ez357 => ?_)
          obtain rfl : z357 = nI j356 := ez357.trans ej356
          have : j356 < L j2_1 := rl_lt i355 ej356 (by omega)
          refine call_i (cS (av := [.int (nI j2_1), .int (nI j356)]) (rest := [.ref (E.2.1 + 1078), .int (nI (1 + j350)), .int (nI j2_1), .ref (E.2.1 + 1076), .int (nI j2_1), .ref (E.2.1 + 1085)]) B hP hS (d_X7_linkAt l E ρ ρ Bt hBt M L (XT 2 2 0 2 (ρ 1084) (ρ 1087)) j2_1 (by omega) (by omega) j356 (by omega) (by omega) hI) lk_RX7_82 rfl rfl hl.1 (Nat.le_of_ble_eq_true rfl) ⟨Nat.le_of_ble_eq_true rfl, Nat.le_of_ble_eq_true rfl⟩ ⟨Nat.le_of_ble_eq_true rfl, Nat.le_of_ble_eq_true rfl⟩ dX7_sendsUp_43) hS (fun r358 ρ359 H locs q360 hP hS => ?_)
          obtain ⟨rfl, -, q360⟩ := q360
          obtain rfl : r358 = nI (104 + 326 * j2_1 + 66 * j356) := q360.trans (congrArg nI (by omega))
          refine lv_iconst (v := 1) hx hb dX7_sendsUp_46 (by decide) ?_
          refine lv_iadd hx hb dX7_sendsUp_47 ?_
          refine lv_topi (fun z362 ez362 => ?_)
          obtain rfl : z362 = (nI (105 + 326 * j2_1 + 66 * j356)) := ez362.trans (by rw [show (nI (104 + 326 * j2_1 + 66 * j356)) = nI (104 + 326 * j2_1 + 66 * j356) from rfl, show 1 = nI 1 from rfl, nI_add] <;> exact congrArg nI (by omega))
          refine aldn (n := 695) (j := (105 + 326 * j2_1 + 66 * j356)) B hP (show hk 1078 = 8 by decide +kernel) (show hlen 1078 = 695 by decide +kernel) rfl (by omega) (by decide) dX7_sendsUp_48 ?_
          have i363 : iR (ρ 1078 (105 + 326 * j2_1 + 66 * j356)) (1) (8388607) := g_itsmap (n0 := j2_1) (l0 := j356) (j := (105 + 326 * j2_1 + 66 * j356)) hI (by omega) (by omega) (by omega)
          obtain ⟨j364, lj364, uj364, ej364⟩ := iR_nat (a := 1) (b := 8388607) i363
          refine lv_topi (fun z365 ez365 => ?_)
          obtain rfl : z365 = nI j364 := ez365.trans ej364
          refine call_i (cVt (k := 1076) (av := [.int (nI j2_1), .int (nI (1 + j350)), .int (nI j364)]) (rest := [.int (nI j2_1), .ref (E.2.1 + 1085)]) B hP hS (d_X7_hopOf l E ρ ρ Bt hBt M L (XT 2 2 0 2 (ρ 1084) (ρ 1087)) j2_1 (by omega) (by omega) (nI (1 + j350)) j364 (by omega) (by omega) hI) lk_RX7_114 (hrecv (ci := 7) B hP (hk_lt (c := 7) (show hk 1076 = 7 by decide +kernel) (by decide)) (hcc7 _ _ (show hk 1076 = 7 by decide +kernel)) rfl) rfl rfl hl.1 (Nat.le_of_ble_eq_true rfl) ⟨Nat.le_of_ble_eq_true rfl, Nat.le_of_ble_eq_true rfl⟩ ⟨Nat.le_of_ble_eq_true rfl, Nat.le_of_ble_eq_true rfl⟩ dX7_sendsUp_49) hS (fun r366 ρ367 H locs q368 hP hS => ?_)
          obtain ⟨rfl, -, q368⟩ := q368
          obtain ⟨j370, lj370, uj370, ej370⟩ := iR_nat (a := 0) (b := 22) q368
          refine lv_topi (fun z371 ez371 => ?_)
          obtain rfl : z371 = nI j370 := ez371.trans ej370
          refine lv_goto (tgt := 58) hx hb dX7_sendsUp_52 (by decide) ?_
          exact b58_0 ls ρ _ _ ((nI j370) : Int32) (lv_sub hl [0, 1] rfl) hP hS (TI_w hT (fun m a b => by omega) (fun m a b => by omega) (by omega) (by omega) (by omega)) (iR_w (nI_iR (j := j370) (a := 0) (b := 22) (by omega) (by omega) (by omega)) (by decide) (by decide)) (by omega) (by omega)
  refine lv_iconst (v := 0) hx hb dX7_sendsUp_0 (by decide) ?_
  refine lv_istore_n (lv' := [(1, .int 0), (0, .ref (E.2.1 + 1076))]) hx hb dX7_sendsUp_1 rfl hl (by decide) rfl (fun ls hl => ?_)
  exact b2_0 ls ρ _ _ _ 0 (lv_sub hl [1, 0] rfl) hP hS (TI_w hT (fun m a b => by omega) (fun m a b => by omega) (by omega) (by omega) (by omega)) (Nat.lt_succ_self _) (by omega) (by omega)

theorem lk_RX7_218 : LkV RX7 218 RX7 yX7_mapsBecome cX7_mapsBecome 5 none 4 := ⟨⟨mw_1265, mw_1267, mw_24, mw_59, mw_1268⟩, by decide +kernel⟩
theorem lk_RX7_221 : LkV RX7 221 RX7 yX7_framesCome cX7_framesCome 2 none 1 := ⟨⟨mw_1269, mw_1271, mw_25, mw_59, mw_1272⟩, by decide +kernel⟩
theorem lk_RX7_224 : LkV RX7 224 RX7 yX7_choose cX7_choose 9 (some .int) 1 := ⟨⟨mw_1285, mw_1287, mw_29, mw_59, mw_1288⟩, by decide +kernel⟩
theorem lk_RX7_227 : LkV RX7 227 RX7 yX7_sendsDown cX7_sendsDown 5 none 0 := ⟨⟨mw_1289, mw_1291, mw_30, mw_59, mw_1292⟩, by decide +kernel⟩
theorem lk_RX7_230 : LkV RX7 230 RX7 yX7_sendsUp cX7_sendsUp 4 none 0 := ⟨⟨mw_1328, mw_1330, mw_39, mw_59, mw_1331⟩, by decide +kernel⟩
set_option maxHeartbeats 4000000 in
set_option maxRecDepth 100000 in
theorem d_X7_turn (l : Launch) (E : hE) (ρ r : Nat → Nat → Int32) (Bt : Nat) (hBt : Bt ≤ 1000000) (M : Nat → Int32) (L : Nat → Nat) (hI : TI r Bt M L 0 0 0 0 0 2 0 ρ) : Met l yX7_turn (.code yX7_turn cX7_turn 5 none :: gw_all) (rmk 9 360) (cPre E ρ [.ref (E.2.1 + 1076)]) (cV E (fun ρ1 => TI r (Bt + 2) M L 0 0 0 0 0 2 0 ρ1)) 0 0 (hA E) := by
  refine ent (own := RX7) (by decide) rfl (Nat.le_of_ble_eq_true rfl) ?_
  intro p e s m below meth c ls B hr hlk hl hP hS
  have hx := B.1.1
  have hb := B.1.2.1
  have hown := B.1.2.2.2.1
  have hts := B.1.2.2.2.2
  have hl : lv_has ls 5 [(0, .ref (E.2.1 + 1076))] := hl
  have hT := hI
  have hI := TI_RI hT
  have b227_0 : ∀ (ls : Array Slot) (ρ : Nat → Nat → Int32) (H : Heap) (locs : List Loc) (d227 : Nat) (j227_1 : Nat), lv_has ls 5 [(0, .ref (E.2.1 + 1076)), (1, .int (nI j227_1))] → WP E ρ H → va_S (hA E) s.heap H locs → TI r Bt M L 0 0 0 0 0 2 0 ρ → 3 - j227_1 < d227 → 0 ≤ j227_1 → j227_1 ≤ 2 → W p l e (rmk 9 360) s m ([.ref (E.2.1 + 1076)] : List Value).toArray below meth c H locs 0 0 (MQ below (cV E (fun ρ1 => TI r (Bt + 2) M L 0 0 0 0 0 2 0 ρ1)) ([.ref (E.2.1 + 1076)] : List Value).toArray s 0 0 (hA E)) (F0 m 227 ls []) := by
    intro ls ρ H locs d227
    induction d227 generalizing ls ρ H locs with
    | zero => intro j227_1 hl hP hS hI hd227 lj227_1 uj227_1; exact absurd hd227 (Nat.not_lt_zero _)
    | succ d227 ih227 =>
      intro j227_1 hl hP hS hI hd227 lj227_1 uj227_1
      have b350_0 : ∀ (ls : Array Slot) (ρ : Nat → Nat → Int32) (H : Heap) (locs : List Loc) , lv_has ls 5 [(0, .ref (E.2.1 + 1076)), (1, .int (nI j227_1))] → WP E ρ H → va_S (hA E) s.heap H locs → TI r Bt M L 0 0 0 0 0 2 0 ρ → 0 ≤ j227_1 → j227_1 ≤ 1 → W p l e (rmk 9 360) s m ([.ref (E.2.1 + 1076)] : List Value).toArray below meth c H locs 0 0 (MQ below (cV E (fun ρ1 => TI r (Bt + 2) M L 0 0 0 0 0 2 0 ρ1)) ([.ref (E.2.1 + 1076)] : List Value).toArray s 0 0 (hA E)) (F0 m 350 ls []) := by
        intro ls ρ H locs  hl hP hS hI tlj227_1 tuj227_1
        have hT := hI
        have hI := TI_RI hT
        refine lv_iinc (v := (nI (1 + j227_1))) (lv' := [(1, .int (nI (1 + j227_1))), (0, .ref (E.2.1 + 1076))]) hx hb dX7_turn_350 hl (k := 1) rfl (show nI j227_1 + nI 1 = _ from (nI_add _ _).trans (congrArg nI (by omega))) (by decide) rfl (fun ls hl => ?_)
        refine lv_goto (tgt := 227) hx hb dX7_turn_353 (by decide) ?_
        exact ih227 ls ρ _ _ (1 + j227_1) (lv_sub hl [1, 0] rfl) hP hS (TI_w hT (fun m a b => by omega) (fun m a b => by omega) (by omega) (by omega) (by omega)) (by omega) (by omega) (by omega)
      have b234_0 : ∀ (ls : Array Slot) (ρ : Nat → Nat → Int32) (H : Heap) (locs : List Loc) (d234 : Nat) (j234_2 : Nat), lv_has ls 5 [(0, .ref (E.2.1 + 1076)), (1, .int (nI j227_1)), (2, .int (nI j234_2))] → WP E ρ H → va_S (hA E) s.heap H locs → TI r Bt M L 0 0 0 0 0 2 0 ρ → 5 - j234_2 < d234 → 0 ≤ j234_2 → j234_2 ≤ 4 → 0 ≤ j227_1 → j227_1 ≤ 1 → W p l e (rmk 9 360) s m ([.ref (E.2.1 + 1076)] : List Value).toArray below meth c H locs 0 0 (MQ below (cV E (fun ρ1 => TI r (Bt + 2) M L 0 0 0 0 0 2 0 ρ1)) ([.ref (E.2.1 + 1076)] : List Value).toArray s 0 0 (hA E)) (F0 m 234 ls []) := by
        intro ls ρ H locs d234
        induction d234 generalizing ls ρ H locs with
        | zero => intro j234_2 hl hP hS hI hd234 lj234_2 uj234_2 tlj227_1 tuj227_1; exact absurd hd234 (Nat.not_lt_zero _)
        | succ d234 ih234 =>
          intro j234_2 hl hP hS hI hd234 lj234_2 uj234_2 tlj227_1 tuj227_1
          have b344_0 : ∀ (ls : Array Slot) (ρ : Nat → Nat → Int32) (H : Heap) (locs : List Loc) , lv_has ls 5 [(0, .ref (E.2.1 + 1076)), (1, .int (nI j227_1)), (2, .int (nI j234_2))] → WP E ρ H → va_S (hA E) s.heap H locs → TI r Bt M L 0 0 0 0 0 2 0 ρ → iR (M j227_1) (0) (5) → 1 ≤ (L j227_1) → (L j227_1) ≤ 4 → 0 ≤ j227_1 → j227_1 ≤ 1 → 0 ≤ j234_2 → j234_2 ≤ 3 → j234_2 + 1 ≤ L j227_1 → W p l e (rmk 9 360) s m ([.ref (E.2.1 + 1076)] : List Value).toArray below meth c H locs 0 0 (MQ below (cV E (fun ρ1 => TI r (Bt + 2) M L 0 0 0 0 0 2 0 ρ1)) ([.ref (E.2.1 + 1076)] : List Value).toArray s 0 0 (hA E)) (F0 m 344 ls []) := by
            intro ls ρ H locs  hl hP hS hI f_M_j227_1_ tl_L_j227_1_ tu_L_j227_1_ tlj227_1 tuj227_1 tlj234_2 tuj234_2 hr344_0
            have hT := hI
            have hI := TI_RI hT
            refine lv_iinc (v := (nI (1 + j234_2))) (lv' := [(2, .int (nI (1 + j234_2))), (0, .ref (E.2.1 + 1076)), (1, .int (nI j227_1))]) hx hb dX7_turn_344 hl (k := 2) rfl (show nI j234_2 + nI 1 = _ from (nI_add _ _).trans (congrArg nI (by omega))) (by decide) rfl (fun ls hl => ?_)
            refine lv_goto (tgt := 234) hx hb dX7_turn_347 (by decide) ?_
            exact ih234 ls ρ _ _ (1 + j234_2) (lv_sub hl [1, 2, 0] rfl) hP hS (TI_w hT (fun m a b => by omega) (fun m a b => by omega) (by omega) (by omega) (by omega)) (by omega) (by omega) (by omega) (by omega) (by omega)
          have b340_0 : ∀ (ls : Array Slot) (ρ : Nat → Nat → Int32) (H : Heap) (locs : List Loc) (x340_s1 : Int32), lv_has ls 5 [(0, .ref (E.2.1 + 1076)), (1, .int (nI j227_1)), (2, .int (nI j234_2))] → WP E ρ H → va_S (hA E) s.heap H locs → TI r Bt M L 0 0 0 0 0 2 0 ρ → iR x340_s1 (-2147483648) (2147483647) → iR (M j227_1) (0) (5) → 1 ≤ (L j227_1) → (L j227_1) ≤ 4 → 0 ≤ j227_1 → j227_1 ≤ 1 → 0 ≤ j234_2 → j234_2 ≤ 3 → j234_2 + 1 ≤ L j227_1 → W p l e (rmk 9 360) s m ([.ref (E.2.1 + 1076)] : List Value).toArray below meth c H locs 0 0 (MQ below (cV E (fun ρ1 => TI r (Bt + 2) M L 0 0 0 0 0 2 0 ρ1)) ([.ref (E.2.1 + 1076)] : List Value).toArray s 0 0 (hA E)) (F0 m 340 ls [.int 0, .int x340_s1, .ref (E.2.1 + 1076)]) := by
            intro ls ρ H locs x340_s1 hl hP hS hI hx340_s1 f_M_j227_1_ tl_L_j227_1_ tu_L_j227_1_ tlj227_1 tuj227_1 tlj234_2 tuj234_2 hr340_0
            have hT := hI
            have hI := TI_RI hT
            refine lv_iadd hx hb dX7_turn_340 ?_
            refine put7 B hP hS (show hk 1076 = 7 by decide +kernel) 17 (by decide) mw_1044 rfl rfl rfl (fs7_17 E 1076 _ _) dX7_turn_341 (fun H locs hP hS => ?_)
            obtain ⟨ρ933, e934⟩ : ∃ z, z = up ρ 1076 17 (x340_s1 + 0) := ⟨_, rfl⟩
            rw [← e934] at hP
            have hT : TI r Bt M L 0 0 0 0 0 2 0 ρ933 := by rw [e934]; exact TI_back hT (RI_76 hI (by decide))
            have hI := TI_RI hT
            exact b344_0 ls ρ933 _ _  (lv_sub hl [0, 1, 2] rfl) hP hS (TI_w hT (fun m a b => by omega) (fun m a b => by omega) (by omega) (by omega) (by omega)) (iR_w f_M_j227_1_ (by decide) (by decide)) (by omega) (by omega) (by omega) (by omega) (by omega) (by omega) (by omega)
          have b340_1 : ∀ (ls : Array Slot) (ρ : Nat → Nat → Int32) (H : Heap) (locs : List Loc) (x340_s1 : Int32), lv_has ls 5 [(0, .ref (E.2.1 + 1076)), (1, .int (nI j227_1)), (2, .int (nI j234_2))] → WP E ρ H → va_S (hA E) s.heap H locs → TI r Bt M L 0 0 0 0 0 2 0 ρ → iR x340_s1 (-2147483648) (2147483647) → iR (M j227_1) (0) (5) → 1 ≤ (L j227_1) → (L j227_1) ≤ 4 → 0 ≤ j227_1 → j227_1 ≤ 1 → 0 ≤ j234_2 → j234_2 ≤ 3 → j234_2 + 1 ≤ L j227_1 → W p l e (rmk 9 360) s m ([.ref (E.2.1 + 1076)] : List Value).toArray below meth c H locs 0 0 (MQ below (cV E (fun ρ1 => TI r (Bt + 2) M L 0 0 0 0 0 2 0 ρ1)) ([.ref (E.2.1 + 1076)] : List Value).toArray s 0 0 (hA E)) (F0 m 340 ls [.int 1, .int x340_s1, .ref (E.2.1 + 1076)]) := by
            intro ls ρ H locs x340_s1 hl hP hS hI hx340_s1 f_M_j227_1_ tl_L_j227_1_ tu_L_j227_1_ tlj227_1 tuj227_1 tlj234_2 tuj234_2 hr340_0
            have hT := hI
            have hI := TI_RI hT
            refine lv_iadd hx hb dX7_turn_340 ?_
            refine put7 B hP hS (show hk 1076 = 7 by decide +kernel) 17 (by decide) mw_1044 rfl rfl rfl (fs7_17 E 1076 _ _) dX7_turn_341 (fun H locs hP hS => ?_)
            obtain ⟨ρ935, e936⟩ : ∃ z, z = up ρ 1076 17 (x340_s1 + 1) := ⟨_, rfl⟩
            rw [← e936] at hP
            have hT : TI r Bt M L 0 0 0 0 0 2 0 ρ935 := by rw [e936]; exact TI_back hT (RI_76 hI (by decide))
            have hI := TI_RI hT
            exact b344_0 ls ρ935 _ _  (lv_sub hl [0, 1, 2] rfl) hP hS (TI_w hT (fun m a b => by omega) (fun m a b => by omega) (by omega) (by omega) (by omega)) (iR_w f_M_j227_1_ (by decide) (by decide)) (by omega) (by omega) (by omega) (by omega) (by omega) (by omega) (by omega)
          have b316_0 : ∀ (ls : Array Slot) (ρ : Nat → Nat → Int32) (H : Heap) (locs : List Loc) (x316_s2 : Int32), lv_has ls 5 [(0, .ref (E.2.1 + 1076)), (1, .int (nI j227_1)), (2, .int (nI j234_2)), (3, .int (nI (104 + 326 * j227_1 + 66 * j234_2)))] → WP E ρ H → va_S (hA E) s.heap H locs → TI r Bt M L 0 0 0 0 0 2 0 ρ → iR x316_s2 (-2147483648) (2147483647) → iR (M j227_1) (0) (5) → 1 ≤ (L j227_1) → (L j227_1) ≤ 4 → 0 ≤ j227_1 → j227_1 ≤ 1 → 0 ≤ j234_2 → j234_2 ≤ 3 → j234_2 + 1 ≤ L j227_1 → W p l e (rmk 9 360) s m ([.ref (E.2.1 + 1076)] : List Value).toArray below meth c H locs 0 0 (MQ below (cV E (fun ρ1 => TI r (Bt + 2) M L 0 0 0 0 0 2 0 ρ1)) ([.ref (E.2.1 + 1076)] : List Value).toArray s 0 0 (hA E)) (F0 m 316 ls [.int 0, .int x316_s2, .int (nI (139 + 326 * j227_1 + 66 * j234_2)), .ref (E.2.1 + 1078)]) := by
            intro ls ρ H locs x316_s2 hl hP hS hI hx316_s2 f_M_j227_1_ tl_L_j227_1_ tu_L_j227_1_ tlj227_1 tuj227_1 tlj234_2 tuj234_2 hr316_0
            have hT := hI
            have hI := TI_RI hT
            refine lv_iadd hx hb dX7_turn_316 ?_
            refine astn (n := 695) (j := (139 + 326 * j227_1 + 66 * j234_2)) B hP hS (show hk 1078 = 8 by decide +kernel) (show hlen 1078 = 695 by decide +kernel) rfl (by omega) (by decide) dX7_turn_317 (fun H locs hP hS => ?_)
            obtain ⟨ρ937, e938⟩ : ∃ z, z = up ρ 1078 (139 + 326 * j227_1 + 66 * j234_2) (x316_s2 + 0) := ⟨_, rfl⟩
            rw [← e938] at hP
            have hT : TI r Bt M L 0 0 0 0 0 2 0 ρ937 := by rw [e938]; exact TI_back hT (RI_up hI (ok_link (n0 := j227_1) (l0 := j234_2) (j := (139 + 326 * j227_1 + 66 * j234_2)) 35 (by omega) (by omega) (by omega) (by omega)))
            have hI := TI_RI hT
            refine lv_aload_n hx hb dX7_turn_318 rfl (lv_at hl 0 rfl) ?_
            refine lv_dup hx hb dX7_turn_319 rfl ?_
            refine get7 B hP (show hk 1076 = 7 by decide +kernel) 17 (by decide) mw_1044 rfl dX7_turn_320 ?_
            refine lv_aload_n hx hb dX7_turn_323 rfl (lv_at hl 0 rfl) ?_
            refine get7 B hP (show hk 1076 = 7 by decide +kernel) 3 (by decide) mw_1030 rfl dX7_turn_324 ?_
            refine lv_iload_n hx hb dX7_turn_327 rfl (lv_at hl 3 rfl) ?_
            refine lv_bipush (v := 36) hx hb dX7_turn_328 (by decide) ?_
            refine lv_iadd hx hb dX7_turn_330 ?_
            refine lv_topi (fun z939 ez939 => ?_)
            obtain rfl : z939 = (nI (140 + 326 * j227_1 + 66 * j234_2)) := ez939.trans (by rw [show (nI (104 + 326 * j227_1 + 66 * j234_2)) = nI (104 + 326 * j227_1 + 66 * j234_2) from rfl, show 36 = nI 36 from rfl, nI_add] <;> exact congrArg nI (by omega))
            refine aldn (n := 695) (j := (140 + 326 * j227_1 + 66 * j234_2)) B hP (show hk 1078 = 8 by decide +kernel) (show hlen 1078 = 695 by decide +kernel) rfl (by omega) (by decide) dX7_turn_331 ?_
            refine lv_if_ne (tgt := 339) hx hb dX7_turn_332 (by decide) (fun c940 => ?_) (fun c940 => ?_)
            · skip
              refine lv_iconst (v := 0) hx hb dX7_turn_339 (by decide) ?_
              exact b340_0 ls ρ937 _ _ ((ρ937 1076 17) : Int32) (lv_sub hl [0, 1, 2] rfl) hP hS (TI_w hT (fun m a b => by omega) (fun m a b => by omega) (by omega) (by omega) (by omega)) (iR_w (iR_any (ρ937 1076 17)) (by decide) (by decide)) (iR_w f_M_j227_1_ (by decide) (by decide)) (by omega) (by omega) (by omega) (by omega) (by omega) (by omega) (by omega)
            · skip
              have i941 : iR (ρ937 1078 (140 + 326 * j227_1 + 66 * j234_2)) (0) (0) := (by rw [c940]; exact ⟨by decide, by decide⟩)
              refine lv_iconst (v := 1) hx hb dX7_turn_335 (by decide) ?_
              refine lv_goto (tgt := 340) hx hb dX7_turn_336 (by decide) ?_
              exact b340_1 ls ρ937 _ _ ((ρ937 1076 17) : Int32) (lv_sub hl [0, 1, 2] rfl) hP hS (TI_w hT (fun m a b => by omega) (fun m a b => by omega) (by omega) (by omega) (by omega)) (iR_w (iR_any (ρ937 1076 17)) (by decide) (by decide)) (iR_w f_M_j227_1_ (by decide) (by decide)) (by omega) (by omega) (by omega) (by omega) (by omega) (by omega) (by omega)
          have b316_1 : ∀ (ls : Array Slot) (ρ : Nat → Nat → Int32) (H : Heap) (locs : List Loc) (x316_s2 : Int32), lv_has ls 5 [(0, .ref (E.2.1 + 1076)), (1, .int (nI j227_1)), (2, .int (nI j234_2)), (3, .int (nI (104 + 326 * j227_1 + 66 * j234_2)))] → WP E ρ H → va_S (hA E) s.heap H locs → TI r Bt M L 0 0 0 0 0 2 0 ρ → iR x316_s2 (-2147483648) (2147483647) → iR (M j227_1) (0) (5) → 1 ≤ (L j227_1) → (L j227_1) ≤ 4 → 0 ≤ j227_1 → j227_1 ≤ 1 → 0 ≤ j234_2 → j234_2 ≤ 3 → j234_2 + 1 ≤ L j227_1 → W p l e (rmk 9 360) s m ([.ref (E.2.1 + 1076)] : List Value).toArray below meth c H locs 0 0 (MQ below (cV E (fun ρ1 => TI r (Bt + 2) M L 0 0 0 0 0 2 0 ρ1)) ([.ref (E.2.1 + 1076)] : List Value).toArray s 0 0 (hA E)) (F0 m 316 ls [.int 1, .int x316_s2, .int (nI (139 + 326 * j227_1 + 66 * j234_2)), .ref (E.2.1 + 1078)]) := by
            intro ls ρ H locs x316_s2 hl hP hS hI hx316_s2 f_M_j227_1_ tl_L_j227_1_ tu_L_j227_1_ tlj227_1 tuj227_1 tlj234_2 tuj234_2 hr316_0
            have hT := hI
            have hI := TI_RI hT
            refine lv_iadd hx hb dX7_turn_316 ?_
            refine astn (n := 695) (j := (139 + 326 * j227_1 + 66 * j234_2)) B hP hS (show hk 1078 = 8 by decide +kernel) (show hlen 1078 = 695 by decide +kernel) rfl (by omega) (by decide) dX7_turn_317 (fun H locs hP hS => ?_)
            obtain ⟨ρ942, e943⟩ : ∃ z, z = up ρ 1078 (139 + 326 * j227_1 + 66 * j234_2) (x316_s2 + 1) := ⟨_, rfl⟩
            rw [← e943] at hP
            have hT : TI r Bt M L 0 0 0 0 0 2 0 ρ942 := by rw [e943]; exact TI_back hT (RI_up hI (ok_link (n0 := j227_1) (l0 := j234_2) (j := (139 + 326 * j227_1 + 66 * j234_2)) 35 (by omega) (by omega) (by omega) (by omega)))
            have hI := TI_RI hT
            refine lv_aload_n hx hb dX7_turn_318 rfl (lv_at hl 0 rfl) ?_
            refine lv_dup hx hb dX7_turn_319 rfl ?_
            refine get7 B hP (show hk 1076 = 7 by decide +kernel) 17 (by decide) mw_1044 rfl dX7_turn_320 ?_
            refine lv_aload_n hx hb dX7_turn_323 rfl (lv_at hl 0 rfl) ?_
            refine get7 B hP (show hk 1076 = 7 by decide +kernel) 3 (by decide) mw_1030 rfl dX7_turn_324 ?_
            refine lv_iload_n hx hb dX7_turn_327 rfl (lv_at hl 3 rfl) ?_
            refine lv_bipush (v := 36) hx hb dX7_turn_328 (by decide) ?_
            refine lv_iadd hx hb dX7_turn_330 ?_
            refine lv_topi (fun z944 ez944 => ?_)
            obtain rfl : z944 = (nI (140 + 326 * j227_1 + 66 * j234_2)) := ez944.trans (by rw [show (nI (104 + 326 * j227_1 + 66 * j234_2)) = nI (104 + 326 * j227_1 + 66 * j234_2) from rfl, show 36 = nI 36 from rfl, nI_add] <;> exact congrArg nI (by omega))
            refine aldn (n := 695) (j := (140 + 326 * j227_1 + 66 * j234_2)) B hP (show hk 1078 = 8 by decide +kernel) (show hlen 1078 = 695 by decide +kernel) rfl (by omega) (by decide) dX7_turn_331 ?_
            refine lv_if_ne (tgt := 339) hx hb dX7_turn_332 (by decide) (fun c945 => ?_) (fun c945 => ?_)
            · skip
              refine lv_iconst (v := 0) hx hb dX7_turn_339 (by decide) ?_
              exact b340_0 ls ρ942 _ _ ((ρ942 1076 17) : Int32) (lv_sub hl [0, 1, 2] rfl) hP hS (TI_w hT (fun m a b => by omega) (fun m a b => by omega) (by omega) (by omega) (by omega)) (iR_w (iR_any (ρ942 1076 17)) (by decide) (by decide)) (iR_w f_M_j227_1_ (by decide) (by decide)) (by omega) (by omega) (by omega) (by omega) (by omega) (by omega) (by omega)
            · skip
              have i946 : iR (ρ942 1078 (140 + 326 * j227_1 + 66 * j234_2)) (0) (0) := (by rw [c945]; exact ⟨by decide, by decide⟩)
              refine lv_iconst (v := 1) hx hb dX7_turn_335 (by decide) ?_
              refine lv_goto (tgt := 340) hx hb dX7_turn_336 (by decide) ?_
              exact b340_1 ls ρ942 _ _ ((ρ942 1076 17) : Int32) (lv_sub hl [0, 1, 2] rfl) hP hS (TI_w hT (fun m a b => by omega) (fun m a b => by omega) (by omega) (by omega) (by omega)) (iR_w (iR_any (ρ942 1076 17)) (by decide) (by decide)) (iR_w f_M_j227_1_ (by decide) (by decide)) (by omega) (by omega) (by omega) (by omega) (by omega) (by omega) (by omega)
          have hT := hI
          have hI := TI_RI hT
          refine lv_aload_n hx hb dX7_turn_234 rfl (lv_at hl 0 rfl) ?_
          refine lv_iload_n hx hb dX7_turn_235 rfl (lv_at hl 1 rfl) ?_
          refine call_i (cVt (k := 1076) (av := [.int (nI j227_1)]) (rest := []) B hP hS (d_X7_isNet l E ρ ρ Bt hBt M L (XT 0 0 0 0 (ρ 1084) (ρ 1087)) (nI j227_1) hI) lk_RX7_78 (hrecv (ci := 7) B hP (hk_lt (c := 7) (show hk 1076 = 7 by decide +kernel) (by decide)) (hcc7 _ _ (show hk 1076 = 7 by decide +kernel)) rfl) rfl rfl hl.1 (Nat.le_of_ble_eq_true rfl) ⟨Nat.le_of_ble_eq_true rfl, Nat.le_of_ble_eq_true rfl⟩ ⟨Nat.le_of_ble_eq_true rfl, Nat.le_of_ble_eq_true rfl⟩ dX7_turn_236) hS (fun r947 ρ948 H locs q949 hP hS => ?_)
          obtain ⟨rfl, -, q949⟩ := q949
          rcases q949 with rfl | ⟨rfl, j951, hj951, ej951, i952⟩
          · skip
            refine lv_if_eq (tgt := 350) hx hb dX7_turn_239 (by decide) (fun _ => ?_) (fun c953 => absurd rfl c953)
            exact b350_0 ls ρ _ _  (lv_sub hl [0, 1] rfl) hP hS (TI_w hT (fun m a b => by omega) (fun m a b => by omega) (by omega) (by omega) (by omega)) (by omega) (by omega)
          · skip
            have n954 : j227_1 = j951 := (nI_eq (by omega) (by omega)).mp (show nI j227_1 = nI j951 from ej951)
            have i955 : iR (M j227_1) 0 5 := by rw [n954]; exact i952
            refine lv_if_eq (tgt := 350) hx hb dX7_turn_239 (by decide) (fun c956 => absurd c956 (iR_ne (show iR 1 (1) (1) from ⟨by decide, by decide⟩) (show iR 0 (0) (0) from ⟨by decide, by decide⟩) (by decide))) (fun _ => ?_)
            refine lv_iload_n hx hb dX7_turn_242 rfl (lv_at hl 2 rfl) ?_
            refine lv_aload_n hx hb dX7_turn_243 rfl (lv_at hl 0 rfl) ?_
            refine get7 B hP (show hk 1076 = 7 by decide +kernel) 3 (by decide) mw_1030 rfl dX7_turn_244 ?_
            refine lv_iload_n hx hb dX7_turn_247 rfl (lv_at hl 1 rfl) ?_
            refine call_i (cS (av := [.int (nI j227_1)]) (rest := [.ref (E.2.1 + 1078), .int (nI j234_2)]) B hP hS (d_X7_netAt l E ρ ρ Bt hBt M L (XT 0 0 0 0 (ρ 1084) (ρ 1087)) j227_1 (by omega) (by omega) hI) lk_RX7_75 rfl rfl hl.1 (Nat.le_of_ble_eq_true rfl) ⟨Nat.le_of_ble_eq_true rfl, Nat.le_of_ble_eq_true rfl⟩ ⟨Nat.le_of_ble_eq_true rfl, Nat.le_of_ble_eq_true rfl⟩ dX7_turn_248) hS (fun r957 ρ958 H locs q959 hP hS => ?_)
            obtain ⟨rfl, -, q959⟩ := q959
            obtain rfl : r957 = nI (42 + 326 * j227_1) := q959.trans (congrArg nI (by omega))
            refine lv_bipush (v := 6) hx hb dX7_turn_251 (by decide) ?_
            refine lv_iadd hx hb dX7_turn_253 ?_
            refine lv_topi (fun z961 ez961 => ?_)
            obtain rfl : z961 = (nI (48 + 326 * j227_1)) := ez961.trans (by rw [show (nI (42 + 326 * j227_1)) = nI (42 + 326 * j227_1) from rfl, show 6 = nI 6 from rfl, nI_add] <;> exact congrArg nI (by omega))
            have := RI_Lb (n := j227_1) hI (by omega)
            refine aldf (n := 695) (j := (48 + 326 * j227_1)) (v := (nI (L j227_1))) B hP (show hk 1078 = 8 by decide +kernel) (show hlen 1078 = 695 by decide +kernel) rfl (by omega) (by decide) (g_l (n0 := j227_1) hI (by omega) (by omega)) dX7_turn_254 ?_
            refine lv_icmp_ge (tgt := 350) hx hb dX7_turn_255 (by decide) (fun c962 => ?_) (fun c962 => ?_)
            · skip
              have n963 := mt (nx_lt (a := j234_2) (b := (L j227_1)) (by omega) (by omega)).mpr (show ¬ (nI j234_2 < nI (L j227_1)) from (Int32.not_lt.mpr c962))
              exact b350_0 ls ρ _ _  (lv_sub hl [0, 1] rfl) hP hS (TI_w hT (fun m a b => by omega) (fun m a b => by omega) (by omega) (by omega) (by omega)) (by omega) (by omega)
            · skip
              have n964 := (nx_lt (a := j234_2) (b := (L j227_1)) (by omega) (by omega)).mp (show (nI j234_2 < nI (L j227_1)) from (Int32.not_le.mp c962))
              refine lv_iload_n hx hb dX7_turn_258 rfl (lv_at hl 1 rfl) ?_
              refine lv_iload_n hx hb dX7_turn_259 rfl (lv_at hl 2 rfl) ?_
              refine call_i (cS (av := [.int (nI j227_1), .int (nI j234_2)]) (rest := []) B hP hS (d_X7_linkAt l E ρ ρ Bt hBt M L (XT 0 0 0 0 (ρ 1084) (ρ 1087)) j227_1 (by omega) (by omega) j234_2 (by omega) (by omega) hI) lk_RX7_82 rfl rfl hl.1 (Nat.le_of_ble_eq_true rfl) ⟨Nat.le_of_ble_eq_true rfl, Nat.le_of_ble_eq_true rfl⟩ ⟨Nat.le_of_ble_eq_true rfl, Nat.le_of_ble_eq_true rfl⟩ dX7_turn_260) hS (fun r965 ρ966 H locs q967 hP hS => ?_)
              obtain ⟨rfl, -, q967⟩ := q967
              obtain rfl : r965 = nI (104 + 326 * j227_1 + 66 * j234_2) := q967.trans (congrArg nI (by omega))
              refine lv_istore_n (lv' := [(3, .int (nI (104 + 326 * j227_1 + 66 * j234_2))), (0, .ref (E.2.1 + 1076)), (1, .int (nI j227_1)), (2, .int (nI j234_2))]) hx hb dX7_turn_263 rfl hl (by decide) rfl (fun ls hl => ?_)
              refine lv_aload_n hx hb dX7_turn_264 rfl (lv_at hl 1 rfl) ?_
              refine get7 B hP (show hk 1076 = 7 by decide +kernel) 3 (by decide) mw_1030 rfl dX7_turn_265 ?_
              refine lv_iload_n hx hb dX7_turn_268 rfl (lv_at hl 0 rfl) ?_
              refine lv_bipush (v := 36) hx hb dX7_turn_269 (by decide) ?_
              refine lv_iadd hx hb dX7_turn_271 ?_
              refine lv_topi (fun z969 ez969 => ?_)
              obtain rfl : z969 = (nI (140 + 326 * j227_1 + 66 * j234_2)) := ez969.trans (by rw [show (nI (104 + 326 * j227_1 + 66 * j234_2)) = nI (104 + 326 * j227_1 + 66 * j234_2) from rfl, show 36 = nI 36 from rfl, nI_add] <;> exact congrArg nI (by omega))
              refine aldn (n := 695) (j := (140 + 326 * j227_1 + 66 * j234_2)) B hP (show hk 1078 = 8 by decide +kernel) (show hlen 1078 = 695 by decide +kernel) rfl (by omega) (by decide) dX7_turn_272 ?_
              refine lv_if_le (tgt := 344) hx hb dX7_turn_273 (by decide) (fun c970 => ?_) (fun c970 => ?_)
              · skip
                have i971 : iR (ρ 1078 (140 + 326 * j227_1 + 66 * j234_2)) (-2147483648) (0) := (iR_geR (show iR 0 (0) (0) from ⟨by decide, by decide⟩) (iR_any (ρ 1078 (140 + 326 * j227_1 + 66 * j234_2))) (Int32.not_lt.mpr c970) (by decide))
                exact b344_0 ls ρ _ _  (lv_sub hl [1, 2, 3] rfl) hP hS (TI_w hT (fun m a b => by omega) (fun m a b => by omega) (by omega) (by omega) (by omega)) (iR_w i955 (by decide) (by decide)) (by omega) (by omega) (by omega) (by omega) (by omega) (by omega) (by omega)
              · skip
                have i972 : iR (ρ 1078 (140 + 326 * j227_1 + 66 * j234_2)) (1) (2147483647) := (iR_ltR (show iR 0 (0) (0) from ⟨by decide, by decide⟩) (iR_any (ρ 1078 (140 + 326 * j227_1 + 66 * j234_2))) (Int32.not_le.mp c970) (by decide))
                refine lv_aload_n hx hb dX7_turn_276 rfl (lv_at hl 1 rfl) ?_
                refine get7 B hP (show hk 1076 = 7 by decide +kernel) 3 (by decide) mw_1030 rfl dX7_turn_277 ?_
                refine lv_iload_n hx hb dX7_turn_280 rfl (lv_at hl 0 rfl) ?_
                refine lv_bipush (v := 36) hx hb dX7_turn_281 (by decide) ?_
                refine lv_iadd hx hb dX7_turn_283 ?_
                refine lv_topi (fun z973 ez973 => ?_)
                obtain rfl : z973 = (nI (140 + 326 * j227_1 + 66 * j234_2)) := ez973.trans (by rw [show (nI (104 + 326 * j227_1 + 66 * j234_2)) = nI (104 + 326 * j227_1 + 66 * j234_2) from rfl, show 36 = nI 36 from rfl, nI_add] <;> exact congrArg nI (by omega))
                refine lv_dup2_11 hx hb dX7_turn_284 rfl rfl ?_
                refine aldf (n := 695) (j := (140 + 326 * j227_1 + 66 * j234_2)) (v := (ρ 1078 (140 + 326 * j227_1 + 66 * j234_2))) B hP (show hk 1078 = 8 by decide +kernel) (show hlen 1078 = 695 by decide +kernel) rfl (by omega) (by decide) rfl dX7_turn_285 ?_
                refine lv_iconst (v := 1) hx hb dX7_turn_286 (by decide) ?_
                refine lv_isub hx hb dX7_turn_287 ?_
                refine astn (n := 695) (j := (140 + 326 * j227_1 + 66 * j234_2)) B hP hS (show hk 1078 = 8 by decide +kernel) (show hlen 1078 = 695 by decide +kernel) rfl (by omega) (by decide) dX7_turn_288 (fun H locs hP hS => ?_)
                obtain ⟨ρ974, e975⟩ : ∃ z, z = up ρ 1078 (140 + 326 * j227_1 + 66 * j234_2) ((ρ 1078 (140 + 326 * j227_1 + 66 * j234_2)) - 1) := ⟨_, rfl⟩
                rw [← e975] at hP
                have hT : TI r Bt M L 0 0 0 0 0 2 0 ρ974 := by rw [e975]; exact TI_back hT (RI_up hI (ok_link (n0 := j227_1) (l0 := j234_2) (j := (140 + 326 * j227_1 + 66 * j234_2)) 36 (by omega) (by omega) (by omega) (by omega)))
                have hI := TI_RI hT
                refine lv_aload_n hx hb dX7_turn_289 rfl (lv_at hl 1 rfl) ?_
                refine get7 B hP (show hk 1076 = 7 by decide +kernel) 3 (by decide) mw_1030 rfl dX7_turn_290 ?_
                refine lv_iload_n hx hb dX7_turn_293 rfl (lv_at hl 0 rfl) ?_
                refine lv_bipush (v := 35) hx hb dX7_turn_294 (by decide) ?_
                refine lv_iadd hx hb dX7_turn_296 ?_
                refine lv_topi (fun z976 ez976 => ?_)
                obtain rfl : z976 = (nI (139 + 326 * j227_1 + 66 * j234_2)) := ez976.trans (by rw [show (nI (104 + 326 * j227_1 + 66 * j234_2)) = nI (104 + 326 * j227_1 + 66 * j234_2) from rfl, show 35 = nI 35 from rfl, nI_add] <;> exact congrArg nI (by omega))
                refine lv_dup2_11 hx hb dX7_turn_297 rfl rfl ?_
                refine aldn (n := 695) (j := (139 + 326 * j227_1 + 66 * j234_2)) B hP (show hk 1078 = 8 by decide +kernel) (show hlen 1078 = 695 by decide +kernel) rfl (by omega) (by decide) dX7_turn_298 ?_
                refine lv_aload_n hx hb dX7_turn_299 rfl (lv_at hl 1 rfl) ?_
                refine get7 B hP (show hk 1076 = 7 by decide +kernel) 3 (by decide) mw_1030 rfl dX7_turn_300 ?_
                refine lv_iload_n hx hb dX7_turn_303 rfl (lv_at hl 0 rfl) ?_
                refine lv_bipush (v := 36) hx hb dX7_turn_304 (by decide) ?_
                refine lv_iadd hx hb dX7_turn_306 ?_
                refine lv_topi (fun z977 ez977 => ?_)
                obtain rfl : z977 = (nI (140 + 326 * j227_1 + 66 * j234_2)) := ez977.trans (by rw [show (nI (104 + 326 * j227_1 + 66 * j234_2)) = nI (104 + 326 * j227_1 + 66 * j234_2) from rfl, show 36 = nI 36 from rfl, nI_add] <;> exact congrArg nI (by omega))
                refine aldf (n := 695) (j := (140 + 326 * j227_1 + 66 * j234_2)) (v := ((ρ 1078 (140 + 326 * j227_1 + 66 * j234_2)) - 1)) B hP (show hk 1078 = 8 by decide +kernel) (show hlen 1078 = 695 by decide +kernel) rfl (by omega) (by decide) (by rw [e975]; exact up_get_at) dX7_turn_307 ?_
                refine lv_if_ne (tgt := 315) hx hb dX7_turn_308 (by decide) (fun c978 => ?_) (fun c978 => ?_)
                · skip
                  have i979 : iR ((ρ 1078 (140 + 326 * j227_1 + 66 * j234_2)) - 1) (1) (2147483646) := (iR_neL (iR_sub (a' := 0) (b' := 2147483646) i972 (show iR 1 (1) (1) from ⟨by decide, by decide⟩) (by decide) (by decide) (by decide) (by decide)) (show iR 0 (0) (0) from ⟨by decide, by decide⟩) c978 (by decide) (by decide))
                  refine lv_iconst (v := 0) hx hb dX7_turn_315 (by decide) ?_
                  exact b316_0 ls ρ974 _ _ ((ρ974 1078 (139 + 326 * j227_1 + 66 * j234_2)) : Int32) (lv_sub hl [1, 2, 3, 0] rfl) hP hS (TI_w hT (fun m a b => by omega) (fun m a b => by omega) (by omega) (by omega) (by omega)) (iR_w (iR_any (ρ974 1078 (139 + 326 * j227_1 + 66 * j234_2))) (by decide) (by decide)) (iR_w i955 (by decide) (by decide)) (by omega) (by omega) (by omega) (by omega) (by omega) (by omega) (by omega)
                · skip
                  have i980 : iR ((ρ 1078 (140 + 326 * j227_1 + 66 * j234_2)) - 1) (0) (0) := (by rw [c978]; exact ⟨by decide, by decide⟩)
                  refine lv_iconst (v := 1) hx hb dX7_turn_311 (by decide) ?_
                  refine lv_goto (tgt := 316) hx hb dX7_turn_312 (by decide) ?_
                  exact b316_1 ls ρ974 _ _ ((ρ974 1078 (139 + 326 * j227_1 + 66 * j234_2)) : Int32) (lv_sub hl [1, 2, 3, 0] rfl) hP hS (TI_w hT (fun m a b => by omega) (fun m a b => by omega) (by omega) (by omega) (by omega)) (iR_w (iR_any (ρ974 1078 (139 + 326 * j227_1 + 66 * j234_2))) (by decide) (by decide)) (iR_w i955 (by decide) (by decide)) (by omega) (by omega) (by omega) (by omega) (by omega) (by omega) (by omega)
      have hT := hI
      have hI := TI_RI hT
      refine lv_iload_n hx hb dX7_turn_227 rfl (lv_at hl 1 rfl) ?_
      refine lv_iconst (v := 2) hx hb dX7_turn_228 (by decide) ?_
      refine lv_icmp_ge (tgt := 356) hx hb dX7_turn_229 (by decide) (fun c981 => ?_) (fun c981 => ?_)
      · skip
        have n982 := mt (nx_lt (a := j227_1) (b := 2) (by omega) (by omega)).mpr (show ¬ (nI j227_1 < nI 2) from (Int32.not_lt.mpr c981))
        refine lv_aload_n hx hb dX7_turn_356 rfl (lv_at hl 0 rfl) ?_
        refine get7 B hP (show hk 1076 = 7 by decide +kernel) 3 (by decide) mw_1030 rfl dX7_turn_357 ?_
        refine lv_bipush (v := 7) hx hb dX7_turn_360 (by decide) ?_
        refine lv_dup2_11 hx hb dX7_turn_362 rfl rfl ?_
        refine aldn (n := 695) (j := 7) B hP (show hk 1078 = 8 by decide +kernel) (show hlen 1078 = 695 by decide +kernel) rfl (by omega) (by decide) dX7_turn_363 ?_
        have i983 : iR (ρ 1078 7) (0) (1000000) := (iR_w (g_time hI) (by omega) (by omega))
        obtain ⟨j984, lj984, uj984, ej984⟩ := iR_nat (a := 0) (b := 1000000) i983
        refine lv_topi (fun z985 ez985 => ?_)
        obtain rfl : z985 = nI j984 := ez985.trans ej984
        have := time_le (g_time hI) ej984 (by omega)
        refine lv_iconst (v := 2) hx hb dX7_turn_364 (by decide) ?_
        refine lv_iadd hx hb dX7_turn_365 ?_
        refine lv_topi (fun z986 ez986 => ?_)
        obtain rfl : z986 = (nI (2 + j984)) := ez986.trans (by rw [show (nI j984) = nI j984 from rfl, show 2 = nI 2 from rfl, nI_add] <;> exact congrArg nI (by omega))
        refine astn (n := 695) (j := 7) B hP hS (show hk 1078 = 8 by decide +kernel) (show hlen 1078 = 695 by decide +kernel) rfl (by omega) (by decide) dX7_turn_366 (fun H locs hP hS => ?_)
        have hT := TI_w (p0 := 0) (p1 := 0) (p2 := 0) (p3 := 0) (p4 := 0) (pc := 2) (pl := 0) hT (fun m a b => by omega) (fun m a b => by omega) (by omega) (by omega) (by omega)
        obtain ⟨ρ987, e988⟩ : ∃ z, z = up ρ 1078 7 (nI (2 + j984)) := ⟨_, rfl⟩
        rw [← e988] at hP
        have hT : TI r (Bt + 2) M L 0 0 0 0 0 2 0 ρ987 := by rw [e988]; exact TI_time hT (by omega) (nI_iR (j := (2 + j984)) (by omega) (by omega) (by omega))
        have hI := TI_RI hT
        exact ret_v B hr hlk hP hS dX7_turn_367 (TI_w hT (fun m a b => by omega) (fun m a b => by omega) (by omega) (by omega) (by omega))
      · skip
        have n989 := (nx_lt (a := j227_1) (b := 2) (by omega) (by omega)).mp (show (nI j227_1 < nI 2) from (Int32.not_le.mp c981))
        refine lv_iconst (v := 0) hx hb dX7_turn_232 (by decide) ?_
        refine lv_istore_n (lv' := [(2, .int 0), (0, .ref (E.2.1 + 1076)), (1, .int (nI j227_1))]) hx hb dX7_turn_233 rfl hl (by decide) rfl (fun ls hl => ?_)
        exact b234_0 ls ρ _ _ _ 0 (lv_sub hl [1, 2, 0] rfl) hP hS (TI_w hT (fun m a b => by omega) (fun m a b => by omega) (by omega) (by omega) (by omega)) (Nat.lt_succ_self _) (by omega) (by omega) (by omega) (by omega)
  have b183_0 : ∀ (ls : Array Slot) (ρ : Nat → Nat → Int32) (H : Heap) (locs : List Loc) (d183 : Nat) (j183_1 : Nat), lv_has ls 5 [(0, .ref (E.2.1 + 1076)), (1, .int (nI j183_1))] → WP E ρ H → va_S (hA E) s.heap H locs → TI r Bt M L j183_1 0 0 0 0 2 0 ρ → 3 - j183_1 < d183 → 0 ≤ j183_1 → j183_1 ≤ 2 → W p l e (rmk 9 360) s m ([.ref (E.2.1 + 1076)] : List Value).toArray below meth c H locs 0 0 (MQ below (cV E (fun ρ1 => TI r (Bt + 2) M L 0 0 0 0 0 2 0 ρ1)) ([.ref (E.2.1 + 1076)] : List Value).toArray s 0 0 (hA E)) (F0 m 183 ls []) := by
    intro ls ρ H locs d183
    induction d183 generalizing ls ρ H locs with
    | zero => intro j183_1 hl hP hS hI hd183 lj183_1 uj183_1; exact absurd hd183 (Nat.not_lt_zero _)
    | succ d183 ih183 =>
      intro j183_1 hl hP hS hI hd183 lj183_1 uj183_1
      have hT := hI
      have hI := TI_RI hT
      refine lv_iload_n hx hb dX7_turn_183 rfl (lv_at hl 1 rfl) ?_
      refine lv_iconst (v := 2) hx hb dX7_turn_184 (by decide) ?_
      refine lv_icmp_ge (tgt := 217) hx hb dX7_turn_185 (by decide) (fun c990 => ?_) (fun c990 => ?_)
      · skip
        have n991 := mt (nx_lt (a := j183_1) (b := 2) (by omega) (by omega)).mpr (show ¬ (nI j183_1 < nI 2) from (Int32.not_lt.mpr c990))
        refine lv_aload_n hx hb dX7_turn_217 rfl (lv_at hl 0 rfl) ?_
        refine call_v (cVt (k := 1076) (av := []) (rest := []) B hP hS (d_X7_sendsDown l E ρ r Bt hBt M L (TI_w hT (fun m a b => by omega) (fun m a b => by omega) (by omega) (by omega) (by omega))) lk_RX7_227 (hrecv (ci := 7) B hP (hk_lt (c := 7) (show hk 1076 = 7 by decide +kernel) (by decide)) (hcc7 _ _ (show hk 1076 = 7 by decide +kernel)) rfl) rfl rfl hl.1 (Nat.le_of_ble_eq_true rfl) ⟨Nat.le_of_ble_eq_true rfl, Nat.le_of_ble_eq_true rfl⟩ ⟨Nat.le_of_ble_eq_true rfl, Nat.le_of_ble_eq_true rfl⟩ dX7_turn_218) hS (fun ρ993 H locs q994 hP hS => ?_)
        have hT := q994
        have hI := TI_RI hT
        refine lv_aload_n hx hb dX7_turn_221 rfl (lv_at hl 0 rfl) ?_
        refine call_v (cVt (k := 1076) (av := []) (rest := []) B hP hS (d_X7_sendsUp l E ρ993 r Bt hBt M L (TI_w hT (fun m a b => by omega) (fun m a b => by omega) (by omega) (by omega) (by omega))) lk_RX7_230 (hrecv (ci := 7) B hP (hk_lt (c := 7) (show hk 1076 = 7 by decide +kernel) (by decide)) (hcc7 _ _ (show hk 1076 = 7 by decide +kernel)) rfl) rfl rfl hl.1 (Nat.le_of_ble_eq_true rfl) ⟨Nat.le_of_ble_eq_true rfl, Nat.le_of_ble_eq_true rfl⟩ ⟨Nat.le_of_ble_eq_true rfl, Nat.le_of_ble_eq_true rfl⟩ dX7_turn_222) hS (fun ρ996 H locs q997 hP hS => ?_)
        have hT := q997
        have hI := TI_RI hT
        refine lv_iconst (v := 0) hx hb dX7_turn_225 (by decide) ?_
        refine lv_istore_n (lv' := [(1, .int 0), (0, .ref (E.2.1 + 1076))]) hx hb dX7_turn_226 rfl hl (by decide) rfl (fun ls hl => ?_)
        exact b227_0 ls ρ996 _ _ _ 0 (lv_sub hl [1, 0] rfl) hP hS (TI_w hT (fun m a b => by omega) (fun m a b => by omega) (by omega) (by omega) (by omega)) (Nat.lt_succ_self _) (by omega) (by omega)
      · skip
        have n998 := (nx_lt (a := j183_1) (b := 2) (by omega) (by omega)).mp (show (nI j183_1 < nI 2) from (Int32.not_le.mp c990))
        refine lv_aload_n hx hb dX7_turn_188 rfl (lv_at hl 0 rfl) ?_
        refine get7 B hP (show hk 1076 = 7 by decide +kernel) 10 (by decide) mw_1037 rfl dX7_turn_189 ?_
        refine lv_iload_n hx hb dX7_turn_192 rfl (lv_at hl 1 rfl) ?_
        refine lv_aload_n hx hb dX7_turn_193 rfl (lv_at hl 0 rfl) ?_
        refine lv_iload_n hx hb dX7_turn_194 rfl (lv_at hl 1 rfl) ?_
        refine call_i (cVt (k := 1076) (av := [.int (nI j183_1)]) (rest := [.int (nI j183_1), .ref (E.2.1 + 1084)]) B hP hS (d_X7_isNet l E ρ ρ Bt hBt M L (XT j183_1 0 0 0 (ρ 1084) (ρ 1087)) (nI j183_1) hI) lk_RX7_78 (hrecv (ci := 7) B hP (hk_lt (c := 7) (show hk 1076 = 7 by decide +kernel) (by decide)) (hcc7 _ _ (show hk 1076 = 7 by decide +kernel)) rfl) rfl rfl hl.1 (Nat.le_of_ble_eq_true rfl) ⟨Nat.le_of_ble_eq_true rfl, Nat.le_of_ble_eq_true rfl⟩ ⟨Nat.le_of_ble_eq_true rfl, Nat.le_of_ble_eq_true rfl⟩ dX7_turn_195) hS (fun r999 ρ1000 H locs q1001 hP hS => ?_)
        obtain ⟨rfl, -, q1001⟩ := q1001
        rcases q1001 with rfl | ⟨rfl, j1003, hj1003, ej1003, i1004⟩
        · skip
          refine lv_if_eq (tgt := 209) hx hb dX7_turn_198 (by decide) (fun _ => ?_) (fun c1005 => absurd rfl c1005)
          refine lv_iconst (v := (-1)) hx hb dX7_turn_209 (by decide) ?_
          refine astn (n := 2) (j := j183_1) B hP hS (show hk 1084 = 8 by decide +kernel) (show hlen 1084 = 2 by decide +kernel) rfl (by omega) (by decide) dX7_turn_210 (fun H locs hP hS => ?_)
          obtain ⟨ρ1006, e1007⟩ : ∃ z, z = up ρ 1084 j183_1 (-1) := ⟨_, rfl⟩
          rw [← e1007] at hP
          have hT : TI r Bt M L (j183_1 + 1) 0 0 0 0 2 0 ρ1006 := by rw [e1007]; exact TI_up4 hT rfl rfl (by omega) ⟨by decide, by rw [show (-1 : Int32).toInt = -1 from rfl]; omega⟩ (fun z => absurd rfl z) (fun z => absurd z (by decide))
          have hI := TI_RI hT
          refine lv_iinc (v := (nI (1 + j183_1))) (lv' := [(1, .int (nI (1 + j183_1))), (0, .ref (E.2.1 + 1076))]) hx hb dX7_turn_211 hl (k := 1) rfl (show nI j183_1 + nI 1 = _ from (nI_add _ _).trans (congrArg nI (by omega))) (by decide) rfl (fun ls hl => ?_)
          refine lv_goto (tgt := 183) hx hb dX7_turn_214 (by decide) ?_
          exact ih183 ls ρ1006 _ _ (1 + j183_1) (lv_sub hl [1, 0] rfl) hP hS (TI_w hT (fun m a b => by omega) (fun m a b => by omega) (by omega) (by omega) (by omega)) (by omega) (by omega) (by omega)
        · skip
          have n1008 : j183_1 = j1003 := (nI_eq (by omega) (by omega)).mp (show nI j183_1 = nI j1003 from ej1003)
          have i1009 : iR (M j183_1) 0 5 := by rw [n1008]; exact i1004
          refine lv_if_eq (tgt := 209) hx hb dX7_turn_198 (by decide) (fun c1010 => absurd c1010 (iR_ne (show iR 1 (1) (1) from ⟨by decide, by decide⟩) (show iR 0 (0) (0) from ⟨by decide, by decide⟩) (by decide))) (fun _ => ?_)
          refine lv_aload_n hx hb dX7_turn_201 rfl (lv_at hl 0 rfl) ?_
          refine lv_iload_n hx hb dX7_turn_202 rfl (lv_at hl 1 rfl) ?_
          refine call_i (cVt (k := 1076) (av := [.int (nI j183_1)]) (rest := [.int (nI j183_1), .ref (E.2.1 + 1084)]) B hP hS (d_X7_choose l E ρ ρ Bt hBt M L (XT j183_1 0 0 0 (ρ 1084) (ρ 1087)) j183_1 (by omega) (by omega) hI i1009) lk_RX7_224 (hrecv (ci := 7) B hP (hk_lt (c := 7) (show hk 1076 = 7 by decide +kernel) (by decide)) (hcc7 _ _ (show hk 1076 = 7 by decide +kernel)) rfl) rfl rfl hl.1 (Nat.le_of_ble_eq_true rfl) ⟨Nat.le_of_ble_eq_true rfl, Nat.le_of_ble_eq_true rfl⟩ ⟨Nat.le_of_ble_eq_true rfl, Nat.le_of_ble_eq_true rfl⟩ dX7_turn_203) hS (fun r1011 ρ1012 H locs q1013 hP hS => ?_)
          obtain ⟨hR1014, q1013⟩ := q1013
          have hT := TI_back hT hR1014
          have hI := TI_RI hT
          obtain ⟨i1015, q1013⟩ := q1013
          refine lv_goto (tgt := 210) hx hb dX7_turn_206 (by decide) ?_
          refine astn (n := 2) (j := j183_1) B hP hS (show hk 1084 = 8 by decide +kernel) (show hlen 1084 = 2 by decide +kernel) rfl (by omega) (by decide) dX7_turn_210 (fun H locs hP hS => ?_)
          obtain ⟨ρ1016, e1017⟩ : ∃ z, z = up ρ1012 1084 j183_1 r1011 := ⟨_, rfl⟩
          rw [← e1017] at hP
          have hT : TI r Bt M L (j183_1 + 1) 0 0 0 0 2 0 ρ1016 := by rw [e1017]; exact TI_up4 hT rfl rfl (by omega) i1015 (fun _ => i1009) q1013
          have hI := TI_RI hT
          refine lv_iinc (v := (nI (1 + j183_1))) (lv' := [(1, .int (nI (1 + j183_1))), (0, .ref (E.2.1 + 1076))]) hx hb dX7_turn_211 hl (k := 1) rfl (show nI j183_1 + nI 1 = _ from (nI_add _ _).trans (congrArg nI (by omega))) (by decide) rfl (fun ls hl => ?_)
          refine lv_goto (tgt := 183) hx hb dX7_turn_214 (by decide) ?_
          exact ih183 ls ρ1016 _ _ (1 + j183_1) (lv_sub hl [1, 0] rfl) hP hS (TI_w hT (fun m a b => by omega) (fun m a b => by omega) (by omega) (by omega) (by omega)) (by omega) (by omega) (by omega)
  have b99_0 : ∀ (ls : Array Slot) (ρ : Nat → Nat → Int32) (H : Heap) (locs : List Loc) (d99 : Nat) (j99_1 : Nat), lv_has ls 5 [(0, .ref (E.2.1 + 1076)), (1, .int (nI j99_1))] → WP E ρ H → va_S (hA E) s.heap H locs → TI r Bt M L 0 0 0 0 0 2 0 ρ → 3 - j99_1 < d99 → 0 ≤ j99_1 → j99_1 ≤ 2 → W p l e (rmk 9 360) s m ([.ref (E.2.1 + 1076)] : List Value).toArray below meth c H locs 0 0 (MQ below (cV E (fun ρ1 => TI r (Bt + 2) M L 0 0 0 0 0 2 0 ρ1)) ([.ref (E.2.1 + 1076)] : List Value).toArray s 0 0 (hA E)) (F0 m 99 ls []) := by
    intro ls ρ H locs d99
    induction d99 generalizing ls ρ H locs with
    | zero => intro j99_1 hl hP hS hI hd99 lj99_1 uj99_1; exact absurd hd99 (Nat.not_lt_zero _)
    | succ d99 ih99 =>
      intro j99_1 hl hP hS hI hd99 lj99_1 uj99_1
      have b175_0 : ∀ (ls : Array Slot) (ρ : Nat → Nat → Int32) (H : Heap) (locs : List Loc) , lv_has ls 5 [(0, .ref (E.2.1 + 1076)), (1, .int (nI j99_1))] → WP E ρ H → va_S (hA E) s.heap H locs → TI r Bt M L 0 0 0 0 0 2 0 ρ → 0 ≤ j99_1 → j99_1 ≤ 1 → W p l e (rmk 9 360) s m ([.ref (E.2.1 + 1076)] : List Value).toArray below meth c H locs 0 0 (MQ below (cV E (fun ρ1 => TI r (Bt + 2) M L 0 0 0 0 0 2 0 ρ1)) ([.ref (E.2.1 + 1076)] : List Value).toArray s 0 0 (hA E)) (F0 m 175 ls []) := by
        intro ls ρ H locs  hl hP hS hI tlj99_1 tuj99_1
        have hT := hI
        have hI := TI_RI hT
        refine lv_iinc (v := (nI (1 + j99_1))) (lv' := [(1, .int (nI (1 + j99_1))), (0, .ref (E.2.1 + 1076))]) hx hb dX7_turn_175 hl (k := 1) rfl (show nI j99_1 + nI 1 = _ from (nI_add _ _).trans (congrArg nI (by omega))) (by decide) rfl (fun ls hl => ?_)
        refine lv_goto (tgt := 99) hx hb dX7_turn_178 (by decide) ?_
        exact ih99 ls ρ _ _ (1 + j99_1) (lv_sub hl [1, 0] rfl) hP hS (TI_w hT (fun m a b => by omega) (fun m a b => by omega) (by omega) (by omega) (by omega)) (by omega) (by omega) (by omega)
      have b106_0 : ∀ (ls : Array Slot) (ρ : Nat → Nat → Int32) (H : Heap) (locs : List Loc) (d106 : Nat) (j106_2 : Nat), lv_has ls 5 [(0, .ref (E.2.1 + 1076)), (1, .int (nI j99_1)), (2, .int (nI j106_2))] → WP E ρ H → va_S (hA E) s.heap H locs → TI r Bt M L 0 0 0 0 0 2 0 ρ → 5 - j106_2 < d106 → 0 ≤ j106_2 → j106_2 ≤ 4 → 0 ≤ j99_1 → j99_1 ≤ 1 → W p l e (rmk 9 360) s m ([.ref (E.2.1 + 1076)] : List Value).toArray below meth c H locs 0 0 (MQ below (cV E (fun ρ1 => TI r (Bt + 2) M L 0 0 0 0 0 2 0 ρ1)) ([.ref (E.2.1 + 1076)] : List Value).toArray s 0 0 (hA E)) (F0 m 106 ls []) := by
        intro ls ρ H locs d106
        induction d106 generalizing ls ρ H locs with
        | zero => intro j106_2 hl hP hS hI hd106 lj106_2 uj106_2 tlj99_1 tuj99_1; exact absurd hd106 (Nat.not_lt_zero _)
        | succ d106 ih106 =>
          intro j106_2 hl hP hS hI hd106 lj106_2 uj106_2 tlj99_1 tuj99_1
          have b167_0 : ∀ (ls : Array Slot) (ρ : Nat → Nat → Int32) (H : Heap) (locs : List Loc) (x167_s2 : Int32), lv_has ls 5 [(0, .ref (E.2.1 + 1076)), (1, .int (nI j99_1)), (2, .int (nI j106_2))] → WP E ρ H → va_S (hA E) s.heap H locs → TI r Bt M L 0 0 0 0 0 2 0 ρ → iR x167_s2 (-2147483648) (2147483647) → iR (M j99_1) (0) (5) → 1 ≤ (L j99_1) → (L j99_1) ≤ 4 → 0 ≤ j106_2 → j106_2 ≤ 3 → 0 ≤ j99_1 → j99_1 ≤ 1 → j106_2 + 1 ≤ L j99_1 → W p l e (rmk 9 360) s m ([.ref (E.2.1 + 1076)] : List Value).toArray below meth c H locs 0 0 (MQ below (cV E (fun ρ1 => TI r (Bt + 2) M L 0 0 0 0 0 2 0 ρ1)) ([.ref (E.2.1 + 1076)] : List Value).toArray s 0 0 (hA E)) (F0 m 167 ls [.int 0, .int x167_s2, .int (nI (146 + 326 * j99_1 + 66 * j106_2)), .ref (E.2.1 + 1078)]) := by
            intro ls ρ H locs x167_s2 hl hP hS hI hx167_s2 f_M_j99_1_ tl_L_j99_1_ tu_L_j99_1_ tlj106_2 tuj106_2 tlj99_1 tuj99_1 hr167_0
            have hT := hI
            have hI := TI_RI hT
            refine lv_iadd hx hb dX7_turn_167 ?_
            refine astn (n := 695) (j := (146 + 326 * j99_1 + 66 * j106_2)) B hP hS (show hk 1078 = 8 by decide +kernel) (show hlen 1078 = 695 by decide +kernel) rfl (by omega) (by decide) dX7_turn_168 (fun H locs hP hS => ?_)
            obtain ⟨ρ1018, e1019⟩ : ∃ z, z = up ρ 1078 (146 + 326 * j99_1 + 66 * j106_2) (x167_s2 + 0) := ⟨_, rfl⟩
            rw [← e1019] at hP
            have hT : TI r Bt M L 0 0 0 0 0 2 0 ρ1018 := by rw [e1019]; exact TI_back hT (RI_up hI (ok_link (n0 := j99_1) (l0 := j106_2) (j := (146 + 326 * j99_1 + 66 * j106_2)) 42 (by omega) (by omega) (by omega) (by omega)))
            have hI := TI_RI hT
            refine lv_iinc (v := (nI (1 + j106_2))) (lv' := [(2, .int (nI (1 + j106_2))), (0, .ref (E.2.1 + 1076)), (1, .int (nI j99_1))]) hx hb dX7_turn_169 hl (k := 2) rfl (show nI j106_2 + nI 1 = _ from (nI_add _ _).trans (congrArg nI (by omega))) (by decide) rfl (fun ls hl => ?_)
            refine lv_goto (tgt := 106) hx hb dX7_turn_172 (by decide) ?_
            exact ih106 ls ρ1018 _ _ (1 + j106_2) (lv_sub hl [1, 2, 0] rfl) hP hS (TI_w hT (fun m a b => by omega) (fun m a b => by omega) (by omega) (by omega) (by omega)) (by omega) (by omega) (by omega) (by omega) (by omega)
          have b167_1 : ∀ (ls : Array Slot) (ρ : Nat → Nat → Int32) (H : Heap) (locs : List Loc) (x167_s2 : Int32), lv_has ls 5 [(0, .ref (E.2.1 + 1076)), (1, .int (nI j99_1)), (2, .int (nI j106_2))] → WP E ρ H → va_S (hA E) s.heap H locs → TI r Bt M L 0 0 0 0 0 2 0 ρ → iR x167_s2 (-2147483648) (2147483647) → iR (M j99_1) (0) (5) → 1 ≤ (L j99_1) → (L j99_1) ≤ 4 → 0 ≤ j106_2 → j106_2 ≤ 3 → 0 ≤ j99_1 → j99_1 ≤ 1 → j106_2 + 1 ≤ L j99_1 → W p l e (rmk 9 360) s m ([.ref (E.2.1 + 1076)] : List Value).toArray below meth c H locs 0 0 (MQ below (cV E (fun ρ1 => TI r (Bt + 2) M L 0 0 0 0 0 2 0 ρ1)) ([.ref (E.2.1 + 1076)] : List Value).toArray s 0 0 (hA E)) (F0 m 167 ls [.int 1, .int x167_s2, .int (nI (146 + 326 * j99_1 + 66 * j106_2)), .ref (E.2.1 + 1078)]) := by
            intro ls ρ H locs x167_s2 hl hP hS hI hx167_s2 f_M_j99_1_ tl_L_j99_1_ tu_L_j99_1_ tlj106_2 tuj106_2 tlj99_1 tuj99_1 hr167_0
            have hT := hI
            have hI := TI_RI hT
            refine lv_iadd hx hb dX7_turn_167 ?_
            refine astn (n := 695) (j := (146 + 326 * j99_1 + 66 * j106_2)) B hP hS (show hk 1078 = 8 by decide +kernel) (show hlen 1078 = 695 by decide +kernel) rfl (by omega) (by decide) dX7_turn_168 (fun H locs hP hS => ?_)
            obtain ⟨ρ1020, e1021⟩ : ∃ z, z = up ρ 1078 (146 + 326 * j99_1 + 66 * j106_2) (x167_s2 + 1) := ⟨_, rfl⟩
            rw [← e1021] at hP
            have hT : TI r Bt M L 0 0 0 0 0 2 0 ρ1020 := by rw [e1021]; exact TI_back hT (RI_up hI (ok_link (n0 := j99_1) (l0 := j106_2) (j := (146 + 326 * j99_1 + 66 * j106_2)) 42 (by omega) (by omega) (by omega) (by omega)))
            have hI := TI_RI hT
            refine lv_iinc (v := (nI (1 + j106_2))) (lv' := [(2, .int (nI (1 + j106_2))), (0, .ref (E.2.1 + 1076)), (1, .int (nI j99_1))]) hx hb dX7_turn_169 hl (k := 2) rfl (show nI j106_2 + nI 1 = _ from (nI_add _ _).trans (congrArg nI (by omega))) (by decide) rfl (fun ls hl => ?_)
            refine lv_goto (tgt := 106) hx hb dX7_turn_172 (by decide) ?_
            exact ih106 ls ρ1020 _ _ (1 + j106_2) (lv_sub hl [1, 2, 0] rfl) hP hS (TI_w hT (fun m a b => by omega) (fun m a b => by omega) (by omega) (by omega) (by omega)) (by omega) (by omega) (by omega) (by omega) (by omega)
          have hT := hI
          have hI := TI_RI hT
          refine lv_aload_n hx hb dX7_turn_106 rfl (lv_at hl 0 rfl) ?_
          refine lv_iload_n hx hb dX7_turn_107 rfl (lv_at hl 1 rfl) ?_
          refine call_i (cVt (k := 1076) (av := [.int (nI j99_1)]) (rest := []) B hP hS (d_X7_isNet l E ρ ρ Bt hBt M L (XT 0 0 0 0 (ρ 1084) (ρ 1087)) (nI j99_1) hI) lk_RX7_78 (hrecv (ci := 7) B hP (hk_lt (c := 7) (show hk 1076 = 7 by decide +kernel) (by decide)) (hcc7 _ _ (show hk 1076 = 7 by decide +kernel)) rfl) rfl rfl hl.1 (Nat.le_of_ble_eq_true rfl) ⟨Nat.le_of_ble_eq_true rfl, Nat.le_of_ble_eq_true rfl⟩ ⟨Nat.le_of_ble_eq_true rfl, Nat.le_of_ble_eq_true rfl⟩ dX7_turn_108) hS (fun r1022 ρ1023 H locs q1024 hP hS => ?_)
          obtain ⟨rfl, -, q1024⟩ := q1024
          rcases q1024 with rfl | ⟨rfl, j1026, hj1026, ej1026, i1027⟩
          · skip
            refine lv_if_eq (tgt := 175) hx hb dX7_turn_111 (by decide) (fun _ => ?_) (fun c1028 => absurd rfl c1028)
            exact b175_0 ls ρ _ _  (lv_sub hl [0, 1] rfl) hP hS (TI_w hT (fun m a b => by omega) (fun m a b => by omega) (by omega) (by omega) (by omega)) (by omega) (by omega)
          · skip
            have n1029 : j99_1 = j1026 := (nI_eq (by omega) (by omega)).mp (show nI j99_1 = nI j1026 from ej1026)
            have i1030 : iR (M j99_1) 0 5 := by rw [n1029]; exact i1027
            refine lv_if_eq (tgt := 175) hx hb dX7_turn_111 (by decide) (fun c1031 => absurd c1031 (iR_ne (show iR 1 (1) (1) from ⟨by decide, by decide⟩) (show iR 0 (0) (0) from ⟨by decide, by decide⟩) (by decide))) (fun _ => ?_)
            refine lv_iload_n hx hb dX7_turn_114 rfl (lv_at hl 2 rfl) ?_
            refine lv_aload_n hx hb dX7_turn_115 rfl (lv_at hl 0 rfl) ?_
            refine get7 B hP (show hk 1076 = 7 by decide +kernel) 3 (by decide) mw_1030 rfl dX7_turn_116 ?_
            refine lv_iload_n hx hb dX7_turn_119 rfl (lv_at hl 1 rfl) ?_
            refine call_i (cS (av := [.int (nI j99_1)]) (rest := [.ref (E.2.1 + 1078), .int (nI j106_2)]) B hP hS (d_X7_netAt l E ρ ρ Bt hBt M L (XT 0 0 0 0 (ρ 1084) (ρ 1087)) j99_1 (by omega) (by omega) hI) lk_RX7_75 rfl rfl hl.1 (Nat.le_of_ble_eq_true rfl) ⟨Nat.le_of_ble_eq_true rfl, Nat.le_of_ble_eq_true rfl⟩ ⟨Nat.le_of_ble_eq_true rfl, Nat.le_of_ble_eq_true rfl⟩ dX7_turn_120) hS (fun r1032 ρ1033 H locs q1034 hP hS => ?_)
            obtain ⟨rfl, -, q1034⟩ := q1034
            obtain rfl : r1032 = nI (42 + 326 * j99_1) := q1034.trans (congrArg nI (by omega))
            refine lv_bipush (v := 6) hx hb dX7_turn_123 (by decide) ?_
            refine lv_iadd hx hb dX7_turn_125 ?_
            refine lv_topi (fun z1036 ez1036 => ?_)
            obtain rfl : z1036 = (nI (48 + 326 * j99_1)) := ez1036.trans (by rw [show (nI (42 + 326 * j99_1)) = nI (42 + 326 * j99_1) from rfl, show 6 = nI 6 from rfl, nI_add] <;> exact congrArg nI (by omega))
            have := RI_Lb (n := j99_1) hI (by omega)
            refine aldf (n := 695) (j := (48 + 326 * j99_1)) (v := (nI (L j99_1))) B hP (show hk 1078 = 8 by decide +kernel) (show hlen 1078 = 695 by decide +kernel) rfl (by omega) (by decide) (g_l (n0 := j99_1) hI (by omega) (by omega)) dX7_turn_126 ?_
            refine lv_icmp_ge (tgt := 175) hx hb dX7_turn_127 (by decide) (fun c1037 => ?_) (fun c1037 => ?_)
            · skip
              have n1038 := mt (nx_lt (a := j106_2) (b := (L j99_1)) (by omega) (by omega)).mpr (show ¬ (nI j106_2 < nI (L j99_1)) from (Int32.not_lt.mpr c1037))
              exact b175_0 ls ρ _ _  (lv_sub hl [0, 1] rfl) hP hS (TI_w hT (fun m a b => by omega) (fun m a b => by omega) (by omega) (by omega) (by omega)) (by omega) (by omega)
            · skip
              have n1039 := (nx_lt (a := j106_2) (b := (L j99_1)) (by omega) (by omega)).mp (show (nI j106_2 < nI (L j99_1)) from (Int32.not_le.mp c1037))
              refine lv_aload_n hx hb dX7_turn_130 rfl (lv_at hl 0 rfl) ?_
              refine lv_iload_n hx hb dX7_turn_131 rfl (lv_at hl 1 rfl) ?_
              refine lv_iload_n hx hb dX7_turn_132 rfl (lv_at hl 2 rfl) ?_
              refine call_i (cS (av := [.int (nI j99_1), .int (nI j106_2)]) (rest := [.ref (E.2.1 + 1076)]) B hP hS (d_X7_linkAt l E ρ ρ Bt hBt M L (XT 0 0 0 0 (ρ 1084) (ρ 1087)) j99_1 (by omega) (by omega) j106_2 (by omega) (by omega) hI) lk_RX7_82 rfl rfl hl.1 (Nat.le_of_ble_eq_true rfl) ⟨Nat.le_of_ble_eq_true rfl, Nat.le_of_ble_eq_true rfl⟩ ⟨Nat.le_of_ble_eq_true rfl, Nat.le_of_ble_eq_true rfl⟩ dX7_turn_133) hS (fun r1040 ρ1041 H locs q1042 hP hS => ?_)
              obtain ⟨rfl, -, q1042⟩ := q1042
              obtain rfl : r1040 = nI (104 + 326 * j99_1 + 66 * j106_2) := q1042.trans (congrArg nI (by omega))
              refine call_v (cVt (k := 1076) (av := [.int (nI (104 + 326 * j99_1 + 66 * j106_2))]) (rest := []) B hP hS (d_X7_framesCome l E ρ ρ Bt hBt M L (XT 0 0 0 0 (ρ 1084) (ρ 1087)) j99_1 (by omega) j106_2 (by omega) hI) lk_RX7_221 (hrecv (ci := 7) B hP (hk_lt (c := 7) (show hk 1076 = 7 by decide +kernel) (by decide)) (hcc7 _ _ (show hk 1076 = 7 by decide +kernel)) rfl) rfl rfl hl.1 (Nat.le_of_ble_eq_true rfl) ⟨Nat.le_of_ble_eq_true rfl, Nat.le_of_ble_eq_true rfl⟩ ⟨Nat.le_of_ble_eq_true rfl, Nat.le_of_ble_eq_true rfl⟩ dX7_turn_136) hS (fun ρ1045 H locs q1046 hP hS => ?_)
              have hR1047 := q1046
              have hT := TI_back hT hR1047
              have hI := TI_RI hT
              refine lv_aload_n hx hb dX7_turn_139 rfl (lv_at hl 0 rfl) ?_
              refine get7 B hP (show hk 1076 = 7 by decide +kernel) 3 (by decide) mw_1030 rfl dX7_turn_140 ?_
              refine lv_iload_n hx hb dX7_turn_143 rfl (lv_at hl 1 rfl) ?_
              refine lv_iload_n hx hb dX7_turn_144 rfl (lv_at hl 2 rfl) ?_
              refine call_i (cS (av := [.int (nI j99_1), .int (nI j106_2)]) (rest := [.ref (E.2.1 + 1078)]) B hP hS (d_X7_linkAt l E ρ1045 ρ1045 Bt hBt M L (XT 0 0 0 0 (ρ1045 1084) (ρ1045 1087)) j99_1 (by omega) (by omega) j106_2 (by omega) (by omega) hI) lk_RX7_82 rfl rfl hl.1 (Nat.le_of_ble_eq_true rfl) ⟨Nat.le_of_ble_eq_true rfl, Nat.le_of_ble_eq_true rfl⟩ ⟨Nat.le_of_ble_eq_true rfl, Nat.le_of_ble_eq_true rfl⟩ dX7_turn_145) hS (fun r1048 ρ1049 H locs q1050 hP hS => ?_)
              obtain ⟨rfl, -, q1050⟩ := q1050
              obtain rfl : r1048 = nI (104 + 326 * j99_1 + 66 * j106_2) := q1050.trans (congrArg nI (by omega))
              refine lv_bipush (v := 42) hx hb dX7_turn_148 (by decide) ?_
              refine lv_iadd hx hb dX7_turn_150 ?_
              refine lv_topi (fun z1052 ez1052 => ?_)
              obtain rfl : z1052 = (nI (146 + 326 * j99_1 + 66 * j106_2)) := ez1052.trans (by rw [show (nI (104 + 326 * j99_1 + 66 * j106_2)) = nI (104 + 326 * j99_1 + 66 * j106_2) from rfl, show 42 = nI 42 from rfl, nI_add] <;> exact congrArg nI (by omega))
              refine lv_dup2_11 hx hb dX7_turn_151 rfl rfl ?_
              refine aldn (n := 695) (j := (146 + 326 * j99_1 + 66 * j106_2)) B hP (show hk 1078 = 8 by decide +kernel) (show hlen 1078 = 695 by decide +kernel) rfl (by omega) (by decide) dX7_turn_152 ?_
              refine lv_aload_n hx hb dX7_turn_153 rfl (lv_at hl 0 rfl) ?_
              refine lv_iload_n hx hb dX7_turn_154 rfl (lv_at hl 1 rfl) ?_
              refine lv_iload_n hx hb dX7_turn_155 rfl (lv_at hl 2 rfl) ?_
              refine call_i (cVt (k := 1076) (av := [.int (nI j99_1), .int (nI j106_2)]) (rest := [.int (ρ1045 1078 (146 + 326 * j99_1 + 66 * j106_2)), .int (nI (146 + 326 * j99_1 + 66 * j106_2)), .ref (E.2.1 + 1078)]) B hP hS (d_X7_isLinkHere l E ρ1045 ρ1045 Bt hBt M L (XT 0 0 0 0 (ρ1045 1084) (ρ1045 1087)) j99_1 (by omega) (by omega) j106_2 (by omega) (by omega) hI) lk_RX7_182 (hrecv (ci := 7) B hP (hk_lt (c := 7) (show hk 1076 = 7 by decide +kernel) (by decide)) (hcc7 _ _ (show hk 1076 = 7 by decide +kernel)) rfl) rfl rfl hl.1 (Nat.le_of_ble_eq_true rfl) ⟨Nat.le_of_ble_eq_true rfl, Nat.le_of_ble_eq_true rfl⟩ ⟨Nat.le_of_ble_eq_true rfl, Nat.le_of_ble_eq_true rfl⟩ dX7_turn_156) hS (fun r1053 ρ1054 H locs q1055 hP hS => ?_)
              obtain ⟨rfl, -, q1055⟩ := q1055
              obtain ⟨j1057, lj1057, uj1057, ej1057⟩ := iR_nat (a := 0) (b := 1) q1055
              refine lv_topi (fun z1058 ez1058 => ?_)
              obtain rfl : z1058 = nI j1057 := ez1058.trans ej1057
              refine lv_if_eq (tgt := 166) hx hb dX7_turn_159 (by decide) (fun c1059 => ?_) (fun c1059 => ?_)
              · skip
                have n1060 := (nI_eq (a := j1057) (b := 0) (by omega) (by omega)).mp (show (nI j1057 = nI 0) from c1059)
                refine lv_iconst (v := 0) hx hb dX7_turn_166 (by decide) ?_
                exact b167_0 ls ρ1045 _ _ ((ρ1045 1078 (146 + 326 * j99_1 + 66 * j106_2)) : Int32) (lv_sub hl [0, 1, 2] rfl) hP hS (TI_w hT (fun m a b => by omega) (fun m a b => by omega) (by omega) (by omega) (by omega)) (iR_w (iR_any (ρ1045 1078 (146 + 326 * j99_1 + 66 * j106_2))) (by decide) (by decide)) (iR_w i1030 (by decide) (by decide)) (by omega) (by omega) (by omega) (by omega) (by omega) (by omega) (by omega)
              · skip
                have n1061 := mt (nI_eq (a := j1057) (b := 0) (by omega) (by omega)).mpr (show ¬ (nI j1057 = nI 0) from c1059)
                refine lv_iconst (v := 1) hx hb dX7_turn_162 (by decide) ?_
                refine lv_goto (tgt := 167) hx hb dX7_turn_163 (by decide) ?_
                exact b167_1 ls ρ1045 _ _ ((ρ1045 1078 (146 + 326 * j99_1 + 66 * j106_2)) : Int32) (lv_sub hl [0, 1, 2] rfl) hP hS (TI_w hT (fun m a b => by omega) (fun m a b => by omega) (by omega) (by omega) (by omega)) (iR_w (iR_any (ρ1045 1078 (146 + 326 * j99_1 + 66 * j106_2))) (by decide) (by decide)) (iR_w i1030 (by decide) (by decide)) (by omega) (by omega) (by omega) (by omega) (by omega) (by omega) (by omega)
      have hT := hI
      have hI := TI_RI hT
      refine lv_iload_n hx hb dX7_turn_99 rfl (lv_at hl 1 rfl) ?_
      refine lv_iconst (v := 2) hx hb dX7_turn_100 (by decide) ?_
      refine lv_icmp_ge (tgt := 181) hx hb dX7_turn_101 (by decide) (fun c1062 => ?_) (fun c1062 => ?_)
      · skip
        have n1063 := mt (nx_lt (a := j99_1) (b := 2) (by omega) (by omega)).mpr (show ¬ (nI j99_1 < nI 2) from (Int32.not_lt.mpr c1062))
        refine lv_iconst (v := 0) hx hb dX7_turn_181 (by decide) ?_
        refine lv_istore_n (lv' := [(1, .int 0), (0, .ref (E.2.1 + 1076))]) hx hb dX7_turn_182 rfl hl (by decide) rfl (fun ls hl => ?_)
        exact b183_0 ls ρ _ _ _ 0 (lv_sub hl [1, 0] rfl) hP hS (TI_w hT (fun m a b => by omega) (fun m a b => by omega) (by omega) (by omega) (by omega)) (Nat.lt_succ_self _) (by omega) (by omega)
      · skip
        have n1064 := (nx_lt (a := j99_1) (b := 2) (by omega) (by omega)).mp (show (nI j99_1 < nI 2) from (Int32.not_le.mp c1062))
        refine lv_iconst (v := 0) hx hb dX7_turn_104 (by decide) ?_
        refine lv_istore_n (lv' := [(2, .int 0), (0, .ref (E.2.1 + 1076)), (1, .int (nI j99_1))]) hx hb dX7_turn_105 rfl hl (by decide) rfl (fun ls hl => ?_)
        exact b106_0 ls ρ _ _ _ 0 (lv_sub hl [1, 2, 0] rfl) hP hS (TI_w hT (fun m a b => by omega) (fun m a b => by omega) (by omega) (by omega) (by omega)) (Nat.lt_succ_self _) (by omega) (by omega) (by omega) (by omega)
  have b2_0 : ∀ (ls : Array Slot) (ρ : Nat → Nat → Int32) (H : Heap) (locs : List Loc) (d2 : Nat) (j2_1 : Nat), lv_has ls 5 [(0, .ref (E.2.1 + 1076)), (1, .int (nI j2_1))] → WP E ρ H → va_S (hA E) s.heap H locs → TI r Bt M L 0 0 0 0 0 2 0 ρ → 3 - j2_1 < d2 → 0 ≤ j2_1 → j2_1 ≤ 2 → W p l e (rmk 9 360) s m ([.ref (E.2.1 + 1076)] : List Value).toArray below meth c H locs 0 0 (MQ below (cV E (fun ρ1 => TI r (Bt + 2) M L 0 0 0 0 0 2 0 ρ1)) ([.ref (E.2.1 + 1076)] : List Value).toArray s 0 0 (hA E)) (F0 m 2 ls []) := by
    intro ls ρ H locs d2
    induction d2 generalizing ls ρ H locs with
    | zero => intro j2_1 hl hP hS hI hd2 lj2_1 uj2_1; exact absurd hd2 (Nat.not_lt_zero _)
    | succ d2 ih2 =>
      intro j2_1 hl hP hS hI hd2 lj2_1 uj2_1
      have b91_0 : ∀ (ls : Array Slot) (ρ : Nat → Nat → Int32) (H : Heap) (locs : List Loc) , lv_has ls 5 [(0, .ref (E.2.1 + 1076)), (1, .int (nI j2_1))] → WP E ρ H → va_S (hA E) s.heap H locs → TI r Bt M L 0 0 0 0 0 2 0 ρ → 0 ≤ j2_1 → j2_1 ≤ 1 → W p l e (rmk 9 360) s m ([.ref (E.2.1 + 1076)] : List Value).toArray below meth c H locs 0 0 (MQ below (cV E (fun ρ1 => TI r (Bt + 2) M L 0 0 0 0 0 2 0 ρ1)) ([.ref (E.2.1 + 1076)] : List Value).toArray s 0 0 (hA E)) (F0 m 91 ls []) := by
        intro ls ρ H locs  hl hP hS hI tlj2_1 tuj2_1
        have hT := hI
        have hI := TI_RI hT
        refine lv_iinc (v := (nI (1 + j2_1))) (lv' := [(1, .int (nI (1 + j2_1))), (0, .ref (E.2.1 + 1076))]) hx hb dX7_turn_91 hl (k := 1) rfl (show nI j2_1 + nI 1 = _ from (nI_add _ _).trans (congrArg nI (by omega))) (by decide) rfl (fun ls hl => ?_)
        refine lv_goto (tgt := 2) hx hb dX7_turn_94 (by decide) ?_
        exact ih2 ls ρ _ _ (1 + j2_1) (lv_sub hl [1, 0] rfl) hP hS (TI_w hT (fun m a b => by omega) (fun m a b => by omega) (by omega) (by omega) (by omega)) (by omega) (by omega) (by omega)
      have b14_0 : ∀ (ls : Array Slot) (ρ : Nat → Nat → Int32) (H : Heap) (locs : List Loc) (d14 : Nat) (x14_3 : Int32), lv_has ls 5 [(0, .ref (E.2.1 + 1076)), (1, .int (nI j2_1)), (2, .int (nI (42 + 326 * j2_1))), (3, .int x14_3)] → WP E ρ H → va_S (hA E) s.heap H locs → TI r Bt M L 0 0 0 0 0 2 0 ρ → (5 - x14_3.toInt).toNat < d14 → iR x14_3 (-1) (4) → 0 ≤ j2_1 → j2_1 ≤ 1 → W p l e (rmk 9 360) s m ([.ref (E.2.1 + 1076)] : List Value).toArray below meth c H locs 0 0 (MQ below (cV E (fun ρ1 => TI r (Bt + 2) M L 0 0 0 0 0 2 0 ρ1)) ([.ref (E.2.1 + 1076)] : List Value).toArray s 0 0 (hA E)) (F0 m 14 ls []) := by
        intro ls ρ H locs d14
        induction d14 generalizing ls ρ H locs with
        | zero => intro x14_3 hl hP hS hI hd14 hx14_3 tlj2_1 tuj2_1; exact absurd hd14 (Nat.not_lt_zero _)
        | succ d14 ih14 =>
          intro x14_3 hl hP hS hI hd14 hx14_3 tlj2_1 tuj2_1
          have hT := hI
          have hI := TI_RI hT
          refine lv_aload_n hx hb dX7_turn_14 rfl (lv_at hl 0 rfl) ?_
          refine lv_iload_n hx hb dX7_turn_15 rfl (lv_at hl 1 rfl) ?_
          refine call_i (cVt (k := 1076) (av := [.int (nI j2_1)]) (rest := []) B hP hS (d_X7_isNet l E ρ ρ Bt hBt M L (XT 0 0 0 0 (ρ 1084) (ρ 1087)) (nI j2_1) hI) lk_RX7_78 (hrecv (ci := 7) B hP (hk_lt (c := 7) (show hk 1076 = 7 by decide +kernel) (by decide)) (hcc7 _ _ (show hk 1076 = 7 by decide +kernel)) rfl) rfl rfl hl.1 (Nat.le_of_ble_eq_true rfl) ⟨Nat.le_of_ble_eq_true rfl, Nat.le_of_ble_eq_true rfl⟩ ⟨Nat.le_of_ble_eq_true rfl, Nat.le_of_ble_eq_true rfl⟩ dX7_turn_16) hS (fun r1065 ρ1066 H locs q1067 hP hS => ?_)
          obtain ⟨rfl, -, q1067⟩ := q1067
          rcases q1067 with rfl | ⟨rfl, j1069, hj1069, ej1069, i1070⟩
          · skip
            refine lv_if_eq (tgt := 91) hx hb dX7_turn_19 (by decide) (fun _ => ?_) (fun c1071 => absurd rfl c1071)
            exact b91_0 ls ρ _ _  (lv_sub hl [0, 1] rfl) hP hS (TI_w hT (fun m a b => by omega) (fun m a b => by omega) (by omega) (by omega) (by omega)) (by omega) (by omega)
          · skip
            have n1072 : j2_1 = j1069 := (nI_eq (by omega) (by omega)).mp (show nI j2_1 = nI j1069 from ej1069)
            have i1073 : iR (M j2_1) 0 5 := by rw [n1072]; exact i1070
            refine lv_if_eq (tgt := 91) hx hb dX7_turn_19 (by decide) (fun c1074 => absurd c1074 (iR_ne (show iR 1 (1) (1) from ⟨by decide, by decide⟩) (show iR 0 (0) (0) from ⟨by decide, by decide⟩) (by decide))) (fun _ => ?_)
            refine lv_iload_n hx hb dX7_turn_22 rfl (lv_at hl 3 rfl) ?_
            refine lv_aload_n hx hb dX7_turn_23 rfl (lv_at hl 0 rfl) ?_
            refine get7 B hP (show hk 1076 = 7 by decide +kernel) 3 (by decide) mw_1030 rfl dX7_turn_24 ?_
            refine lv_iload_n hx hb dX7_turn_27 rfl (lv_at hl 2 rfl) ?_
            refine lv_bipush (v := 6) hx hb dX7_turn_28 (by decide) ?_
            refine lv_iadd hx hb dX7_turn_30 ?_
            refine lv_topi (fun z1075 ez1075 => ?_)
            obtain rfl : z1075 = (nI (48 + 326 * j2_1)) := ez1075.trans (by rw [show (nI (42 + 326 * j2_1)) = nI (42 + 326 * j2_1) from rfl, show 6 = nI 6 from rfl, nI_add] <;> exact congrArg nI (by omega))
            have := RI_Lb (n := j2_1) hI (by omega)
            refine aldf (n := 695) (j := (48 + 326 * j2_1)) (v := (nI (L j2_1))) B hP (show hk 1078 = 8 by decide +kernel) (show hlen 1078 = 695 by decide +kernel) rfl (by omega) (by decide) (g_l (n0 := j2_1) hI (by omega) (by omega)) dX7_turn_31 ?_
            refine lv_icmp_ge (tgt := 91) hx hb dX7_turn_32 (by decide) (fun c1076 => ?_) (fun c1076 => ?_)
            · skip
              have i1077 : iR x14_3 (0) (4) := (iR_geL hx14_3 (nI_iR (j := (L j2_1)) (a := 0) (b := 4) (by omega) (by omega) (by omega)) (Int32.not_lt.mpr c1076) (by decide))
              exact b91_0 ls ρ _ _  (lv_sub hl [0, 1] rfl) hP hS (TI_w hT (fun m a b => by omega) (fun m a b => by omega) (by omega) (by omega) (by omega)) (by omega) (by omega)
            · skip
              have i1078 : iR x14_3 (-1) (3) := (iR_ltL hx14_3 (nI_iR (j := (L j2_1)) (a := 0) (b := 4) (by omega) (by omega) (by omega)) (Int32.not_le.mp c1076) (by decide))
              have i1079 : iR x14_3 (-1) ((L j2_1 : Int) - 1) := rl_cmp (iR_w (a := -1) (b := 3) (b' := 3) i1078 (by decide) (by decide)) (by omega) (Int32.not_le.mp c1076)
              refine lv_iload_n hx hb dX7_turn_35 rfl (lv_at hl 3 rfl) ?_
              refine lv_iconst (v := (-1)) hx hb dX7_turn_36 (by decide) ?_
              refine lv_icmp_ne (tgt := 46) hx hb dX7_turn_37 (by decide) (fun c1080 => ?_) (fun c1080 => ?_)
              · skip
                have i1081 : iR x14_3 (0) (3) := (iR_neL i1078 (show iR (-1) (-1) (-1) from ⟨by decide, by decide⟩) c1080 (by decide) (by decide))
                refine lv_iload_n hx hb dX7_turn_46 rfl (lv_at hl 1 rfl) ?_
                refine lv_iload_n hx hb dX7_turn_47 rfl (lv_at hl 3 rfl) ?_
                obtain ⟨j1082, lj1082, uj1082, ej1082⟩ := iR_nat (a := 0) (b := 3) i1081
                refine lv_topi (fun z1083 ez1083 => ?_)
                obtain rfl : z1083 = nI j1082 := ez1083.trans ej1082
                have : j1082 < L j2_1 := rl_lt i1079 ej1082 (by omega)
                refine call_i (cS (av := [.int (nI j2_1), .int (nI j1082)]) (rest := []) B hP hS (d_X7_linkAt l E ρ ρ Bt hBt M L (XT 0 0 0 0 (ρ 1084) (ρ 1087)) j2_1 (by omega) (by omega) j1082 (by omega) (by omega) hI) lk_RX7_82 rfl rfl hl.1 (Nat.le_of_ble_eq_true rfl) ⟨Nat.le_of_ble_eq_true rfl, Nat.le_of_ble_eq_true rfl⟩ ⟨Nat.le_of_ble_eq_true rfl, Nat.le_of_ble_eq_true rfl⟩ dX7_turn_48) hS (fun r1084 ρ1085 H locs q1086 hP hS => ?_)
                obtain ⟨rfl, -, q1086⟩ := q1086
                obtain rfl : r1084 = nI (104 + 326 * j2_1 + 66 * j1082) := q1086.trans (congrArg nI (by omega))
                refine lv_iconst (v := 2) hx hb dX7_turn_51 (by decide) ?_
                refine lv_iadd hx hb dX7_turn_52 ?_
                refine lv_topi (fun z1088 ez1088 => ?_)
                obtain rfl : z1088 = (nI (106 + 326 * j2_1 + 66 * j1082)) := ez1088.trans (by rw [show (nI (104 + 326 * j2_1 + 66 * j1082)) = nI (104 + 326 * j2_1 + 66 * j1082) from rfl, show 2 = nI 2 from rfl, nI_add] <;> exact congrArg nI (by omega))
                refine lv_istore (lv' := [(4, .int (nI (106 + 326 * j2_1 + 66 * j1082))), (0, .ref (E.2.1 + 1076)), (1, .int (nI j2_1)), (2, .int (nI (42 + 326 * j2_1))), (3, .int x14_3)]) hx hb dX7_turn_53 hl (by decide) rfl (fun ls hl => ?_)
                refine lv_aload_n hx hb dX7_turn_55 rfl (lv_at hl 1 rfl) ?_
                refine lv_iload hx hb dX7_turn_56 (lv_at hl 0 rfl) ?_
                refine lv_iload hx hb dX7_turn_58 (lv_at hl 0 rfl) ?_
                refine lv_iconst (v := 1) hx hb dX7_turn_60 (by decide) ?_
                refine lv_iadd hx hb dX7_turn_61 ?_
                refine lv_topi (fun z1089 ez1089 => ?_)
                obtain rfl : z1089 = (nI (107 + 326 * j2_1 + 66 * j1082)) := ez1089.trans (by rw [show (nI (106 + 326 * j2_1 + 66 * j1082)) = nI (106 + 326 * j2_1 + 66 * j1082) from rfl, show 1 = nI 1 from rfl, nI_add] <;> exact congrArg nI (by omega))
                refine lv_iload hx hb dX7_turn_62 (lv_at hl 0 rfl) ?_
                refine lv_iconst (v := 1) hx hb dX7_turn_64 (by decide) ?_
                refine lv_isub hx hb dX7_turn_65 ?_
                refine lv_topi (fun z1090 ez1090 => ?_)
                obtain rfl : z1090 = (nI (105 + 326 * j2_1 + 66 * j1082)) := ez1090.trans (nI_subE (a := (106 + 326 * j2_1 + 66 * j1082)) (b := 1) (q := (105 + 326 * j2_1 + 66 * j1082)) (by omega))
                refine lv_iload_n hx hb dX7_turn_66 rfl (lv_at hl 4 rfl) ?_
                refine lv_topi (fun z1091 ez1091 => ?_)
                obtain rfl : z1091 = nI j1082 := ez1091.trans ej1082
                refine lv_iconst (v := (-1)) hx hb dX7_turn_67 (by decide) ?_
                refine lv_icmp_ne (tgt := 78) hx hb dX7_turn_68 (by decide) (fun _ => ?_) (fun c1092 => absurd c1092 (iR_ne (nI_iR (j := j1082) (a := 0) (b := 3) (by omega) (by omega) (by omega)) (show iR (-1) (-1) (-1) from ⟨by decide, by decide⟩) (by decide)))
                refine lv_iload hx hb dX7_turn_78 (lv_at hl 0 rfl) ?_
                refine lv_iconst (v := 1) hx hb dX7_turn_80 (by decide) ?_
                refine lv_isub hx hb dX7_turn_81 ?_
                refine lv_topi (fun z1093 ez1093 => ?_)
                obtain rfl : z1093 = (nI (105 + 326 * j2_1 + 66 * j1082)) := ez1093.trans (nI_subE (a := (106 + 326 * j2_1 + 66 * j1082)) (b := 1) (q := (105 + 326 * j2_1 + 66 * j1082)) (by omega))
                refine call_v (cVt (k := 1076) (av := [.int (nI (106 + 326 * j2_1 + 66 * j1082)), .int (nI (107 + 326 * j2_1 + 66 * j1082)), .int (nI (105 + 326 * j2_1 + 66 * j1082)), .int (nI (105 + 326 * j2_1 + 66 * j1082))]) (rest := []) B hP hS (d_X7_mapsBecomeL l E ρ ρ Bt hBt M L (XT 0 0 0 0 (ρ 1084) (ρ 1087)) j2_1 (by omega) j1082 (by omega) hI (by omega)) lk_RX7_218 (hrecv (ci := 7) B hP (hk_lt (c := 7) (show hk 1076 = 7 by decide +kernel) (by decide)) (hcc7 _ _ (show hk 1076 = 7 by decide +kernel)) rfl) rfl rfl hl.1 (Nat.le_of_ble_eq_true rfl) ⟨Nat.le_of_ble_eq_true rfl, Nat.le_of_ble_eq_true rfl⟩ ⟨Nat.le_of_ble_eq_true rfl, Nat.le_of_ble_eq_true rfl⟩ dX7_turn_82) hS (fun ρ1095 H locs q1096 hP hS => ?_)
                have hR1097 := q1096
                have hT := TI_back hT hR1097
                have hI := TI_RI hT
                have m1098 := iI_dec (m := 1) (n := 1) i1081 rfl (by decide) (by decide)
                refine lv_iinc (v := (x14_3 + 1)) (lv' := [(3, .int (x14_3 + 1)), (4, .int (nI (106 + 326 * j2_1 + 66 * j1082))), (0, .ref (E.2.1 + 1076)), (1, .int (nI j2_1)), (2, .int (nI (42 + 326 * j2_1)))]) hx hb dX7_turn_85 hl (k := 4) rfl rfl (by decide) rfl (fun ls hl => ?_)
                refine lv_goto (tgt := 14) hx hb dX7_turn_88 (by decide) ?_
                exact ih14 ls ρ1095 _ _ ((x14_3 + 1) : Int32) (lv_sub hl [2, 3, 4, 0] rfl) hP hS (TI_w hT (fun m a b => by omega) (fun m a b => by omega) (by omega) (by omega) (by omega)) (by omega) (iR_w (iR_add (a' := 1) (b' := 4) i1081 (show iR 1 (1) (1) from ⟨by decide, by decide⟩) (by decide) (by decide) (by decide) (by decide)) (by decide) (by decide)) (by omega) (by omega)
              · skip
                have i1099 : iR x14_3 (-1) (-1) := (by rw [c1080]; exact ⟨by decide, by decide⟩)
                refine lv_iload_n hx hb dX7_turn_40 rfl (lv_at hl 2 rfl) ?_
                refine lv_iconst (v := 3) hx hb dX7_turn_41 (by decide) ?_
                refine lv_iadd hx hb dX7_turn_42 ?_
                refine lv_topi (fun z1100 ez1100 => ?_)
                obtain rfl : z1100 = (nI (45 + 326 * j2_1)) := ez1100.trans (by rw [show (nI (42 + 326 * j2_1)) = nI (42 + 326 * j2_1) from rfl, show 3 = nI 3 from rfl, nI_add] <;> exact congrArg nI (by omega))
                refine lv_goto (tgt := 53) hx hb dX7_turn_43 (by decide) ?_
                refine lv_istore (lv' := [(4, .int (nI (45 + 326 * j2_1))), (0, .ref (E.2.1 + 1076)), (1, .int (nI j2_1)), (2, .int (nI (42 + 326 * j2_1))), (3, .int x14_3)]) hx hb dX7_turn_53 hl (by decide) rfl (fun ls hl => ?_)
                refine lv_aload_n hx hb dX7_turn_55 rfl (lv_at hl 1 rfl) ?_
                refine lv_iload hx hb dX7_turn_56 (lv_at hl 0 rfl) ?_
                refine lv_iload hx hb dX7_turn_58 (lv_at hl 0 rfl) ?_
                refine lv_iconst (v := 1) hx hb dX7_turn_60 (by decide) ?_
                refine lv_iadd hx hb dX7_turn_61 ?_
                refine lv_topi (fun z1101 ez1101 => ?_)
                obtain rfl : z1101 = (nI (46 + 326 * j2_1)) := ez1101.trans (by rw [show (nI (45 + 326 * j2_1)) = nI (45 + 326 * j2_1) from rfl, show 1 = nI 1 from rfl, nI_add] <;> exact congrArg nI (by omega))
                refine lv_iload hx hb dX7_turn_62 (lv_at hl 0 rfl) ?_
                refine lv_iconst (v := 1) hx hb dX7_turn_64 (by decide) ?_
                refine lv_isub hx hb dX7_turn_65 ?_
                refine lv_topi (fun z1102 ez1102 => ?_)
                obtain rfl : z1102 = (nI (44 + 326 * j2_1)) := ez1102.trans (nI_subE (a := (45 + 326 * j2_1)) (b := 1) (q := (44 + 326 * j2_1)) (by omega))
                refine lv_iload_n hx hb dX7_turn_66 rfl (lv_at hl 4 rfl) ?_
                refine lv_iconst (v := (-1)) hx hb dX7_turn_67 (by decide) ?_
                refine lv_icmp_ne (tgt := 78) hx hb dX7_turn_68 (by decide) (fun c1103 => absurd (iR_is i1099 rfl) c1103) (fun _ => ?_)
                refine lv_iload_n hx hb dX7_turn_71 rfl (lv_at hl 3 rfl) ?_
                refine lv_bipush (v := 7) hx hb dX7_turn_72 (by decide) ?_
                refine lv_iadd hx hb dX7_turn_74 ?_
                refine lv_topi (fun z1104 ez1104 => ?_)
                obtain rfl : z1104 = (nI (49 + 326 * j2_1)) := ez1104.trans (by rw [show (nI (42 + 326 * j2_1)) = nI (42 + 326 * j2_1) from rfl, show 7 = nI 7 from rfl, nI_add] <;> exact congrArg nI (by omega))
                refine lv_goto (tgt := 82) hx hb dX7_turn_75 (by decide) ?_
                refine call_v (cVt (k := 1076) (av := [.int (nI (45 + 326 * j2_1)), .int (nI (46 + 326 * j2_1)), .int (nI (44 + 326 * j2_1)), .int (nI (49 + 326 * j2_1))]) (rest := []) B hP hS (d_X7_mapsBecomeN l E ρ ρ Bt hBt M L (XT 0 0 0 0 (ρ 1084) (ρ 1087)) j2_1 (by omega) hI i1073) lk_RX7_218 (hrecv (ci := 7) B hP (hk_lt (c := 7) (show hk 1076 = 7 by decide +kernel) (by decide)) (hcc7 _ _ (show hk 1076 = 7 by decide +kernel)) rfl) rfl rfl hl.1 (Nat.le_of_ble_eq_true rfl) ⟨Nat.le_of_ble_eq_true rfl, Nat.le_of_ble_eq_true rfl⟩ ⟨Nat.le_of_ble_eq_true rfl, Nat.le_of_ble_eq_true rfl⟩ dX7_turn_82) hS (fun ρ1106 H locs q1107 hP hS => ?_)
                have hR1108 := q1107
                have hT := TI_back hT hR1108
                have hI := TI_RI hT
                have m1109 := iI_dec (m := 1) (n := 1) i1099 rfl (by decide) (by decide)
                refine lv_iinc (v := (x14_3 + 1)) (lv' := [(3, .int (x14_3 + 1)), (4, .int (nI (45 + 326 * j2_1))), (0, .ref (E.2.1 + 1076)), (1, .int (nI j2_1)), (2, .int (nI (42 + 326 * j2_1)))]) hx hb dX7_turn_85 hl (k := 4) rfl rfl (by decide) rfl (fun ls hl => ?_)
                refine lv_goto (tgt := 14) hx hb dX7_turn_88 (by decide) ?_
                exact ih14 ls ρ1106 _ _ ((x14_3 + 1) : Int32) (lv_sub hl [2, 3, 4, 0] rfl) hP hS (TI_w hT (fun m a b => by omega) (fun m a b => by omega) (by omega) (by omega) (by omega)) (by omega) (iR_w (iR_add (a' := 0) (b' := 0) i1099 (show iR 1 (1) (1) from ⟨by decide, by decide⟩) (by decide) (by decide) (by decide) (by decide)) (by decide) (by decide)) (by omega) (by omega)
      have hT := hI
      have hI := TI_RI hT
      refine lv_iload_n hx hb dX7_turn_2 rfl (lv_at hl 1 rfl) ?_
      refine lv_iconst (v := 2) hx hb dX7_turn_3 (by decide) ?_
      refine lv_icmp_ge (tgt := 97) hx hb dX7_turn_4 (by decide) (fun c1110 => ?_) (fun c1110 => ?_)
      · skip
        have n1111 := mt (nx_lt (a := j2_1) (b := 2) (by omega) (by omega)).mpr (show ¬ (nI j2_1 < nI 2) from (Int32.not_lt.mpr c1110))
        refine lv_iconst (v := 0) hx hb dX7_turn_97 (by decide) ?_
        refine lv_istore_n (lv' := [(1, .int 0), (0, .ref (E.2.1 + 1076))]) hx hb dX7_turn_98 rfl hl (by decide) rfl (fun ls hl => ?_)
        exact b99_0 ls ρ _ _ _ 0 (lv_sub hl [1, 0] rfl) hP hS (TI_w hT (fun m a b => by omega) (fun m a b => by omega) (by omega) (by omega) (by omega)) (Nat.lt_succ_self _) (by omega) (by omega)
      · skip
        have n1112 := (nx_lt (a := j2_1) (b := 2) (by omega) (by omega)).mp (show (nI j2_1 < nI 2) from (Int32.not_le.mp c1110))
        refine lv_iload_n hx hb dX7_turn_7 rfl (lv_at hl 1 rfl) ?_
        refine call_i (cS (av := [.int (nI j2_1)]) (rest := []) B hP hS (d_X7_netAt l E ρ ρ Bt hBt M L (XT 0 0 0 0 (ρ 1084) (ρ 1087)) j2_1 (by omega) (by omega) hI) lk_RX7_75 rfl rfl hl.1 (Nat.le_of_ble_eq_true rfl) ⟨Nat.le_of_ble_eq_true rfl, Nat.le_of_ble_eq_true rfl⟩ ⟨Nat.le_of_ble_eq_true rfl, Nat.le_of_ble_eq_true rfl⟩ dX7_turn_8) hS (fun r1113 ρ1114 H locs q1115 hP hS => ?_)
        obtain ⟨rfl, -, q1115⟩ := q1115
        obtain rfl : r1113 = nI (42 + 326 * j2_1) := q1115.trans (congrArg nI (by omega))
        refine lv_istore_n (lv' := [(2, .int (nI (42 + 326 * j2_1))), (0, .ref (E.2.1 + 1076)), (1, .int (nI j2_1))]) hx hb dX7_turn_11 rfl hl (by decide) rfl (fun ls hl => ?_)
        refine lv_iconst (v := (-1)) hx hb dX7_turn_12 (by decide) ?_
        refine lv_istore_n (lv' := [(3, .int (-1)), (2, .int (nI (42 + 326 * j2_1))), (0, .ref (E.2.1 + 1076)), (1, .int (nI j2_1))]) hx hb dX7_turn_13 rfl hl (by decide) rfl (fun ls hl => ?_)
        exact b14_0 ls ρ _ _ _ ((-1) : Int32) (lv_sub hl [2, 3, 1, 0] rfl) hP hS (TI_w hT (fun m a b => by omega) (fun m a b => by omega) (by omega) (by omega) (by omega)) (Nat.lt_succ_self _) (iR_w (show iR (-1) (-1) (-1) from ⟨by decide, by decide⟩) (by decide) (by decide)) (by omega) (by omega)
  refine lv_iconst (v := 0) hx hb dX7_turn_0 (by decide) ?_
  refine lv_istore_n (lv' := [(1, .int 0), (0, .ref (E.2.1 + 1076))]) hx hb dX7_turn_1 rfl hl (by decide) rfl (fun ls hl => ?_)
  exact b2_0 ls ρ _ _ _ 0 (lv_sub hl [1, 0] rfl) hP hS (TI_w hT (fun m a b => by omega) (fun m a b => by omega) (by omega) (by omega) (by omega)) (Nat.lt_succ_self _) (by omega) (by omega)

theorem lk_RX7_236 : LkV RX7 236 RX7 yX7_turn cX7_turn 5 none 0 := ⟨⟨mw_1261, mw_1263, mw_23, mw_59, mw_1264⟩, by decide +kernel⟩
set_option maxHeartbeats 4000000 in
set_option maxRecDepth 100000 in
theorem d_X7_turnsBy (l : Launch) (E : hE) (ρ r : Nat → Nat → Int32) (Bt : Nat) (hBt : Bt ≤ 1000000) (M : Nat → Int32) (L : Nat → Nat) (na1 : Nat) (lna1 : 0 ≤ na1) (una1 : na1 ≤ 400) (hI : TI r Bt M L 0 0 0 0 0 2 0 ρ) (hB2 : Bt + 2 * na1 ≤ 1000000) : Met l yX7_turnsBy (.code yX7_turnsBy cX7_turnsBy 3 none :: gw_all) (rmk 10 400) (cPre E ρ [.ref (E.2.1 + 1076), .int (nI na1)]) (cV E (fun ρ1 => TI r (Bt + 2 * na1) M L 0 0 0 0 0 2 0 ρ1)) 0 0 (hA E) := by
  refine ent (own := RX7) (by decide) rfl (Nat.le_of_ble_eq_true rfl) ?_
  intro p e s m below meth c ls B hr hlk hl hP hS
  have hx := B.1.1
  have hb := B.1.2.1
  have hown := B.1.2.2.2.1
  have hts := B.1.2.2.2.2
  have hl : lv_has ls 3 [(0, .ref (E.2.1 + 1076)), (1, .int (nI na1))] := hl
  have hT := hI
  have hI := TI_RI hT
  have b12_0 : ∀ (ls : Array Slot) (ρ : Nat → Nat → Int32) (H : Heap) (locs : List Loc) (d12 : Nat) (j12_2 : Nat), lv_has ls 3 [(0, .ref (E.2.1 + 1076)), (1, .int (nI na1)), (2, .int (nI j12_2))] → WP E ρ H → va_S (hA E) s.heap H locs → TI r (Bt + 2 * j12_2) M L 0 0 0 0 0 2 0 ρ → 513 - j12_2 < d12 → 0 ≤ j12_2 → j12_2 ≤ 512 → 0 ≤ na1 → na1 ≤ 400 → j12_2 ≤ na1 → W p l e (rmk 10 400) s m ([.ref (E.2.1 + 1076), .int (nI na1)] : List Value).toArray below meth c H locs 0 0 (MQ below (cV E (fun ρ1 => TI r (Bt + 2 * na1) M L 0 0 0 0 0 2 0 ρ1)) ([.ref (E.2.1 + 1076), .int (nI na1)] : List Value).toArray s 0 0 (hA E)) (F0 m 12 ls []) := by
    intro ls ρ H locs d12
    induction d12 generalizing ls ρ H locs with
    | zero => intro j12_2 hl hP hS hI hd12 lj12_2 uj12_2 tlna1 tuna1 hxh; exact absurd hd12 (Nat.not_lt_zero _)
    | succ d12 ih12 =>
      intro j12_2 hl hP hS hI hd12 lj12_2 uj12_2 tlna1 tuna1 hxh
      have hT := hI
      have hI := TI_RI hT
      refine lv_iload_n hx hb dX7_turnsBy_12 rfl (lv_at hl 2 rfl) ?_
      refine lv_iload_n hx hb dX7_turnsBy_13 rfl (lv_at hl 1 rfl) ?_
      refine lv_icmp_ge (tgt := 27) hx hb dX7_turnsBy_14 (by decide) (fun c125 => ?_) (fun c125 => ?_)
      · skip
        have n126 := mt (nx_lt (a := j12_2) (b := na1) (by omega) (by omega)).mpr (show ¬ (nI j12_2 < nI na1) from (Int32.not_lt.mpr c125))
        exact ret_v B hr hlk hP hS dX7_turnsBy_27 (TI_B (by omega) (TI_w hT (fun m a b => by omega) (fun m a b => by omega) (by omega) (by omega) (by omega)))
      · skip
        have n127 := (nx_lt (a := j12_2) (b := na1) (by omega) (by omega)).mp (show (nI j12_2 < nI na1) from (Int32.not_le.mp c125))
        refine lv_aload_n hx hb dX7_turnsBy_17 rfl (lv_at hl 0 rfl) ?_
        refine call_v (cVt (k := 1076) (av := []) (rest := []) B hP hS (d_X7_turn l E ρ r (Bt + 2 * j12_2) (by omega) M L (TI_w hT (fun m a b => by omega) (fun m a b => by omega) (by omega) (by omega) (by omega))) lk_RX7_236 (hrecv (ci := 7) B hP (hk_lt (c := 7) (show hk 1076 = 7 by decide +kernel) (by decide)) (hcc7 _ _ (show hk 1076 = 7 by decide +kernel)) rfl) rfl rfl hl.1 (Nat.le_of_ble_eq_true rfl) ⟨Nat.le_of_ble_eq_true rfl, Nat.le_of_ble_eq_true rfl⟩ ⟨Nat.le_of_ble_eq_true rfl, Nat.le_of_ble_eq_true rfl⟩ dX7_turnsBy_18) hS (fun ρ129 H locs q130 hP hS => ?_)
        have hT := q130
        have hI := TI_RI hT
        refine lv_iinc (v := (nI (1 + j12_2))) (lv' := [(2, .int (nI (1 + j12_2))), (0, .ref (E.2.1 + 1076)), (1, .int (nI na1))]) hx hb dX7_turnsBy_21 hl (k := 2) rfl (show nI j12_2 + nI 1 = _ from (nI_add _ _).trans (congrArg nI (by omega))) (by decide) rfl (fun ls hl => ?_)
        refine lv_goto (tgt := 12) hx hb dX7_turnsBy_24 (by decide) ?_
        exact ih12 ls ρ129 _ _ (1 + j12_2) (lv_sub hl [1, 2, 0] rfl) hP hS (TI_B (by omega) (TI_w hT (fun m a b => by omega) (fun m a b => by omega) (by omega) (by omega) (by omega))) (by omega) (by omega) (by omega) (by omega) (by omega) (by omega)
  refine lv_aload_n hx hb dX7_turnsBy_0 rfl (lv_at hl 0 rfl) ?_
  refine lv_iconst (v := 0) hx hb dX7_turnsBy_1 (by decide) ?_
  refine put7 B hP hS (show hk 1076 = 7 by decide +kernel) 16 (by decide) mw_1043 rfl rfl rfl (fs7_16 E 1076 _ _) dX7_turnsBy_2 (fun H locs hP hS => ?_)
  obtain ⟨ρ131, e132⟩ : ∃ z, z = up ρ 1076 16 0 := ⟨_, rfl⟩
  rw [← e132] at hP
  have hT : TI r Bt M L 0 0 0 0 0 2 0 ρ131 := by rw [e132]; exact TI_back hT (RI_76 hI (by decide))
  have hI := TI_RI hT
  refine lv_aload_n hx hb dX7_turnsBy_5 rfl (lv_at hl 0 rfl) ?_
  refine lv_iconst (v := 0) hx hb dX7_turnsBy_6 (by decide) ?_
  refine put7 B hP hS (show hk 1076 = 7 by decide +kernel) 17 (by decide) mw_1044 rfl rfl rfl (fs7_17 E 1076 _ _) dX7_turnsBy_7 (fun H locs hP hS => ?_)
  obtain ⟨ρ133, e134⟩ : ∃ z, z = up ρ131 1076 17 0 := ⟨_, rfl⟩
  rw [← e134] at hP
  have hT : TI r Bt M L 0 0 0 0 0 2 0 ρ133 := by rw [e134]; exact TI_back hT (RI_76 hI (by decide))
  have hI := TI_RI hT
  refine lv_iconst (v := 0) hx hb dX7_turnsBy_10 (by decide) ?_
  refine lv_istore_n (lv' := [(2, .int 0), (0, .ref (E.2.1 + 1076)), (1, .int (nI na1))]) hx hb dX7_turnsBy_11 rfl hl (by decide) rfl (fun ls hl => ?_)
  exact b12_0 ls ρ133 _ _ _ 0 (lv_sub hl [1, 2, 0] rfl) hP hS (TI_B (by omega) (TI_w hT (fun m a b => by omega) (fun m a b => by omega) (by omega) (by omega) (by omega))) (Nat.lt_succ_self _) (by omega) (by omega) (by omega) (by omega) (by omega)
