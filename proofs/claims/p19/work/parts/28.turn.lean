theorem dX7_sendsDown_0 : decode cX7_sendsDown 0 = .ok (.iconst 0, 1) := by decide +kernel
theorem dX7_sendsDown_1 : decode cX7_sendsDown 1 = .ok (.istore_n 1, 1) := by decide +kernel
theorem dX7_sendsDown_2 : decode cX7_sendsDown 2 = .ok (.iload_n 1, 1) := by decide +kernel
theorem dX7_sendsDown_3 : decode cX7_sendsDown 3 = .ok (.iconst 2, 1) := by decide +kernel
theorem dX7_sendsDown_4 : decode cX7_sendsDown 4 = .ok (.if_icmp .ge 67, 3) := by decide +kernel
theorem dX7_sendsDown_7 : decode cX7_sendsDown 7 = .ok (.aload_n 0, 1) := by decide +kernel
theorem dX7_sendsDown_8 : decode cX7_sendsDown 8 = .ok (.getfield 35, 3) := by decide +kernel
theorem dX7_sendsDown_11 : decode cX7_sendsDown 11 = .ok (.iload_n 1, 1) := by decide +kernel
theorem dX7_sendsDown_12 : decode cX7_sendsDown 12 = .ok (.aload_n 0, 1) := by decide +kernel
theorem dX7_sendsDown_13 : decode cX7_sendsDown 13 = .ok (.getfield 32, 3) := by decide +kernel
theorem dX7_sendsDown_16 : decode cX7_sendsDown 16 = .ok (.iload_n 1, 1) := by decide +kernel
theorem dX7_sendsDown_17 : decode cX7_sendsDown 17 = .ok (.iaload, 1) := by decide +kernel
theorem dX7_sendsDown_18 : decode cX7_sendsDown 18 = .ok (.iconst (-1), 1) := by decide +kernel
theorem dX7_sendsDown_19 : decode cX7_sendsDown 19 = .ok (.if_icmp .ne 9, 3) := by decide +kernel
theorem dX7_sendsDown_22 : decode cX7_sendsDown 22 = .ok (.iconst (-1), 1) := by decide +kernel
theorem dX7_sendsDown_23 : decode cX7_sendsDown 23 = .ok (.iload_n 1, 1) := by decide +kernel
theorem dX7_sendsDown_24 : decode cX7_sendsDown 24 = .ok (.isub, 1) := by decide +kernel
theorem dX7_sendsDown_25 : decode cX7_sendsDown 25 = .ok (.goto 20, 3) := by decide +kernel
theorem dX7_sendsDown_28 : decode cX7_sendsDown 28 = .ok (.aload_n 0, 1) := by decide +kernel
theorem dX7_sendsDown_29 : decode cX7_sendsDown 29 = .ok (.iload_n 1, 1) := by decide +kernel
theorem dX7_sendsDown_30 : decode cX7_sendsDown 30 = .ok (.aload_n 0, 1) := by decide +kernel
theorem dX7_sendsDown_31 : decode cX7_sendsDown 31 = .ok (.getfield 13, 3) := by decide +kernel
theorem dX7_sendsDown_34 : decode cX7_sendsDown 34 = .ok (.bipush 7, 2) := by decide +kernel
theorem dX7_sendsDown_36 : decode cX7_sendsDown 36 = .ok (.iaload, 1) := by decide +kernel
theorem dX7_sendsDown_37 : decode cX7_sendsDown 37 = .ok (.aload_n 0, 1) := by decide +kernel
theorem dX7_sendsDown_38 : decode cX7_sendsDown 38 = .ok (.iload_n 1, 1) := by decide +kernel
theorem dX7_sendsDown_39 : decode cX7_sendsDown 39 = .ok (.invokevirtual 196, 3) := by decide +kernel
theorem dX7_sendsDown_42 : decode cX7_sendsDown 42 = .ok (.invokevirtual 114, 3) := by decide +kernel
theorem dX7_sendsDown_45 : decode cX7_sendsDown 45 = .ok (.iastore, 1) := by decide +kernel
theorem dX7_sendsDown_46 : decode cX7_sendsDown 46 = .ok (.aload_n 0, 1) := by decide +kernel
theorem dX7_sendsDown_47 : decode cX7_sendsDown 47 = .ok (.getfield 38, 3) := by decide +kernel
theorem dX7_sendsDown_50 : decode cX7_sendsDown 50 = .ok (.iload_n 1, 1) := by decide +kernel
theorem dX7_sendsDown_51 : decode cX7_sendsDown 51 = .ok (.aload_n 0, 1) := by decide +kernel
theorem dX7_sendsDown_52 : decode cX7_sendsDown 52 = .ok (.getfield 35, 3) := by decide +kernel
theorem dX7_sendsDown_55 : decode cX7_sendsDown 55 = .ok (.iload_n 1, 1) := by decide +kernel
theorem dX7_sendsDown_56 : decode cX7_sendsDown 56 = .ok (.iaload, 1) := by decide +kernel
theorem dX7_sendsDown_57 : decode cX7_sendsDown 57 = .ok (.iastore, 1) := by decide +kernel
theorem dX7_sendsDown_58 : decode cX7_sendsDown 58 = .ok (.aload_n 0, 1) := by decide +kernel
theorem dX7_sendsDown_59 : decode cX7_sendsDown 59 = .ok (.getfield 47, 3) := by decide +kernel
theorem dX7_sendsDown_62 : decode cX7_sendsDown 62 = .ok (.iload_n 1, 1) := by decide +kernel
theorem dX7_sendsDown_63 : decode cX7_sendsDown 63 = .ok (.iconst 0, 1) := by decide +kernel
theorem dX7_sendsDown_64 : decode cX7_sendsDown 64 = .ok (.bastore, 1) := by decide +kernel
theorem dX7_sendsDown_65 : decode cX7_sendsDown 65 = .ok (.iinc 1 1, 3) := by decide +kernel
theorem dX7_sendsDown_68 : decode cX7_sendsDown 68 = .ok (.goto (-66), 3) := by decide +kernel
theorem dX7_sendsDown_71 : decode cX7_sendsDown 71 = .ok (.iconst 0, 1) := by decide +kernel
theorem dX7_sendsDown_72 : decode cX7_sendsDown 72 = .ok (.istore_n 1, 1) := by decide +kernel
theorem dX7_sendsDown_73 : decode cX7_sendsDown 73 = .ok (.iload_n 1, 1) := by decide +kernel
theorem dX7_sendsDown_74 : decode cX7_sendsDown 74 = .ok (.iconst 2, 1) := by decide +kernel
theorem dX7_sendsDown_75 : decode cX7_sendsDown 75 = .ok (.if_icmp .ge 242, 3) := by decide +kernel
theorem dX7_sendsDown_78 : decode cX7_sendsDown 78 = .ok (.aload_n 0, 1) := by decide +kernel
theorem dX7_sendsDown_79 : decode cX7_sendsDown 79 = .ok (.getfield 32, 3) := by decide +kernel
theorem dX7_sendsDown_82 : decode cX7_sendsDown 82 = .ok (.iload_n 1, 1) := by decide +kernel
theorem dX7_sendsDown_83 : decode cX7_sendsDown 83 = .ok (.iaload, 1) := by decide +kernel
theorem dX7_sendsDown_84 : decode cX7_sendsDown 84 = .ok (.bipush (-2), 2) := by decide +kernel
theorem dX7_sendsDown_86 : decode cX7_sendsDown 86 = .ok (.if_icmp .ne 11, 3) := by decide +kernel
theorem dX7_sendsDown_89 : decode cX7_sendsDown 89 = .ok (.aload_n 0, 1) := by decide +kernel
theorem dX7_sendsDown_90 : decode cX7_sendsDown 90 = .ok (.iload_n 1, 1) := by decide +kernel
theorem dX7_sendsDown_91 : decode cX7_sendsDown 91 = .ok (.invokevirtual 199, 3) := by decide +kernel
theorem dX7_sendsDown_94 : decode cX7_sendsDown 94 = .ok (.goto 217, 3) := by decide +kernel
theorem dX7_sendsDown_97 : decode cX7_sendsDown 97 = .ok (.aload_n 0, 1) := by decide +kernel
theorem dX7_sendsDown_98 : decode cX7_sendsDown 98 = .ok (.getfield 32, 3) := by decide +kernel
theorem dX7_sendsDown_101 : decode cX7_sendsDown 101 = .ok (.iload_n 1, 1) := by decide +kernel
theorem dX7_sendsDown_102 : decode cX7_sendsDown 102 = .ok (.iaload, 1) := by decide +kernel
theorem dX7_sendsDown_103 : decode cX7_sendsDown 103 = .ok (.iconst (-1), 1) := by decide +kernel
theorem dX7_sendsDown_104 : decode cX7_sendsDown 104 = .ok (.if_icmp .eq 207, 3) := by decide +kernel
theorem dX7_sendsDown_107 : decode cX7_sendsDown 107 = .ok (.iload_n 1, 1) := by decide +kernel
theorem dX7_sendsDown_108 : decode cX7_sendsDown 108 = .ok (.invokestatic 75, 3) := by decide +kernel
theorem dX7_sendsDown_111 : decode cX7_sendsDown 111 = .ok (.istore_n 2, 1) := by decide +kernel
theorem dX7_sendsDown_112 : decode cX7_sendsDown 112 = .ok (.iload_n 1, 1) := by decide +kernel
theorem dX7_sendsDown_113 : decode cX7_sendsDown 113 = .ok (.aload_n 0, 1) := by decide +kernel
theorem dX7_sendsDown_114 : decode cX7_sendsDown 114 = .ok (.getfield 32, 3) := by decide +kernel
theorem dX7_sendsDown_117 : decode cX7_sendsDown 117 = .ok (.iload_n 1, 1) := by decide +kernel
theorem dX7_sendsDown_118 : decode cX7_sendsDown 118 = .ok (.iaload, 1) := by decide +kernel
theorem dX7_sendsDown_119 : decode cX7_sendsDown 119 = .ok (.invokestatic 82, 3) := by decide +kernel
theorem dX7_sendsDown_122 : decode cX7_sendsDown 122 = .ok (.istore_n 3, 1) := by decide +kernel
theorem dX7_sendsDown_123 : decode cX7_sendsDown 123 = .ok (.aload_n 0, 1) := by decide +kernel
theorem dX7_sendsDown_124 : decode cX7_sendsDown 124 = .ok (.getfield 13, 3) := by decide +kernel
theorem dX7_sendsDown_127 : decode cX7_sendsDown 127 = .ok (.bipush 11, 2) := by decide +kernel
theorem dX7_sendsDown_129 : decode cX7_sendsDown 129 = .ok (.dup2, 1) := by decide +kernel
theorem dX7_sendsDown_130 : decode cX7_sendsDown 130 = .ok (.iaload, 1) := by decide +kernel
theorem dX7_sendsDown_131 : decode cX7_sendsDown 131 = .ok (.iconst 1, 1) := by decide +kernel
theorem dX7_sendsDown_132 : decode cX7_sendsDown 132 = .ok (.iadd, 1) := by decide +kernel
theorem dX7_sendsDown_133 : decode cX7_sendsDown 133 = .ok (.iastore, 1) := by decide +kernel
theorem dX7_sendsDown_134 : decode cX7_sendsDown 134 = .ok (.aload_n 0, 1) := by decide +kernel
theorem dX7_sendsDown_135 : decode cX7_sendsDown 135 = .ok (.getfield 13, 3) := by decide +kernel
theorem dX7_sendsDown_138 : decode cX7_sendsDown 138 = .ok (.iload_n 3, 1) := by decide +kernel
theorem dX7_sendsDown_139 : decode cX7_sendsDown 139 = .ok (.bipush 38, 2) := by decide +kernel
theorem dX7_sendsDown_141 : decode cX7_sendsDown 141 = .ok (.iadd, 1) := by decide +kernel
theorem dX7_sendsDown_142 : decode cX7_sendsDown 142 = .ok (.dup2, 1) := by decide +kernel
theorem dX7_sendsDown_143 : decode cX7_sendsDown 143 = .ok (.iaload, 1) := by decide +kernel
theorem dX7_sendsDown_144 : decode cX7_sendsDown 144 = .ok (.iconst 1, 1) := by decide +kernel
theorem dX7_sendsDown_145 : decode cX7_sendsDown 145 = .ok (.iadd, 1) := by decide +kernel
theorem dX7_sendsDown_146 : decode cX7_sendsDown 146 = .ok (.iastore, 1) := by decide +kernel
theorem dX7_sendsDown_147 : decode cX7_sendsDown 147 = .ok (.aload_n 0, 1) := by decide +kernel
theorem dX7_sendsDown_148 : decode cX7_sendsDown 148 = .ok (.getfield 13, 3) := by decide +kernel
theorem dX7_sendsDown_151 : decode cX7_sendsDown 151 = .ok (.iload_n 2, 1) := by decide +kernel
theorem dX7_sendsDown_152 : decode cX7_sendsDown 152 = .ok (.bipush 16, 2) := by decide +kernel
theorem dX7_sendsDown_154 : decode cX7_sendsDown 154 = .ok (.iadd, 1) := by decide +kernel
theorem dX7_sendsDown_155 : decode cX7_sendsDown 155 = .ok (.aload_n 0, 1) := by decide +kernel
theorem dX7_sendsDown_156 : decode cX7_sendsDown 156 = .ok (.getfield 35, 3) := by decide +kernel
theorem dX7_sendsDown_159 : decode cX7_sendsDown 159 = .ok (.iload_n 1, 1) := by decide +kernel
theorem dX7_sendsDown_160 : decode cX7_sendsDown 160 = .ok (.iaload, 1) := by decide +kernel
theorem dX7_sendsDown_161 : decode cX7_sendsDown 161 = .ok (.iadd, 1) := by decide +kernel
theorem dX7_sendsDown_162 : decode cX7_sendsDown 162 = .ok (.dup2, 1) := by decide +kernel
theorem dX7_sendsDown_163 : decode cX7_sendsDown 163 = .ok (.iaload, 1) := by decide +kernel
theorem dX7_sendsDown_164 : decode cX7_sendsDown 164 = .ok (.iconst 1, 1) := by decide +kernel
theorem dX7_sendsDown_165 : decode cX7_sendsDown 165 = .ok (.iadd, 1) := by decide +kernel
theorem dX7_sendsDown_166 : decode cX7_sendsDown 166 = .ok (.iastore, 1) := by decide +kernel
theorem dX7_sendsDown_167 : decode cX7_sendsDown 167 = .ok (.aload_n 0, 1) := by decide +kernel
theorem dX7_sendsDown_168 : decode cX7_sendsDown 168 = .ok (.getfield 41, 3) := by decide +kernel
theorem dX7_sendsDown_171 : decode cX7_sendsDown 171 = .ok (.iload_n 1, 1) := by decide +kernel
theorem dX7_sendsDown_172 : decode cX7_sendsDown 172 = .ok (.aload_n 0, 1) := by decide +kernel
theorem dX7_sendsDown_173 : decode cX7_sendsDown 173 = .ok (.getfield 13, 3) := by decide +kernel
theorem dX7_sendsDown_176 : decode cX7_sendsDown 176 = .ok (.iload_n 3, 1) := by decide +kernel
theorem dX7_sendsDown_177 : decode cX7_sendsDown 177 = .ok (.iconst 5, 1) := by decide +kernel
theorem dX7_sendsDown_178 : decode cX7_sendsDown 178 = .ok (.iadd, 1) := by decide +kernel
theorem dX7_sendsDown_179 : decode cX7_sendsDown 179 = .ok (.iaload, 1) := by decide +kernel
theorem dX7_sendsDown_180 : decode cX7_sendsDown 180 = .ok (.ifCond .le 7, 3) := by decide +kernel
theorem dX7_sendsDown_183 : decode cX7_sendsDown 183 = .ok (.iconst 1, 1) := by decide +kernel
theorem dX7_sendsDown_184 : decode cX7_sendsDown 184 = .ok (.goto 4, 3) := by decide +kernel
theorem dX7_sendsDown_187 : decode cX7_sendsDown 187 = .ok (.iconst 0, 1) := by decide +kernel
theorem dX7_sendsDown_188 : decode cX7_sendsDown 188 = .ok (.bastore, 1) := by decide +kernel
theorem dX7_sendsDown_189 : decode cX7_sendsDown 189 = .ok (.aload_n 0, 1) := by decide +kernel
theorem dX7_sendsDown_190 : decode cX7_sendsDown 190 = .ok (.getfield 44, 3) := by decide +kernel
theorem dX7_sendsDown_193 : decode cX7_sendsDown 193 = .ok (.iload_n 1, 1) := by decide +kernel
theorem dX7_sendsDown_194 : decode cX7_sendsDown 194 = .ok (.aload_n 0, 1) := by decide +kernel
theorem dX7_sendsDown_195 : decode cX7_sendsDown 195 = .ok (.getfield 13, 3) := by decide +kernel
theorem dX7_sendsDown_198 : decode cX7_sendsDown 198 = .ok (.iload_n 3, 1) := by decide +kernel
theorem dX7_sendsDown_199 : decode cX7_sendsDown 199 = .ok (.iconst 4, 1) := by decide +kernel
theorem dX7_sendsDown_200 : decode cX7_sendsDown 200 = .ok (.iadd, 1) := by decide +kernel
theorem dX7_sendsDown_201 : decode cX7_sendsDown 201 = .ok (.iaload, 1) := by decide +kernel
theorem dX7_sendsDown_202 : decode cX7_sendsDown 202 = .ok (.ifCond .ne 7, 3) := by decide +kernel
theorem dX7_sendsDown_205 : decode cX7_sendsDown 205 = .ok (.iconst 1, 1) := by decide +kernel
theorem dX7_sendsDown_206 : decode cX7_sendsDown 206 = .ok (.goto 4, 3) := by decide +kernel
theorem dX7_sendsDown_209 : decode cX7_sendsDown 209 = .ok (.iconst 0, 1) := by decide +kernel
theorem dX7_sendsDown_210 : decode cX7_sendsDown 210 = .ok (.bastore, 1) := by decide +kernel
theorem dX7_sendsDown_211 : decode cX7_sendsDown 211 = .ok (.aload_n 0, 1) := by decide +kernel
theorem dX7_sendsDown_212 : decode cX7_sendsDown 212 = .ok (.iload_n 1, 1) := by decide +kernel
theorem dX7_sendsDown_213 : decode cX7_sendsDown 213 = .ok (.aload_n 0, 1) := by decide +kernel
theorem dX7_sendsDown_214 : decode cX7_sendsDown 214 = .ok (.iload_n 1, 1) := by decide +kernel
theorem dX7_sendsDown_215 : decode cX7_sendsDown 215 = .ok (.aload_n 0, 1) := by decide +kernel
theorem dX7_sendsDown_216 : decode cX7_sendsDown 216 = .ok (.getfield 13, 3) := by decide +kernel
theorem dX7_sendsDown_219 : decode cX7_sendsDown 219 = .ok (.bipush 7, 2) := by decide +kernel
theorem dX7_sendsDown_221 : decode cX7_sendsDown 221 = .ok (.iaload, 1) := by decide +kernel
theorem dX7_sendsDown_222 : decode cX7_sendsDown 222 = .ok (.aload_n 0, 1) := by decide +kernel
theorem dX7_sendsDown_223 : decode cX7_sendsDown 223 = .ok (.getfield 13, 3) := by decide +kernel
theorem dX7_sendsDown_226 : decode cX7_sendsDown 226 = .ok (.iload_n 3, 1) := by decide +kernel
theorem dX7_sendsDown_227 : decode cX7_sendsDown 227 = .ok (.iconst 1, 1) := by decide +kernel
theorem dX7_sendsDown_228 : decode cX7_sendsDown 228 = .ok (.iadd, 1) := by decide +kernel
theorem dX7_sendsDown_229 : decode cX7_sendsDown 229 = .ok (.iaload, 1) := by decide +kernel
theorem dX7_sendsDown_230 : decode cX7_sendsDown 230 = .ok (.invokevirtual 114, 3) := by decide +kernel
theorem dX7_sendsDown_233 : decode cX7_sendsDown 233 = .ok (.invokevirtual 202, 3) := by decide +kernel
theorem dX7_sendsDown_236 : decode cX7_sendsDown 236 = .ok (.istore 4, 2) := by decide +kernel
theorem dX7_sendsDown_238 : decode cX7_sendsDown 238 = .ok (.aload_n 0, 1) := by decide +kernel
theorem dX7_sendsDown_239 : decode cX7_sendsDown 239 = .ok (.getfield 13, 3) := by decide +kernel
theorem dX7_sendsDown_242 : decode cX7_sendsDown 242 = .ok (.iload_n 3, 1) := by decide +kernel
theorem dX7_sendsDown_243 : decode cX7_sendsDown 243 = .ok (.bipush 37, 2) := by decide +kernel
theorem dX7_sendsDown_245 : decode cX7_sendsDown 245 = .ok (.iadd, 1) := by decide +kernel
theorem dX7_sendsDown_246 : decode cX7_sendsDown 246 = .ok (.iload 4, 2) := by decide +kernel
theorem dX7_sendsDown_248 : decode cX7_sendsDown 248 = .ok (.ifCond .ne 7, 3) := by decide +kernel
theorem dX7_sendsDown_251 : decode cX7_sendsDown 251 = .ok (.iconst 0, 1) := by decide +kernel
theorem dX7_sendsDown_252 : decode cX7_sendsDown 252 = .ok (.goto 8, 3) := by decide +kernel
theorem dX7_sendsDown_255 : decode cX7_sendsDown 255 = .ok (.bipush 10, 2) := by decide +kernel
theorem dX7_sendsDown_257 : decode cX7_sendsDown 257 = .ok (.iload 4, 2) := by decide +kernel
theorem dX7_sendsDown_259 : decode cX7_sendsDown 259 = .ok (.iadd, 1) := by decide +kernel
theorem dX7_sendsDown_260 : decode cX7_sendsDown 260 = .ok (.iastore, 1) := by decide +kernel
theorem dX7_sendsDown_261 : decode cX7_sendsDown 261 = .ok (.aload_n 0, 1) := by decide +kernel
theorem dX7_sendsDown_262 : decode cX7_sendsDown 262 = .ok (.getfield 47, 3) := by decide +kernel
theorem dX7_sendsDown_265 : decode cX7_sendsDown 265 = .ok (.iload_n 1, 1) := by decide +kernel
theorem dX7_sendsDown_266 : decode cX7_sendsDown 266 = .ok (.iload 4, 2) := by decide +kernel
theorem dX7_sendsDown_268 : decode cX7_sendsDown 268 = .ok (.ifCond .ne 7, 3) := by decide +kernel
theorem dX7_sendsDown_271 : decode cX7_sendsDown 271 = .ok (.iconst 1, 1) := by decide +kernel
theorem dX7_sendsDown_272 : decode cX7_sendsDown 272 = .ok (.goto 4, 3) := by decide +kernel
theorem dX7_sendsDown_275 : decode cX7_sendsDown 275 = .ok (.iconst 0, 1) := by decide +kernel
theorem dX7_sendsDown_276 : decode cX7_sendsDown 276 = .ok (.bastore, 1) := by decide +kernel
theorem dX7_sendsDown_277 : decode cX7_sendsDown 277 = .ok (.aload_n 0, 1) := by decide +kernel
theorem dX7_sendsDown_278 : decode cX7_sendsDown 278 = .ok (.getfield 13, 3) := by decide +kernel
theorem dX7_sendsDown_281 : decode cX7_sendsDown 281 = .ok (.bipush 13, 2) := by decide +kernel
theorem dX7_sendsDown_283 : decode cX7_sendsDown 283 = .ok (.iload 4, 2) := by decide +kernel
theorem dX7_sendsDown_285 : decode cX7_sendsDown 285 = .ok (.iadd, 1) := by decide +kernel
theorem dX7_sendsDown_286 : decode cX7_sendsDown 286 = .ok (.iload 4, 2) := by decide +kernel
theorem dX7_sendsDown_288 : decode cX7_sendsDown 288 = .ok (.ifCond .ne 7, 3) := by decide +kernel
theorem dX7_sendsDown_291 : decode cX7_sendsDown 291 = .ok (.iconst 0, 1) := by decide +kernel
theorem dX7_sendsDown_292 : decode cX7_sendsDown 292 = .ok (.goto 4, 3) := by decide +kernel
theorem dX7_sendsDown_295 : decode cX7_sendsDown 295 = .ok (.iconst 1, 1) := by decide +kernel
theorem dX7_sendsDown_296 : decode cX7_sendsDown 296 = .ok (.isub, 1) := by decide +kernel
theorem dX7_sendsDown_297 : decode cX7_sendsDown 297 = .ok (.dup2, 1) := by decide +kernel
theorem dX7_sendsDown_298 : decode cX7_sendsDown 298 = .ok (.iaload, 1) := by decide +kernel
theorem dX7_sendsDown_299 : decode cX7_sendsDown 299 = .ok (.iload 4, 2) := by decide +kernel
theorem dX7_sendsDown_301 : decode cX7_sendsDown 301 = .ok (.ifCond .ne 7, 3) := by decide +kernel
theorem dX7_sendsDown_304 : decode cX7_sendsDown 304 = .ok (.iconst 0, 1) := by decide +kernel
theorem dX7_sendsDown_305 : decode cX7_sendsDown 305 = .ok (.goto 4, 3) := by decide +kernel
theorem dX7_sendsDown_308 : decode cX7_sendsDown 308 = .ok (.iconst 1, 1) := by decide +kernel
theorem dX7_sendsDown_309 : decode cX7_sendsDown 309 = .ok (.iadd, 1) := by decide +kernel
theorem dX7_sendsDown_310 : decode cX7_sendsDown 310 = .ok (.iastore, 1) := by decide +kernel
theorem dX7_sendsDown_311 : decode cX7_sendsDown 311 = .ok (.iinc 1 1, 3) := by decide +kernel
theorem dX7_sendsDown_314 : decode cX7_sendsDown 314 = .ok (.goto (-241), 3) := by decide +kernel
theorem dX7_sendsDown_317 : decode cX7_sendsDown 317 = .ok (.iconst 0, 1) := by decide +kernel
theorem dX7_sendsDown_318 : decode cX7_sendsDown 318 = .ok (.istore_n 1, 1) := by decide +kernel
theorem dX7_sendsDown_319 : decode cX7_sendsDown 319 = .ok (.iload_n 1, 1) := by decide +kernel
theorem dX7_sendsDown_320 : decode cX7_sendsDown 320 = .ok (.iconst 2, 1) := by decide +kernel
theorem dX7_sendsDown_321 : decode cX7_sendsDown 321 = .ok (.if_icmp .ge 33, 3) := by decide +kernel
theorem dX7_sendsDown_324 : decode cX7_sendsDown 324 = .ok (.aload_n 0, 1) := by decide +kernel
theorem dX7_sendsDown_325 : decode cX7_sendsDown 325 = .ok (.getfield 47, 3) := by decide +kernel
theorem dX7_sendsDown_328 : decode cX7_sendsDown 328 = .ok (.iload_n 1, 1) := by decide +kernel
theorem dX7_sendsDown_329 : decode cX7_sendsDown 329 = .ok (.baload, 1) := by decide +kernel
theorem dX7_sendsDown_330 : decode cX7_sendsDown 330 = .ok (.ifCond .eq 18, 3) := by decide +kernel
theorem dX7_sendsDown_333 : decode cX7_sendsDown 333 = .ok (.aload_n 0, 1) := by decide +kernel
theorem dX7_sendsDown_334 : decode cX7_sendsDown 334 = .ok (.iload_n 1, 1) := by decide +kernel
theorem dX7_sendsDown_335 : decode cX7_sendsDown 335 = .ok (.iload_n 1, 1) := by decide +kernel
theorem dX7_sendsDown_336 : decode cX7_sendsDown 336 = .ok (.aload_n 0, 1) := by decide +kernel
theorem dX7_sendsDown_337 : decode cX7_sendsDown 337 = .ok (.getfield 32, 3) := by decide +kernel
theorem dX7_sendsDown_340 : decode cX7_sendsDown 340 = .ok (.iload_n 1, 1) := by decide +kernel
theorem dX7_sendsDown_341 : decode cX7_sendsDown 341 = .ok (.iaload, 1) := by decide +kernel
theorem dX7_sendsDown_342 : decode cX7_sendsDown 342 = .ok (.invokestatic 82, 3) := by decide +kernel
theorem dX7_sendsDown_345 : decode cX7_sendsDown 345 = .ok (.invokevirtual 205, 3) := by decide +kernel
theorem dX7_sendsDown_348 : decode cX7_sendsDown 348 = .ok (.iinc 1 1, 3) := by decide +kernel
theorem dX7_sendsDown_351 : decode cX7_sendsDown 351 = .ok (.goto (-32), 3) := by decide +kernel
theorem dX7_sendsDown_354 : decode cX7_sendsDown 354 = .ok (.return_, 1) := by decide +kernel
theorem dX7_sendsUp_0 : decode cX7_sendsUp 0 = .ok (.iconst 0, 1) := by decide +kernel
theorem dX7_sendsUp_1 : decode cX7_sendsUp 1 = .ok (.istore_n 1, 1) := by decide +kernel
theorem dX7_sendsUp_2 : decode cX7_sendsUp 2 = .ok (.iload_n 1, 1) := by decide +kernel
theorem dX7_sendsUp_3 : decode cX7_sendsUp 3 = .ok (.iconst 2, 1) := by decide +kernel
theorem dX7_sendsUp_4 : decode cX7_sendsUp 4 = .ok (.if_icmp .ge 61, 3) := by decide +kernel
theorem dX7_sendsUp_7 : decode cX7_sendsUp 7 = .ok (.aload_n 0, 1) := by decide +kernel
theorem dX7_sendsUp_8 : decode cX7_sendsUp 8 = .ok (.getfield 35, 3) := by decide +kernel
theorem dX7_sendsUp_11 : decode cX7_sendsUp 11 = .ok (.iload_n 1, 1) := by decide +kernel
theorem dX7_sendsUp_12 : decode cX7_sendsUp 12 = .ok (.aload_n 0, 1) := by decide +kernel
theorem dX7_sendsUp_13 : decode cX7_sendsUp 13 = .ok (.getfield 47, 3) := by decide +kernel
theorem dX7_sendsUp_16 : decode cX7_sendsUp 16 = .ok (.iload_n 1, 1) := by decide +kernel
theorem dX7_sendsUp_17 : decode cX7_sendsUp 17 = .ok (.baload, 1) := by decide +kernel
theorem dX7_sendsUp_18 : decode cX7_sendsUp 18 = .ok (.ifCond .eq 37, 3) := by decide +kernel
theorem dX7_sendsUp_21 : decode cX7_sendsUp 21 = .ok (.aload_n 0, 1) := by decide +kernel
theorem dX7_sendsUp_22 : decode cX7_sendsUp 22 = .ok (.iload_n 1, 1) := by decide +kernel
theorem dX7_sendsUp_23 : decode cX7_sendsUp 23 = .ok (.aload_n 0, 1) := by decide +kernel
theorem dX7_sendsUp_24 : decode cX7_sendsUp 24 = .ok (.getfield 13, 3) := by decide +kernel
theorem dX7_sendsUp_27 : decode cX7_sendsUp 27 = .ok (.bipush 7, 2) := by decide +kernel
theorem dX7_sendsUp_29 : decode cX7_sendsUp 29 = .ok (.iaload, 1) := by decide +kernel
theorem dX7_sendsUp_30 : decode cX7_sendsUp 30 = .ok (.iconst 1, 1) := by decide +kernel
theorem dX7_sendsUp_31 : decode cX7_sendsUp 31 = .ok (.iadd, 1) := by decide +kernel
theorem dX7_sendsUp_32 : decode cX7_sendsUp 32 = .ok (.aload_n 0, 1) := by decide +kernel
theorem dX7_sendsUp_33 : decode cX7_sendsUp 33 = .ok (.getfield 13, 3) := by decide +kernel
theorem dX7_sendsUp_36 : decode cX7_sendsUp 36 = .ok (.iload_n 1, 1) := by decide +kernel
theorem dX7_sendsUp_37 : decode cX7_sendsUp 37 = .ok (.aload_n 0, 1) := by decide +kernel
theorem dX7_sendsUp_38 : decode cX7_sendsUp 38 = .ok (.getfield 32, 3) := by decide +kernel
theorem dX7_sendsUp_41 : decode cX7_sendsUp 41 = .ok (.iload_n 1, 1) := by decide +kernel
theorem dX7_sendsUp_42 : decode cX7_sendsUp 42 = .ok (.iaload, 1) := by decide +kernel
theorem dX7_sendsUp_43 : decode cX7_sendsUp 43 = .ok (.invokestatic 82, 3) := by decide +kernel
theorem dX7_sendsUp_46 : decode cX7_sendsUp 46 = .ok (.iconst 1, 1) := by decide +kernel
theorem dX7_sendsUp_47 : decode cX7_sendsUp 47 = .ok (.iadd, 1) := by decide +kernel
theorem dX7_sendsUp_48 : decode cX7_sendsUp 48 = .ok (.iaload, 1) := by decide +kernel
theorem dX7_sendsUp_49 : decode cX7_sendsUp 49 = .ok (.invokevirtual 114, 3) := by decide +kernel
theorem dX7_sendsUp_52 : decode cX7_sendsUp 52 = .ok (.goto 6, 3) := by decide +kernel
theorem dX7_sendsUp_55 : decode cX7_sendsUp 55 = .ok (.iconst (-1), 1) := by decide +kernel
theorem dX7_sendsUp_56 : decode cX7_sendsUp 56 = .ok (.iload_n 1, 1) := by decide +kernel
theorem dX7_sendsUp_57 : decode cX7_sendsUp 57 = .ok (.isub, 1) := by decide +kernel
theorem dX7_sendsUp_58 : decode cX7_sendsUp 58 = .ok (.iastore, 1) := by decide +kernel
theorem dX7_sendsUp_59 : decode cX7_sendsUp 59 = .ok (.iinc 1 1, 3) := by decide +kernel
theorem dX7_sendsUp_62 : decode cX7_sendsUp 62 = .ok (.goto (-60), 3) := by decide +kernel
theorem dX7_sendsUp_65 : decode cX7_sendsUp 65 = .ok (.iconst 0, 1) := by decide +kernel
theorem dX7_sendsUp_66 : decode cX7_sendsUp 66 = .ok (.istore_n 1, 1) := by decide +kernel
theorem dX7_sendsUp_67 : decode cX7_sendsUp 67 = .ok (.iload_n 1, 1) := by decide +kernel
theorem dX7_sendsUp_68 : decode cX7_sendsUp 68 = .ok (.iconst 2, 1) := by decide +kernel
theorem dX7_sendsUp_69 : decode cX7_sendsUp 69 = .ok (.if_icmp .ge 133, 3) := by decide +kernel
theorem dX7_sendsUp_72 : decode cX7_sendsUp 72 = .ok (.aload_n 0, 1) := by decide +kernel
theorem dX7_sendsUp_73 : decode cX7_sendsUp 73 = .ok (.getfield 47, 3) := by decide +kernel
theorem dX7_sendsUp_76 : decode cX7_sendsUp 76 = .ok (.iload_n 1, 1) := by decide +kernel
theorem dX7_sendsUp_77 : decode cX7_sendsUp 77 = .ok (.baload, 1) := by decide +kernel
theorem dX7_sendsUp_78 : decode cX7_sendsUp 78 = .ok (.ifCond .eq 118, 3) := by decide +kernel
theorem dX7_sendsUp_81 : decode cX7_sendsUp 81 = .ok (.iload_n 1, 1) := by decide +kernel
theorem dX7_sendsUp_82 : decode cX7_sendsUp 82 = .ok (.aload_n 0, 1) := by decide +kernel
theorem dX7_sendsUp_83 : decode cX7_sendsUp 83 = .ok (.getfield 32, 3) := by decide +kernel
theorem dX7_sendsUp_86 : decode cX7_sendsUp 86 = .ok (.iload_n 1, 1) := by decide +kernel
theorem dX7_sendsUp_87 : decode cX7_sendsUp 87 = .ok (.iaload, 1) := by decide +kernel
theorem dX7_sendsUp_88 : decode cX7_sendsUp 88 = .ok (.invokestatic 82, 3) := by decide +kernel
theorem dX7_sendsUp_91 : decode cX7_sendsUp 91 = .ok (.istore_n 2, 1) := by decide +kernel
theorem dX7_sendsUp_92 : decode cX7_sendsUp 92 = .ok (.aload_n 0, 1) := by decide +kernel
theorem dX7_sendsUp_93 : decode cX7_sendsUp 93 = .ok (.getfield 13, 3) := by decide +kernel
theorem dX7_sendsUp_96 : decode cX7_sendsUp 96 = .ok (.bipush 12, 2) := by decide +kernel
theorem dX7_sendsUp_98 : decode cX7_sendsUp 98 = .ok (.dup2, 1) := by decide +kernel
theorem dX7_sendsUp_99 : decode cX7_sendsUp 99 = .ok (.iaload, 1) := by decide +kernel
theorem dX7_sendsUp_100 : decode cX7_sendsUp 100 = .ok (.iconst 1, 1) := by decide +kernel
theorem dX7_sendsUp_101 : decode cX7_sendsUp 101 = .ok (.iadd, 1) := by decide +kernel
theorem dX7_sendsUp_102 : decode cX7_sendsUp 102 = .ok (.iastore, 1) := by decide +kernel
theorem dX7_sendsUp_103 : decode cX7_sendsUp 103 = .ok (.aload_n 0, 1) := by decide +kernel
theorem dX7_sendsUp_104 : decode cX7_sendsUp 104 = .ok (.iload_n 1, 1) := by decide +kernel
theorem dX7_sendsUp_105 : decode cX7_sendsUp 105 = .ok (.aload_n 0, 1) := by decide +kernel
theorem dX7_sendsUp_106 : decode cX7_sendsUp 106 = .ok (.iload_n 1, 1) := by decide +kernel
theorem dX7_sendsUp_107 : decode cX7_sendsUp 107 = .ok (.aload_n 0, 1) := by decide +kernel
theorem dX7_sendsUp_108 : decode cX7_sendsUp 108 = .ok (.getfield 13, 3) := by decide +kernel
theorem dX7_sendsUp_111 : decode cX7_sendsUp 111 = .ok (.bipush 7, 2) := by decide +kernel
theorem dX7_sendsUp_113 : decode cX7_sendsUp 113 = .ok (.iaload, 1) := by decide +kernel
theorem dX7_sendsUp_114 : decode cX7_sendsUp 114 = .ok (.iconst 1, 1) := by decide +kernel
theorem dX7_sendsUp_115 : decode cX7_sendsUp 115 = .ok (.iadd, 1) := by decide +kernel
theorem dX7_sendsUp_116 : decode cX7_sendsUp 116 = .ok (.aload_n 0, 1) := by decide +kernel
theorem dX7_sendsUp_117 : decode cX7_sendsUp 117 = .ok (.getfield 13, 3) := by decide +kernel
theorem dX7_sendsUp_120 : decode cX7_sendsUp 120 = .ok (.iload_n 1, 1) := by decide +kernel
theorem dX7_sendsUp_121 : decode cX7_sendsUp 121 = .ok (.invokestatic 75, 3) := by decide +kernel
theorem dX7_sendsUp_124 : decode cX7_sendsUp 124 = .ok (.iconst 2, 1) := by decide +kernel
theorem dX7_sendsUp_125 : decode cX7_sendsUp 125 = .ok (.iadd, 1) := by decide +kernel
theorem dX7_sendsUp_126 : decode cX7_sendsUp 126 = .ok (.iaload, 1) := by decide +kernel
theorem dX7_sendsUp_127 : decode cX7_sendsUp 127 = .ok (.invokevirtual 114, 3) := by decide +kernel
theorem dX7_sendsUp_130 : decode cX7_sendsUp 130 = .ok (.invokevirtual 202, 3) := by decide +kernel
theorem dX7_sendsUp_133 : decode cX7_sendsUp 133 = .ok (.istore_n 3, 1) := by decide +kernel
theorem dX7_sendsUp_134 : decode cX7_sendsUp 134 = .ok (.aload_n 0, 1) := by decide +kernel
theorem dX7_sendsUp_135 : decode cX7_sendsUp 135 = .ok (.getfield 13, 3) := by decide +kernel
theorem dX7_sendsUp_138 : decode cX7_sendsUp 138 = .ok (.iload_n 2, 1) := by decide +kernel
theorem dX7_sendsUp_139 : decode cX7_sendsUp 139 = .ok (.bipush 37, 2) := by decide +kernel
theorem dX7_sendsUp_141 : decode cX7_sendsUp 141 = .ok (.iadd, 1) := by decide +kernel
theorem dX7_sendsUp_142 : decode cX7_sendsUp 142 = .ok (.iload_n 3, 1) := by decide +kernel
theorem dX7_sendsUp_143 : decode cX7_sendsUp 143 = .ok (.ifCond .ne 7, 3) := by decide +kernel
theorem dX7_sendsUp_146 : decode cX7_sendsUp 146 = .ok (.iconst 0, 1) := by decide +kernel
theorem dX7_sendsUp_147 : decode cX7_sendsUp 147 = .ok (.goto 7, 3) := by decide +kernel
theorem dX7_sendsUp_150 : decode cX7_sendsUp 150 = .ok (.bipush 20, 2) := by decide +kernel
theorem dX7_sendsUp_152 : decode cX7_sendsUp 152 = .ok (.iload_n 3, 1) := by decide +kernel
theorem dX7_sendsUp_153 : decode cX7_sendsUp 153 = .ok (.iadd, 1) := by decide +kernel
theorem dX7_sendsUp_154 : decode cX7_sendsUp 154 = .ok (.iastore, 1) := by decide +kernel
theorem dX7_sendsUp_155 : decode cX7_sendsUp 155 = .ok (.aload_n 0, 1) := by decide +kernel
theorem dX7_sendsUp_156 : decode cX7_sendsUp 156 = .ok (.getfield 13, 3) := by decide +kernel
theorem dX7_sendsUp_159 : decode cX7_sendsUp 159 = .ok (.bipush 13, 2) := by decide +kernel
theorem dX7_sendsUp_161 : decode cX7_sendsUp 161 = .ok (.iload_n 3, 1) := by decide +kernel
theorem dX7_sendsUp_162 : decode cX7_sendsUp 162 = .ok (.iadd, 1) := by decide +kernel
theorem dX7_sendsUp_163 : decode cX7_sendsUp 163 = .ok (.iload_n 3, 1) := by decide +kernel
theorem dX7_sendsUp_164 : decode cX7_sendsUp 164 = .ok (.ifCond .ne 7, 3) := by decide +kernel
theorem dX7_sendsUp_167 : decode cX7_sendsUp 167 = .ok (.iconst 0, 1) := by decide +kernel
theorem dX7_sendsUp_168 : decode cX7_sendsUp 168 = .ok (.goto 4, 3) := by decide +kernel
theorem dX7_sendsUp_171 : decode cX7_sendsUp 171 = .ok (.iconst 1, 1) := by decide +kernel
theorem dX7_sendsUp_172 : decode cX7_sendsUp 172 = .ok (.isub, 1) := by decide +kernel
theorem dX7_sendsUp_173 : decode cX7_sendsUp 173 = .ok (.dup2, 1) := by decide +kernel
theorem dX7_sendsUp_174 : decode cX7_sendsUp 174 = .ok (.iaload, 1) := by decide +kernel
theorem dX7_sendsUp_175 : decode cX7_sendsUp 175 = .ok (.iload_n 3, 1) := by decide +kernel
theorem dX7_sendsUp_176 : decode cX7_sendsUp 176 = .ok (.ifCond .ne 7, 3) := by decide +kernel
theorem dX7_sendsUp_179 : decode cX7_sendsUp 179 = .ok (.iconst 0, 1) := by decide +kernel
theorem dX7_sendsUp_180 : decode cX7_sendsUp 180 = .ok (.goto 4, 3) := by decide +kernel
theorem dX7_sendsUp_183 : decode cX7_sendsUp 183 = .ok (.iconst 1, 1) := by decide +kernel
theorem dX7_sendsUp_184 : decode cX7_sendsUp 184 = .ok (.iadd, 1) := by decide +kernel
theorem dX7_sendsUp_185 : decode cX7_sendsUp 185 = .ok (.iastore, 1) := by decide +kernel
theorem dX7_sendsUp_186 : decode cX7_sendsUp 186 = .ok (.iload_n 3, 1) := by decide +kernel
theorem dX7_sendsUp_187 : decode cX7_sendsUp 187 = .ok (.ifCond .ne 9, 3) := by decide +kernel
theorem dX7_sendsUp_190 : decode cX7_sendsUp 190 = .ok (.aload_n 0, 1) := by decide +kernel
theorem dX7_sendsUp_191 : decode cX7_sendsUp 191 = .ok (.iload_n 1, 1) := by decide +kernel
theorem dX7_sendsUp_192 : decode cX7_sendsUp 192 = .ok (.iload_n 2, 1) := by decide +kernel
theorem dX7_sendsUp_193 : decode cX7_sendsUp 193 = .ok (.invokevirtual 215, 3) := by decide +kernel
theorem dX7_sendsUp_196 : decode cX7_sendsUp 196 = .ok (.iinc 1 1, 3) := by decide +kernel
theorem dX7_sendsUp_199 : decode cX7_sendsUp 199 = .ok (.goto (-132), 3) := by decide +kernel
theorem dX7_sendsUp_202 : decode cX7_sendsUp 202 = .ok (.return_, 1) := by decide +kernel
theorem dX7_turn_0 : decode cX7_turn 0 = .ok (.iconst 0, 1) := by decide +kernel
theorem dX7_turn_1 : decode cX7_turn 1 = .ok (.istore_n 1, 1) := by decide +kernel
theorem dX7_turn_2 : decode cX7_turn 2 = .ok (.iload_n 1, 1) := by decide +kernel
theorem dX7_turn_3 : decode cX7_turn 3 = .ok (.iconst 2, 1) := by decide +kernel
theorem dX7_turn_4 : decode cX7_turn 4 = .ok (.if_icmp .ge 93, 3) := by decide +kernel
theorem dX7_turn_7 : decode cX7_turn 7 = .ok (.iload_n 1, 1) := by decide +kernel
theorem dX7_turn_8 : decode cX7_turn 8 = .ok (.invokestatic 75, 3) := by decide +kernel
theorem dX7_turn_11 : decode cX7_turn 11 = .ok (.istore_n 2, 1) := by decide +kernel
theorem dX7_turn_12 : decode cX7_turn 12 = .ok (.iconst (-1), 1) := by decide +kernel
theorem dX7_turn_13 : decode cX7_turn 13 = .ok (.istore_n 3, 1) := by decide +kernel
theorem dX7_turn_14 : decode cX7_turn 14 = .ok (.aload_n 0, 1) := by decide +kernel
theorem dX7_turn_15 : decode cX7_turn 15 = .ok (.iload_n 1, 1) := by decide +kernel
theorem dX7_turn_16 : decode cX7_turn 16 = .ok (.invokevirtual 78, 3) := by decide +kernel
theorem dX7_turn_19 : decode cX7_turn 19 = .ok (.ifCond .eq 72, 3) := by decide +kernel
theorem dX7_turn_22 : decode cX7_turn 22 = .ok (.iload_n 3, 1) := by decide +kernel
theorem dX7_turn_23 : decode cX7_turn 23 = .ok (.aload_n 0, 1) := by decide +kernel
theorem dX7_turn_24 : decode cX7_turn 24 = .ok (.getfield 13, 3) := by decide +kernel
theorem dX7_turn_27 : decode cX7_turn 27 = .ok (.iload_n 2, 1) := by decide +kernel
theorem dX7_turn_28 : decode cX7_turn 28 = .ok (.bipush 6, 2) := by decide +kernel
theorem dX7_turn_30 : decode cX7_turn 30 = .ok (.iadd, 1) := by decide +kernel
theorem dX7_turn_31 : decode cX7_turn 31 = .ok (.iaload, 1) := by decide +kernel
theorem dX7_turn_32 : decode cX7_turn 32 = .ok (.if_icmp .ge 59, 3) := by decide +kernel
theorem dX7_turn_35 : decode cX7_turn 35 = .ok (.iload_n 3, 1) := by decide +kernel
theorem dX7_turn_36 : decode cX7_turn 36 = .ok (.iconst (-1), 1) := by decide +kernel
theorem dX7_turn_37 : decode cX7_turn 37 = .ok (.if_icmp .ne 9, 3) := by decide +kernel
theorem dX7_turn_40 : decode cX7_turn 40 = .ok (.iload_n 2, 1) := by decide +kernel
theorem dX7_turn_41 : decode cX7_turn 41 = .ok (.iconst 3, 1) := by decide +kernel
theorem dX7_turn_42 : decode cX7_turn 42 = .ok (.iadd, 1) := by decide +kernel
theorem dX7_turn_43 : decode cX7_turn 43 = .ok (.goto 10, 3) := by decide +kernel
theorem dX7_turn_46 : decode cX7_turn 46 = .ok (.iload_n 1, 1) := by decide +kernel
theorem dX7_turn_47 : decode cX7_turn 47 = .ok (.iload_n 3, 1) := by decide +kernel
theorem dX7_turn_48 : decode cX7_turn 48 = .ok (.invokestatic 82, 3) := by decide +kernel
theorem dX7_turn_51 : decode cX7_turn 51 = .ok (.iconst 2, 1) := by decide +kernel
theorem dX7_turn_52 : decode cX7_turn 52 = .ok (.iadd, 1) := by decide +kernel
theorem dX7_turn_53 : decode cX7_turn 53 = .ok (.istore 4, 2) := by decide +kernel
theorem dX7_turn_55 : decode cX7_turn 55 = .ok (.aload_n 0, 1) := by decide +kernel
theorem dX7_turn_56 : decode cX7_turn 56 = .ok (.iload 4, 2) := by decide +kernel
theorem dX7_turn_58 : decode cX7_turn 58 = .ok (.iload 4, 2) := by decide +kernel
theorem dX7_turn_60 : decode cX7_turn 60 = .ok (.iconst 1, 1) := by decide +kernel
theorem dX7_turn_61 : decode cX7_turn 61 = .ok (.iadd, 1) := by decide +kernel
theorem dX7_turn_62 : decode cX7_turn 62 = .ok (.iload 4, 2) := by decide +kernel
theorem dX7_turn_64 : decode cX7_turn 64 = .ok (.iconst 1, 1) := by decide +kernel
theorem dX7_turn_65 : decode cX7_turn 65 = .ok (.isub, 1) := by decide +kernel
theorem dX7_turn_66 : decode cX7_turn 66 = .ok (.iload_n 3, 1) := by decide +kernel
theorem dX7_turn_67 : decode cX7_turn 67 = .ok (.iconst (-1), 1) := by decide +kernel
theorem dX7_turn_68 : decode cX7_turn 68 = .ok (.if_icmp .ne 10, 3) := by decide +kernel
theorem dX7_turn_71 : decode cX7_turn 71 = .ok (.iload_n 2, 1) := by decide +kernel
theorem dX7_turn_72 : decode cX7_turn 72 = .ok (.bipush 7, 2) := by decide +kernel
theorem dX7_turn_74 : decode cX7_turn 74 = .ok (.iadd, 1) := by decide +kernel
theorem dX7_turn_75 : decode cX7_turn 75 = .ok (.goto 7, 3) := by decide +kernel
theorem dX7_turn_78 : decode cX7_turn 78 = .ok (.iload 4, 2) := by decide +kernel
theorem dX7_turn_80 : decode cX7_turn 80 = .ok (.iconst 1, 1) := by decide +kernel
theorem dX7_turn_81 : decode cX7_turn 81 = .ok (.isub, 1) := by decide +kernel
theorem dX7_turn_82 : decode cX7_turn 82 = .ok (.invokevirtual 218, 3) := by decide +kernel
theorem dX7_turn_85 : decode cX7_turn 85 = .ok (.iinc 3 1, 3) := by decide +kernel
theorem dX7_turn_88 : decode cX7_turn 88 = .ok (.goto (-74), 3) := by decide +kernel
theorem dX7_turn_91 : decode cX7_turn 91 = .ok (.iinc 1 1, 3) := by decide +kernel
theorem dX7_turn_94 : decode cX7_turn 94 = .ok (.goto (-92), 3) := by decide +kernel
theorem dX7_turn_97 : decode cX7_turn 97 = .ok (.iconst 0, 1) := by decide +kernel
theorem dX7_turn_98 : decode cX7_turn 98 = .ok (.istore_n 1, 1) := by decide +kernel
theorem dX7_turn_99 : decode cX7_turn 99 = .ok (.iload_n 1, 1) := by decide +kernel
theorem dX7_turn_100 : decode cX7_turn 100 = .ok (.iconst 2, 1) := by decide +kernel
theorem dX7_turn_101 : decode cX7_turn 101 = .ok (.if_icmp .ge 80, 3) := by decide +kernel
theorem dX7_turn_104 : decode cX7_turn 104 = .ok (.iconst 0, 1) := by decide +kernel
theorem dX7_turn_105 : decode cX7_turn 105 = .ok (.istore_n 2, 1) := by decide +kernel
theorem dX7_turn_106 : decode cX7_turn 106 = .ok (.aload_n 0, 1) := by decide +kernel
theorem dX7_turn_107 : decode cX7_turn 107 = .ok (.iload_n 1, 1) := by decide +kernel
theorem dX7_turn_108 : decode cX7_turn 108 = .ok (.invokevirtual 78, 3) := by decide +kernel
theorem dX7_turn_111 : decode cX7_turn 111 = .ok (.ifCond .eq 64, 3) := by decide +kernel
theorem dX7_turn_114 : decode cX7_turn 114 = .ok (.iload_n 2, 1) := by decide +kernel
theorem dX7_turn_115 : decode cX7_turn 115 = .ok (.aload_n 0, 1) := by decide +kernel
theorem dX7_turn_116 : decode cX7_turn 116 = .ok (.getfield 13, 3) := by decide +kernel
theorem dX7_turn_119 : decode cX7_turn 119 = .ok (.iload_n 1, 1) := by decide +kernel
theorem dX7_turn_120 : decode cX7_turn 120 = .ok (.invokestatic 75, 3) := by decide +kernel
theorem dX7_turn_123 : decode cX7_turn 123 = .ok (.bipush 6, 2) := by decide +kernel
theorem dX7_turn_125 : decode cX7_turn 125 = .ok (.iadd, 1) := by decide +kernel
theorem dX7_turn_126 : decode cX7_turn 126 = .ok (.iaload, 1) := by decide +kernel
theorem dX7_turn_127 : decode cX7_turn 127 = .ok (.if_icmp .ge 48, 3) := by decide +kernel
theorem dX7_turn_130 : decode cX7_turn 130 = .ok (.aload_n 0, 1) := by decide +kernel
theorem dX7_turn_131 : decode cX7_turn 131 = .ok (.iload_n 1, 1) := by decide +kernel
theorem dX7_turn_132 : decode cX7_turn 132 = .ok (.iload_n 2, 1) := by decide +kernel
theorem dX7_turn_133 : decode cX7_turn 133 = .ok (.invokestatic 82, 3) := by decide +kernel
theorem dX7_turn_136 : decode cX7_turn 136 = .ok (.invokevirtual 221, 3) := by decide +kernel
theorem dX7_turn_139 : decode cX7_turn 139 = .ok (.aload_n 0, 1) := by decide +kernel
theorem dX7_turn_140 : decode cX7_turn 140 = .ok (.getfield 13, 3) := by decide +kernel
theorem dX7_turn_143 : decode cX7_turn 143 = .ok (.iload_n 1, 1) := by decide +kernel
theorem dX7_turn_144 : decode cX7_turn 144 = .ok (.iload_n 2, 1) := by decide +kernel
theorem dX7_turn_145 : decode cX7_turn 145 = .ok (.invokestatic 82, 3) := by decide +kernel
theorem dX7_turn_148 : decode cX7_turn 148 = .ok (.bipush 42, 2) := by decide +kernel
theorem dX7_turn_150 : decode cX7_turn 150 = .ok (.iadd, 1) := by decide +kernel
theorem dX7_turn_151 : decode cX7_turn 151 = .ok (.dup2, 1) := by decide +kernel
theorem dX7_turn_152 : decode cX7_turn 152 = .ok (.iaload, 1) := by decide +kernel
theorem dX7_turn_153 : decode cX7_turn 153 = .ok (.aload_n 0, 1) := by decide +kernel
theorem dX7_turn_154 : decode cX7_turn 154 = .ok (.iload_n 1, 1) := by decide +kernel
theorem dX7_turn_155 : decode cX7_turn 155 = .ok (.iload_n 2, 1) := by decide +kernel
theorem dX7_turn_156 : decode cX7_turn 156 = .ok (.invokevirtual 182, 3) := by decide +kernel
theorem dX7_turn_159 : decode cX7_turn 159 = .ok (.ifCond .eq 7, 3) := by decide +kernel
theorem dX7_turn_162 : decode cX7_turn 162 = .ok (.iconst 1, 1) := by decide +kernel
theorem dX7_turn_163 : decode cX7_turn 163 = .ok (.goto 4, 3) := by decide +kernel
theorem dX7_turn_166 : decode cX7_turn 166 = .ok (.iconst 0, 1) := by decide +kernel
theorem dX7_turn_167 : decode cX7_turn 167 = .ok (.iadd, 1) := by decide +kernel
theorem dX7_turn_168 : decode cX7_turn 168 = .ok (.iastore, 1) := by decide +kernel
theorem dX7_turn_169 : decode cX7_turn 169 = .ok (.iinc 2 1, 3) := by decide +kernel
theorem dX7_turn_172 : decode cX7_turn 172 = .ok (.goto (-66), 3) := by decide +kernel
theorem dX7_turn_175 : decode cX7_turn 175 = .ok (.iinc 1 1, 3) := by decide +kernel
theorem dX7_turn_178 : decode cX7_turn 178 = .ok (.goto (-79), 3) := by decide +kernel
theorem dX7_turn_181 : decode cX7_turn 181 = .ok (.iconst 0, 1) := by decide +kernel
theorem dX7_turn_182 : decode cX7_turn 182 = .ok (.istore_n 1, 1) := by decide +kernel
theorem dX7_turn_183 : decode cX7_turn 183 = .ok (.iload_n 1, 1) := by decide +kernel
theorem dX7_turn_184 : decode cX7_turn 184 = .ok (.iconst 2, 1) := by decide +kernel
theorem dX7_turn_185 : decode cX7_turn 185 = .ok (.if_icmp .ge 32, 3) := by decide +kernel
theorem dX7_turn_188 : decode cX7_turn 188 = .ok (.aload_n 0, 1) := by decide +kernel
theorem dX7_turn_189 : decode cX7_turn 189 = .ok (.getfield 32, 3) := by decide +kernel
theorem dX7_turn_192 : decode cX7_turn 192 = .ok (.iload_n 1, 1) := by decide +kernel
theorem dX7_turn_193 : decode cX7_turn 193 = .ok (.aload_n 0, 1) := by decide +kernel
theorem dX7_turn_194 : decode cX7_turn 194 = .ok (.iload_n 1, 1) := by decide +kernel
theorem dX7_turn_195 : decode cX7_turn 195 = .ok (.invokevirtual 78, 3) := by decide +kernel
theorem dX7_turn_198 : decode cX7_turn 198 = .ok (.ifCond .eq 11, 3) := by decide +kernel
theorem dX7_turn_201 : decode cX7_turn 201 = .ok (.aload_n 0, 1) := by decide +kernel
theorem dX7_turn_202 : decode cX7_turn 202 = .ok (.iload_n 1, 1) := by decide +kernel
theorem dX7_turn_203 : decode cX7_turn 203 = .ok (.invokevirtual 224, 3) := by decide +kernel
theorem dX7_turn_206 : decode cX7_turn 206 = .ok (.goto 4, 3) := by decide +kernel
theorem dX7_turn_209 : decode cX7_turn 209 = .ok (.iconst (-1), 1) := by decide +kernel
theorem dX7_turn_210 : decode cX7_turn 210 = .ok (.iastore, 1) := by decide +kernel
theorem dX7_turn_211 : decode cX7_turn 211 = .ok (.iinc 1 1, 3) := by decide +kernel
theorem dX7_turn_214 : decode cX7_turn 214 = .ok (.goto (-31), 3) := by decide +kernel
theorem dX7_turn_217 : decode cX7_turn 217 = .ok (.aload_n 0, 1) := by decide +kernel
theorem dX7_turn_218 : decode cX7_turn 218 = .ok (.invokevirtual 227, 3) := by decide +kernel
theorem dX7_turn_221 : decode cX7_turn 221 = .ok (.aload_n 0, 1) := by decide +kernel
theorem dX7_turn_222 : decode cX7_turn 222 = .ok (.invokevirtual 230, 3) := by decide +kernel
theorem dX7_turn_225 : decode cX7_turn 225 = .ok (.iconst 0, 1) := by decide +kernel
theorem dX7_turn_226 : decode cX7_turn 226 = .ok (.istore_n 1, 1) := by decide +kernel
theorem dX7_turn_227 : decode cX7_turn 227 = .ok (.iload_n 1, 1) := by decide +kernel
theorem dX7_turn_228 : decode cX7_turn 228 = .ok (.iconst 2, 1) := by decide +kernel
theorem dX7_turn_229 : decode cX7_turn 229 = .ok (.if_icmp .ge 127, 3) := by decide +kernel
theorem dX7_turn_232 : decode cX7_turn 232 = .ok (.iconst 0, 1) := by decide +kernel
theorem dX7_turn_233 : decode cX7_turn 233 = .ok (.istore_n 2, 1) := by decide +kernel
theorem dX7_turn_234 : decode cX7_turn 234 = .ok (.aload_n 0, 1) := by decide +kernel
theorem dX7_turn_235 : decode cX7_turn 235 = .ok (.iload_n 1, 1) := by decide +kernel
theorem dX7_turn_236 : decode cX7_turn 236 = .ok (.invokevirtual 78, 3) := by decide +kernel
theorem dX7_turn_239 : decode cX7_turn 239 = .ok (.ifCond .eq 111, 3) := by decide +kernel
theorem dX7_turn_242 : decode cX7_turn 242 = .ok (.iload_n 2, 1) := by decide +kernel
theorem dX7_turn_243 : decode cX7_turn 243 = .ok (.aload_n 0, 1) := by decide +kernel
theorem dX7_turn_244 : decode cX7_turn 244 = .ok (.getfield 13, 3) := by decide +kernel
theorem dX7_turn_247 : decode cX7_turn 247 = .ok (.iload_n 1, 1) := by decide +kernel
theorem dX7_turn_248 : decode cX7_turn 248 = .ok (.invokestatic 75, 3) := by decide +kernel
theorem dX7_turn_251 : decode cX7_turn 251 = .ok (.bipush 6, 2) := by decide +kernel
theorem dX7_turn_253 : decode cX7_turn 253 = .ok (.iadd, 1) := by decide +kernel
theorem dX7_turn_254 : decode cX7_turn 254 = .ok (.iaload, 1) := by decide +kernel
theorem dX7_turn_255 : decode cX7_turn 255 = .ok (.if_icmp .ge 95, 3) := by decide +kernel
theorem dX7_turn_258 : decode cX7_turn 258 = .ok (.iload_n 1, 1) := by decide +kernel
theorem dX7_turn_259 : decode cX7_turn 259 = .ok (.iload_n 2, 1) := by decide +kernel
theorem dX7_turn_260 : decode cX7_turn 260 = .ok (.invokestatic 82, 3) := by decide +kernel
theorem dX7_turn_263 : decode cX7_turn 263 = .ok (.istore_n 3, 1) := by decide +kernel
theorem dX7_turn_264 : decode cX7_turn 264 = .ok (.aload_n 0, 1) := by decide +kernel
theorem dX7_turn_265 : decode cX7_turn 265 = .ok (.getfield 13, 3) := by decide +kernel
theorem dX7_turn_268 : decode cX7_turn 268 = .ok (.iload_n 3, 1) := by decide +kernel
theorem dX7_turn_269 : decode cX7_turn 269 = .ok (.bipush 36, 2) := by decide +kernel
theorem dX7_turn_271 : decode cX7_turn 271 = .ok (.iadd, 1) := by decide +kernel
theorem dX7_turn_272 : decode cX7_turn 272 = .ok (.iaload, 1) := by decide +kernel
theorem dX7_turn_273 : decode cX7_turn 273 = .ok (.ifCond .le 71, 3) := by decide +kernel
theorem dX7_turn_276 : decode cX7_turn 276 = .ok (.aload_n 0, 1) := by decide +kernel
theorem dX7_turn_277 : decode cX7_turn 277 = .ok (.getfield 13, 3) := by decide +kernel
theorem dX7_turn_280 : decode cX7_turn 280 = .ok (.iload_n 3, 1) := by decide +kernel
theorem dX7_turn_281 : decode cX7_turn 281 = .ok (.bipush 36, 2) := by decide +kernel
theorem dX7_turn_283 : decode cX7_turn 283 = .ok (.iadd, 1) := by decide +kernel
theorem dX7_turn_284 : decode cX7_turn 284 = .ok (.dup2, 1) := by decide +kernel
theorem dX7_turn_285 : decode cX7_turn 285 = .ok (.iaload, 1) := by decide +kernel
theorem dX7_turn_286 : decode cX7_turn 286 = .ok (.iconst 1, 1) := by decide +kernel
theorem dX7_turn_287 : decode cX7_turn 287 = .ok (.isub, 1) := by decide +kernel
theorem dX7_turn_288 : decode cX7_turn 288 = .ok (.iastore, 1) := by decide +kernel
theorem dX7_turn_289 : decode cX7_turn 289 = .ok (.aload_n 0, 1) := by decide +kernel
theorem dX7_turn_290 : decode cX7_turn 290 = .ok (.getfield 13, 3) := by decide +kernel
theorem dX7_turn_293 : decode cX7_turn 293 = .ok (.iload_n 3, 1) := by decide +kernel
theorem dX7_turn_294 : decode cX7_turn 294 = .ok (.bipush 35, 2) := by decide +kernel
theorem dX7_turn_296 : decode cX7_turn 296 = .ok (.iadd, 1) := by decide +kernel
theorem dX7_turn_297 : decode cX7_turn 297 = .ok (.dup2, 1) := by decide +kernel
theorem dX7_turn_298 : decode cX7_turn 298 = .ok (.iaload, 1) := by decide +kernel
theorem dX7_turn_299 : decode cX7_turn 299 = .ok (.aload_n 0, 1) := by decide +kernel
theorem dX7_turn_300 : decode cX7_turn 300 = .ok (.getfield 13, 3) := by decide +kernel
theorem dX7_turn_303 : decode cX7_turn 303 = .ok (.iload_n 3, 1) := by decide +kernel
theorem dX7_turn_304 : decode cX7_turn 304 = .ok (.bipush 36, 2) := by decide +kernel
theorem dX7_turn_306 : decode cX7_turn 306 = .ok (.iadd, 1) := by decide +kernel
theorem dX7_turn_307 : decode cX7_turn 307 = .ok (.iaload, 1) := by decide +kernel
theorem dX7_turn_308 : decode cX7_turn 308 = .ok (.ifCond .ne 7, 3) := by decide +kernel
theorem dX7_turn_311 : decode cX7_turn 311 = .ok (.iconst 1, 1) := by decide +kernel
theorem dX7_turn_312 : decode cX7_turn 312 = .ok (.goto 4, 3) := by decide +kernel
theorem dX7_turn_315 : decode cX7_turn 315 = .ok (.iconst 0, 1) := by decide +kernel
theorem dX7_turn_316 : decode cX7_turn 316 = .ok (.iadd, 1) := by decide +kernel
theorem dX7_turn_317 : decode cX7_turn 317 = .ok (.iastore, 1) := by decide +kernel
theorem dX7_turn_318 : decode cX7_turn 318 = .ok (.aload_n 0, 1) := by decide +kernel
theorem dX7_turn_319 : decode cX7_turn 319 = .ok (.dup, 1) := by decide +kernel
theorem dX7_turn_320 : decode cX7_turn 320 = .ok (.getfield 233, 3) := by decide +kernel
theorem dX7_turn_323 : decode cX7_turn 323 = .ok (.aload_n 0, 1) := by decide +kernel
theorem dX7_turn_324 : decode cX7_turn 324 = .ok (.getfield 13, 3) := by decide +kernel
theorem dX7_turn_327 : decode cX7_turn 327 = .ok (.iload_n 3, 1) := by decide +kernel
theorem dX7_turn_328 : decode cX7_turn 328 = .ok (.bipush 36, 2) := by decide +kernel
theorem dX7_turn_330 : decode cX7_turn 330 = .ok (.iadd, 1) := by decide +kernel
theorem dX7_turn_331 : decode cX7_turn 331 = .ok (.iaload, 1) := by decide +kernel
theorem dX7_turn_332 : decode cX7_turn 332 = .ok (.ifCond .ne 7, 3) := by decide +kernel
theorem dX7_turn_335 : decode cX7_turn 335 = .ok (.iconst 1, 1) := by decide +kernel
theorem dX7_turn_336 : decode cX7_turn 336 = .ok (.goto 4, 3) := by decide +kernel
theorem dX7_turn_339 : decode cX7_turn 339 = .ok (.iconst 0, 1) := by decide +kernel
theorem dX7_turn_340 : decode cX7_turn 340 = .ok (.iadd, 1) := by decide +kernel
theorem dX7_turn_341 : decode cX7_turn 341 = .ok (.putfield 233, 3) := by decide +kernel
theorem dX7_turn_344 : decode cX7_turn 344 = .ok (.iinc 2 1, 3) := by decide +kernel
theorem dX7_turn_347 : decode cX7_turn 347 = .ok (.goto (-113), 3) := by decide +kernel
theorem dX7_turn_350 : decode cX7_turn 350 = .ok (.iinc 1 1, 3) := by decide +kernel
theorem dX7_turn_353 : decode cX7_turn 353 = .ok (.goto (-126), 3) := by decide +kernel
theorem dX7_turn_356 : decode cX7_turn 356 = .ok (.aload_n 0, 1) := by decide +kernel
theorem dX7_turn_357 : decode cX7_turn 357 = .ok (.getfield 13, 3) := by decide +kernel
theorem dX7_turn_360 : decode cX7_turn 360 = .ok (.bipush 7, 2) := by decide +kernel
theorem dX7_turn_362 : decode cX7_turn 362 = .ok (.dup2, 1) := by decide +kernel
theorem dX7_turn_363 : decode cX7_turn 363 = .ok (.iaload, 1) := by decide +kernel
theorem dX7_turn_364 : decode cX7_turn 364 = .ok (.iconst 2, 1) := by decide +kernel
theorem dX7_turn_365 : decode cX7_turn 365 = .ok (.iadd, 1) := by decide +kernel
theorem dX7_turn_366 : decode cX7_turn 366 = .ok (.iastore, 1) := by decide +kernel
theorem dX7_turn_367 : decode cX7_turn 367 = .ok (.return_, 1) := by decide +kernel
theorem dX7_turnsBy_0 : decode cX7_turnsBy 0 = .ok (.aload_n 0, 1) := by decide +kernel
theorem dX7_turnsBy_1 : decode cX7_turnsBy 1 = .ok (.iconst 0, 1) := by decide +kernel
theorem dX7_turnsBy_2 : decode cX7_turnsBy 2 = .ok (.putfield 189, 3) := by decide +kernel
theorem dX7_turnsBy_5 : decode cX7_turnsBy 5 = .ok (.aload_n 0, 1) := by decide +kernel
theorem dX7_turnsBy_6 : decode cX7_turnsBy 6 = .ok (.iconst 0, 1) := by decide +kernel
theorem dX7_turnsBy_7 : decode cX7_turnsBy 7 = .ok (.putfield 233, 3) := by decide +kernel
theorem dX7_turnsBy_10 : decode cX7_turnsBy 10 = .ok (.iconst 0, 1) := by decide +kernel
theorem dX7_turnsBy_11 : decode cX7_turnsBy 11 = .ok (.istore_n 2, 1) := by decide +kernel
theorem dX7_turnsBy_12 : decode cX7_turnsBy 12 = .ok (.iload_n 2, 1) := by decide +kernel
theorem dX7_turnsBy_13 : decode cX7_turnsBy 13 = .ok (.iload_n 1, 1) := by decide +kernel
theorem dX7_turnsBy_14 : decode cX7_turnsBy 14 = .ok (.if_icmp .ge 13, 3) := by decide +kernel
theorem dX7_turnsBy_17 : decode cX7_turnsBy 17 = .ok (.aload_n 0, 1) := by decide +kernel
theorem dX7_turnsBy_18 : decode cX7_turnsBy 18 = .ok (.invokevirtual 236, 3) := by decide +kernel
theorem dX7_turnsBy_21 : decode cX7_turnsBy 21 = .ok (.iinc 2 1, 3) := by decide +kernel
theorem dX7_turnsBy_24 : decode cX7_turnsBy 24 = .ok (.goto (-12), 3) := by decide +kernel
theorem dX7_turnsBy_27 : decode cX7_turnsBy 27 = .ok (.return_, 1) := by decide +kernel
theorem lk_RX7_196 : LkV RX7 196 RX7 yX7_mapFor cX7_mapFor 4 (some .int) 1 := ⟨⟨mw_1293, mw_1295, mw_31, mw_59, mw_1296⟩, by decide +kernel⟩
theorem lk_RX7_199 : LkV RX7 199 RX7 yX7_casts cX7_casts 6 none 1 := ⟨⟨mw_1297, mw_1299, mw_32, mw_59, mw_1300⟩, by decide +kernel⟩
theorem lk_RX7_205 : LkV RX7 205 RX7 yX7_memberHears cX7_memberHears 4 none 2 := ⟨⟨mw_1312, mw_1314, mw_35, mw_59, mw_1315⟩, by decide +kernel⟩
set_option maxHeartbeats 4000000 in
set_option maxRecDepth 100000 in
theorem d_X7_sendsDown (l : Launch) (E : hE) (ρ r : Nat → Nat → Int32) (Bt : Nat) (hBt : Bt ≤ 1000000) (M : Nat → Int32) (L : Nat → Nat) (hI : TI r Bt M L 2 0 0 0 0 2 0 ρ) : Met l yX7_sendsDown (.code yX7_sendsDown cX7_sendsDown 5 none :: gw_all) (rmk 8 320) (cPre E ρ [.ref (E.2.1 + 1076)]) (cV E (fun ρ1 => TI r Bt M L 2 2 0 2 2 2 0 ρ1)) 0 0 (hA E) := by
  refine ent (own := RX7) (by decide) rfl (Nat.le_of_ble_eq_true rfl) ?_
  intro p e s m below meth c ls B hr hlk hl hP hS
  have hx := B.1.1
  have hb := B.1.2.1
  have hown := B.1.2.2.2.1
  have hts := B.1.2.2.2.2
  have hl : lv_has ls 5 [(0, .ref (E.2.1 + 1076))] := hl
  have hT := hI
  have hI := TI_RI hT
  have b319_0 : ∀ (ls : Array Slot) (ρ : Nat → Nat → Int32) (H : Heap) (locs : List Loc) (d319 : Nat) (j319_1 : Nat), lv_has ls 5 [(0, .ref (E.2.1 + 1076)), (1, .int (nI j319_1))] → WP E ρ H → va_S (hA E) s.heap H locs → TI r Bt M L 2 2 0 2 2 2 0 ρ → 3 - j319_1 < d319 → 0 ≤ j319_1 → j319_1 ≤ 2 → W p l e (rmk 8 320) s m ([.ref (E.2.1 + 1076)] : List Value).toArray below meth c H locs 0 0 (MQ below (cV E (fun ρ1 => TI r Bt M L 2 2 0 2 2 2 0 ρ1)) ([.ref (E.2.1 + 1076)] : List Value).toArray s 0 0 (hA E)) (F0 m 319 ls []) := by
    intro ls ρ H locs d319
    induction d319 generalizing ls ρ H locs with
    | zero => intro j319_1 hl hP hS hI hd319 lj319_1 uj319_1; exact absurd hd319 (Nat.not_lt_zero _)
    | succ d319 ih319 =>
      intro j319_1 hl hP hS hI hd319 lj319_1 uj319_1
      have b348_0 : ∀ (ls : Array Slot) (ρ : Nat → Nat → Int32) (H : Heap) (locs : List Loc) , lv_has ls 5 [(0, .ref (E.2.1 + 1076)), (1, .int (nI j319_1))] → WP E ρ H → va_S (hA E) s.heap H locs → TI r Bt M L 2 2 0 2 2 2 0 ρ → 0 ≤ j319_1 → j319_1 ≤ 1 → W p l e (rmk 8 320) s m ([.ref (E.2.1 + 1076)] : List Value).toArray below meth c H locs 0 0 (MQ below (cV E (fun ρ1 => TI r Bt M L 2 2 0 2 2 2 0 ρ1)) ([.ref (E.2.1 + 1076)] : List Value).toArray s 0 0 (hA E)) (F0 m 348 ls []) := by
        intro ls ρ H locs  hl hP hS hI tlj319_1 tuj319_1
        have hT := hI
        have hI := TI_RI hT
        refine lv_iinc (v := (nI (1 + j319_1))) (lv' := [(1, .int (nI (1 + j319_1))), (0, .ref (E.2.1 + 1076))]) hx hb dX7_sendsDown_348 hl (k := 1) rfl (show nI j319_1 + nI 1 = _ from (nI_add _ _).trans (congrArg nI (by omega))) (by decide) rfl (fun ls hl => ?_)
        refine lv_goto (tgt := 319) hx hb dX7_sendsDown_351 (by decide) ?_
        exact ih319 ls ρ _ _ (1 + j319_1) (lv_sub hl [1, 0] rfl) hP hS (TI_w hT (fun m a b => by omega) (fun m a b => by omega) (by omega) (by omega) (by omega)) (by omega) (by omega) (by omega)
      have hT := hI
      have hI := TI_RI hT
      refine lv_iload_n hx hb dX7_sendsDown_319 rfl (lv_at hl 1 rfl) ?_
      refine lv_iconst (v := 2) hx hb dX7_sendsDown_320 (by decide) ?_
      refine lv_icmp_ge (tgt := 354) hx hb dX7_sendsDown_321 (by decide) (fun c395 => ?_) (fun c395 => ?_)
      · skip
        have n396 := mt (nx_lt (a := j319_1) (b := 2) (by omega) (by omega)).mpr (show ¬ (nI j319_1 < nI 2) from (Int32.not_lt.mpr c395))
        exact ret_v B hr hlk hP hS dX7_sendsDown_354 (TI_w hT (fun m a b => by omega) (fun m a b => by omega) (by omega) (by omega) (by omega))
      · skip
        have n397 := (nx_lt (a := j319_1) (b := 2) (by omega) (by omega)).mp (show (nI j319_1 < nI 2) from (Int32.not_le.mp c395))
        refine lv_aload_n hx hb dX7_sendsDown_324 rfl (lv_at hl 0 rfl) ?_
        refine get7 B hP (show hk 1076 = 7 by decide +kernel) 15 (by decide) mw_1042 rfl dX7_sendsDown_325 ?_
        refine lv_iload_n hx hb dX7_sendsDown_328 rfl (lv_at hl 1 rfl) ?_
        refine zldn (n := 2) (j := j319_1) B hP (show hk 1089 = 9 by decide +kernel) (show hlen 1089 = 2 by decide +kernel) rfl (by omega) (by decide) dX7_sendsDown_329 ?_
        have i398 : iR (ρ 1089 j319_1) 0 1 := (hT.2.2.2.1 j319_1 (by omega)).2.2.2.2
        obtain ⟨j399, lj399, uj399, ej399⟩ := iR_nat (a := 0) (b := 1) i398
        refine lv_topi (fun z400 ez400 => ?_)
        obtain rfl : z400 = nI j399 := ez400.trans ej399
        refine lv_if_eq (tgt := 348) hx hb dX7_sendsDown_330 (by decide) (fun c401 => ?_) (fun c401 => ?_)
        · skip
          have n402 := (nI_eq (a := j399) (b := 0) (by omega) (by omega)).mp (show (nI j399 = nI 0) from c401)
          exact b348_0 ls ρ _ _  (lv_sub hl [0, 1] rfl) hP hS (TI_w hT (fun m a b => by omega) (fun m a b => by omega) (by omega) (by omega) (by omega)) (by omega) (by omega)
        · skip
          have n403 := mt (nI_eq (a := j399) (b := 0) (by omega) (by omega)).mpr (show ¬ (nI j399 = nI 0) from c401)
          refine lv_aload_n hx hb dX7_sendsDown_333 rfl (lv_at hl 0 rfl) ?_
          refine lv_iload_n hx hb dX7_sendsDown_334 rfl (lv_at hl 1 rfl) ?_
          refine lv_iload_n hx hb dX7_sendsDown_335 rfl (lv_at hl 1 rfl) ?_
          refine lv_aload_n hx hb dX7_sendsDown_336 rfl (lv_at hl 0 rfl) ?_
          refine get7 B hP (show hk 1076 = 7 by decide +kernel) 10 (by decide) mw_1037 rfl dX7_sendsDown_337 ?_
          refine lv_iload_n hx hb dX7_sendsDown_340 rfl (lv_at hl 1 rfl) ?_
          refine aldn (n := 2) (j := j319_1) B hP (show hk 1084 = 8 by decide +kernel) (show hlen 1084 = 2 by decide +kernel) rfl (by omega) (by decide) dX7_sendsDown_341 ?_
          have i404 : iR (ρ 1084 j319_1) 0 3 := hT.2.2.2.2.2.1 j319_1 (by omega) (by omega) (ej399.trans (congrArg nI (show j399 = 1 by omega)))
          have i405 : iR (M j319_1) 0 5 := (hT.2.2.2.2.1 j319_1 (by omega) (by omega)).2 (m_ne (iR_w (a := 0) (b := 3) (a' := 0) (b' := 3) i404 (by decide) (by decide)))
          have i406 : iR (ρ 1084 j319_1) (-1) ((L j319_1 : Int) - 1) := ⟨Int.le_trans (by decide) (show (0 : Int) ≤ _ from i404.1), (hT.2.2.2.2.1 j319_1 (by omega) (by omega)).1.2⟩
          have := RI_Lb (n := j319_1) hI (by omega)
          obtain ⟨j407, lj407, uj407, ej407⟩ := iR_nat (a := 0) (b := 3) i404
          refine lv_topi (fun z408 ez408 => ?_)
          obtain rfl : z408 = nI j407 := ez408.trans ej407
          have : j407 < L j319_1 := rl_lt i406 ej407 (by omega)
          refine call_i (cS (av := [.int (nI j319_1), .int (nI j407)]) (rest := [.int (nI j319_1), .ref (E.2.1 + 1076)]) B hP hS (d_X7_linkAt l E ρ ρ Bt hBt M L (XT 2 2 0 2 (ρ 1084) (ρ 1087)) j319_1 (by omega) (by omega) j407 (by omega) (by omega) hI) lk_RX7_82 rfl rfl hl.1 (Nat.le_of_ble_eq_true rfl) ⟨Nat.le_of_ble_eq_true rfl, Nat.le_of_ble_eq_true rfl⟩ ⟨Nat.le_of_ble_eq_true rfl, Nat.le_of_ble_eq_true rfl⟩ dX7_sendsDown_342) hS (fun r409 ρ410 H locs q411 hP hS => ?_)
          obtain ⟨rfl, -, q411⟩ := q411
          obtain rfl : r409 = nI (104 + 326 * j319_1 + 66 * j407) := q411.trans (congrArg nI (by omega))
          refine call_v (cVt (k := 1076) (av := [.int (nI j319_1), .int (nI (104 + 326 * j319_1 + 66 * j407))]) (rest := []) B hP hS (d_X7_memberHears l E ρ ρ Bt hBt M L (XT 2 2 0 2 (ρ 1084) (ρ 1087)) j319_1 (by omega) j407 (by omega) hI i405 (by omega) (hT.2.2.2.1 j319_1 (by omega)).2.2.1 (hT.2.2.2.1 j319_1 (by omega)).2.2.2.1 (XT_no (by omega))) lk_RX7_205 (hrecv (ci := 7) B hP (hk_lt (c := 7) (show hk 1076 = 7 by decide +kernel) (by decide)) (hcc7 _ _ (show hk 1076 = 7 by decide +kernel)) rfl) rfl rfl hl.1 (Nat.le_of_ble_eq_true rfl) ⟨Nat.le_of_ble_eq_true rfl, Nat.le_of_ble_eq_true rfl⟩ ⟨Nat.le_of_ble_eq_true rfl, Nat.le_of_ble_eq_true rfl⟩ dX7_sendsDown_345) hS (fun ρ414 H locs q415 hP hS => ?_)
          have hR416 := q415
          have hT := TI_back hT hR416
          have hI := TI_RI hT
          exact b348_0 ls ρ414 _ _  (lv_sub hl [0, 1] rfl) hP hS (TI_w hT (fun m a b => by omega) (fun m a b => by omega) (by omega) (by omega) (by omega)) (by omega) (by omega)
  have b73_0 : ∀ (ls : Array Slot) (ρ : Nat → Nat → Int32) (H : Heap) (locs : List Loc) (d73 : Nat) (j73_1 : Nat), lv_has ls 5 [(0, .ref (E.2.1 + 1076)), (1, .int (nI j73_1))] → WP E ρ H → va_S (hA E) s.heap H locs → TI r Bt M L 2 j73_1 0 2 j73_1 2 0 ρ → 3 - j73_1 < d73 → 0 ≤ j73_1 → j73_1 ≤ 2 → W p l e (rmk 8 320) s m ([.ref (E.2.1 + 1076)] : List Value).toArray below meth c H locs 0 0 (MQ below (cV E (fun ρ1 => TI r Bt M L 2 2 0 2 2 2 0 ρ1)) ([.ref (E.2.1 + 1076)] : List Value).toArray s 0 0 (hA E)) (F0 m 73 ls []) := by
    intro ls ρ H locs d73
    induction d73 generalizing ls ρ H locs with
    | zero => intro j73_1 hl hP hS hI hd73 lj73_1 uj73_1; exact absurd hd73 (Nat.not_lt_zero _)
    | succ d73 ih73 =>
      intro j73_1 hl hP hS hI hd73 lj73_1 uj73_1
      have b311_0 : ∀ (ls : Array Slot) (ρ : Nat → Nat → Int32) (H : Heap) (locs : List Loc) , lv_has ls 5 [(0, .ref (E.2.1 + 1076)), (1, .int (nI j73_1))] → WP E ρ H → va_S (hA E) s.heap H locs → TI r Bt M L 2 (j73_1 + 1) 0 2 (j73_1 + 1) 2 0 ρ → 0 ≤ j73_1 → j73_1 ≤ 1 → W p l e (rmk 8 320) s m ([.ref (E.2.1 + 1076)] : List Value).toArray below meth c H locs 0 0 (MQ below (cV E (fun ρ1 => TI r Bt M L 2 2 0 2 2 2 0 ρ1)) ([.ref (E.2.1 + 1076)] : List Value).toArray s 0 0 (hA E)) (F0 m 311 ls []) := by
        intro ls ρ H locs  hl hP hS hI tlj73_1 tuj73_1
        have hT := hI
        have hI := TI_RI hT
        refine lv_iinc (v := (nI (1 + j73_1))) (lv' := [(1, .int (nI (1 + j73_1))), (0, .ref (E.2.1 + 1076))]) hx hb dX7_sendsDown_311 hl (k := 1) rfl (show nI j73_1 + nI 1 = _ from (nI_add _ _).trans (congrArg nI (by omega))) (by decide) rfl (fun ls hl => ?_)
        refine lv_goto (tgt := 73) hx hb dX7_sendsDown_314 (by decide) ?_
        exact ih73 ls ρ _ _ (1 + j73_1) (lv_sub hl [1, 0] rfl) hP hS (TI_w hT (fun m a b => by omega) (fun m a b => by omega) (by omega) (by omega) (by omega)) (by omega) (by omega) (by omega)
      have b309_0 : ∀ (ls : Array Slot) (ρ : Nat → Nat → Int32) (H : Heap) (locs : List Loc) (j309_s1 : Nat) (x309_s2 : Int32), lv_has ls 5 [(0, .ref (E.2.1 + 1076)), (1, .int (nI j73_1))] → WP E ρ H → va_S (hA E) s.heap H locs → TI r Bt M L 2 j73_1 0 2 (j73_1 + 1) 2 0 ρ → 13 ≤ j309_s1 → j309_s1 ≤ 13 → iR x309_s2 (-2147483648) (2147483647) → iR (M j73_1) (0) (5) → 0 ≤ (L j73_1) → (L j73_1) ≤ 4 → 0 ≤ j73_1 → j73_1 ≤ 1 → W p l e (rmk 8 320) s m ([.ref (E.2.1 + 1076)] : List Value).toArray below meth c H locs 0 0 (MQ below (cV E (fun ρ1 => TI r Bt M L 2 2 0 2 2 2 0 ρ1)) ([.ref (E.2.1 + 1076)] : List Value).toArray s 0 0 (hA E)) (F0 m 309 ls [.int 0, .int x309_s2, .int (nI j309_s1), .ref (E.2.1 + 1078)]) := by
        intro ls ρ H locs j309_s1 x309_s2 hl hP hS hI lj309_s1 uj309_s1 hx309_s2 f_M_j73_1_ tl_L_j73_1_ tu_L_j73_1_ tlj73_1 tuj73_1
        have hT := hI
        have hI := TI_RI hT
        refine lv_iadd hx hb dX7_sendsDown_309 ?_
        refine astn (n := 695) (j := j309_s1) B hP hS (show hk 1078 = 8 by decide +kernel) (show hlen 1078 = 695 by decide +kernel) rfl (by omega) (by decide) dX7_sendsDown_310 (fun H locs hP hS => ?_)
        obtain ⟨ρ417, e418⟩ : ∃ z, z = up ρ 1078 j309_s1 (x309_s2 + 0) := ⟨_, rfl⟩
        rw [← e418] at hP
        have hT : TI r Bt M L 2 j73_1 0 2 (j73_1 + 1) 2 0 ρ417 := by rw [e418]; exact TI_back hT (RI_up hI (ok_head (by omega) (by omega) (by omega)))
        have hI := TI_RI hT
        exact b311_0 ls ρ417 _ _  (lv_sub hl [0, 1] rfl) hP hS (TI_w hT (fun m a b => by omega) (fun m a b => by omega) (by omega) (by omega) (by omega)) (by omega) (by omega)
      have b309_1 : ∀ (ls : Array Slot) (ρ : Nat → Nat → Int32) (H : Heap) (locs : List Loc) (j309_s1 : Nat) (x309_s2 : Int32), lv_has ls 5 [(0, .ref (E.2.1 + 1076)), (1, .int (nI j73_1))] → WP E ρ H → va_S (hA E) s.heap H locs → TI r Bt M L 2 j73_1 0 2 (j73_1 + 1) 2 0 ρ → 13 ≤ j309_s1 → j309_s1 ≤ 15 → iR x309_s2 (-2147483648) (2147483647) → iR (M j73_1) (0) (5) → 0 ≤ (L j73_1) → (L j73_1) ≤ 4 → 0 ≤ j73_1 → j73_1 ≤ 1 → W p l e (rmk 8 320) s m ([.ref (E.2.1 + 1076)] : List Value).toArray below meth c H locs 0 0 (MQ below (cV E (fun ρ1 => TI r Bt M L 2 2 0 2 2 2 0 ρ1)) ([.ref (E.2.1 + 1076)] : List Value).toArray s 0 0 (hA E)) (F0 m 309 ls [.int 1, .int x309_s2, .int (nI j309_s1), .ref (E.2.1 + 1078)]) := by
        intro ls ρ H locs j309_s1 x309_s2 hl hP hS hI lj309_s1 uj309_s1 hx309_s2 f_M_j73_1_ tl_L_j73_1_ tu_L_j73_1_ tlj73_1 tuj73_1
        have hT := hI
        have hI := TI_RI hT
        refine lv_iadd hx hb dX7_sendsDown_309 ?_
        refine astn (n := 695) (j := j309_s1) B hP hS (show hk 1078 = 8 by decide +kernel) (show hlen 1078 = 695 by decide +kernel) rfl (by omega) (by decide) dX7_sendsDown_310 (fun H locs hP hS => ?_)
        obtain ⟨ρ419, e420⟩ : ∃ z, z = up ρ 1078 j309_s1 (x309_s2 + 1) := ⟨_, rfl⟩
        rw [← e420] at hP
        have hT : TI r Bt M L 2 j73_1 0 2 (j73_1 + 1) 2 0 ρ419 := by rw [e420]; exact TI_back hT (RI_up hI (ok_head (by omega) (by omega) (by omega)))
        have hI := TI_RI hT
        exact b311_0 ls ρ419 _ _  (lv_sub hl [0, 1] rfl) hP hS (TI_w hT (fun m a b => by omega) (fun m a b => by omega) (by omega) (by omega) (by omega)) (by omega) (by omega)
      have b296_0 : ∀ (ls : Array Slot) (ρ : Nat → Nat → Int32) (H : Heap) (locs : List Loc) (j296_4 : Nat) (j296_s1 : Nat), lv_has ls 5 [(0, .ref (E.2.1 + 1076)), (1, .int (nI j73_1)), (4, .int (nI j296_4))] → WP E ρ H → va_S (hA E) s.heap H locs → TI r Bt M L 2 j73_1 0 2 (j73_1 + 1) 2 0 ρ → 0 ≤ j296_4 → j296_4 ≤ 0 → 13 ≤ j296_s1 → j296_s1 ≤ 13 → iR (M j73_1) (0) (5) → 0 ≤ (L j73_1) → (L j73_1) ≤ 4 → 0 ≤ j73_1 → j73_1 ≤ 1 → W p l e (rmk 8 320) s m ([.ref (E.2.1 + 1076)] : List Value).toArray below meth c H locs 0 0 (MQ below (cV E (fun ρ1 => TI r Bt M L 2 2 0 2 2 2 0 ρ1)) ([.ref (E.2.1 + 1076)] : List Value).toArray s 0 0 (hA E)) (F0 m 296 ls [.int 0, .int (nI j296_s1), .ref (E.2.1 + 1078)]) := by
        intro ls ρ H locs j296_4 j296_s1 hl hP hS hI lj296_4 uj296_4 lj296_s1 uj296_s1 f_M_j73_1_ tl_L_j73_1_ tu_L_j73_1_ tlj73_1 tuj73_1
        have hT := hI
        have hI := TI_RI hT
        refine lv_isub hx hb dX7_sendsDown_296 ?_
        refine lv_topi (fun z421 ez421 => ?_)
        obtain rfl : z421 = (nI j296_s1) := ez421.trans (nI_subE (a := j296_s1) (b := 0) (q := j296_s1) (by omega))
        refine lv_dup2_11 hx hb dX7_sendsDown_297 rfl rfl ?_
        refine aldn (n := 695) (j := j296_s1) B hP (show hk 1078 = 8 by decide +kernel) (show hlen 1078 = 695 by decide +kernel) rfl (by omega) (by decide) dX7_sendsDown_298 ?_
        refine lv_iload hx hb dX7_sendsDown_299 (lv_at hl 2 rfl) ?_
        refine lv_if_ne (tgt := 308) hx hb dX7_sendsDown_301 (by decide) (fun c422 => ?_) (fun c422 => ?_)
        · skip
          have n423 := mt (nI_eq (a := j296_4) (b := 0) (by omega) (by omega)).mpr (show ¬ (nI j296_4 = nI 0) from c422)
          refine lv_iconst (v := 1) hx hb dX7_sendsDown_308 (by decide) ?_
          exact b309_1 ls ρ _ _ j296_s1 ((ρ 1078 j296_s1) : Int32) (lv_sub hl [0, 1] rfl) hP hS (TI_w hT (fun m a b => by omega) (fun m a b => by omega) (by omega) (by omega) (by omega)) (by omega) (by omega) (iR_w (iR_any (ρ 1078 j296_s1)) (by decide) (by decide)) (iR_w f_M_j73_1_ (by decide) (by decide)) (by omega) (by omega) (by omega) (by omega)
        · skip
          have n424 := (nI_eq (a := j296_4) (b := 0) (by omega) (by omega)).mp (show (nI j296_4 = nI 0) from c422)
          refine lv_iconst (v := 0) hx hb dX7_sendsDown_304 (by decide) ?_
          refine lv_goto (tgt := 309) hx hb dX7_sendsDown_305 (by decide) ?_
          exact b309_0 ls ρ _ _ j296_s1 ((ρ 1078 j296_s1) : Int32) (lv_sub hl [0, 1] rfl) hP hS (TI_w hT (fun m a b => by omega) (fun m a b => by omega) (by omega) (by omega) (by omega)) (by omega) (by omega) (iR_w (iR_any (ρ 1078 j296_s1)) (by decide) (by decide)) (iR_w f_M_j73_1_ (by decide) (by decide)) (by omega) (by omega) (by omega) (by omega)
      have b296_1 : ∀ (ls : Array Slot) (ρ : Nat → Nat → Int32) (H : Heap) (locs : List Loc) (j296_4 : Nat) (j296_s1 : Nat), lv_has ls 5 [(0, .ref (E.2.1 + 1076)), (1, .int (nI j73_1)), (4, .int (nI j296_4))] → WP E ρ H → va_S (hA E) s.heap H locs → TI r Bt M L 2 j73_1 0 2 (j73_1 + 1) 2 0 ρ → 1 ≤ j296_4 → j296_4 ≤ 3 → 14 ≤ j296_s1 → j296_s1 ≤ 16 → iR (M j73_1) (0) (5) → 0 ≤ (L j73_1) → (L j73_1) ≤ 4 → 0 ≤ j73_1 → j73_1 ≤ 1 → W p l e (rmk 8 320) s m ([.ref (E.2.1 + 1076)] : List Value).toArray below meth c H locs 0 0 (MQ below (cV E (fun ρ1 => TI r Bt M L 2 2 0 2 2 2 0 ρ1)) ([.ref (E.2.1 + 1076)] : List Value).toArray s 0 0 (hA E)) (F0 m 296 ls [.int 1, .int (nI j296_s1), .ref (E.2.1 + 1078)]) := by
        intro ls ρ H locs j296_4 j296_s1 hl hP hS hI lj296_4 uj296_4 lj296_s1 uj296_s1 f_M_j73_1_ tl_L_j73_1_ tu_L_j73_1_ tlj73_1 tuj73_1
        have hT := hI
        have hI := TI_RI hT
        refine lv_isub hx hb dX7_sendsDown_296 ?_
        obtain ⟨j425, hj425⟩ : ∃ q, j296_s1 = q + 1 := ⟨j296_s1 - 1, by omega⟩
        refine lv_topi (fun z426 ez426 => ?_)
        obtain rfl : z426 = (nI j425) := ez426.trans (nI_subE (a := j296_s1) (b := 1) hj425)
        refine lv_dup2_11 hx hb dX7_sendsDown_297 rfl rfl ?_
        refine aldn (n := 695) (j := j425) B hP (show hk 1078 = 8 by decide +kernel) (show hlen 1078 = 695 by decide +kernel) rfl (by omega) (by decide) dX7_sendsDown_298 ?_
        refine lv_iload hx hb dX7_sendsDown_299 (lv_at hl 2 rfl) ?_
        refine lv_if_ne (tgt := 308) hx hb dX7_sendsDown_301 (by decide) (fun _ => ?_) (fun c427 => absurd c427 (iR_ne (nI_iR (j := j296_4) (a := 1) (b := 3) (by omega) (by omega) (by omega)) (show iR 0 (0) (0) from ⟨by decide, by decide⟩) (by decide)))
        refine lv_iconst (v := 1) hx hb dX7_sendsDown_308 (by decide) ?_
        exact b309_1 ls ρ _ _ j425 ((ρ 1078 j425) : Int32) (lv_sub hl [0, 1] rfl) hP hS (TI_w hT (fun m a b => by omega) (fun m a b => by omega) (by omega) (by omega) (by omega)) (by omega) (by omega) (iR_w (iR_any (ρ 1078 j425)) (by decide) (by decide)) (iR_w f_M_j73_1_ (by decide) (by decide)) (by omega) (by omega) (by omega) (by omega)
      have b276_0 : ∀ (ls : Array Slot) (ρ : Nat → Nat → Int32) (H : Heap) (locs : List Loc) (l276_3 : Nat) (j276_4 : Nat), lv_has ls 5 [(0, .ref (E.2.1 + 1076)), (1, .int (nI j73_1)), (3, .int (nI (104 + 326 * j73_1 + 66 * l276_3))), (4, .int (nI j276_4))] → WP E ρ H → va_S (hA E) s.heap H locs → TI r Bt M L 2 j73_1 0 2 (j73_1 + 1) j73_1 l276_3 ρ → l276_3 ≤ 3 → 1 ≤ j276_4 → j276_4 ≤ 3 → iR (M j73_1) (0) (5) → 0 ≤ (L j73_1) → (L j73_1) ≤ 4 → 0 ≤ j73_1 → j73_1 ≤ 1 → l276_3 + 0 ≤ L j73_1 → l276_3 + 1 ≤ L j73_1 → W p l e (rmk 8 320) s m ([.ref (E.2.1 + 1076)] : List Value).toArray below meth c H locs 0 0 (MQ below (cV E (fun ρ1 => TI r Bt M L 2 2 0 2 2 2 0 ρ1)) ([.ref (E.2.1 + 1076)] : List Value).toArray s 0 0 (hA E)) (F0 m 276 ls [.int 0, .int (nI j73_1), .ref (E.2.1 + 1089)]) := by
        intro ls ρ H locs l276_3 j276_4 hl hP hS hI ul276_3 lj276_4 uj276_4 f_M_j73_1_ tl_L_j73_1_ tu_L_j73_1_ tlj73_1 tuj73_1 hr276_0 hr276_1
        have hT := hI
        have hI := TI_RI hT
        refine zstn (n := 2) (j := j73_1) B hP hS (show hk 1089 = 9 by decide +kernel) (show hlen 1089 = 2 by decide +kernel) rfl (by omega) (by decide) rfl dX7_sendsDown_276 (fun H locs hP hS => ?_)
        obtain ⟨ρ428, e429⟩ : ∃ z, z = up ρ 1089 j73_1 0 := ⟨_, rfl⟩
        rw [← e429] at hP
        have hT : TI r Bt M L 2 j73_1 0 2 (j73_1 + 1) j73_1 l276_3 ρ428 := by rw [e429]; exact TI_up9 hT (iR_w (a := 0) (b := 0) (show iR 0 (0) (0) from ⟨by decide, by decide⟩) (by decide) (by decide)) (fun m a b => by omega) (fun z => absurd z (by decide))
        have hI := TI_RI hT
        refine lv_aload_n hx hb dX7_sendsDown_277 rfl (lv_at hl 0 rfl) ?_
        refine get7 B hP (show hk 1076 = 7 by decide +kernel) 3 (by decide) mw_1030 rfl dX7_sendsDown_278 ?_
        refine lv_bipush (v := 13) hx hb dX7_sendsDown_281 (by decide) ?_
        refine lv_iload hx hb dX7_sendsDown_283 (lv_at hl 3 rfl) ?_
        refine lv_iadd hx hb dX7_sendsDown_285 ?_
        refine lv_topi (fun z430 ez430 => ?_)
        obtain rfl : z430 = (nI (13 + j276_4)) := ez430.trans (by rw [show 13 = nI 13 from rfl, show (nI j276_4) = nI j276_4 from rfl, nI_add] <;> exact congrArg nI (by omega))
        refine lv_iload hx hb dX7_sendsDown_286 (lv_at hl 3 rfl) ?_
        refine lv_if_ne (tgt := 295) hx hb dX7_sendsDown_288 (by decide) (fun _ => ?_) (fun c431 => absurd c431 (iR_ne (nI_iR (j := j276_4) (a := 1) (b := 3) (by omega) (by omega) (by omega)) (show iR 0 (0) (0) from ⟨by decide, by decide⟩) (by decide)))
        refine lv_iconst (v := 1) hx hb dX7_sendsDown_295 (by decide) ?_
        exact b296_1 ls ρ428 _ _ j276_4 (13 + j276_4) (lv_sub hl [0, 1, 3] rfl) hP hS (TI_w hT (fun m a b => by omega) (fun m a b => by omega) (by omega) (by omega) (by omega)) (by omega) (by omega) (by omega) (by omega) (iR_w f_M_j73_1_ (by decide) (by decide)) (by omega) (by omega) (by omega) (by omega)
      have b276_1 : ∀ (ls : Array Slot) (ρ : Nat → Nat → Int32) (H : Heap) (locs : List Loc) (l276_3 : Nat) (j276_4 : Nat), lv_has ls 5 [(0, .ref (E.2.1 + 1076)), (1, .int (nI j73_1)), (3, .int (nI (104 + 326 * j73_1 + 66 * l276_3))), (4, .int (nI j276_4))] → WP E ρ H → va_S (hA E) s.heap H locs → TI r Bt M L 2 j73_1 0 2 (j73_1 + 1) j73_1 l276_3 ρ → l276_3 ≤ 3 → 0 ≤ j276_4 → j276_4 ≤ 0 → iR (M j73_1) (0) (5) → 0 ≤ (L j73_1) → (L j73_1) ≤ 4 → 0 ≤ j73_1 → j73_1 ≤ 1 → l276_3 + 0 ≤ L j73_1 → l276_3 + 1 ≤ L j73_1 → W p l e (rmk 8 320) s m ([.ref (E.2.1 + 1076)] : List Value).toArray below meth c H locs 0 0 (MQ below (cV E (fun ρ1 => TI r Bt M L 2 2 0 2 2 2 0 ρ1)) ([.ref (E.2.1 + 1076)] : List Value).toArray s 0 0 (hA E)) (F0 m 276 ls [.int 1, .int (nI j73_1), .ref (E.2.1 + 1089)]) := by
        intro ls ρ H locs l276_3 j276_4 hl hP hS hI ul276_3 lj276_4 uj276_4 f_M_j73_1_ tl_L_j73_1_ tu_L_j73_1_ tlj73_1 tuj73_1 hr276_0 hr276_1
        have hT := hI
        have hI := TI_RI hT
        refine zstn (n := 2) (j := j73_1) B hP hS (show hk 1089 = 9 by decide +kernel) (show hlen 1089 = 2 by decide +kernel) rfl (by omega) (by decide) rfl dX7_sendsDown_276 (fun H locs hP hS => ?_)
        obtain ⟨ρ432, e433⟩ : ∃ z, z = up ρ 1089 j73_1 1 := ⟨_, rfl⟩
        rw [← e433] at hP
        have hT : TI r Bt M L 2 j73_1 0 2 (j73_1 + 1) j73_1 l276_3 ρ432 := by rw [e433]; exact TI_up9 hT (iR_w (a := 1) (b := 1) (show iR 1 (1) (1) from ⟨by decide, by decide⟩) (by decide) (by decide)) (fun m a b => by omega) (fun _ => by rw [(hT.2.2.2.2.2.2 j73_1 (by omega) (by omega)).1]; exact nI_iR (by omega) (by omega) (by omega))
        have hI := TI_RI hT
        refine lv_aload_n hx hb dX7_sendsDown_277 rfl (lv_at hl 0 rfl) ?_
        refine get7 B hP (show hk 1076 = 7 by decide +kernel) 3 (by decide) mw_1030 rfl dX7_sendsDown_278 ?_
        refine lv_bipush (v := 13) hx hb dX7_sendsDown_281 (by decide) ?_
        refine lv_iload hx hb dX7_sendsDown_283 (lv_at hl 3 rfl) ?_
        refine lv_iadd hx hb dX7_sendsDown_285 ?_
        refine lv_topi (fun z434 ez434 => ?_)
        obtain rfl : z434 = (nI (13 + j276_4)) := ez434.trans (by rw [show 13 = nI 13 from rfl, show (nI j276_4) = nI j276_4 from rfl, nI_add] <;> exact congrArg nI (by omega))
        refine lv_iload hx hb dX7_sendsDown_286 (lv_at hl 3 rfl) ?_
        refine lv_if_ne (tgt := 295) hx hb dX7_sendsDown_288 (by decide) (fun c435 => ?_) (fun c435 => ?_)
        · skip
          have n436 := mt (nI_eq (a := j276_4) (b := 0) (by omega) (by omega)).mpr (show ¬ (nI j276_4 = nI 0) from c435)
          refine lv_iconst (v := 1) hx hb dX7_sendsDown_295 (by decide) ?_
          exact b296_1 ls ρ432 _ _ j276_4 (13 + j276_4) (lv_sub hl [0, 1, 3] rfl) hP hS (TI_w hT (fun m a b => by omega) (fun m a b => by omega) (by omega) (by omega) (by omega)) (by omega) (by omega) (by omega) (by omega) (iR_w f_M_j73_1_ (by decide) (by decide)) (by omega) (by omega) (by omega) (by omega)
        · skip
          have n437 := (nI_eq (a := j276_4) (b := 0) (by omega) (by omega)).mp (show (nI j276_4 = nI 0) from c435)
          refine lv_iconst (v := 0) hx hb dX7_sendsDown_291 (by decide) ?_
          refine lv_goto (tgt := 296) hx hb dX7_sendsDown_292 (by decide) ?_
          exact b296_0 ls ρ432 _ _ j276_4 (13 + j276_4) (lv_sub hl [0, 1, 3] rfl) hP hS (TI_w hT (fun m a b => by omega) (fun m a b => by omega) (by omega) (by omega) (by omega)) (by omega) (by omega) (by omega) (by omega) (iR_w f_M_j73_1_ (by decide) (by decide)) (by omega) (by omega) (by omega) (by omega)
      have b260_0 : ∀ (ls : Array Slot) (ρ : Nat → Nat → Int32) (H : Heap) (locs : List Loc) (l260_3 : Nat) (j260_4 : Nat) (l260_s1 : Nat) (j260_s2 : Nat), lv_has ls 5 [(0, .ref (E.2.1 + 1076)), (1, .int (nI j73_1)), (3, .int (nI (104 + 326 * j73_1 + 66 * l260_3))), (4, .int (nI j260_4))] → WP E ρ H → va_S (hA E) s.heap H locs → TI r Bt M L 2 j73_1 0 2 (j73_1 + 1) j73_1 l260_3 ρ → l260_3 ≤ 3 → 1 ≤ j260_4 → j260_4 ≤ 3 → l260_s1 ≤ 3 → 11 ≤ j260_s2 → j260_s2 ≤ 13 → iR (M j73_1) (0) (5) → 0 ≤ (L j73_1) → (L j73_1) ≤ 4 → 0 ≤ j73_1 → j73_1 ≤ 1 → l260_s1 + 0 ≤ L j73_1 → l260_s1 + 1 ≤ L j73_1 → l260_3 + 0 ≤ L j73_1 → l260_3 + 1 ≤ L j73_1 → W p l e (rmk 8 320) s m ([.ref (E.2.1 + 1076)] : List Value).toArray below meth c H locs 0 0 (MQ below (cV E (fun ρ1 => TI r Bt M L 2 2 0 2 2 2 0 ρ1)) ([.ref (E.2.1 + 1076)] : List Value).toArray s 0 0 (hA E)) (F0 m 260 ls [.int (nI j260_s2), .int (nI (141 + 326 * j73_1 + 66 * l260_s1)), .ref (E.2.1 + 1078)]) := by
        intro ls ρ H locs l260_3 j260_4 l260_s1 j260_s2 hl hP hS hI ul260_3 lj260_4 uj260_4 ul260_s1 lj260_s2 uj260_s2 f_M_j73_1_ tl_L_j73_1_ tu_L_j73_1_ tlj73_1 tuj73_1 hr260_0 hr260_1 hr260_2 hr260_3
        have hT := hI
        have hI := TI_RI hT
        refine astn (n := 695) (j := (141 + 326 * j73_1 + 66 * l260_s1)) B hP hS (show hk 1078 = 8 by decide +kernel) (show hlen 1078 = 695 by decide +kernel) rfl (by omega) (by decide) dX7_sendsDown_260 (fun H locs hP hS => ?_)
        obtain ⟨ρ438, e439⟩ : ∃ z, z = up ρ 1078 (141 + 326 * j73_1 + 66 * l260_s1) (nI j260_s2) := ⟨_, rfl⟩
        rw [← e439] at hP
        have hT : TI r Bt M L 2 j73_1 0 2 (j73_1 + 1) j73_1 l260_3 ρ438 := by rw [e439]; exact TI_back hT (RI_up hI (ok_link (n0 := j73_1) (l0 := l260_s1) (j := (141 + 326 * j73_1 + 66 * l260_s1)) 37 (by omega) (by omega) (by omega) (by omega)))
        have hI := TI_RI hT
        refine lv_aload_n hx hb dX7_sendsDown_261 rfl (lv_at hl 0 rfl) ?_
        refine get7 B hP (show hk 1076 = 7 by decide +kernel) 15 (by decide) mw_1042 rfl dX7_sendsDown_262 ?_
        refine lv_iload_n hx hb dX7_sendsDown_265 rfl (lv_at hl 1 rfl) ?_
        refine lv_iload hx hb dX7_sendsDown_266 (lv_at hl 3 rfl) ?_
        refine lv_if_ne (tgt := 275) hx hb dX7_sendsDown_268 (by decide) (fun _ => ?_) (fun c440 => absurd c440 (iR_ne (nI_iR (j := j260_4) (a := 1) (b := 3) (by omega) (by omega) (by omega)) (show iR 0 (0) (0) from ⟨by decide, by decide⟩) (by decide)))
        refine lv_iconst (v := 0) hx hb dX7_sendsDown_275 (by decide) ?_
        exact b276_0 ls ρ438 _ _ l260_3 j260_4 (lv_sub hl [0, 1, 2, 3] rfl) hP hS (TI_w hT (fun m a b => by omega) (fun m a b => by omega) (by omega) (by omega) (by omega)) (by omega) (by omega) (by omega) (iR_w f_M_j73_1_ (by decide) (by decide)) (by omega) (by omega) (by omega) (by omega) (by omega) (by omega)
      have b260_1 : ∀ (ls : Array Slot) (ρ : Nat → Nat → Int32) (H : Heap) (locs : List Loc) (l260_3 : Nat) (j260_4 : Nat) (l260_s1 : Nat), lv_has ls 5 [(0, .ref (E.2.1 + 1076)), (1, .int (nI j73_1)), (3, .int (nI (104 + 326 * j73_1 + 66 * l260_3))), (4, .int (nI j260_4))] → WP E ρ H → va_S (hA E) s.heap H locs → TI r Bt M L 2 j73_1 0 2 (j73_1 + 1) j73_1 l260_3 ρ → l260_3 ≤ 3 → 0 ≤ j260_4 → j260_4 ≤ 0 → l260_s1 ≤ 3 → iR (M j73_1) (0) (5) → 0 ≤ (L j73_1) → (L j73_1) ≤ 4 → 0 ≤ j73_1 → j73_1 ≤ 1 → l260_s1 + 0 ≤ L j73_1 → l260_s1 + 1 ≤ L j73_1 → l260_3 + 0 ≤ L j73_1 → l260_3 + 1 ≤ L j73_1 → W p l e (rmk 8 320) s m ([.ref (E.2.1 + 1076)] : List Value).toArray below meth c H locs 0 0 (MQ below (cV E (fun ρ1 => TI r Bt M L 2 2 0 2 2 2 0 ρ1)) ([.ref (E.2.1 + 1076)] : List Value).toArray s 0 0 (hA E)) (F0 m 260 ls [.int 0, .int (nI (141 + 326 * j73_1 + 66 * l260_s1)), .ref (E.2.1 + 1078)]) := by
        intro ls ρ H locs l260_3 j260_4 l260_s1 hl hP hS hI ul260_3 lj260_4 uj260_4 ul260_s1 f_M_j73_1_ tl_L_j73_1_ tu_L_j73_1_ tlj73_1 tuj73_1 hr260_0 hr260_1 hr260_2 hr260_3
        have hT := hI
        have hI := TI_RI hT
        refine astn (n := 695) (j := (141 + 326 * j73_1 + 66 * l260_s1)) B hP hS (show hk 1078 = 8 by decide +kernel) (show hlen 1078 = 695 by decide +kernel) rfl (by omega) (by decide) dX7_sendsDown_260 (fun H locs hP hS => ?_)
        obtain ⟨ρ441, e442⟩ : ∃ z, z = up ρ 1078 (141 + 326 * j73_1 + 66 * l260_s1) 0 := ⟨_, rfl⟩
        rw [← e442] at hP
        have hT : TI r Bt M L 2 j73_1 0 2 (j73_1 + 1) j73_1 l260_3 ρ441 := by rw [e442]; exact TI_back hT (RI_up hI (ok_link (n0 := j73_1) (l0 := l260_s1) (j := (141 + 326 * j73_1 + 66 * l260_s1)) 37 (by omega) (by omega) (by omega) (by omega)))
        have hI := TI_RI hT
        refine lv_aload_n hx hb dX7_sendsDown_261 rfl (lv_at hl 0 rfl) ?_
        refine get7 B hP (show hk 1076 = 7 by decide +kernel) 15 (by decide) mw_1042 rfl dX7_sendsDown_262 ?_
        refine lv_iload_n hx hb dX7_sendsDown_265 rfl (lv_at hl 1 rfl) ?_
        refine lv_iload hx hb dX7_sendsDown_266 (lv_at hl 3 rfl) ?_
        refine lv_if_ne (tgt := 275) hx hb dX7_sendsDown_268 (by decide) (fun c443 => ?_) (fun c443 => ?_)
        · skip
          have n444 := mt (nI_eq (a := j260_4) (b := 0) (by omega) (by omega)).mpr (show ¬ (nI j260_4 = nI 0) from c443)
          refine lv_iconst (v := 0) hx hb dX7_sendsDown_275 (by decide) ?_
          exact b276_0 ls ρ441 _ _ l260_3 j260_4 (lv_sub hl [0, 1, 2, 3] rfl) hP hS (TI_w hT (fun m a b => by omega) (fun m a b => by omega) (by omega) (by omega) (by omega)) (by omega) (by omega) (by omega) (iR_w f_M_j73_1_ (by decide) (by decide)) (by omega) (by omega) (by omega) (by omega) (by omega) (by omega)
        · skip
          have n445 := (nI_eq (a := j260_4) (b := 0) (by omega) (by omega)).mp (show (nI j260_4 = nI 0) from c443)
          refine lv_iconst (v := 1) hx hb dX7_sendsDown_271 (by decide) ?_
          refine lv_goto (tgt := 276) hx hb dX7_sendsDown_272 (by decide) ?_
          exact b276_1 ls ρ441 _ _ l260_3 j260_4 (lv_sub hl [0, 1, 2, 3] rfl) hP hS (TI_w hT (fun m a b => by omega) (fun m a b => by omega) (by omega) (by omega) (by omega)) (by omega) (by omega) (by omega) (iR_w f_M_j73_1_ (by decide) (by decide)) (by omega) (by omega) (by omega) (by omega) (by omega) (by omega)
      have b210_0 : ∀ (ls : Array Slot) (ρ : Nat → Nat → Int32) (H : Heap) (locs : List Loc) (l210_3 : Nat), lv_has ls 5 [(0, .ref (E.2.1 + 1076)), (1, .int (nI j73_1)), (3, .int (nI (104 + 326 * j73_1 + 66 * l210_3)))] → WP E ρ H → va_S (hA E) s.heap H locs → TI r Bt M L 2 j73_1 0 2 (j73_1 + 1) j73_1 l210_3 ρ → l210_3 ≤ 3 → iR (M j73_1) (0) (5) → 0 ≤ (L j73_1) → (L j73_1) ≤ 4 → 0 ≤ j73_1 → j73_1 ≤ 1 → l210_3 + 0 ≤ L j73_1 → l210_3 + 1 ≤ L j73_1 → W p l e (rmk 8 320) s m ([.ref (E.2.1 + 1076)] : List Value).toArray below meth c H locs 0 0 (MQ below (cV E (fun ρ1 => TI r Bt M L 2 2 0 2 2 2 0 ρ1)) ([.ref (E.2.1 + 1076)] : List Value).toArray s 0 0 (hA E)) (F0 m 210 ls [.int 0, .int (nI j73_1), .ref (E.2.1 + 1088)]) := by
        intro ls ρ H locs l210_3 hl hP hS hI ul210_3 f_M_j73_1_ tl_L_j73_1_ tu_L_j73_1_ tlj73_1 tuj73_1 hr210_0 hr210_1
        have hT := hI
        have hI := TI_RI hT
        refine zstn (n := 2) (j := j73_1) B hP hS (show hk 1088 = 9 by decide +kernel) (show hlen 1088 = 2 by decide +kernel) rfl (by omega) (by decide) rfl dX7_sendsDown_210 (fun H locs hP hS => ?_)
        obtain ⟨ρ446, e447⟩ : ∃ z, z = up ρ 1088 j73_1 0 := ⟨_, rfl⟩
        rw [← e447] at hP
        have hT : TI r Bt M L 2 j73_1 0 2 (j73_1 + 1) j73_1 l210_3 ρ446 := by rw [e447]; exact TI_up8 hT (iR_w (a := 0) (b := 0) (show iR 0 (0) (0) from ⟨by decide, by decide⟩) (by decide) (by decide))
        have hI := TI_RI hT
        refine lv_aload_n hx hb dX7_sendsDown_211 rfl (lv_at hl 0 rfl) ?_
        refine lv_iload_n hx hb dX7_sendsDown_212 rfl (lv_at hl 1 rfl) ?_
        refine lv_aload_n hx hb dX7_sendsDown_213 rfl (lv_at hl 0 rfl) ?_
        refine lv_iload_n hx hb dX7_sendsDown_214 rfl (lv_at hl 1 rfl) ?_
        refine lv_aload_n hx hb dX7_sendsDown_215 rfl (lv_at hl 0 rfl) ?_
        refine get7 B hP (show hk 1076 = 7 by decide +kernel) 3 (by decide) mw_1030 rfl dX7_sendsDown_216 ?_
        refine lv_bipush (v := 7) hx hb dX7_sendsDown_219 (by decide) ?_
        refine aldn (n := 695) (j := 7) B hP (show hk 1078 = 8 by decide +kernel) (show hlen 1078 = 695 by decide +kernel) rfl (by omega) (by decide) dX7_sendsDown_221 ?_
        have i448 : iR (ρ446 1078 7) (0) (1000000) := (iR_w (g_time hI) (by omega) (by omega))
        obtain ⟨j449, lj449, uj449, ej449⟩ := iR_nat (a := 0) (b := 1000000) i448
        refine lv_topi (fun z450 ez450 => ?_)
        obtain rfl : z450 = nI j449 := ez450.trans ej449
        have := time_le (g_time hI) ej449 (by omega)
        refine lv_aload_n hx hb dX7_sendsDown_222 rfl (lv_at hl 0 rfl) ?_
        refine get7 B hP (show hk 1076 = 7 by decide +kernel) 3 (by decide) mw_1030 rfl dX7_sendsDown_223 ?_
        refine lv_iload_n hx hb dX7_sendsDown_226 rfl (lv_at hl 2 rfl) ?_
        refine lv_iconst (v := 1) hx hb dX7_sendsDown_227 (by decide) ?_
        refine lv_iadd hx hb dX7_sendsDown_228 ?_
        refine lv_topi (fun z451 ez451 => ?_)
        obtain rfl : z451 = (nI (105 + 326 * j73_1 + 66 * l210_3)) := ez451.trans (by rw [show (nI (104 + 326 * j73_1 + 66 * l210_3)) = nI (104 + 326 * j73_1 + 66 * l210_3) from rfl, show 1 = nI 1 from rfl, nI_add] <;> exact congrArg nI (by omega))
        refine aldn (n := 695) (j := (105 + 326 * j73_1 + 66 * l210_3)) B hP (show hk 1078 = 8 by decide +kernel) (show hlen 1078 = 695 by decide +kernel) rfl (by omega) (by decide) dX7_sendsDown_229 ?_
        have i452 : iR (ρ446 1078 (105 + 326 * j73_1 + 66 * l210_3)) (1) (8388607) := g_itsmap (n0 := j73_1) (l0 := l210_3) (j := (105 + 326 * j73_1 + 66 * l210_3)) hI (by omega) (by omega) (by omega)
        obtain ⟨j453, lj453, uj453, ej453⟩ := iR_nat (a := 1) (b := 8388607) i452
        refine lv_topi (fun z454 ez454 => ?_)
        obtain rfl : z454 = nI j453 := ez454.trans ej453
        refine call_i (cVt (k := 1076) (av := [.int (nI j73_1), .int (nI j449), .int (nI j453)]) (rest := [.int (nI j73_1), .ref (E.2.1 + 1076)]) B hP hS (d_X7_hopOf l E ρ446 ρ446 Bt hBt M L (XT 2 j73_1 0 (j73_1 + 1) (ρ446 1084) (ρ446 1087)) j73_1 (by omega) (by omega) (nI j449) j453 (by omega) (by omega) hI) lk_RX7_114 (hrecv (ci := 7) B hP (hk_lt (c := 7) (show hk 1076 = 7 by decide +kernel) (by decide)) (hcc7 _ _ (show hk 1076 = 7 by decide +kernel)) rfl) rfl rfl hl.1 (Nat.le_of_ble_eq_true rfl) ⟨Nat.le_of_ble_eq_true rfl, Nat.le_of_ble_eq_true rfl⟩ ⟨Nat.le_of_ble_eq_true rfl, Nat.le_of_ble_eq_true rfl⟩ dX7_sendsDown_230) hS (fun r455 ρ456 H locs q457 hP hS => ?_)
        obtain ⟨rfl, -, q457⟩ := q457
        obtain ⟨j459, lj459, uj459, ej459⟩ := iR_nat (a := 0) (b := 22) q457
        refine lv_topi (fun z460 ez460 => ?_)
        obtain rfl : z460 = nI j459 := ez460.trans ej459
        refine call_i (cVt (k := 1076) (av := [.int (nI j73_1), .int (nI j459)]) (rest := []) B hP hS (d_X7_whyNot l E ρ446 ρ446 Bt hBt M L (XT 2 j73_1 0 (j73_1 + 1) (ρ446 1084) (ρ446 1087)) j73_1 (by omega) (by omega) (nI j459) hI (fun n hn => (hT.2.2.2.1 n hn).1)) lk_RX7_202 (hrecv (ci := 7) B hP (hk_lt (c := 7) (show hk 1076 = 7 by decide +kernel) (by decide)) (hcc7 _ _ (show hk 1076 = 7 by decide +kernel)) rfl) rfl rfl hl.1 (Nat.le_of_ble_eq_true rfl) ⟨Nat.le_of_ble_eq_true rfl, Nat.le_of_ble_eq_true rfl⟩ ⟨Nat.le_of_ble_eq_true rfl, Nat.le_of_ble_eq_true rfl⟩ dX7_sendsDown_233) hS (fun r461 ρ462 H locs q463 hP hS => ?_)
        obtain ⟨hR464, q463⟩ := q463
        have hT := TI_back hT hR464
        have hI := TI_RI hT
        obtain ⟨j465, lj465, uj465, ej465⟩ := iR_nat (a := 0) (b := 3) q463
        refine lv_topi (fun z466 ez466 => ?_)
        obtain rfl : z466 = nI j465 := ez466.trans ej465
        refine lv_istore (lv' := [(4, .int (nI j465)), (0, .ref (E.2.1 + 1076)), (1, .int (nI j73_1)), (3, .int (nI (104 + 326 * j73_1 + 66 * l210_3)))]) hx hb dX7_sendsDown_236 hl (by decide) rfl (fun ls hl => ?_)
        refine lv_aload_n hx hb dX7_sendsDown_238 rfl (lv_at hl 1 rfl) ?_
        refine get7 B hP (show hk 1076 = 7 by decide +kernel) 3 (by decide) mw_1030 rfl dX7_sendsDown_239 ?_
        refine lv_iload_n hx hb dX7_sendsDown_242 rfl (lv_at hl 3 rfl) ?_
        refine lv_bipush (v := 37) hx hb dX7_sendsDown_243 (by decide) ?_
        refine lv_iadd hx hb dX7_sendsDown_245 ?_
        refine lv_topi (fun z467 ez467 => ?_)
        obtain rfl : z467 = (nI (141 + 326 * j73_1 + 66 * l210_3)) := ez467.trans (by rw [show (nI (104 + 326 * j73_1 + 66 * l210_3)) = nI (104 + 326 * j73_1 + 66 * l210_3) from rfl, show 37 = nI 37 from rfl, nI_add] <;> exact congrArg nI (by omega))
        refine lv_iload hx hb dX7_sendsDown_246 (lv_at hl 0 rfl) ?_
        refine lv_if_ne (tgt := 255) hx hb dX7_sendsDown_248 (by decide) (fun c468 => ?_) (fun c468 => ?_)
        · skip
          have n469 := mt (nI_eq (a := j465) (b := 0) (by omega) (by omega)).mpr (show ¬ (nI j465 = nI 0) from c468)
          refine lv_bipush (v := 10) hx hb dX7_sendsDown_255 (by decide) ?_
          refine lv_iload hx hb dX7_sendsDown_257 (lv_at hl 0 rfl) ?_
          refine lv_iadd hx hb dX7_sendsDown_259 ?_
          refine lv_topi (fun z470 ez470 => ?_)
          obtain rfl : z470 = (nI (10 + j465)) := ez470.trans (by rw [show 10 = nI 10 from rfl, show (nI j465) = nI j465 from rfl, nI_add] <;> exact congrArg nI (by omega))
          exact b260_0 ls ρ462 _ _ l210_3 j465 l210_3 (10 + j465) (lv_sub hl [1, 2, 3, 0] rfl) hP hS (TI_w hT (fun m a b => by omega) (fun m a b => by omega) (by omega) (by omega) (by omega)) (by omega) (by omega) (by omega) (by omega) (by omega) (by omega) (iR_w f_M_j73_1_ (by decide) (by decide)) (by omega) (by omega) (by omega) (by omega) (by omega) (by omega) (by omega) (by omega)
        · skip
          have n471 := (nI_eq (a := j465) (b := 0) (by omega) (by omega)).mp (show (nI j465 = nI 0) from c468)
          refine lv_iconst (v := 0) hx hb dX7_sendsDown_251 (by decide) ?_
          refine lv_goto (tgt := 260) hx hb dX7_sendsDown_252 (by decide) ?_
          exact b260_1 ls ρ462 _ _ l210_3 j465 l210_3 (lv_sub hl [1, 2, 3, 0] rfl) hP hS (TI_w hT (fun m a b => by omega) (fun m a b => by omega) (by omega) (by omega) (by omega)) (by omega) (by omega) (by omega) (by omega) (iR_w f_M_j73_1_ (by decide) (by decide)) (by omega) (by omega) (by omega) (by omega) (by omega) (by omega) (by omega) (by omega)
      have b210_1 : ∀ (ls : Array Slot) (ρ : Nat → Nat → Int32) (H : Heap) (locs : List Loc) (l210_3 : Nat), lv_has ls 5 [(0, .ref (E.2.1 + 1076)), (1, .int (nI j73_1)), (3, .int (nI (104 + 326 * j73_1 + 66 * l210_3)))] → WP E ρ H → va_S (hA E) s.heap H locs → TI r Bt M L 2 j73_1 0 2 (j73_1 + 1) j73_1 l210_3 ρ → l210_3 ≤ 3 → iR (M j73_1) (0) (5) → 0 ≤ (L j73_1) → (L j73_1) ≤ 4 → 0 ≤ j73_1 → j73_1 ≤ 1 → l210_3 + 0 ≤ L j73_1 → l210_3 + 1 ≤ L j73_1 → W p l e (rmk 8 320) s m ([.ref (E.2.1 + 1076)] : List Value).toArray below meth c H locs 0 0 (MQ below (cV E (fun ρ1 => TI r Bt M L 2 2 0 2 2 2 0 ρ1)) ([.ref (E.2.1 + 1076)] : List Value).toArray s 0 0 (hA E)) (F0 m 210 ls [.int 1, .int (nI j73_1), .ref (E.2.1 + 1088)]) := by
        intro ls ρ H locs l210_3 hl hP hS hI ul210_3 f_M_j73_1_ tl_L_j73_1_ tu_L_j73_1_ tlj73_1 tuj73_1 hr210_0 hr210_1
        have hT := hI
        have hI := TI_RI hT
        refine zstn (n := 2) (j := j73_1) B hP hS (show hk 1088 = 9 by decide +kernel) (show hlen 1088 = 2 by decide +kernel) rfl (by omega) (by decide) rfl dX7_sendsDown_210 (fun H locs hP hS => ?_)
        obtain ⟨ρ472, e473⟩ : ∃ z, z = up ρ 1088 j73_1 1 := ⟨_, rfl⟩
        rw [← e473] at hP
        have hT : TI r Bt M L 2 j73_1 0 2 (j73_1 + 1) j73_1 l210_3 ρ472 := by rw [e473]; exact TI_up8 hT (iR_w (a := 1) (b := 1) (show iR 1 (1) (1) from ⟨by decide, by decide⟩) (by decide) (by decide))
        have hI := TI_RI hT
        refine lv_aload_n hx hb dX7_sendsDown_211 rfl (lv_at hl 0 rfl) ?_
        refine lv_iload_n hx hb dX7_sendsDown_212 rfl (lv_at hl 1 rfl) ?_
        refine lv_aload_n hx hb dX7_sendsDown_213 rfl (lv_at hl 0 rfl) ?_
        refine lv_iload_n hx hb dX7_sendsDown_214 rfl (lv_at hl 1 rfl) ?_
        refine lv_aload_n hx hb dX7_sendsDown_215 rfl (lv_at hl 0 rfl) ?_
        refine get7 B hP (show hk 1076 = 7 by decide +kernel) 3 (by decide) mw_1030 rfl dX7_sendsDown_216 ?_
        refine lv_bipush (v := 7) hx hb dX7_sendsDown_219 (by decide) ?_
        refine aldn (n := 695) (j := 7) B hP (show hk 1078 = 8 by decide +kernel) (show hlen 1078 = 695 by decide +kernel) rfl (by omega) (by decide) dX7_sendsDown_221 ?_
        have i474 : iR (ρ472 1078 7) (0) (1000000) := (iR_w (g_time hI) (by omega) (by omega))
        obtain ⟨j475, lj475, uj475, ej475⟩ := iR_nat (a := 0) (b := 1000000) i474
        refine lv_topi (fun z476 ez476 => ?_)
        obtain rfl : z476 = nI j475 := ez476.trans ej475
        have := time_le (g_time hI) ej475 (by omega)
        refine lv_aload_n hx hb dX7_sendsDown_222 rfl (lv_at hl 0 rfl) ?_
        refine get7 B hP (show hk 1076 = 7 by decide +kernel) 3 (by decide) mw_1030 rfl dX7_sendsDown_223 ?_
        refine lv_iload_n hx hb dX7_sendsDown_226 rfl (lv_at hl 2 rfl) ?_
        refine lv_iconst (v := 1) hx hb dX7_sendsDown_227 (by decide) ?_
        refine lv_iadd hx hb dX7_sendsDown_228 ?_
        refine lv_topi (fun z477 ez477 => ?_)
        obtain rfl : z477 = (nI (105 + 326 * j73_1 + 66 * l210_3)) := ez477.trans (by rw [show (nI (104 + 326 * j73_1 + 66 * l210_3)) = nI (104 + 326 * j73_1 + 66 * l210_3) from rfl, show 1 = nI 1 from rfl, nI_add] <;> exact congrArg nI (by omega))
        refine aldn (n := 695) (j := (105 + 326 * j73_1 + 66 * l210_3)) B hP (show hk 1078 = 8 by decide +kernel) (show hlen 1078 = 695 by decide +kernel) rfl (by omega) (by decide) dX7_sendsDown_229 ?_
        have i478 : iR (ρ472 1078 (105 + 326 * j73_1 + 66 * l210_3)) (1) (8388607) := g_itsmap (n0 := j73_1) (l0 := l210_3) (j := (105 + 326 * j73_1 + 66 * l210_3)) hI (by omega) (by omega) (by omega)
        obtain ⟨j479, lj479, uj479, ej479⟩ := iR_nat (a := 1) (b := 8388607) i478
        refine lv_topi (fun z480 ez480 => ?_)
        obtain rfl : z480 = nI j479 := ez480.trans ej479
        refine call_i (cVt (k := 1076) (av := [.int (nI j73_1), .int (nI j475), .int (nI j479)]) (rest := [.int (nI j73_1), .ref (E.2.1 + 1076)]) B hP hS (d_X7_hopOf l E ρ472 ρ472 Bt hBt M L (XT 2 j73_1 0 (j73_1 + 1) (ρ472 1084) (ρ472 1087)) j73_1 (by omega) (by omega) (nI j475) j479 (by omega) (by omega) hI) lk_RX7_114 (hrecv (ci := 7) B hP (hk_lt (c := 7) (show hk 1076 = 7 by decide +kernel) (by decide)) (hcc7 _ _ (show hk 1076 = 7 by decide +kernel)) rfl) rfl rfl hl.1 (Nat.le_of_ble_eq_true rfl) ⟨Nat.le_of_ble_eq_true rfl, Nat.le_of_ble_eq_true rfl⟩ ⟨Nat.le_of_ble_eq_true rfl, Nat.le_of_ble_eq_true rfl⟩ dX7_sendsDown_230) hS (fun r481 ρ482 H locs q483 hP hS => ?_)
        obtain ⟨rfl, -, q483⟩ := q483
        obtain ⟨j485, lj485, uj485, ej485⟩ := iR_nat (a := 0) (b := 22) q483
        refine lv_topi (fun z486 ez486 => ?_)
        obtain rfl : z486 = nI j485 := ez486.trans ej485
        refine call_i (cVt (k := 1076) (av := [.int (nI j73_1), .int (nI j485)]) (rest := []) B hP hS (d_X7_whyNot l E ρ472 ρ472 Bt hBt M L (XT 2 j73_1 0 (j73_1 + 1) (ρ472 1084) (ρ472 1087)) j73_1 (by omega) (by omega) (nI j485) hI (fun n hn => (hT.2.2.2.1 n hn).1)) lk_RX7_202 (hrecv (ci := 7) B hP (hk_lt (c := 7) (show hk 1076 = 7 by decide +kernel) (by decide)) (hcc7 _ _ (show hk 1076 = 7 by decide +kernel)) rfl) rfl rfl hl.1 (Nat.le_of_ble_eq_true rfl) ⟨Nat.le_of_ble_eq_true rfl, Nat.le_of_ble_eq_true rfl⟩ ⟨Nat.le_of_ble_eq_true rfl, Nat.le_of_ble_eq_true rfl⟩ dX7_sendsDown_233) hS (fun r487 ρ488 H locs q489 hP hS => ?_)
        obtain ⟨hR490, q489⟩ := q489
        have hT := TI_back hT hR490
        have hI := TI_RI hT
        obtain ⟨j491, lj491, uj491, ej491⟩ := iR_nat (a := 0) (b := 3) q489
        refine lv_topi (fun z492 ez492 => ?_)
        obtain rfl : z492 = nI j491 := ez492.trans ej491
        refine lv_istore (lv' := [(4, .int (nI j491)), (0, .ref (E.2.1 + 1076)), (1, .int (nI j73_1)), (3, .int (nI (104 + 326 * j73_1 + 66 * l210_3)))]) hx hb dX7_sendsDown_236 hl (by decide) rfl (fun ls hl => ?_)
        refine lv_aload_n hx hb dX7_sendsDown_238 rfl (lv_at hl 1 rfl) ?_
        refine get7 B hP (show hk 1076 = 7 by decide +kernel) 3 (by decide) mw_1030 rfl dX7_sendsDown_239 ?_
        refine lv_iload_n hx hb dX7_sendsDown_242 rfl (lv_at hl 3 rfl) ?_
        refine lv_bipush (v := 37) hx hb dX7_sendsDown_243 (by decide) ?_
        refine lv_iadd hx hb dX7_sendsDown_245 ?_
        refine lv_topi (fun z493 ez493 => ?_)
        obtain rfl : z493 = (nI (141 + 326 * j73_1 + 66 * l210_3)) := ez493.trans (by rw [show (nI (104 + 326 * j73_1 + 66 * l210_3)) = nI (104 + 326 * j73_1 + 66 * l210_3) from rfl, show 37 = nI 37 from rfl, nI_add] <;> exact congrArg nI (by omega))
        refine lv_iload hx hb dX7_sendsDown_246 (lv_at hl 0 rfl) ?_
        refine lv_if_ne (tgt := 255) hx hb dX7_sendsDown_248 (by decide) (fun c494 => ?_) (fun c494 => ?_)
        · skip
          have n495 := mt (nI_eq (a := j491) (b := 0) (by omega) (by omega)).mpr (show ¬ (nI j491 = nI 0) from c494)
          refine lv_bipush (v := 10) hx hb dX7_sendsDown_255 (by decide) ?_
          refine lv_iload hx hb dX7_sendsDown_257 (lv_at hl 0 rfl) ?_
          refine lv_iadd hx hb dX7_sendsDown_259 ?_
          refine lv_topi (fun z496 ez496 => ?_)
          obtain rfl : z496 = (nI (10 + j491)) := ez496.trans (by rw [show 10 = nI 10 from rfl, show (nI j491) = nI j491 from rfl, nI_add] <;> exact congrArg nI (by omega))
          exact b260_0 ls ρ488 _ _ l210_3 j491 l210_3 (10 + j491) (lv_sub hl [1, 2, 3, 0] rfl) hP hS (TI_w hT (fun m a b => by omega) (fun m a b => by omega) (by omega) (by omega) (by omega)) (by omega) (by omega) (by omega) (by omega) (by omega) (by omega) (iR_w f_M_j73_1_ (by decide) (by decide)) (by omega) (by omega) (by omega) (by omega) (by omega) (by omega) (by omega) (by omega)
        · skip
          have n497 := (nI_eq (a := j491) (b := 0) (by omega) (by omega)).mp (show (nI j491 = nI 0) from c494)
          refine lv_iconst (v := 0) hx hb dX7_sendsDown_251 (by decide) ?_
          refine lv_goto (tgt := 260) hx hb dX7_sendsDown_252 (by decide) ?_
          exact b260_1 ls ρ488 _ _ l210_3 j491 l210_3 (lv_sub hl [1, 2, 3, 0] rfl) hP hS (TI_w hT (fun m a b => by omega) (fun m a b => by omega) (by omega) (by omega) (by omega)) (by omega) (by omega) (by omega) (by omega) (iR_w f_M_j73_1_ (by decide) (by decide)) (by omega) (by omega) (by omega) (by omega) (by omega) (by omega) (by omega) (by omega)
      have hT := hI
      have hI := TI_RI hT
      refine lv_iload_n hx hb dX7_sendsDown_73 rfl (lv_at hl 1 rfl) ?_
      refine lv_iconst (v := 2) hx hb dX7_sendsDown_74 (by decide) ?_
      refine lv_icmp_ge (tgt := 317) hx hb dX7_sendsDown_75 (by decide) (fun c498 => ?_) (fun c498 => ?_)
      · skip
        have n499 := mt (nx_lt (a := j73_1) (b := 2) (by omega) (by omega)).mpr (show ¬ (nI j73_1 < nI 2) from (Int32.not_lt.mpr c498))
        refine lv_iconst (v := 0) hx hb dX7_sendsDown_317 (by decide) ?_
        refine lv_istore_n (lv' := [(1, .int 0), (0, .ref (E.2.1 + 1076))]) hx hb dX7_sendsDown_318 rfl hl (by decide) rfl (fun ls hl => ?_)
        exact b319_0 ls ρ _ _ _ 0 (lv_sub hl [1, 0] rfl) hP hS (TI_w hT (fun m a b => by omega) (fun m a b => by omega) (by omega) (by omega) (by omega)) (Nat.lt_succ_self _) (by omega) (by omega)
      · skip
        have n500 := (nx_lt (a := j73_1) (b := 2) (by omega) (by omega)).mp (show (nI j73_1 < nI 2) from (Int32.not_le.mp c498))
        refine lv_aload_n hx hb dX7_sendsDown_78 rfl (lv_at hl 0 rfl) ?_
        refine get7 B hP (show hk 1076 = 7 by decide +kernel) 10 (by decide) mw_1037 rfl dX7_sendsDown_79 ?_
        refine lv_iload_n hx hb dX7_sendsDown_82 rfl (lv_at hl 1 rfl) ?_
        refine aldn (n := 2) (j := j73_1) B hP (show hk 1084 = 8 by decide +kernel) (show hlen 1084 = 2 by decide +kernel) rfl (by omega) (by decide) dX7_sendsDown_83 ?_
        have i501 : iR (ρ 1084 j73_1) (-2) 3 := iR_w (hT.2.2.2.2.1 j73_1 (by omega) (by omega)).1 (by decide) (by have := RI_Lb (n := j73_1) hI (by omega); omega)
        refine lv_bipush (v := (-2)) hx hb dX7_sendsDown_84 (by decide) ?_
        refine lv_icmp_ne (tgt := 97) hx hb dX7_sendsDown_86 (by decide) (fun c502 => ?_) (fun c502 => ?_)
        · skip
          have i503 : iR (ρ 1084 j73_1) (-1) (3) := (iR_neL i501 (show iR (-2) (-2) (-2) from ⟨by decide, by decide⟩) c502 (by decide) (by decide))
          refine lv_aload_n hx hb dX7_sendsDown_97 rfl (lv_at hl 0 rfl) ?_
          refine get7 B hP (show hk 1076 = 7 by decide +kernel) 10 (by decide) mw_1037 rfl dX7_sendsDown_98 ?_
          refine lv_iload_n hx hb dX7_sendsDown_101 rfl (lv_at hl 1 rfl) ?_
          refine aldf (n := 2) (j := j73_1) (v := (ρ 1084 j73_1)) B hP (show hk 1084 = 8 by decide +kernel) (show hlen 1084 = 2 by decide +kernel) rfl (by omega) (by decide) rfl dX7_sendsDown_102 ?_
          have i505 : iR (ρ 1084 j73_1) (-1) ((L j73_1 : Int) - 1) := ⟨Int.le_trans (by decide) (show (-1 : Int) ≤ _ from i503.1), (hT.2.2.2.2.1 j73_1 (by omega) (by omega)).1.2⟩
          have := RI_Lb (n := j73_1) hI (by omega)
          refine lv_iconst (v := (-1)) hx hb dX7_sendsDown_103 (by decide) ?_
          refine lv_icmp_eq (tgt := 311) hx hb dX7_sendsDown_104 (by decide) (fun c506 => ?_) (fun c506 => ?_)
          · skip
            have i507 : iR (ρ 1084 j73_1) (-1) (-1) := (by rw [c506]; exact ⟨by decide, by decide⟩)
            have hT := TI_q4 (p4 := j73_1 + 1) hT rfl rfl (iR_w (b' := -1) i507 (Int.le_refl _) (by decide))
            have hI := TI_RI hT
            exact b311_0 ls ρ _ _  (lv_sub hl [0, 1] rfl) hP hS (TI_w hT (fun m a b => by omega) (fun m a b => by omega) (by omega) (by omega) (by omega)) (by omega) (by omega)
          · skip
            have i509 : iR (ρ 1084 j73_1) (0) (3) := (iR_neL i503 (show iR (-1) (-1) (-1) from ⟨by decide, by decide⟩) c506 (by decide) (by decide))
            have i510 : iR (M j73_1) 0 5 := (hT.2.2.2.2.1 j73_1 (by omega) (by omega)).2 c506
            refine lv_iload_n hx hb dX7_sendsDown_107 rfl (lv_at hl 1 rfl) ?_
            refine call_i (cS (av := [.int (nI j73_1)]) (rest := []) B hP hS (d_X7_netAt l E ρ ρ Bt hBt M L (XT 2 j73_1 0 j73_1 (ρ 1084) (ρ 1087)) j73_1 (by omega) (by omega) hI) lk_RX7_75 rfl rfl hl.1 (Nat.le_of_ble_eq_true rfl) ⟨Nat.le_of_ble_eq_true rfl, Nat.le_of_ble_eq_true rfl⟩ ⟨Nat.le_of_ble_eq_true rfl, Nat.le_of_ble_eq_true rfl⟩ dX7_sendsDown_108) hS (fun r511 ρ512 H locs q513 hP hS => ?_)
            obtain ⟨rfl, -, q513⟩ := q513
            obtain rfl : r511 = nI (42 + 326 * j73_1) := q513.trans (congrArg nI (by omega))
            refine lv_istore_n (lv' := [(2, .int (nI (42 + 326 * j73_1))), (0, .ref (E.2.1 + 1076)), (1, .int (nI j73_1))]) hx hb dX7_sendsDown_111 rfl hl (by decide) rfl (fun ls hl => ?_)
            refine lv_iload_n hx hb dX7_sendsDown_112 rfl (lv_at hl 2 rfl) ?_
            refine lv_aload_n hx hb dX7_sendsDown_113 rfl (lv_at hl 1 rfl) ?_
            refine get7 B hP (show hk 1076 = 7 by decide +kernel) 10 (by decide) mw_1037 rfl dX7_sendsDown_114 ?_
            refine lv_iload_n hx hb dX7_sendsDown_117 rfl (lv_at hl 2 rfl) ?_
            refine aldf (n := 2) (j := j73_1) (v := (ρ 1084 j73_1)) B hP (show hk 1084 = 8 by decide +kernel) (show hlen 1084 = 2 by decide +kernel) rfl (by omega) (by decide) rfl dX7_sendsDown_118 ?_
            obtain ⟨j515, lj515, uj515, ej515⟩ := iR_nat (a := 0) (b := 3) i509
            refine lv_topi (fun z516 ez516 => ?_)
            obtain rfl : z516 = nI j515 := ez516.trans ej515
            have : j515 < L j73_1 := rl_lt i505 ej515 (by omega)
            refine call_i (cS (av := [.int (nI j73_1), .int (nI j515)]) (rest := []) B hP hS (d_X7_linkAt l E ρ ρ Bt hBt M L (XT 2 j73_1 0 j73_1 (ρ 1084) (ρ 1087)) j73_1 (by omega) (by omega) j515 (by omega) (by omega) hI) lk_RX7_82 rfl rfl hl.1 (Nat.le_of_ble_eq_true rfl) ⟨Nat.le_of_ble_eq_true rfl, Nat.le_of_ble_eq_true rfl⟩ ⟨Nat.le_of_ble_eq_true rfl, Nat.le_of_ble_eq_true rfl⟩ dX7_sendsDown_119) hS (fun r517 ρ518 H locs q519 hP hS => ?_)
            obtain ⟨rfl, -, q519⟩ := q519
            obtain rfl : r517 = nI (104 + 66 * j515 + 326 * j73_1) := q519.trans (congrArg nI (by omega))
            refine lv_istore_n (lv' := [(3, .int (nI (104 + 66 * j515 + 326 * j73_1))), (2, .int (nI (42 + 326 * j73_1))), (0, .ref (E.2.1 + 1076)), (1, .int (nI j73_1))]) hx hb dX7_sendsDown_122 rfl hl (by decide) rfl (fun ls hl => ?_)
            have hT := TI_qc (n0 := j73_1) (l0 := j515) hT ej515 (by omega)
            have hI := TI_RI hT
            refine lv_aload_n hx hb dX7_sendsDown_123 rfl (lv_at hl 2 rfl) ?_
            refine get7 B hP (show hk 1076 = 7 by decide +kernel) 3 (by decide) mw_1030 rfl dX7_sendsDown_124 ?_
            refine lv_bipush (v := 11) hx hb dX7_sendsDown_127 (by decide) ?_
            refine lv_dup2_11 hx hb dX7_sendsDown_129 rfl rfl ?_
            refine aldn (n := 695) (j := 11) B hP (show hk 1078 = 8 by decide +kernel) (show hlen 1078 = 695 by decide +kernel) rfl (by omega) (by decide) dX7_sendsDown_130 ?_
            refine lv_iconst (v := 1) hx hb dX7_sendsDown_131 (by decide) ?_
            refine lv_iadd hx hb dX7_sendsDown_132 ?_
            refine astn (n := 695) (j := 11) B hP hS (show hk 1078 = 8 by decide +kernel) (show hlen 1078 = 695 by decide +kernel) rfl (by omega) (by decide) dX7_sendsDown_133 (fun H locs hP hS => ?_)
            obtain ⟨ρ521, e522⟩ : ∃ z, z = up ρ 1078 11 ((ρ 1078 11) + 1) := ⟨_, rfl⟩
            rw [← e522] at hP
            have hT : TI r Bt M L 2 j73_1 0 2 j73_1 j73_1 j515 ρ521 := by rw [e522]; exact TI_back hT (RI_up hI (ok_head (by omega) (by omega) (by omega)))
            have hI := TI_RI hT
            refine lv_aload_n hx hb dX7_sendsDown_134 rfl (lv_at hl 2 rfl) ?_
            refine get7 B hP (show hk 1076 = 7 by decide +kernel) 3 (by decide) mw_1030 rfl dX7_sendsDown_135 ?_
            refine lv_iload_n hx hb dX7_sendsDown_138 rfl (lv_at hl 0 rfl) ?_
            refine lv_bipush (v := 38) hx hb dX7_sendsDown_139 (by decide) ?_
            refine lv_iadd hx hb dX7_sendsDown_141 ?_
            refine lv_topi (fun z523 ez523 => ?_)
            obtain rfl : z523 = (nI (142 + 66 * j515 + 326 * j73_1)) := ez523.trans (by rw [show (nI (104 + 66 * j515 + 326 * j73_1)) = nI (104 + 66 * j515 + 326 * j73_1) from rfl, show 38 = nI 38 from rfl, nI_add] <;> exact congrArg nI (by omega))
            refine lv_dup2_11 hx hb dX7_sendsDown_142 rfl rfl ?_
            refine aldn (n := 695) (j := (142 + 66 * j515 + 326 * j73_1)) B hP (show hk 1078 = 8 by decide +kernel) (show hlen 1078 = 695 by decide +kernel) rfl (by omega) (by decide) dX7_sendsDown_143 ?_
            refine lv_iconst (v := 1) hx hb dX7_sendsDown_144 (by decide) ?_
            refine lv_iadd hx hb dX7_sendsDown_145 ?_
            refine astn (n := 695) (j := (142 + 66 * j515 + 326 * j73_1)) B hP hS (show hk 1078 = 8 by decide +kernel) (show hlen 1078 = 695 by decide +kernel) rfl (by omega) (by decide) dX7_sendsDown_146 (fun H locs hP hS => ?_)
            obtain ⟨ρ524, e525⟩ : ∃ z, z = up ρ521 1078 (142 + 66 * j515 + 326 * j73_1) ((ρ521 1078 (142 + 66 * j515 + 326 * j73_1)) + 1) := ⟨_, rfl⟩
            rw [← e525] at hP
            have hT : TI r Bt M L 2 j73_1 0 2 j73_1 j73_1 j515 ρ524 := by rw [e525]; exact TI_back hT (RI_up hI (ok_link (n0 := j73_1) (l0 := j515) (j := (142 + 66 * j515 + 326 * j73_1)) 38 (by omega) (by omega) (by omega) (by omega)))
            have hI := TI_RI hT
            refine lv_aload_n hx hb dX7_sendsDown_147 rfl (lv_at hl 2 rfl) ?_
            refine get7 B hP (show hk 1076 = 7 by decide +kernel) 3 (by decide) mw_1030 rfl dX7_sendsDown_148 ?_
            refine lv_iload_n hx hb dX7_sendsDown_151 rfl (lv_at hl 1 rfl) ?_
            refine lv_bipush (v := 16) hx hb dX7_sendsDown_152 (by decide) ?_
            refine lv_iadd hx hb dX7_sendsDown_154 ?_
            refine lv_topi (fun z526 ez526 => ?_)
            obtain rfl : z526 = (nI (58 + 326 * j73_1)) := ez526.trans (by rw [show (nI (42 + 326 * j73_1)) = nI (42 + 326 * j73_1) from rfl, show 16 = nI 16 from rfl, nI_add] <;> exact congrArg nI (by omega))
            refine lv_aload_n hx hb dX7_sendsDown_155 rfl (lv_at hl 2 rfl) ?_
            refine get7 B hP (show hk 1076 = 7 by decide +kernel) 11 (by decide) mw_1038 rfl dX7_sendsDown_156 ?_
            refine lv_iload_n hx hb dX7_sendsDown_159 rfl (lv_at hl 3 rfl) ?_
            refine aldn (n := 2) (j := j73_1) B hP (show hk 1085 = 8 by decide +kernel) (show hlen 1085 = 2 by decide +kernel) rfl (by omega) (by decide) dX7_sendsDown_160 ?_
            have i527 : iR (ρ524 1085 j73_1) (-2) 22 := (hT.2.2.2.1 j73_1 (by omega)).1
            refine lv_iadd hx hb dX7_sendsDown_161 ?_
            obtain ⟨j528, uj528, fj528⟩ := nI_addneg (y := (ρ524 1085 j73_1)) (k := 2) (m := 24) (iR_w i527 (by decide) (by decide))
            refine lv_topi (fun z529 ez529 => ?_)
            obtain rfl : z529 = (nI (56 + j528 + 326 * j73_1)) := ez529.trans ((fj528 (58 + 326 * j73_1) (by omega)).trans (congrArg nI (by omega)))
            refine lv_dup2_11 hx hb dX7_sendsDown_162 rfl rfl ?_
            refine aldn (n := 695) (j := (56 + j528 + 326 * j73_1)) B hP (show hk 1078 = 8 by decide +kernel) (show hlen 1078 = 695 by decide +kernel) rfl (by omega) (by decide) dX7_sendsDown_163 ?_
            refine lv_iconst (v := 1) hx hb dX7_sendsDown_164 (by decide) ?_
            refine lv_iadd hx hb dX7_sendsDown_165 ?_
            refine astn (n := 695) (j := (56 + j528 + 326 * j73_1)) B hP hS (show hk 1078 = 8 by decide +kernel) (show hlen 1078 = 695 by decide +kernel) rfl (by omega) (by decide) dX7_sendsDown_166 (fun H locs hP hS => ?_)
            obtain ⟨ρ530, e531⟩ : ∃ z, z = up ρ524 1078 (56 + j528 + 326 * j73_1) ((ρ524 1078 (56 + j528 + 326 * j73_1)) + 1) := ⟨_, rfl⟩
            rw [← e531] at hP
            have hT : TI r Bt M L 2 j73_1 0 2 j73_1 j73_1 j515 ρ530 := by rw [e531]; exact TI_back hT (RI_up hI (ok_net (n0 := j73_1) (j := (56 + j528 + 326 * j73_1)) (14 + j528) (by omega) (by omega) (by omega)))
            have hI := TI_RI hT
            refine lv_aload_n hx hb dX7_sendsDown_167 rfl (lv_at hl 2 rfl) ?_
            refine get7 B hP (show hk 1076 = 7 by decide +kernel) 13 (by decide) mw_1040 rfl dX7_sendsDown_168 ?_
            refine lv_iload_n hx hb dX7_sendsDown_171 rfl (lv_at hl 3 rfl) ?_
            refine lv_aload_n hx hb dX7_sendsDown_172 rfl (lv_at hl 2 rfl) ?_
            refine get7 B hP (show hk 1076 = 7 by decide +kernel) 3 (by decide) mw_1030 rfl dX7_sendsDown_173 ?_
            refine lv_iload_n hx hb dX7_sendsDown_176 rfl (lv_at hl 0 rfl) ?_
            refine lv_iconst (v := 5) hx hb dX7_sendsDown_177 (by decide) ?_
            refine lv_iadd hx hb dX7_sendsDown_178 ?_
            refine lv_topi (fun z532 ez532 => ?_)
            obtain rfl : z532 = (nI (109 + 66 * j515 + 326 * j73_1)) := ez532.trans (by rw [show (nI (104 + 66 * j515 + 326 * j73_1)) = nI (104 + 66 * j515 + 326 * j73_1) from rfl, show 5 = nI 5 from rfl, nI_add] <;> exact congrArg nI (by omega))
            refine aldn (n := 695) (j := (109 + 66 * j515 + 326 * j73_1)) B hP (show hk 1078 = 8 by decide +kernel) (show hlen 1078 = 695 by decide +kernel) rfl (by omega) (by decide) dX7_sendsDown_179 ?_
            have i533 : iR (ρ530 1078 (109 + 66 * j515 + 326 * j73_1)) (0) (8) := g_ndown (n0 := j73_1) (l0 := j515) (j := (109 + 66 * j515 + 326 * j73_1)) hI (by omega) (by omega) (by omega)
            obtain ⟨j534, lj534, uj534, ej534⟩ := iR_nat (a := 0) (b := 8) i533
            refine lv_topi (fun z535 ez535 => ?_)
            obtain rfl : z535 = nI j534 := ez535.trans ej534
            refine lv_if_le (tgt := 187) hx hb dX7_sendsDown_180 (by decide) (fun c536 => ?_) (fun c536 => ?_)
            · skip
              have n537 := mt (nx_lt (a := 0) (b := j534) (by omega) (by omega)).mpr (show ¬ (nI 0 < nI j534) from (Int32.not_lt.mpr c536))
              refine lv_iconst (v := 0) hx hb dX7_sendsDown_187 (by decide) ?_
              refine zstn (n := 2) (j := j73_1) B hP hS (show hk 1087 = 9 by decide +kernel) (show hlen 1087 = 2 by decide +kernel) rfl (by omega) (by decide) rfl dX7_sendsDown_188 (fun H locs hP hS => ?_)
              obtain ⟨ρ538, e539⟩ : ∃ z, z = up ρ530 1087 j73_1 0 := ⟨_, rfl⟩
              rw [← e539] at hP
              have hT : TI r Bt M L 2 j73_1 0 2 (j73_1 + 1) j73_1 j515 ρ538 := by rw [e539]; exact TI_up7 hT (iR_w (a := 0) (b := 0) (show iR 0 (0) (0) from ⟨by decide, by decide⟩) (by decide) (by decide)) (fun m a b => by omega) (fun z => absurd z (by decide))
              have hI := TI_RI hT
              refine lv_aload_n hx hb dX7_sendsDown_189 rfl (lv_at hl 2 rfl) ?_
              refine get7 B hP (show hk 1076 = 7 by decide +kernel) 14 (by decide) mw_1041 rfl dX7_sendsDown_190 ?_
              refine lv_iload_n hx hb dX7_sendsDown_193 rfl (lv_at hl 3 rfl) ?_
              refine lv_aload_n hx hb dX7_sendsDown_194 rfl (lv_at hl 2 rfl) ?_
              refine get7 B hP (show hk 1076 = 7 by decide +kernel) 3 (by decide) mw_1030 rfl dX7_sendsDown_195 ?_
              refine lv_iload_n hx hb dX7_sendsDown_198 rfl (lv_at hl 0 rfl) ?_
              refine lv_iconst (v := 4) hx hb dX7_sendsDown_199 (by decide) ?_
              refine lv_iadd hx hb dX7_sendsDown_200 ?_
              refine lv_topi (fun z540 ez540 => ?_)
              obtain rfl : z540 = (nI (108 + 66 * j515 + 326 * j73_1)) := ez540.trans (by rw [show (nI (104 + 66 * j515 + 326 * j73_1)) = nI (104 + 66 * j515 + 326 * j73_1) from rfl, show 4 = nI 4 from rfl, nI_add] <;> exact congrArg nI (by omega))
              refine aldn (n := 695) (j := (108 + 66 * j515 + 326 * j73_1)) B hP (show hk 1078 = 8 by decide +kernel) (show hlen 1078 = 695 by decide +kernel) rfl (by omega) (by decide) dX7_sendsDown_201 ?_
              refine lv_if_ne (tgt := 209) hx hb dX7_sendsDown_202 (by decide) (fun c541 => ?_) (fun c541 => ?_)
              · skip
                refine lv_iconst (v := 0) hx hb dX7_sendsDown_209 (by decide) ?_
                exact b210_0 ls ρ538 _ _ j515 (lv_sub hl [2, 3, 0] rfl) hP hS (TI_w hT (fun m a b => by omega) (fun m a b => by omega) (by omega) (by omega) (by omega)) (by omega) (iR_w i510 (by decide) (by decide)) (by omega) (by omega) (by omega) (by omega) (by omega) (by omega)
              · skip
                have i542 : iR (ρ538 1078 (108 + 66 * j515 + 326 * j73_1)) (0) (0) := (by rw [c541]; exact ⟨by decide, by decide⟩)
                refine lv_iconst (v := 1) hx hb dX7_sendsDown_205 (by decide) ?_
                refine lv_goto (tgt := 210) hx hb dX7_sendsDown_206 (by decide) ?_
                exact b210_1 ls ρ538 _ _ j515 (lv_sub hl [2, 3, 0] rfl) hP hS (TI_w hT (fun m a b => by omega) (fun m a b => by omega) (by omega) (by omega) (by omega)) (by omega) (iR_w i510 (by decide) (by decide)) (by omega) (by omega) (by omega) (by omega) (by omega) (by omega)
            · skip
              have n543 := (nx_lt (a := 0) (b := j534) (by omega) (by omega)).mp (show (nI 0 < nI j534) from (Int32.not_le.mp c536))
              refine lv_iconst (v := 1) hx hb dX7_sendsDown_183 (by decide) ?_
              refine lv_goto (tgt := 188) hx hb dX7_sendsDown_184 (by decide) ?_
              refine zstn (n := 2) (j := j73_1) B hP hS (show hk 1087 = 9 by decide +kernel) (show hlen 1087 = 2 by decide +kernel) rfl (by omega) (by decide) rfl dX7_sendsDown_188 (fun H locs hP hS => ?_)
              obtain ⟨ρ544, e545⟩ : ∃ z, z = up ρ530 1087 j73_1 1 := ⟨_, rfl⟩
              rw [← e545] at hP
              have hT : TI r Bt M L 2 j73_1 0 2 (j73_1 + 1) j73_1 j515 ρ544 := by rw [e545]; exact TI_up7 hT (iR_w (a := 1) (b := 1) (show iR 1 (1) (1) from ⟨by decide, by decide⟩) (by decide) (by decide)) (fun m a b => by omega) (fun _ l hl e => by have e2 := (nI_eq (a := j515) (b := l) (by omega) (by omega)).mp ((hT.2.2.2.2.2.2 j73_1 (by omega) (by omega)).1.symm.trans e); rw [← e2, show 109 + 326 * j73_1 + 66 * j515 = (109 + 66 * j515 + 326 * j73_1) by omega, show ρ530 1078 (109 + 66 * j515 + 326 * j73_1) = (nI j534) from ej534]; exact iR_w (nI_iR (j := j534) (a := 1) (b := 8) (by omega) (by omega) (by omega)) (by decide) (by decide))
              have hI := TI_RI hT
              refine lv_aload_n hx hb dX7_sendsDown_189 rfl (lv_at hl 2 rfl) ?_
              refine get7 B hP (show hk 1076 = 7 by decide +kernel) 14 (by decide) mw_1041 rfl dX7_sendsDown_190 ?_
              refine lv_iload_n hx hb dX7_sendsDown_193 rfl (lv_at hl 3 rfl) ?_
              refine lv_aload_n hx hb dX7_sendsDown_194 rfl (lv_at hl 2 rfl) ?_
              refine get7 B hP (show hk 1076 = 7 by decide +kernel) 3 (by decide) mw_1030 rfl dX7_sendsDown_195 ?_
              refine lv_iload_n hx hb dX7_sendsDown_198 rfl (lv_at hl 0 rfl) ?_
              refine lv_iconst (v := 4) hx hb dX7_sendsDown_199 (by decide) ?_
              refine lv_iadd hx hb dX7_sendsDown_200 ?_
              refine lv_topi (fun z546 ez546 => ?_)
              obtain rfl : z546 = (nI (108 + 66 * j515 + 326 * j73_1)) := ez546.trans (by rw [show (nI (104 + 66 * j515 + 326 * j73_1)) = nI (104 + 66 * j515 + 326 * j73_1) from rfl, show 4 = nI 4 from rfl, nI_add] <;> exact congrArg nI (by omega))
              refine aldn (n := 695) (j := (108 + 66 * j515 + 326 * j73_1)) B hP (show hk 1078 = 8 by decide +kernel) (show hlen 1078 = 695 by decide +kernel) rfl (by omega) (by decide) dX7_sendsDown_201 ?_
              refine lv_if_ne (tgt := 209) hx hb dX7_sendsDown_202 (by decide) (fun c547 => ?_) (fun c547 => ?_)
              · skip
                refine lv_iconst (v := 0) hx hb dX7_sendsDown_209 (by decide) ?_
                exact b210_0 ls ρ544 _ _ j515 (lv_sub hl [2, 3, 0] rfl) hP hS (TI_w hT (fun m a b => by omega) (fun m a b => by omega) (by omega) (by omega) (by omega)) (by omega) (iR_w i510 (by decide) (by decide)) (by omega) (by omega) (by omega) (by omega) (by omega) (by omega)
              · skip
                have i548 : iR (ρ544 1078 (108 + 66 * j515 + 326 * j73_1)) (0) (0) := (by rw [c547]; exact ⟨by decide, by decide⟩)
                refine lv_iconst (v := 1) hx hb dX7_sendsDown_205 (by decide) ?_
                refine lv_goto (tgt := 210) hx hb dX7_sendsDown_206 (by decide) ?_
                exact b210_1 ls ρ544 _ _ j515 (lv_sub hl [2, 3, 0] rfl) hP hS (TI_w hT (fun m a b => by omega) (fun m a b => by omega) (by omega) (by omega) (by omega)) (by omega) (iR_w i510 (by decide) (by decide)) (by omega) (by omega) (by omega) (by omega) (by omega) (by omega)
        · skip
          have i549 : iR (ρ 1084 j73_1) (-2) (-2) := (by rw [c502]; exact ⟨by decide, by decide⟩)
          have i550 : iR (M j73_1) 0 5 := (hT.2.2.2.2.1 j73_1 (by omega) (by omega)).2 (m_ne2 i549)
          have hT := TI_q4 (p4 := j73_1 + 1) hT rfl rfl (iR_w (b' := -1) i549 (Int.le_refl _) (by decide))
          have hI := TI_RI hT
          refine lv_aload_n hx hb dX7_sendsDown_89 rfl (lv_at hl 0 rfl) ?_
          refine lv_iload_n hx hb dX7_sendsDown_90 rfl (lv_at hl 1 rfl) ?_
          refine call_v (cVt (k := 1076) (av := [.int (nI j73_1)]) (rest := []) B hP hS (d_X7_casts l E ρ ρ Bt hBt M L (XT 2 j73_1 0 (j73_1 + 1) (ρ 1084) (ρ 1087)) j73_1 (by omega) (by omega) hI i550 (Or.inl ⟨rfl, by simp only; omega, by simp only; omega, iR_is i549 rfl⟩) (fun n hn => (hT.2.2.2.1 n hn).1)) lk_RX7_199 (hrecv (ci := 7) B hP (hk_lt (c := 7) (show hk 1076 = 7 by decide +kernel) (by decide)) (hcc7 _ _ (show hk 1076 = 7 by decide +kernel)) rfl) rfl rfl hl.1 (Nat.le_of_ble_eq_true rfl) ⟨Nat.le_of_ble_eq_true rfl, Nat.le_of_ble_eq_true rfl⟩ ⟨Nat.le_of_ble_eq_true rfl, Nat.le_of_ble_eq_true rfl⟩ dX7_sendsDown_91) hS (fun ρ552 H locs q553 hP hS => ?_)
          have hR554 := q553
          have hT := TI_back20 (p1 := j73_1 + 1) hT hR554 rfl (by omega)
          have hI := TI_RI hT
          refine lv_goto (tgt := 311) hx hb dX7_sendsDown_94 (by decide) ?_
          exact b311_0 ls ρ552 _ _  (lv_sub hl [0, 1] rfl) hP hS (TI_w hT (fun m a b => by omega) (fun m a b => by omega) (by omega) (by omega) (by omega)) (by omega) (by omega)
  have b2_0 : ∀ (ls : Array Slot) (ρ : Nat → Nat → Int32) (H : Heap) (locs : List Loc) (d2 : Nat) (j2_1 : Nat), lv_has ls 5 [(0, .ref (E.2.1 + 1076)), (1, .int (nI j2_1))] → WP E ρ H → va_S (hA E) s.heap H locs → TI r Bt M L 2 0 0 j2_1 0 2 0 ρ → 3 - j2_1 < d2 → 0 ≤ j2_1 → j2_1 ≤ 2 → W p l e (rmk 8 320) s m ([.ref (E.2.1 + 1076)] : List Value).toArray below meth c H locs 0 0 (MQ below (cV E (fun ρ1 => TI r Bt M L 2 2 0 2 2 2 0 ρ1)) ([.ref (E.2.1 + 1076)] : List Value).toArray s 0 0 (hA E)) (F0 m 2 ls []) := by
    intro ls ρ H locs d2
    induction d2 generalizing ls ρ H locs with
    | zero => intro j2_1 hl hP hS hI hd2 lj2_1 uj2_1; exact absurd hd2 (Nat.not_lt_zero _)
    | succ d2 ih2 =>
      intro j2_1 hl hP hS hI hd2 lj2_1 uj2_1
      have b45_0 : ∀ (ls : Array Slot) (ρ : Nat → Nat → Int32) (H : Heap) (locs : List Loc) (x45_s2 : Int32), lv_has ls 5 [(0, .ref (E.2.1 + 1076)), (1, .int (nI j2_1))] → WP E ρ H → va_S (hA E) s.heap H locs → TI r Bt M L 2 0 0 j2_1 0 2 0 ρ → iR x45_s2 (-2) (22) → 0 ≤ j2_1 → j2_1 ≤ 1 → W p l e (rmk 8 320) s m ([.ref (E.2.1 + 1076)] : List Value).toArray below meth c H locs 0 0 (MQ below (cV E (fun ρ1 => TI r Bt M L 2 2 0 2 2 2 0 ρ1)) ([.ref (E.2.1 + 1076)] : List Value).toArray s 0 0 (hA E)) (F0 m 45 ls [.int x45_s2, .int (nI j2_1), .ref (E.2.1 + 1085)]) := by
        intro ls ρ H locs x45_s2 hl hP hS hI hx45_s2 tlj2_1 tuj2_1
        have hT := hI
        have hI := TI_RI hT
        refine astn (n := 2) (j := j2_1) B hP hS (show hk 1085 = 8 by decide +kernel) (show hlen 1085 = 2 by decide +kernel) rfl (by omega) (by decide) dX7_sendsDown_45 (fun H locs hP hS => ?_)
        obtain ⟨ρ555, e556⟩ : ∃ z, z = up ρ 1085 j2_1 x45_s2 := ⟨_, rfl⟩
        rw [← e556] at hP
        have hT : TI r Bt M L 2 0 0 j2_1 0 2 0 ρ555 := by rw [e556]; exact TI_up5 hT (iR_w (a := -2) (b := 22) hx45_s2 (by decide) (by decide))
        have hI := TI_RI hT
        refine lv_aload_n hx hb dX7_sendsDown_46 rfl (lv_at hl 0 rfl) ?_
        refine get7 B hP (show hk 1076 = 7 by decide +kernel) 12 (by decide) mw_1039 rfl dX7_sendsDown_47 ?_
        refine lv_iload_n hx hb dX7_sendsDown_50 rfl (lv_at hl 1 rfl) ?_
        refine lv_aload_n hx hb dX7_sendsDown_51 rfl (lv_at hl 0 rfl) ?_
        refine get7 B hP (show hk 1076 = 7 by decide +kernel) 11 (by decide) mw_1038 rfl dX7_sendsDown_52 ?_
        refine lv_iload_n hx hb dX7_sendsDown_55 rfl (lv_at hl 1 rfl) ?_
        refine aldf (n := 2) (j := j2_1) (v := x45_s2) B hP (show hk 1085 = 8 by decide +kernel) (show hlen 1085 = 2 by decide +kernel) rfl (by omega) (by decide) (by rw [e556]; exact up_get_at) dX7_sendsDown_56 ?_
        refine astn (n := 2) (j := j2_1) B hP hS (show hk 1086 = 8 by decide +kernel) (show hlen 1086 = 2 by decide +kernel) rfl (by omega) (by decide) dX7_sendsDown_57 (fun H locs hP hS => ?_)
        obtain ⟨ρ557, e558⟩ : ∃ z, z = up ρ555 1086 j2_1 x45_s2 := ⟨_, rfl⟩
        rw [← e558] at hP
        have hT : TI r Bt M L 2 0 0 j2_1 0 2 0 ρ557 := by rw [e558]; exact TI_up6 hT (iR_w (a := -2) (b := 22) hx45_s2 (by decide) (by decide))
        have hI := TI_RI hT
        refine lv_aload_n hx hb dX7_sendsDown_58 rfl (lv_at hl 0 rfl) ?_
        refine get7 B hP (show hk 1076 = 7 by decide +kernel) 15 (by decide) mw_1042 rfl dX7_sendsDown_59 ?_
        refine lv_iload_n hx hb dX7_sendsDown_62 rfl (lv_at hl 1 rfl) ?_
        refine lv_iconst (v := 0) hx hb dX7_sendsDown_63 (by decide) ?_
        refine zstn (n := 2) (j := j2_1) B hP hS (show hk 1089 = 9 by decide +kernel) (show hlen 1089 = 2 by decide +kernel) rfl (by omega) (by decide) rfl dX7_sendsDown_64 (fun H locs hP hS => ?_)
        obtain ⟨ρ559, e560⟩ : ∃ z, z = up ρ557 1089 j2_1 0 := ⟨_, rfl⟩
        rw [← e560] at hP
        have hT : TI r Bt M L 2 0 0 (j2_1 + 1) 0 2 0 ρ559 := by rw [e560]; exact TI_up9 hT (iR_w (a := 0) (b := 0) (show iR 0 (0) (0) from ⟨by decide, by decide⟩) (by decide) (by decide)) (fun m a b => by omega) (fun z => absurd z (by decide))
        have hI := TI_RI hT
        refine lv_iinc (v := (nI (1 + j2_1))) (lv' := [(1, .int (nI (1 + j2_1))), (0, .ref (E.2.1 + 1076))]) hx hb dX7_sendsDown_65 hl (k := 1) rfl (show nI j2_1 + nI 1 = _ from (nI_add _ _).trans (congrArg nI (by omega))) (by decide) rfl (fun ls hl => ?_)
        refine lv_goto (tgt := 2) hx hb dX7_sendsDown_68 (by decide) ?_
        exact ih2 ls ρ559 _ _ (1 + j2_1) (lv_sub hl [1, 0] rfl) hP hS (TI_w hT (fun m a b => by omega) (fun m a b => by omega) (by omega) (by omega) (by omega)) (by omega) (by omega) (by omega)
      have hT := hI
      have hI := TI_RI hT
      refine lv_iload_n hx hb dX7_sendsDown_2 rfl (lv_at hl 1 rfl) ?_
      refine lv_iconst (v := 2) hx hb dX7_sendsDown_3 (by decide) ?_
      refine lv_icmp_ge (tgt := 71) hx hb dX7_sendsDown_4 (by decide) (fun c561 => ?_) (fun c561 => ?_)
      · skip
        have n562 := mt (nx_lt (a := j2_1) (b := 2) (by omega) (by omega)).mpr (show ¬ (nI j2_1 < nI 2) from (Int32.not_lt.mpr c561))
        refine lv_iconst (v := 0) hx hb dX7_sendsDown_71 (by decide) ?_
        refine lv_istore_n (lv' := [(1, .int 0), (0, .ref (E.2.1 + 1076))]) hx hb dX7_sendsDown_72 rfl hl (by decide) rfl (fun ls hl => ?_)
        exact b73_0 ls ρ _ _ _ 0 (lv_sub hl [1, 0] rfl) hP hS (TI_w hT (fun m a b => by omega) (fun m a b => by omega) (by omega) (by omega) (by omega)) (Nat.lt_succ_self _) (by omega) (by omega)
      · skip
        have n563 := (nx_lt (a := j2_1) (b := 2) (by omega) (by omega)).mp (show (nI j2_1 < nI 2) from (Int32.not_le.mp c561))
        refine lv_aload_n hx hb dX7_sendsDown_7 rfl (lv_at hl 0 rfl) ?_
        refine get7 B hP (show hk 1076 = 7 by decide +kernel) 11 (by decide) mw_1038 rfl dX7_sendsDown_8 ?_
        refine lv_iload_n hx hb dX7_sendsDown_11 rfl (lv_at hl 1 rfl) ?_
        refine lv_aload_n hx hb dX7_sendsDown_12 rfl (lv_at hl 0 rfl) ?_
        refine get7 B hP (show hk 1076 = 7 by decide +kernel) 10 (by decide) mw_1037 rfl dX7_sendsDown_13 ?_
        refine lv_iload_n hx hb dX7_sendsDown_16 rfl (lv_at hl 1 rfl) ?_
        refine aldn (n := 2) (j := j2_1) B hP (show hk 1084 = 8 by decide +kernel) (show hlen 1084 = 2 by decide +kernel) rfl (by omega) (by decide) dX7_sendsDown_17 ?_
        have i564 : iR (ρ 1084 j2_1) (-2) 3 := iR_w (hT.2.2.2.2.1 j2_1 (by omega) (by omega)).1 (by decide) (by have := RI_Lb (n := j2_1) hI (by omega); omega)
        refine lv_iconst (v := (-1)) hx hb dX7_sendsDown_18 (by decide) ?_
        refine lv_icmp_ne (tgt := 28) hx hb dX7_sendsDown_19 (by decide) (fun c565 => ?_) (fun c565 => ?_)
        · skip
          have i566 : iR (M j2_1) 0 5 := (hT.2.2.2.2.1 j2_1 (by omega) (by omega)).2 c565
          refine lv_aload_n hx hb dX7_sendsDown_28 rfl (lv_at hl 0 rfl) ?_
          refine lv_iload_n hx hb dX7_sendsDown_29 rfl (lv_at hl 1 rfl) ?_
          refine lv_aload_n hx hb dX7_sendsDown_30 rfl (lv_at hl 0 rfl) ?_
          refine get7 B hP (show hk 1076 = 7 by decide +kernel) 3 (by decide) mw_1030 rfl dX7_sendsDown_31 ?_
          refine lv_bipush (v := 7) hx hb dX7_sendsDown_34 (by decide) ?_
          refine aldn (n := 695) (j := 7) B hP (show hk 1078 = 8 by decide +kernel) (show hlen 1078 = 695 by decide +kernel) rfl (by omega) (by decide) dX7_sendsDown_36 ?_
          have i567 : iR (ρ 1078 7) (0) (1000000) := (iR_w (g_time hI) (by omega) (by omega))
          obtain ⟨j568, lj568, uj568, ej568⟩ := iR_nat (a := 0) (b := 1000000) i567
          refine lv_topi (fun z569 ez569 => ?_)
          obtain rfl : z569 = nI j568 := ez569.trans ej568
          have := time_le (g_time hI) ej568 (by omega)
          refine lv_aload_n hx hb dX7_sendsDown_37 rfl (lv_at hl 0 rfl) ?_
          refine lv_iload_n hx hb dX7_sendsDown_38 rfl (lv_at hl 1 rfl) ?_
          refine call_i (cVt (k := 1076) (av := [.int (nI j2_1)]) (rest := [.int (nI j568), .int (nI j2_1), .ref (E.2.1 + 1076), .int (nI j2_1), .ref (E.2.1 + 1085)]) B hP hS (d_X7_mapFor l E ρ ρ Bt hBt M L (XT 2 0 0 0 (ρ 1084) (ρ 1087)) j2_1 (by omega) (by omega) hI i566 (iR_w (hT.2.2.2.2.1 j2_1 (by omega) (by omega)).1 (by decide) (by have := RI_Lb (n := j2_1) hI (by omega); omega))) lk_RX7_196 (hrecv (ci := 7) B hP (hk_lt (c := 7) (show hk 1076 = 7 by decide +kernel) (by decide)) (hcc7 _ _ (show hk 1076 = 7 by decide +kernel)) rfl) rfl rfl hl.1 (Nat.le_of_ble_eq_true rfl) ⟨Nat.le_of_ble_eq_true rfl, Nat.le_of_ble_eq_true rfl⟩ ⟨Nat.le_of_ble_eq_true rfl, Nat.le_of_ble_eq_true rfl⟩ dX7_sendsDown_39) hS (fun r570 ρ571 H locs q572 hP hS => ?_)
          obtain ⟨rfl, -, q572⟩ := q572
          obtain ⟨j574, lj574, uj574, ej574⟩ := iR_nat (a := 1) (b := 8388607) q572
          refine lv_topi (fun z575 ez575 => ?_)
          obtain rfl : z575 = nI j574 := ez575.trans ej574
          refine call_i (cVt (k := 1076) (av := [.int (nI j2_1), .int (nI j568), .int (nI j574)]) (rest := [.int (nI j2_1), .ref (E.2.1 + 1085)]) B hP hS (d_X7_hopOf l E ρ ρ Bt hBt M L (XT 2 0 0 0 (ρ 1084) (ρ 1087)) j2_1 (by omega) (by omega) (nI j568) j574 (by omega) (by omega) hI) lk_RX7_114 (hrecv (ci := 7) B hP (hk_lt (c := 7) (show hk 1076 = 7 by decide +kernel) (by decide)) (hcc7 _ _ (show hk 1076 = 7 by decide +kernel)) rfl) rfl rfl hl.1 (Nat.le_of_ble_eq_true rfl) ⟨Nat.le_of_ble_eq_true rfl, Nat.le_of_ble_eq_true rfl⟩ ⟨Nat.le_of_ble_eq_true rfl, Nat.le_of_ble_eq_true rfl⟩ dX7_sendsDown_42) hS (fun r576 ρ577 H locs q578 hP hS => ?_)
          obtain ⟨rfl, -, q578⟩ := q578
          obtain ⟨j580, lj580, uj580, ej580⟩ := iR_nat (a := 0) (b := 22) q578
          refine lv_topi (fun z581 ez581 => ?_)
          obtain rfl : z581 = nI j580 := ez581.trans ej580
          exact b45_0 ls ρ _ _ ((nI j580) : Int32) (lv_sub hl [0, 1] rfl) hP hS (TI_w hT (fun m a b => by omega) (fun m a b => by omega) (by omega) (by omega) (by omega)) (iR_w (nI_iR (j := j580) (a := 0) (b := 22) (by omega) (by omega) (by omega)) (by decide) (by decide)) (by omega) (by omega)
        · skip
          have i582 : iR (ρ 1084 j2_1) (-1) (-1) := (by rw [c565]; exact ⟨by decide, by decide⟩)
          refine lv_iconst (v := (-1)) hx hb dX7_sendsDown_22 (by decide) ?_
          refine lv_iload_n hx hb dX7_sendsDown_23 rfl (lv_at hl 1 rfl) ?_
          refine lv_isub hx hb dX7_sendsDown_24 ?_
          refine lv_goto (tgt := 45) hx hb dX7_sendsDown_25 (by decide) ?_
          exact b45_0 ls ρ _ _ (((-1) - (nI j2_1)) : Int32) (lv_sub hl [0, 1] rfl) hP hS (TI_w hT (fun m a b => by omega) (fun m a b => by omega) (by omega) (by omega) (by omega)) (iR_w (iR_sub (a' := -2) (b' := -1) (show iR (-1) (-1) (-1) from ⟨by decide, by decide⟩) (nI_iR (j := j2_1) (a := 0) (b := 1) (by omega) (by omega) (by omega)) (by decide) (by decide) (by decide) (by decide)) (by decide) (by decide)) (by omega) (by omega)
  refine lv_iconst (v := 0) hx hb dX7_sendsDown_0 (by decide) ?_
  refine lv_istore_n (lv' := [(1, .int 0), (0, .ref (E.2.1 + 1076))]) hx hb dX7_sendsDown_1 rfl hl (by decide) rfl (fun ls hl => ?_)
  exact b2_0 ls ρ _ _ _ 0 (lv_sub hl [1, 0] rfl) hP hS (TI_w hT (fun m a b => by omega) (fun m a b => by omega) (by omega) (by omega) (by omega)) (Nat.lt_succ_self _) (by omega) (by omega)

theorem lk_RX7_215 : LkV RX7 215 RX7 yX7_masterHears cX7_masterHears 3 none 2 := ⟨⟨mw_1332, mw_1334, mw_40, mw_59, mw_1335⟩, by decide +kernel⟩
set_option maxHeartbeats 4000000 in
set_option maxRecDepth 100000 in
theorem d_X7_sendsUp (l : Launch) (E : hE) (ρ r : Nat → Nat → Int32) (Bt : Nat) (hBt : Bt ≤ 1000000) (M : Nat → Int32) (L : Nat → Nat) (hI : TI r Bt M L 2 2 0 2 2 2 0 ρ) : Met l yX7_sendsUp (.code yX7_sendsUp cX7_sendsUp 4 none :: gw_all) (rmk 6 240) (cPre E ρ [.ref (E.2.1 + 1076)]) (cV E (fun ρ1 => TI r Bt M L 0 0 0 0 0 2 0 ρ1)) 0 0 (hA E) := by
  refine ent (own := RX7) (by decide) rfl (Nat.le_of_ble_eq_true rfl) ?_
  intro p e s m below meth c ls B hr hlk hl hP hS
  have hx := B.1.1
  have hb := B.1.2.1
  have hown := B.1.2.2.2.1
  have hts := B.1.2.2.2.2
  have hl : lv_has ls 4 [(0, .ref (E.2.1 + 1076))] := hl
  have hT := hI
  have hI := TI_RI hT
  have b67_0 : ∀ (ls : Array Slot) (ρ : Nat → Nat → Int32) (H : Heap) (locs : List Loc) (d67 : Nat) (j67_1 : Nat), lv_has ls 4 [(0, .ref (E.2.1 + 1076)), (1, .int (nI j67_1))] → WP E ρ H → va_S (hA E) s.heap H locs → TI r Bt M L 2 2 j67_1 2 2 2 0 ρ → 3 - j67_1 < d67 → 0 ≤ j67_1 → j67_1 ≤ 2 → W p l e (rmk 6 240) s m ([.ref (E.2.1 + 1076)] : List Value).toArray below meth c H locs 0 0 (MQ below (cV E (fun ρ1 => TI r Bt M L 0 0 0 0 0 2 0 ρ1)) ([.ref (E.2.1 + 1076)] : List Value).toArray s 0 0 (hA E)) (F0 m 67 ls []) := by
    intro ls ρ H locs d67
    induction d67 generalizing ls ρ H locs with
    | zero => intro j67_1 hl hP hS hI hd67 lj67_1 uj67_1; exact absurd hd67 (Nat.not_lt_zero _)
    | succ d67 ih67 =>
      intro j67_1 hl hP hS hI hd67 lj67_1 uj67_1
      have b196_0 : ∀ (ls : Array Slot) (ρ : Nat → Nat → Int32) (H : Heap) (locs : List Loc) , lv_has ls 4 [(0, .ref (E.2.1 + 1076)), (1, .int (nI j67_1))] → WP E ρ H → va_S (hA E) s.heap H locs → TI r Bt M L 2 2 (j67_1 + 1) 2 2 2 0 ρ → 0 ≤ j67_1 → j67_1 ≤ 1 → W p l e (rmk 6 240) s m ([.ref (E.2.1 + 1076)] : List Value).toArray below meth c H locs 0 0 (MQ below (cV E (fun ρ1 => TI r Bt M L 0 0 0 0 0 2 0 ρ1)) ([.ref (E.2.1 + 1076)] : List Value).toArray s 0 0 (hA E)) (F0 m 196 ls []) := by
        intro ls ρ H locs  hl hP hS hI tlj67_1 tuj67_1
        have hT := hI
        have hI := TI_RI hT
        refine lv_iinc (v := (nI (1 + j67_1))) (lv' := [(1, .int (nI (1 + j67_1))), (0, .ref (E.2.1 + 1076))]) hx hb dX7_sendsUp_196 hl (k := 1) rfl (show nI j67_1 + nI 1 = _ from (nI_add _ _).trans (congrArg nI (by omega))) (by decide) rfl (fun ls hl => ?_)
        refine lv_goto (tgt := 67) hx hb dX7_sendsUp_199 (by decide) ?_
        exact ih67 ls ρ _ _ (1 + j67_1) (lv_sub hl [1, 0] rfl) hP hS (TI_w hT (fun m a b => by omega) (fun m a b => by omega) (by omega) (by omega) (by omega)) (by omega) (by omega) (by omega)
      have b184_0 : ∀ (ls : Array Slot) (ρ : Nat → Nat → Int32) (H : Heap) (locs : List Loc) (l184_2 : Nat) (j184_3 : Nat) (j184_s1 : Nat) (x184_s2 : Int32), lv_has ls 4 [(0, .ref (E.2.1 + 1076)), (1, .int (nI j67_1)), (2, .int (nI (104 + 326 * j67_1 + 66 * l184_2))), (3, .int (nI j184_3))] → WP E ρ H → va_S (hA E) s.heap H locs → TI r Bt M L 2 2 j67_1 2 2 j67_1 l184_2 ρ → l184_2 ≤ 3 → 0 ≤ j184_3 → j184_3 ≤ 0 → 13 ≤ j184_s1 → j184_s1 ≤ 13 → iR x184_s2 (-2147483648) (2147483647) → iR (M j67_1) (0) (5) → 0 ≤ (L j67_1) → (L j67_1) ≤ 4 → 0 ≤ j67_1 → j67_1 ≤ 1 → l184_2 + 0 ≤ L j67_1 → l184_2 + 1 ≤ L j67_1 → W p l e (rmk 6 240) s m ([.ref (E.2.1 + 1076)] : List Value).toArray below meth c H locs 0 0 (MQ below (cV E (fun ρ1 => TI r Bt M L 0 0 0 0 0 2 0 ρ1)) ([.ref (E.2.1 + 1076)] : List Value).toArray s 0 0 (hA E)) (F0 m 184 ls [.int 0, .int x184_s2, .int (nI j184_s1), .ref (E.2.1 + 1078)]) := by
        intro ls ρ H locs l184_2 j184_3 j184_s1 x184_s2 hl hP hS hI ul184_2 lj184_3 uj184_3 lj184_s1 uj184_s1 hx184_s2 f_M_j67_1_ tl_L_j67_1_ tu_L_j67_1_ tlj67_1 tuj67_1 hr184_0 hr184_1
        have hT := hI
        have hI := TI_RI hT
        refine lv_iadd hx hb dX7_sendsUp_184 ?_
        refine astn (n := 695) (j := j184_s1) B hP hS (show hk 1078 = 8 by decide +kernel) (show hlen 1078 = 695 by decide +kernel) rfl (by omega) (by decide) dX7_sendsUp_185 (fun H locs hP hS => ?_)
        obtain ⟨ρ272, e273⟩ : ∃ z, z = up ρ 1078 j184_s1 (x184_s2 + 0) := ⟨_, rfl⟩
        rw [← e273] at hP
        have hT : TI r Bt M L 2 2 j67_1 2 2 j67_1 l184_2 ρ272 := by rw [e273]; exact TI_back hT (RI_up hI (ok_head (by omega) (by omega) (by omega)))
        have hI := TI_RI hT
        refine lv_iload_n hx hb dX7_sendsUp_186 rfl (lv_at hl 3 rfl) ?_
        refine lv_if_ne (tgt := 196) hx hb dX7_sendsUp_187 (by decide) (fun c274 => ?_) (fun c274 => ?_)
        · skip
          have n275 := mt (nI_eq (a := j184_3) (b := 0) (by omega) (by omega)).mpr (show ¬ (nI j184_3 = nI 0) from c274)
          exact b196_0 ls ρ272 _ _  (lv_sub hl [0, 1] rfl) hP hS (TI_w hT (fun m a b => by omega) (fun m a b => by omega) (by omega) (by omega) (by omega)) (by omega) (by omega)
        · skip
          have n276 := (nI_eq (a := j184_3) (b := 0) (by omega) (by omega)).mp (show (nI j184_3 = nI 0) from c274)
          refine lv_aload_n hx hb dX7_sendsUp_190 rfl (lv_at hl 0 rfl) ?_
          refine lv_iload_n hx hb dX7_sendsUp_191 rfl (lv_at hl 1 rfl) ?_
          refine lv_iload_n hx hb dX7_sendsUp_192 rfl (lv_at hl 2 rfl) ?_
          refine call_v (cVt (k := 1076) (av := [.int (nI j67_1), .int (nI (104 + 326 * j67_1 + 66 * l184_2))]) (rest := []) B hP hS (d_X7_masterHears l E ρ272 ρ272 Bt hBt M L (XT 2 2 j67_1 2 (ρ272 1084) (ρ272 1087)) j67_1 (by omega) l184_2 (by omega) hI (hT.2.2.2.1 j67_1 (by omega)).2.1 (hT.2.2.2.1 j67_1 (by omega)).2.2.1 (hT.2.2.2.1 j67_1 (by omega)).2.2.2.1 (fun z => Or.inr ⟨l184_2, by omega, rfl, by simp only; omega, by simp only; omega, (hT.2.2.2.2.2.2 j67_1 (by omega) (by omega)).1, z⟩)) lk_RX7_215 (hrecv (ci := 7) B hP (hk_lt (c := 7) (show hk 1076 = 7 by decide +kernel) (by decide)) (hcc7 _ _ (show hk 1076 = 7 by decide +kernel)) rfl) rfl rfl hl.1 (Nat.le_of_ble_eq_true rfl) ⟨Nat.le_of_ble_eq_true rfl, Nat.le_of_ble_eq_true rfl⟩ ⟨Nat.le_of_ble_eq_true rfl, Nat.le_of_ble_eq_true rfl⟩ dX7_sendsUp_193) hS (fun ρ278 H locs q279 hP hS => ?_)
          have hR280 := q279
          have hT := TI_back10 (p2 := j67_1 + 1) hT hR280 rfl (by omega) (by omega)
          have hI := TI_RI hT
          exact b196_0 ls ρ278 _ _  (lv_sub hl [0, 1] rfl) hP hS (TI_w hT (fun m a b => by omega) (fun m a b => by omega) (by omega) (by omega) (by omega)) (by omega) (by omega)
      have b184_1 : ∀ (ls : Array Slot) (ρ : Nat → Nat → Int32) (H : Heap) (locs : List Loc) (l184_2 : Nat) (j184_3 : Nat) (j184_s1 : Nat) (x184_s2 : Int32), lv_has ls 4 [(0, .ref (E.2.1 + 1076)), (1, .int (nI j67_1)), (2, .int (nI (104 + 326 * j67_1 + 66 * l184_2))), (3, .int (nI j184_3))] → WP E ρ H → va_S (hA E) s.heap H locs → TI r Bt M L 2 2 j67_1 2 2 j67_1 l184_2 ρ → l184_2 ≤ 3 → 1 ≤ j184_3 → j184_3 ≤ 3 → 13 ≤ j184_s1 → j184_s1 ≤ 15 → iR x184_s2 (-2147483648) (2147483647) → iR (M j67_1) (0) (5) → 0 ≤ (L j67_1) → (L j67_1) ≤ 4 → 0 ≤ j67_1 → j67_1 ≤ 1 → l184_2 + 0 ≤ L j67_1 → l184_2 + 1 ≤ L j67_1 → W p l e (rmk 6 240) s m ([.ref (E.2.1 + 1076)] : List Value).toArray below meth c H locs 0 0 (MQ below (cV E (fun ρ1 => TI r Bt M L 0 0 0 0 0 2 0 ρ1)) ([.ref (E.2.1 + 1076)] : List Value).toArray s 0 0 (hA E)) (F0 m 184 ls [.int 1, .int x184_s2, .int (nI j184_s1), .ref (E.2.1 + 1078)]) := by
        intro ls ρ H locs l184_2 j184_3 j184_s1 x184_s2 hl hP hS hI ul184_2 lj184_3 uj184_3 lj184_s1 uj184_s1 hx184_s2 f_M_j67_1_ tl_L_j67_1_ tu_L_j67_1_ tlj67_1 tuj67_1 hr184_0 hr184_1
        have hT := hI
        have hI := TI_RI hT
        refine lv_iadd hx hb dX7_sendsUp_184 ?_
        refine astn (n := 695) (j := j184_s1) B hP hS (show hk 1078 = 8 by decide +kernel) (show hlen 1078 = 695 by decide +kernel) rfl (by omega) (by decide) dX7_sendsUp_185 (fun H locs hP hS => ?_)
        obtain ⟨ρ281, e282⟩ : ∃ z, z = up ρ 1078 j184_s1 (x184_s2 + 1) := ⟨_, rfl⟩
        rw [← e282] at hP
        have hT : TI r Bt M L 2 2 j67_1 2 2 j67_1 l184_2 ρ281 := by rw [e282]; exact TI_back hT (RI_up hI (ok_head (by omega) (by omega) (by omega)))
        have hI := TI_RI hT
        refine lv_iload_n hx hb dX7_sendsUp_186 rfl (lv_at hl 3 rfl) ?_
        refine lv_if_ne (tgt := 196) hx hb dX7_sendsUp_187 (by decide) (fun _ => ?_) (fun c283 => absurd c283 (iR_ne (nI_iR (j := j184_3) (a := 1) (b := 3) (by omega) (by omega) (by omega)) (show iR 0 (0) (0) from ⟨by decide, by decide⟩) (by decide)))
        exact b196_0 ls ρ281 _ _  (lv_sub hl [0, 1] rfl) hP hS (TI_w hT (fun m a b => by omega) (fun m a b => by omega) (by omega) (by omega) (by omega)) (by omega) (by omega)
      have b172_0 : ∀ (ls : Array Slot) (ρ : Nat → Nat → Int32) (H : Heap) (locs : List Loc) (l172_2 : Nat) (j172_3 : Nat) (j172_s1 : Nat), lv_has ls 4 [(0, .ref (E.2.1 + 1076)), (1, .int (nI j67_1)), (2, .int (nI (104 + 326 * j67_1 + 66 * l172_2))), (3, .int (nI j172_3))] → WP E ρ H → va_S (hA E) s.heap H locs → TI r Bt M L 2 2 j67_1 2 2 j67_1 l172_2 ρ → l172_2 ≤ 3 → 0 ≤ j172_3 → j172_3 ≤ 0 → 13 ≤ j172_s1 → j172_s1 ≤ 13 → iR (M j67_1) (0) (5) → 0 ≤ (L j67_1) → (L j67_1) ≤ 4 → 0 ≤ j67_1 → j67_1 ≤ 1 → l172_2 + 0 ≤ L j67_1 → l172_2 + 1 ≤ L j67_1 → W p l e (rmk 6 240) s m ([.ref (E.2.1 + 1076)] : List Value).toArray below meth c H locs 0 0 (MQ below (cV E (fun ρ1 => TI r Bt M L 0 0 0 0 0 2 0 ρ1)) ([.ref (E.2.1 + 1076)] : List Value).toArray s 0 0 (hA E)) (F0 m 172 ls [.int 0, .int (nI j172_s1), .ref (E.2.1 + 1078)]) := by
        intro ls ρ H locs l172_2 j172_3 j172_s1 hl hP hS hI ul172_2 lj172_3 uj172_3 lj172_s1 uj172_s1 f_M_j67_1_ tl_L_j67_1_ tu_L_j67_1_ tlj67_1 tuj67_1 hr172_0 hr172_1
        have hT := hI
        have hI := TI_RI hT
        refine lv_isub hx hb dX7_sendsUp_172 ?_
        refine lv_topi (fun z284 ez284 => ?_)
        obtain rfl : z284 = (nI j172_s1) := ez284.trans (nI_subE (a := j172_s1) (b := 0) (q := j172_s1) (by omega))
        refine lv_dup2_11 hx hb dX7_sendsUp_173 rfl rfl ?_
        refine aldn (n := 695) (j := j172_s1) B hP (show hk 1078 = 8 by decide +kernel) (show hlen 1078 = 695 by decide +kernel) rfl (by omega) (by decide) dX7_sendsUp_174 ?_
        refine lv_iload_n hx hb dX7_sendsUp_175 rfl (lv_at hl 3 rfl) ?_
        refine lv_if_ne (tgt := 183) hx hb dX7_sendsUp_176 (by decide) (fun c285 => ?_) (fun c285 => ?_)
        · skip
          have n286 := mt (nI_eq (a := j172_3) (b := 0) (by omega) (by omega)).mpr (show ¬ (nI j172_3 = nI 0) from c285)
          refine lv_iconst (v := 1) hx hb dX7_sendsUp_183 (by decide) ?_
          exact b184_1 ls ρ _ _ l172_2 j172_3 j172_s1 ((ρ 1078 j172_s1) : Int32) (lv_sub hl [0, 1, 2, 3] rfl) hP hS (TI_w hT (fun m a b => by omega) (fun m a b => by omega) (by omega) (by omega) (by omega)) (by omega) (by omega) (by omega) (by omega) (by omega) (iR_w (iR_any (ρ 1078 j172_s1)) (by decide) (by decide)) (iR_w f_M_j67_1_ (by decide) (by decide)) (by omega) (by omega) (by omega) (by omega) (by omega) (by omega)
        · skip
          have n287 := (nI_eq (a := j172_3) (b := 0) (by omega) (by omega)).mp (show (nI j172_3 = nI 0) from c285)
          refine lv_iconst (v := 0) hx hb dX7_sendsUp_179 (by decide) ?_
          refine lv_goto (tgt := 184) hx hb dX7_sendsUp_180 (by decide) ?_
          exact b184_0 ls ρ _ _ l172_2 j172_3 j172_s1 ((ρ 1078 j172_s1) : Int32) (lv_sub hl [0, 1, 2, 3] rfl) hP hS (TI_w hT (fun m a b => by omega) (fun m a b => by omega) (by omega) (by omega) (by omega)) (by omega) (by omega) (by omega) (by omega) (by omega) (iR_w (iR_any (ρ 1078 j172_s1)) (by decide) (by decide)) (iR_w f_M_j67_1_ (by decide) (by decide)) (by omega) (by omega) (by omega) (by omega) (by omega) (by omega)
      have b172_1 : ∀ (ls : Array Slot) (ρ : Nat → Nat → Int32) (H : Heap) (locs : List Loc) (l172_2 : Nat) (j172_3 : Nat) (j172_s1 : Nat), lv_has ls 4 [(0, .ref (E.2.1 + 1076)), (1, .int (nI j67_1)), (2, .int (nI (104 + 326 * j67_1 + 66 * l172_2))), (3, .int (nI j172_3))] → WP E ρ H → va_S (hA E) s.heap H locs → TI r Bt M L 2 2 j67_1 2 2 j67_1 l172_2 ρ → l172_2 ≤ 3 → 1 ≤ j172_3 → j172_3 ≤ 3 → 14 ≤ j172_s1 → j172_s1 ≤ 16 → iR (M j67_1) (0) (5) → 0 ≤ (L j67_1) → (L j67_1) ≤ 4 → 0 ≤ j67_1 → j67_1 ≤ 1 → l172_2 + 0 ≤ L j67_1 → l172_2 + 1 ≤ L j67_1 → W p l e (rmk 6 240) s m ([.ref (E.2.1 + 1076)] : List Value).toArray below meth c H locs 0 0 (MQ below (cV E (fun ρ1 => TI r Bt M L 0 0 0 0 0 2 0 ρ1)) ([.ref (E.2.1 + 1076)] : List Value).toArray s 0 0 (hA E)) (F0 m 172 ls [.int 1, .int (nI j172_s1), .ref (E.2.1 + 1078)]) := by
        intro ls ρ H locs l172_2 j172_3 j172_s1 hl hP hS hI ul172_2 lj172_3 uj172_3 lj172_s1 uj172_s1 f_M_j67_1_ tl_L_j67_1_ tu_L_j67_1_ tlj67_1 tuj67_1 hr172_0 hr172_1
        have hT := hI
        have hI := TI_RI hT
        refine lv_isub hx hb dX7_sendsUp_172 ?_
        obtain ⟨j288, hj288⟩ : ∃ q, j172_s1 = q + 1 := ⟨j172_s1 - 1, by omega⟩
        refine lv_topi (fun z289 ez289 => ?_)
        obtain rfl : z289 = (nI j288) := ez289.trans (nI_subE (a := j172_s1) (b := 1) hj288)
        refine lv_dup2_11 hx hb dX7_sendsUp_173 rfl rfl ?_
        refine aldn (n := 695) (j := j288) B hP (show hk 1078 = 8 by decide +kernel) (show hlen 1078 = 695 by decide +kernel) rfl (by omega) (by decide) dX7_sendsUp_174 ?_
        refine lv_iload_n hx hb dX7_sendsUp_175 rfl (lv_at hl 3 rfl) ?_
        refine lv_if_ne (tgt := 183) hx hb dX7_sendsUp_176 (by decide) (fun _ => ?_) (fun c290 => absurd c290 (iR_ne (nI_iR (j := j172_3) (a := 1) (b := 3) (by omega) (by omega) (by omega)) (show iR 0 (0) (0) from ⟨by decide, by decide⟩) (by decide)))
        refine lv_iconst (v := 1) hx hb dX7_sendsUp_183 (by decide) ?_
        exact b184_1 ls ρ _ _ l172_2 j172_3 j288 ((ρ 1078 j288) : Int32) (lv_sub hl [0, 1, 2, 3] rfl) hP hS (TI_w hT (fun m a b => by omega) (fun m a b => by omega) (by omega) (by omega) (by omega)) (by omega) (by omega) (by omega) (by omega) (by omega) (iR_w (iR_any (ρ 1078 j288)) (by decide) (by decide)) (iR_w f_M_j67_1_ (by decide) (by decide)) (by omega) (by omega) (by omega) (by omega) (by omega) (by omega)
      have b154_0 : ∀ (ls : Array Slot) (ρ : Nat → Nat → Int32) (H : Heap) (locs : List Loc) (l154_2 : Nat) (j154_3 : Nat) (l154_s1 : Nat) (j154_s2 : Nat), lv_has ls 4 [(0, .ref (E.2.1 + 1076)), (1, .int (nI j67_1)), (2, .int (nI (104 + 326 * j67_1 + 66 * l154_2))), (3, .int (nI j154_3))] → WP E ρ H → va_S (hA E) s.heap H locs → TI r Bt M L 2 2 j67_1 2 2 j67_1 l154_2 ρ → l154_2 ≤ 3 → 1 ≤ j154_3 → j154_3 ≤ 3 → l154_s1 ≤ 3 → 21 ≤ j154_s2 → j154_s2 ≤ 23 → iR (M j67_1) (0) (5) → 0 ≤ (L j67_1) → (L j67_1) ≤ 4 → 0 ≤ j67_1 → j67_1 ≤ 1 → l154_s1 + 0 ≤ L j67_1 → l154_s1 + 1 ≤ L j67_1 → l154_2 + 0 ≤ L j67_1 → l154_2 + 1 ≤ L j67_1 → W p l e (rmk 6 240) s m ([.ref (E.2.1 + 1076)] : List Value).toArray below meth c H locs 0 0 (MQ below (cV E (fun ρ1 => TI r Bt M L 0 0 0 0 0 2 0 ρ1)) ([.ref (E.2.1 + 1076)] : List Value).toArray s 0 0 (hA E)) (F0 m 154 ls [.int (nI j154_s2), .int (nI (141 + 326 * j67_1 + 66 * l154_s1)), .ref (E.2.1 + 1078)]) := by
        intro ls ρ H locs l154_2 j154_3 l154_s1 j154_s2 hl hP hS hI ul154_2 lj154_3 uj154_3 ul154_s1 lj154_s2 uj154_s2 f_M_j67_1_ tl_L_j67_1_ tu_L_j67_1_ tlj67_1 tuj67_1 hr154_0 hr154_1 hr154_2 hr154_3
        have hT := hI
        have hI := TI_RI hT
        refine astn (n := 695) (j := (141 + 326 * j67_1 + 66 * l154_s1)) B hP hS (show hk 1078 = 8 by decide +kernel) (show hlen 1078 = 695 by decide +kernel) rfl (by omega) (by decide) dX7_sendsUp_154 (fun H locs hP hS => ?_)
        obtain ⟨ρ291, e292⟩ : ∃ z, z = up ρ 1078 (141 + 326 * j67_1 + 66 * l154_s1) (nI j154_s2) := ⟨_, rfl⟩
        rw [← e292] at hP
        have hT : TI r Bt M L 2 2 j67_1 2 2 j67_1 l154_2 ρ291 := by rw [e292]; exact TI_back hT (RI_up hI (ok_link (n0 := j67_1) (l0 := l154_s1) (j := (141 + 326 * j67_1 + 66 * l154_s1)) 37 (by omega) (by omega) (by omega) (by omega)))
        have hI := TI_RI hT
        refine lv_aload_n hx hb dX7_sendsUp_155 rfl (lv_at hl 0 rfl) ?_
        refine get7 B hP (show hk 1076 = 7 by decide +kernel) 3 (by decide) mw_1030 rfl dX7_sendsUp_156 ?_
        refine lv_bipush (v := 13) hx hb dX7_sendsUp_159 (by decide) ?_
        refine lv_iload_n hx hb dX7_sendsUp_161 rfl (lv_at hl 3 rfl) ?_
        refine lv_iadd hx hb dX7_sendsUp_162 ?_
        refine lv_topi (fun z293 ez293 => ?_)
        obtain rfl : z293 = (nI (13 + j154_3)) := ez293.trans (by rw [show 13 = nI 13 from rfl, show (nI j154_3) = nI j154_3 from rfl, nI_add] <;> exact congrArg nI (by omega))
        refine lv_iload_n hx hb dX7_sendsUp_163 rfl (lv_at hl 3 rfl) ?_
        refine lv_if_ne (tgt := 171) hx hb dX7_sendsUp_164 (by decide) (fun _ => ?_) (fun c294 => absurd c294 (iR_ne (nI_iR (j := j154_3) (a := 1) (b := 3) (by omega) (by omega) (by omega)) (show iR 0 (0) (0) from ⟨by decide, by decide⟩) (by decide)))
        refine lv_iconst (v := 1) hx hb dX7_sendsUp_171 (by decide) ?_
        exact b172_1 ls ρ291 _ _ l154_2 j154_3 (13 + j154_3) (lv_sub hl [0, 1, 2, 3] rfl) hP hS (TI_w hT (fun m a b => by omega) (fun m a b => by omega) (by omega) (by omega) (by omega)) (by omega) (by omega) (by omega) (by omega) (by omega) (iR_w f_M_j67_1_ (by decide) (by decide)) (by omega) (by omega) (by omega) (by omega) (by omega) (by omega)
      have b154_1 : ∀ (ls : Array Slot) (ρ : Nat → Nat → Int32) (H : Heap) (locs : List Loc) (l154_2 : Nat) (j154_3 : Nat) (l154_s1 : Nat), lv_has ls 4 [(0, .ref (E.2.1 + 1076)), (1, .int (nI j67_1)), (2, .int (nI (104 + 326 * j67_1 + 66 * l154_2))), (3, .int (nI j154_3))] → WP E ρ H → va_S (hA E) s.heap H locs → TI r Bt M L 2 2 j67_1 2 2 j67_1 l154_2 ρ → l154_2 ≤ 3 → 0 ≤ j154_3 → j154_3 ≤ 0 → l154_s1 ≤ 3 → iR (M j67_1) (0) (5) → 0 ≤ (L j67_1) → (L j67_1) ≤ 4 → 0 ≤ j67_1 → j67_1 ≤ 1 → l154_s1 + 0 ≤ L j67_1 → l154_s1 + 1 ≤ L j67_1 → l154_2 + 0 ≤ L j67_1 → l154_2 + 1 ≤ L j67_1 → W p l e (rmk 6 240) s m ([.ref (E.2.1 + 1076)] : List Value).toArray below meth c H locs 0 0 (MQ below (cV E (fun ρ1 => TI r Bt M L 0 0 0 0 0 2 0 ρ1)) ([.ref (E.2.1 + 1076)] : List Value).toArray s 0 0 (hA E)) (F0 m 154 ls [.int 0, .int (nI (141 + 326 * j67_1 + 66 * l154_s1)), .ref (E.2.1 + 1078)]) := by
        intro ls ρ H locs l154_2 j154_3 l154_s1 hl hP hS hI ul154_2 lj154_3 uj154_3 ul154_s1 f_M_j67_1_ tl_L_j67_1_ tu_L_j67_1_ tlj67_1 tuj67_1 hr154_0 hr154_1 hr154_2 hr154_3
        have hT := hI
        have hI := TI_RI hT
        refine astn (n := 695) (j := (141 + 326 * j67_1 + 66 * l154_s1)) B hP hS (show hk 1078 = 8 by decide +kernel) (show hlen 1078 = 695 by decide +kernel) rfl (by omega) (by decide) dX7_sendsUp_154 (fun H locs hP hS => ?_)
        obtain ⟨ρ295, e296⟩ : ∃ z, z = up ρ 1078 (141 + 326 * j67_1 + 66 * l154_s1) 0 := ⟨_, rfl⟩
        rw [← e296] at hP
        have hT : TI r Bt M L 2 2 j67_1 2 2 j67_1 l154_2 ρ295 := by rw [e296]; exact TI_back hT (RI_up hI (ok_link (n0 := j67_1) (l0 := l154_s1) (j := (141 + 326 * j67_1 + 66 * l154_s1)) 37 (by omega) (by omega) (by omega) (by omega)))
        have hI := TI_RI hT
        refine lv_aload_n hx hb dX7_sendsUp_155 rfl (lv_at hl 0 rfl) ?_
        refine get7 B hP (show hk 1076 = 7 by decide +kernel) 3 (by decide) mw_1030 rfl dX7_sendsUp_156 ?_
        refine lv_bipush (v := 13) hx hb dX7_sendsUp_159 (by decide) ?_
        refine lv_iload_n hx hb dX7_sendsUp_161 rfl (lv_at hl 3 rfl) ?_
        refine lv_iadd hx hb dX7_sendsUp_162 ?_
        refine lv_topi (fun z297 ez297 => ?_)
        obtain rfl : z297 = (nI (13 + j154_3)) := ez297.trans (by rw [show 13 = nI 13 from rfl, show (nI j154_3) = nI j154_3 from rfl, nI_add] <;> exact congrArg nI (by omega))
        refine lv_iload_n hx hb dX7_sendsUp_163 rfl (lv_at hl 3 rfl) ?_
        refine lv_if_ne (tgt := 171) hx hb dX7_sendsUp_164 (by decide) (fun c298 => ?_) (fun c298 => ?_)
        · skip
          have n299 := mt (nI_eq (a := j154_3) (b := 0) (by omega) (by omega)).mpr (show ¬ (nI j154_3 = nI 0) from c298)
          refine lv_iconst (v := 1) hx hb dX7_sendsUp_171 (by decide) ?_
          exact b172_1 ls ρ295 _ _ l154_2 j154_3 (13 + j154_3) (lv_sub hl [0, 1, 2, 3] rfl) hP hS (TI_w hT (fun m a b => by omega) (fun m a b => by omega) (by omega) (by omega) (by omega)) (by omega) (by omega) (by omega) (by omega) (by omega) (iR_w f_M_j67_1_ (by decide) (by decide)) (by omega) (by omega) (by omega) (by omega) (by omega) (by omega)
        · skip
          have n300 := (nI_eq (a := j154_3) (b := 0) (by omega) (by omega)).mp (show (nI j154_3 = nI 0) from c298)
          refine lv_iconst (v := 0) hx hb dX7_sendsUp_167 (by decide) ?_
          refine lv_goto (tgt := 172) hx hb dX7_sendsUp_168 (by decide) ?_
          exact b172_0 ls ρ295 _ _ l154_2 j154_3 (13 + j154_3) (lv_sub hl [0, 1, 2, 3] rfl) hP hS (TI_w hT (fun m a b => by omega) (fun m a b => by omega) (by omega) (by omega) (by omega)) (by omega) (by omega) (by omega) (by omega) (by omega) (iR_w f_M_j67_1_ (by decide) (by decide)) (by omega) (by omega) (by omega) (by omega) (by omega) (by omega)
      have hT := hI
      have hI := TI_RI hT
      refine lv_iload_n hx hb dX7_sendsUp_67 rfl (lv_at hl 1 rfl) ?_
      refine lv_iconst (v := 2) hx hb dX7_sendsUp_68 (by decide) ?_
      refine lv_icmp_ge (tgt := 202) hx hb dX7_sendsUp_69 (by decide) (fun c301 => ?_) (fun c301 => ?_)
      · skip
        have n302 := mt (nx_lt (a := j67_1) (b := 2) (by omega) (by omega)).mpr (show ¬ (nI j67_1 < nI 2) from (Int32.not_lt.mpr c301))
        exact ret_v B hr hlk hP hS dX7_sendsUp_202 (TI_w hT (fun m a b => by omega) (fun m a b => by omega) (by omega) (by omega) (by omega))
      · skip
        have n303 := (nx_lt (a := j67_1) (b := 2) (by omega) (by omega)).mp (show (nI j67_1 < nI 2) from (Int32.not_le.mp c301))
        refine lv_aload_n hx hb dX7_sendsUp_72 rfl (lv_at hl 0 rfl) ?_
        refine get7 B hP (show hk 1076 = 7 by decide +kernel) 15 (by decide) mw_1042 rfl dX7_sendsUp_73 ?_
        refine lv_iload_n hx hb dX7_sendsUp_76 rfl (lv_at hl 1 rfl) ?_
        refine zldn (n := 2) (j := j67_1) B hP (show hk 1089 = 9 by decide +kernel) (show hlen 1089 = 2 by decide +kernel) rfl (by omega) (by decide) dX7_sendsUp_77 ?_
        have i304 : iR (ρ 1089 j67_1) 0 1 := (hT.2.2.2.1 j67_1 (by omega)).2.2.2.2
        obtain ⟨j305, lj305, uj305, ej305⟩ := iR_nat (a := 0) (b := 1) i304
        refine lv_topi (fun z306 ez306 => ?_)
        obtain rfl : z306 = nI j305 := ez306.trans ej305
        refine lv_if_eq (tgt := 196) hx hb dX7_sendsUp_78 (by decide) (fun c307 => ?_) (fun c307 => ?_)
        · skip
          have n308 := (nI_eq (a := j305) (b := 0) (by omega) (by omega)).mp (show (nI j305 = nI 0) from c307)
          exact b196_0 ls ρ _ _  (lv_sub hl [0, 1] rfl) hP hS (TI_w hT (fun m a b => by omega) (fun m a b => by omega) (by omega) (by omega) (by omega)) (by omega) (by omega)
        · skip
          have n309 := mt (nI_eq (a := j305) (b := 0) (by omega) (by omega)).mpr (show ¬ (nI j305 = nI 0) from c307)
          refine lv_iload_n hx hb dX7_sendsUp_81 rfl (lv_at hl 1 rfl) ?_
          refine lv_aload_n hx hb dX7_sendsUp_82 rfl (lv_at hl 0 rfl) ?_
          refine get7 B hP (show hk 1076 = 7 by decide +kernel) 10 (by decide) mw_1037 rfl dX7_sendsUp_83 ?_
          refine lv_iload_n hx hb dX7_sendsUp_86 rfl (lv_at hl 1 rfl) ?_
          refine aldn (n := 2) (j := j67_1) B hP (show hk 1084 = 8 by decide +kernel) (show hlen 1084 = 2 by decide +kernel) rfl (by omega) (by decide) dX7_sendsUp_87 ?_
          have i310 : iR (ρ 1084 j67_1) 0 3 := hT.2.2.2.2.2.1 j67_1 (by omega) (by omega) (ej305.trans (congrArg nI (show j305 = 1 by omega)))
          have i311 : iR (M j67_1) 0 5 := (hT.2.2.2.2.1 j67_1 (by omega) (by omega)).2 (m_ne (iR_w (a := 0) (b := 3) (a' := 0) (b' := 3) i310 (by decide) (by decide)))
          have i312 : iR (ρ 1084 j67_1) (-1) ((L j67_1 : Int) - 1) := ⟨Int.le_trans (by decide) (show (0 : Int) ≤ _ from i310.1), (hT.2.2.2.2.1 j67_1 (by omega) (by omega)).1.2⟩
          have := RI_Lb (n := j67_1) hI (by omega)
          obtain ⟨j313, lj313, uj313, ej313⟩ := iR_nat (a := 0) (b := 3) i310
          refine lv_topi (fun z314 ez314 => ?_)
          obtain rfl : z314 = nI j313 := ez314.trans ej313
          have : j313 < L j67_1 := rl_lt i312 ej313 (by omega)
          refine call_i (cS (av := [.int (nI j67_1), .int (nI j313)]) (rest := []) B hP hS (d_X7_linkAt l E ρ ρ Bt hBt M L (XT 2 2 j67_1 2 (ρ 1084) (ρ 1087)) j67_1 (by omega) (by omega) j313 (by omega) (by omega) hI) lk_RX7_82 rfl rfl hl.1 (Nat.le_of_ble_eq_true rfl) ⟨Nat.le_of_ble_eq_true rfl, Nat.le_of_ble_eq_true rfl⟩ ⟨Nat.le_of_ble_eq_true rfl, Nat.le_of_ble_eq_true rfl⟩ dX7_sendsUp_88) hS (fun r315 ρ316 H locs q317 hP hS => ?_)
          obtain ⟨rfl, -, q317⟩ := q317
          obtain rfl : r315 = nI (104 + 66 * j313 + 326 * j67_1) := q317.trans (congrArg nI (by omega))
          refine lv_istore_n (lv' := [(2, .int (nI (104 + 66 * j313 + 326 * j67_1))), (0, .ref (E.2.1 + 1076)), (1, .int (nI j67_1))]) hx hb dX7_sendsUp_91 rfl hl (by decide) rfl (fun ls hl => ?_)
          have hT := TI_qc (n0 := j67_1) (l0 := j313) hT ej313 (by omega)
          have hI := TI_RI hT
          refine lv_aload_n hx hb dX7_sendsUp_92 rfl (lv_at hl 1 rfl) ?_
          refine get7 B hP (show hk 1076 = 7 by decide +kernel) 3 (by decide) mw_1030 rfl dX7_sendsUp_93 ?_
          refine lv_bipush (v := 12) hx hb dX7_sendsUp_96 (by decide) ?_
          refine lv_dup2_11 hx hb dX7_sendsUp_98 rfl rfl ?_
          refine aldn (n := 695) (j := 12) B hP (show hk 1078 = 8 by decide +kernel) (show hlen 1078 = 695 by decide +kernel) rfl (by omega) (by decide) dX7_sendsUp_99 ?_
          refine lv_iconst (v := 1) hx hb dX7_sendsUp_100 (by decide) ?_
          refine lv_iadd hx hb dX7_sendsUp_101 ?_
          refine astn (n := 695) (j := 12) B hP hS (show hk 1078 = 8 by decide +kernel) (show hlen 1078 = 695 by decide +kernel) rfl (by omega) (by decide) dX7_sendsUp_102 (fun H locs hP hS => ?_)
          obtain ⟨ρ319, e320⟩ : ∃ z, z = up ρ 1078 12 ((ρ 1078 12) + 1) := ⟨_, rfl⟩
          rw [← e320] at hP
          have hT : TI r Bt M L 2 2 j67_1 2 2 j67_1 j313 ρ319 := by rw [e320]; exact TI_back hT (RI_up hI (ok_head (by omega) (by omega) (by omega)))
          have hI := TI_RI hT
          refine lv_aload_n hx hb dX7_sendsUp_103 rfl (lv_at hl 1 rfl) ?_
          refine lv_iload_n hx hb dX7_sendsUp_104 rfl (lv_at hl 2 rfl) ?_
          refine lv_aload_n hx hb dX7_sendsUp_105 rfl (lv_at hl 1 rfl) ?_
          refine lv_iload_n hx hb dX7_sendsUp_106 rfl (lv_at hl 2 rfl) ?_
          refine lv_aload_n hx hb dX7_sendsUp_107 rfl (lv_at hl 1 rfl) ?_
          refine get7 B hP (show hk 1076 = 7 by decide +kernel) 3 (by decide) mw_1030 rfl dX7_sendsUp_108 ?_
          refine lv_bipush (v := 7) hx hb dX7_sendsUp_111 (by decide) ?_
          refine aldn (n := 695) (j := 7) B hP (show hk 1078 = 8 by decide +kernel) (show hlen 1078 = 695 by decide +kernel) rfl (by omega) (by decide) dX7_sendsUp_113 ?_
          have i321 : iR (ρ319 1078 7) (0) (1000000) := (iR_w (g_time hI) (by omega) (by omega))
          obtain ⟨j322, lj322, uj322, ej322⟩ := iR_nat (a := 0) (b := 1000000) i321
          refine lv_topi (fun z323 ez323 => ?_)
          obtain rfl : z323 = nI j322 := ez323.trans ej322
          have := time_le (g_time hI) ej322 (by omega)
          refine lv_iconst (v := 1) hx hb dX7_sendsUp_114 (by decide) ?_
          refine lv_iadd hx hb dX7_sendsUp_115 ?_
          refine lv_topi (fun z324 ez324 => ?_)
          obtain rfl : z324 = (nI (1 + j322)) := ez324.trans (by rw [show (nI j322) = nI j322 from rfl, show 1 = nI 1 from rfl, nI_add] <;> exact congrArg nI (by omega))
          refine lv_aload_n hx hb dX7_sendsUp_116 rfl (lv_at hl 1 rfl) ?_
          refine get7 B hP (show hk 1076 = 7 by decide +kernel) 3 (by decide) mw_1030 rfl dX7_sendsUp_117 ?_
          refine lv_iload_n hx hb dX7_sendsUp_120 rfl (lv_at hl 2 rfl) ?_
          refine call_i (cS (av := [.int (nI j67_1)]) (rest := [.ref (E.2.1 + 1078), .int (nI (1 + j322)), .int (nI j67_1), .ref (E.2.1 + 1076), .int (nI j67_1), .ref (E.2.1 + 1076)]) B hP hS (d_X7_netAt l E ρ319 ρ319 Bt hBt M L (XT 2 2 j67_1 2 (ρ319 1084) (ρ319 1087)) j67_1 (by omega) (by omega) hI) lk_RX7_75 rfl rfl hl.1 (Nat.le_of_ble_eq_true rfl) ⟨Nat.le_of_ble_eq_true rfl, Nat.le_of_ble_eq_true rfl⟩ ⟨Nat.le_of_ble_eq_true rfl, Nat.le_of_ble_eq_true rfl⟩ dX7_sendsUp_121) hS (fun r325 ρ326 H locs q327 hP hS => ?_)
          obtain ⟨rfl, -, q327⟩ := q327
          obtain rfl : r325 = nI (42 + 326 * j67_1) := q327.trans (congrArg nI (by omega))
          refine lv_iconst (v := 2) hx hb dX7_sendsUp_124 (by decide) ?_
          refine lv_iadd hx hb dX7_sendsUp_125 ?_
          refine lv_topi (fun z329 ez329 => ?_)
          obtain rfl : z329 = (nI (44 + 326 * j67_1)) := ez329.trans (by rw [show (nI (42 + 326 * j67_1)) = nI (42 + 326 * j67_1) from rfl, show 2 = nI 2 from rfl, nI_add] <;> exact congrArg nI (by omega))
          refine aldn (n := 695) (j := (44 + 326 * j67_1)) B hP (show hk 1078 = 8 by decide +kernel) (show hlen 1078 = 695 by decide +kernel) rfl (by omega) (by decide) dX7_sendsUp_126 ?_
          have i330 : iR (ρ319 1078 (44 + 326 * j67_1)) (1) (8388607) := g_map (n0 := j67_1) (j := (44 + 326 * j67_1)) hI (by omega) i311 (by omega)
          obtain ⟨j331, lj331, uj331, ej331⟩ := iR_nat (a := 1) (b := 8388607) i330
          refine lv_topi (fun z332 ez332 => ?_)
          obtain rfl : z332 = nI j331 := ez332.trans ej331
          refine call_i (cVt (k := 1076) (av := [.int (nI j67_1), .int (nI (1 + j322)), .int (nI j331)]) (rest := [.int (nI j67_1), .ref (E.2.1 + 1076)]) B hP hS (d_X7_hopOf l E ρ319 ρ319 Bt hBt M L (XT 2 2 j67_1 2 (ρ319 1084) (ρ319 1087)) j67_1 (by omega) (by omega) (nI (1 + j322)) j331 (by omega) (by omega) hI) lk_RX7_114 (hrecv (ci := 7) B hP (hk_lt (c := 7) (show hk 1076 = 7 by decide +kernel) (by decide)) (hcc7 _ _ (show hk 1076 = 7 by decide +kernel)) rfl) rfl rfl hl.1 (Nat.le_of_ble_eq_true rfl) ⟨Nat.le_of_ble_eq_true rfl, Nat.le_of_ble_eq_true rfl⟩ ⟨Nat.le_of_ble_eq_true rfl, Nat.le_of_ble_eq_true rfl⟩ dX7_sendsUp_127) hS (fun r333 ρ334 H locs q335 hP hS => ?_)
          obtain ⟨rfl, -, q335⟩ := q335
          obtain ⟨j337, lj337, uj337, ej337⟩ := iR_nat (a := 0) (b := 22) q335
          refine lv_topi (fun z338 ez338 => ?_)
          obtain rfl : z338 = nI j337 := ez338.trans ej337
          refine call_i (cVt (k := 1076) (av := [.int (nI j67_1), .int (nI j337)]) (rest := []) B hP hS (d_X7_whyNot l E ρ319 ρ319 Bt hBt M L (XT 2 2 j67_1 2 (ρ319 1084) (ρ319 1087)) j67_1 (by omega) (by omega) (nI j337) hI (fun n hn => (hT.2.2.2.1 n hn).1)) lk_RX7_202 (hrecv (ci := 7) B hP (hk_lt (c := 7) (show hk 1076 = 7 by decide +kernel) (by decide)) (hcc7 _ _ (show hk 1076 = 7 by decide +kernel)) rfl) rfl rfl hl.1 (Nat.le_of_ble_eq_true rfl) ⟨Nat.le_of_ble_eq_true rfl, Nat.le_of_ble_eq_true rfl⟩ ⟨Nat.le_of_ble_eq_true rfl, Nat.le_of_ble_eq_true rfl⟩ dX7_sendsUp_130) hS (fun r339 ρ340 H locs q341 hP hS => ?_)
          obtain ⟨hR342, q341⟩ := q341
          have hT := TI_back hT hR342
          have hI := TI_RI hT
          obtain ⟨j343, lj343, uj343, ej343⟩ := iR_nat (a := 0) (b := 3) q341
          refine lv_topi (fun z344 ez344 => ?_)
          obtain rfl : z344 = nI j343 := ez344.trans ej343
          refine lv_istore_n (lv' := [(3, .int (nI j343)), (2, .int (nI (104 + 66 * j313 + 326 * j67_1))), (0, .ref (E.2.1 + 1076)), (1, .int (nI j67_1))]) hx hb dX7_sendsUp_133 rfl hl (by decide) rfl (fun ls hl => ?_)
          refine lv_aload_n hx hb dX7_sendsUp_134 rfl (lv_at hl 2 rfl) ?_
          refine get7 B hP (show hk 1076 = 7 by decide +kernel) 3 (by decide) mw_1030 rfl dX7_sendsUp_135 ?_
          refine lv_iload_n hx hb dX7_sendsUp_138 rfl (lv_at hl 1 rfl) ?_
          refine lv_bipush (v := 37) hx hb dX7_sendsUp_139 (by decide) ?_
          refine lv_iadd hx hb dX7_sendsUp_141 ?_
          refine lv_topi (fun z345 ez345 => ?_)
          obtain rfl : z345 = (nI (141 + 66 * j313 + 326 * j67_1)) := ez345.trans (by rw [show (nI (104 + 66 * j313 + 326 * j67_1)) = nI (104 + 66 * j313 + 326 * j67_1) from rfl, show 37 = nI 37 from rfl, nI_add] <;> exact congrArg nI (by omega))
          refine lv_iload_n hx hb dX7_sendsUp_142 rfl (lv_at hl 0 rfl) ?_
          refine lv_if_ne (tgt := 150) hx hb dX7_sendsUp_143 (by decide) (fun c346 => ?_) (fun c346 => ?_)
          · skip
            have n347 := mt (nI_eq (a := j343) (b := 0) (by omega) (by omega)).mpr (show ¬ (nI j343 = nI 0) from c346)
            refine lv_bipush (v := 20) hx hb dX7_sendsUp_150 (by decide) ?_
            refine lv_iload_n hx hb dX7_sendsUp_152 rfl (lv_at hl 0 rfl) ?_
            refine lv_iadd hx hb dX7_sendsUp_153 ?_
            refine lv_topi (fun z348 ez348 => ?_)
            obtain rfl : z348 = (nI (20 + j343)) := ez348.trans (by rw [show 20 = nI 20 from rfl, show (nI j343) = nI j343 from rfl, nI_add] <;> exact congrArg nI (by omega))
            exact b154_0 ls ρ340 _ _ j313 j343 j313 (20 + j343) (lv_sub hl [2, 3, 1, 0] rfl) hP hS (TI_w hT (fun m a b => by omega) (fun m a b => by omega) (by omega) (by omega) (by omega)) (by omega) (by omega) (by omega) (by omega) (by omega) (by omega) (iR_w i311 (by decide) (by decide)) (by omega) (by omega) (by omega) (by omega) (by omega) (by omega) (by omega) (by omega)
          · skip
            have n349 := (nI_eq (a := j343) (b := 0) (by omega) (by omega)).mp (show (nI j343 = nI 0) from c346)
            refine lv_iconst (v := 0) hx hb dX7_sendsUp_146 (by decide) ?_
            refine lv_goto (tgt := 154) hx hb dX7_sendsUp_147 (by decide) ?_
            exact b154_1 ls ρ340 _ _ j313 j343 j313 (lv_sub hl [2, 3, 1, 0] rfl) hP hS (TI_w hT (fun m a b => by omega) (fun m a b => by omega) (by omega) (by omega) (by omega)) (by omega) (by omega) (by omega) (by omega) (iR_w i311 (by decide) (by decide)) (by omega) (by omega) (by omega) (by omega) (by omega) (by omega) (by omega) (by omega)
  have b2_0 : ∀ (ls : Array Slot) (ρ : Nat → Nat → Int32) (H : Heap) (locs : List Loc) (d2 : Nat) (j2_1 : Nat), lv_has ls 4 [(0, .ref (E.2.1 + 1076)), (1, .int (nI j2_1))] → WP E ρ H → va_S (hA E) s.heap H locs → TI r Bt M L 2 2 0 2 2 2 0 ρ → 3 - j2_1 < d2 → 0 ≤ j2_1 → j2_1 ≤ 2 → W p l e (rmk 6 240) s m ([.ref (E.2.1 + 1076)] : List Value).toArray below meth c H locs 0 0 (MQ below (cV E (fun ρ1 => TI r Bt M L 0 0 0 0 0 2 0 ρ1)) ([.ref (E.2.1 + 1076)] : List Value).toArray s 0 0 (hA E)) (F0 m 2 ls []) := by
    intro ls ρ H locs d2
    induction d2 generalizing ls ρ H locs with
    | zero => intro j2_1 hl hP hS hI hd2 lj2_1 uj2_1; exact absurd hd2 (Nat.not_lt_zero _)
    | succ d2 ih2 =>
      intro j2_1 hl hP hS hI hd2 lj2_1 uj2_1
      have b58_0 : ∀ (ls : Array Slot) (ρ : Nat → Nat → Int32) (H : Heap) (locs : List Loc) (x58_s2 : Int32), lv_has ls 4 [(0, .ref (E.2.1 + 1076)), (1, .int (nI j2_1))] → WP E ρ H → va_S (hA E) s.heap H locs → TI r Bt M L 2 2 0 2 2 2 0 ρ → iR x58_s2 (-2) (22) → 0 ≤ j2_1 → j2_1 ≤ 1 → W p l e (rmk 6 240) s m ([.ref (E.2.1 + 1076)] : List Value).toArray below meth c H locs 0 0 (MQ below (cV E (fun ρ1 => TI r Bt M L 0 0 0 0 0 2 0 ρ1)) ([.ref (E.2.1 + 1076)] : List Value).toArray s 0 0 (hA E)) (F0 m 58 ls [.int x58_s2, .int (nI j2_1), .ref (E.2.1 + 1085)]) := by
        intro ls ρ H locs x58_s2 hl hP hS hI hx58_s2 tlj2_1 tuj2_1
        have hT := hI
        have hI := TI_RI hT
        refine astn (n := 2) (j := j2_1) B hP hS (show hk 1085 = 8 by decide +kernel) (show hlen 1085 = 2 by decide +kernel) rfl (by omega) (by decide) dX7_sendsUp_58 (fun H locs hP hS => ?_)
        obtain ⟨ρ350, e351⟩ : ∃ z, z = up ρ 1085 j2_1 x58_s2 := ⟨_, rfl⟩
        rw [← e351] at hP
        have hT : TI r Bt M L 2 2 0 2 2 2 0 ρ350 := by rw [e351]; exact TI_up5 hT (iR_w (a := -2) (b := 22) hx58_s2 (by decide) (by decide))
        have hI := TI_RI hT
        refine lv_iinc (v := (nI (1 + j2_1))) (lv' := [(1, .int (nI (1 + j2_1))), (0, .ref (E.2.1 + 1076))]) hx hb dX7_sendsUp_59 hl (k := 1) rfl (show nI j2_1 + nI 1 = _ from (nI_add _ _).trans (congrArg nI (by omega))) (by decide) rfl (fun ls hl => ?_)
        refine lv_goto (tgt := 2) hx hb dX7_sendsUp_62 (by decide) ?_
        exact ih2 ls ρ350 _ _ (1 + j2_1) (lv_sub hl [1, 0] rfl) hP hS (TI_w hT (fun m a b => by omega) (fun m a b => by omega) (by omega) (by omega) (by omega)) (by omega) (by omega) (by omega)
      have hT := hI
      have hI := TI_RI hT
      refine lv_iload_n hx hb dX7_sendsUp_2 rfl (lv_at hl 1 rfl) ?_
      refine lv_iconst (v := 2) hx hb dX7_sendsUp_3 (by decide) ?_
      refine lv_icmp_ge (tgt := 65) hx hb dX7_sendsUp_4 (by decide) (fun c352 => ?_) (fun c352 => ?_)
      · skip
        have n353 := mt (nx_lt (a := j2_1) (b := 2) (by omega) (by omega)).mpr (show ¬ (nI j2_1 < nI 2) from (Int32.not_lt.mpr c352))
        refine lv_iconst (v := 0) hx hb dX7_sendsUp_65 (by decide) ?_
        refine lv_istore_n (lv' := [(1, .int 0), (0, .ref (E.2.1 + 1076))]) hx hb dX7_sendsUp_66 rfl hl (by decide) rfl (fun ls hl => ?_)
        exact b67_0 ls ρ _ _ _ 0 (lv_sub hl [1, 0] rfl) hP hS (TI_w hT (fun m a b => by omega) (fun m a b => by omega) (by omega) (by omega) (by omega)) (Nat.lt_succ_self _) (by omega) (by omega)
      · skip
        have n354 := (nx_lt (a := j2_1) (b := 2) (by omega) (by omega)).mp (show (nI j2_1 < nI 2) from (Int32.not_le.mp c352))
        refine lv_aload_n hx hb dX7_sendsUp_7 rfl (lv_at hl 0 rfl) ?_
        refine get7 B hP (show hk 1076 = 7 by decide +kernel) 11 (by decide) mw_1038 rfl dX7_sendsUp_8 ?_
        refine lv_iload_n hx hb dX7_sendsUp_11 rfl (lv_at hl 1 rfl) ?_
        refine lv_aload_n hx hb dX7_sendsUp_12 rfl (lv_at hl 0 rfl) ?_
        refine get7 B hP (show hk 1076 = 7 by decide +kernel) 15 (by decide) mw_1042 rfl dX7_sendsUp_13 ?_
        refine lv_iload_n hx hb dX7_sendsUp_16 rfl (lv_at hl 1 rfl) ?_
        refine zldn (n := 2) (j := j2_1) B hP (show hk 1089 = 9 by decide +kernel) (show hlen 1089 = 2 by decide +kernel) rfl (by omega) (by decide) dX7_sendsUp_17 ?_
        have i355 : iR (ρ 1089 j2_1) 0 1 := (hT.2.2.2.1 j2_1 (by omega)).2.2.2.2
        obtain ⟨j356, lj356, uj356, ej356⟩ := iR_nat (a := 0) (b := 1) i355
        refine lv_topi (fun z357 ez357 => ?_)
        obtain rfl : z357 = nI j356 := ez357.trans ej356
        refine lv_if_eq (tgt := 55) hx hb dX7_sendsUp_18 (by decide) (fun c358 => ?_) (fun c358 => ?_)
        · skip
          have n359 := (nI_eq (a := j356) (b := 0) (by omega) (by omega)).mp (show (nI j356 = nI 0) from c358)
          refine lv_iconst (v := (-1)) hx hb dX7_sendsUp_55 (by decide) ?_
          refine lv_iload_n hx hb dX7_sendsUp_56 rfl (lv_at hl 1 rfl) ?_
          refine lv_isub hx hb dX7_sendsUp_57 ?_
          exact b58_0 ls ρ _ _ (((-1) - (nI j2_1)) : Int32) (lv_sub hl [0, 1] rfl) hP hS (TI_w hT (fun m a b => by omega) (fun m a b => by omega) (by omega) (by omega) (by omega)) (iR_w (iR_sub (a' := -2) (b' := -1) (show iR (-1) (-1) (-1) from ⟨by decide, by decide⟩) (nI_iR (j := j2_1) (a := 0) (b := 1) (by omega) (by omega) (by omega)) (by decide) (by decide) (by decide) (by decide)) (by decide) (by decide)) (by omega) (by omega)
        · skip
          have n360 := mt (nI_eq (a := j356) (b := 0) (by omega) (by omega)).mpr (show ¬ (nI j356 = nI 0) from c358)
          refine lv_aload_n hx hb dX7_sendsUp_21 rfl (lv_at hl 0 rfl) ?_
          refine lv_iload_n hx hb dX7_sendsUp_22 rfl (lv_at hl 1 rfl) ?_
          refine lv_aload_n hx hb dX7_sendsUp_23 rfl (lv_at hl 0 rfl) ?_
          refine get7 B hP (show hk 1076 = 7 by decide +kernel) 3 (by decide) mw_1030 rfl dX7_sendsUp_24 ?_
          refine lv_bipush (v := 7) hx hb dX7_sendsUp_27 (by decide) ?_
          refine aldn (n := 695) (j := 7) B hP (show hk 1078 = 8 by decide +kernel) (show hlen 1078 = 695 by decide +kernel) rfl (by omega) (by decide) dX7_sendsUp_29 ?_
          have i361 : iR (ρ 1078 7) (0) (1000000) := (iR_w (g_time hI) (by omega) (by omega))
          obtain ⟨j362, lj362, uj362, ej362⟩ := iR_nat (a := 0) (b := 1000000) i361
          refine lv_topi (fun z363 ez363 => ?_)
          obtain rfl : z363 = nI j362 := ez363.trans ej362
          have := time_le (g_time hI) ej362 (by omega)
          refine lv_iconst (v := 1) hx hb dX7_sendsUp_30 (by decide) ?_
          refine lv_iadd hx hb dX7_sendsUp_31 ?_
          refine lv_topi (fun z364 ez364 => ?_)
          obtain rfl : z364 = (nI (1 + j362)) := ez364.trans (by rw [show (nI j362) = nI j362 from rfl, show 1 = nI 1 from rfl, nI_add] <;> exact congrArg nI (by omega))
          refine lv_aload_n hx hb dX7_sendsUp_32 rfl (lv_at hl 0 rfl) ?_
          refine get7 B hP (show hk 1076 = 7 by decide +kernel) 3 (by decide) mw_1030 rfl dX7_sendsUp_33 ?_
          refine lv_iload_n hx hb dX7_sendsUp_36 rfl (lv_at hl 1 rfl) ?_
          refine lv_aload_n hx hb dX7_sendsUp_37 rfl (lv_at hl 0 rfl) ?_
          refine get7 B hP (show hk 1076 = 7 by decide +kernel) 10 (by decide) mw_1037 rfl dX7_sendsUp_38 ?_
          refine lv_iload_n hx hb dX7_sendsUp_41 rfl (lv_at hl 1 rfl) ?_
          refine aldn (n := 2) (j := j2_1) B hP (show hk 1084 = 8 by decide +kernel) (show hlen 1084 = 2 by decide +kernel) rfl (by omega) (by decide) dX7_sendsUp_42 ?_
          have i365 : iR (ρ 1084 j2_1) 0 3 := hT.2.2.2.2.2.1 j2_1 (by omega) (by omega) (ej356.trans (congrArg nI (show j356 = 1 by omega)))
          have i366 : iR (M j2_1) 0 5 := (hT.2.2.2.2.1 j2_1 (by omega) (by omega)).2 (m_ne (iR_w (a := 0) (b := 3) (a' := 0) (b' := 3) i365 (by decide) (by decide)))
          have i367 : iR (ρ 1084 j2_1) (-1) ((L j2_1 : Int) - 1) := ⟨Int.le_trans (by decide) (show (0 : Int) ≤ _ from i365.1), (hT.2.2.2.2.1 j2_1 (by omega) (by omega)).1.2⟩
          have := RI_Lb (n := j2_1) hI (by omega)
          obtain ⟨j368, lj368, uj368, ej368⟩ := iR_nat (a := 0) (b := 3) i365
          refine lv_topi (fun z369 ez369 => ?_)
          obtain rfl : z369 = nI j368 := ez369.trans ej368
          have : j368 < L j2_1 := rl_lt i367 ej368 (by omega)
          refine call_i (cS (av := [.int (nI j2_1), .int (nI j368)]) (rest := [.ref (E.2.1 + 1078), .int (nI (1 + j362)), .int (nI j2_1), .ref (E.2.1 + 1076), .int (nI j2_1), .ref (E.2.1 + 1085)]) B hP hS (d_X7_linkAt l E ρ ρ Bt hBt M L (XT 2 2 0 2 (ρ 1084) (ρ 1087)) j2_1 (by omega) (by omega) j368 (by omega) (by omega) hI) lk_RX7_82 rfl rfl hl.1 (Nat.le_of_ble_eq_true rfl) ⟨Nat.le_of_ble_eq_true rfl, Nat.le_of_ble_eq_true rfl⟩ ⟨Nat.le_of_ble_eq_true rfl, Nat.le_of_ble_eq_true rfl⟩ dX7_sendsUp_43) hS (fun r370 ρ371 H locs q372 hP hS => ?_)
          obtain ⟨rfl, -, q372⟩ := q372
          obtain rfl : r370 = nI (104 + 326 * j2_1 + 66 * j368) := q372.trans (congrArg nI (by omega))
          refine lv_iconst (v := 1) hx hb dX7_sendsUp_46 (by decide) ?_
          refine lv_iadd hx hb dX7_sendsUp_47 ?_
          refine lv_topi (fun z374 ez374 => ?_)
          obtain rfl : z374 = (nI (105 + 326 * j2_1 + 66 * j368)) := ez374.trans (by rw [show (nI (104 + 326 * j2_1 + 66 * j368)) = nI (104 + 326 * j2_1 + 66 * j368) from rfl, show 1 = nI 1 from rfl, nI_add] <;> exact congrArg nI (by omega))
          refine aldn (n := 695) (j := (105 + 326 * j2_1 + 66 * j368)) B hP (show hk 1078 = 8 by decide +kernel) (show hlen 1078 = 695 by decide +kernel) rfl (by omega) (by decide) dX7_sendsUp_48 ?_
          have i375 : iR (ρ 1078 (105 + 326 * j2_1 + 66 * j368)) (1) (8388607) := g_itsmap (n0 := j2_1) (l0 := j368) (j := (105 + 326 * j2_1 + 66 * j368)) hI (by omega) (by omega) (by omega)
          obtain ⟨j376, lj376, uj376, ej376⟩ := iR_nat (a := 1) (b := 8388607) i375
          refine lv_topi (fun z377 ez377 => ?_)
          obtain rfl : z377 = nI j376 := ez377.trans ej376
          refine call_i (cVt (k := 1076) (av := [.int (nI j2_1), .int (nI (1 + j362)), .int (nI j376)]) (rest := [.int (nI j2_1), .ref (E.2.1 + 1085)]) B hP hS (d_X7_hopOf l E ρ ρ Bt hBt M L (XT 2 2 0 2 (ρ 1084) (ρ 1087)) j2_1 (by omega) (by omega) (nI (1 + j362)) j376 (by omega) (by omega) hI) lk_RX7_114 (hrecv (ci := 7) B hP (hk_lt (c := 7) (show hk 1076 = 7 by decide +kernel) (by decide)) (hcc7 _ _ (show hk 1076 = 7 by decide +kernel)) rfl) rfl rfl hl.1 (Nat.le_of_ble_eq_true rfl) ⟨Nat.le_of_ble_eq_true rfl, Nat.le_of_ble_eq_true rfl⟩ ⟨Nat.le_of_ble_eq_true rfl, Nat.le_of_ble_eq_true rfl⟩ dX7_sendsUp_49) hS (fun r378 ρ379 H locs q380 hP hS => ?_)
          obtain ⟨rfl, -, q380⟩ := q380
          obtain ⟨j382, lj382, uj382, ej382⟩ := iR_nat (a := 0) (b := 22) q380
          refine lv_topi (fun z383 ez383 => ?_)
          obtain rfl : z383 = nI j382 := ez383.trans ej382
          refine lv_goto (tgt := 58) hx hb dX7_sendsUp_52 (by decide) ?_
          exact b58_0 ls ρ _ _ ((nI j382) : Int32) (lv_sub hl [0, 1] rfl) hP hS (TI_w hT (fun m a b => by omega) (fun m a b => by omega) (by omega) (by omega) (by omega)) (iR_w (nI_iR (j := j382) (a := 0) (b := 22) (by omega) (by omega) (by omega)) (by decide) (by decide)) (by omega) (by omega)
  refine lv_iconst (v := 0) hx hb dX7_sendsUp_0 (by decide) ?_
  refine lv_istore_n (lv' := [(1, .int 0), (0, .ref (E.2.1 + 1076))]) hx hb dX7_sendsUp_1 rfl hl (by decide) rfl (fun ls hl => ?_)
  exact b2_0 ls ρ _ _ _ 0 (lv_sub hl [1, 0] rfl) hP hS (TI_w hT (fun m a b => by omega) (fun m a b => by omega) (by omega) (by omega) (by omega)) (Nat.lt_succ_self _) (by omega) (by omega)

theorem lk_RX7_218 : LkV RX7 218 RX7 yX7_mapsBecome cX7_mapsBecome 5 none 4 := ⟨⟨mw_1265, mw_1267, mw_24, mw_59, mw_1268⟩, by decide +kernel⟩
theorem lk_RX7_221 : LkV RX7 221 RX7 yX7_framesCome cX7_framesCome 2 none 1 := ⟨⟨mw_1269, mw_1271, mw_25, mw_59, mw_1272⟩, by decide +kernel⟩
theorem lk_RX7_224 : LkV RX7 224 RX7 yX7_choose cX7_choose 9 (some .int) 1 := ⟨⟨mw_1285, mw_1287, mw_29, mw_59, mw_1288⟩, by decide +kernel⟩
theorem lk_RX7_227 : LkV RX7 227 RX7 yX7_sendsDown cX7_sendsDown 5 none 0 := ⟨⟨mw_1289, mw_1291, mw_30, mw_59, mw_1292⟩, by decide +kernel⟩
theorem lk_RX7_230 : LkV RX7 230 RX7 yX7_sendsUp cX7_sendsUp 4 none 0 := ⟨⟨mw_1328, mw_1330, mw_39, mw_59, mw_1331⟩, by decide +kernel⟩
set_option maxHeartbeats 4000000 in
set_option maxRecDepth 100000 in
theorem d_X7_turn (l : Launch) (E : hE) (ρ r : Nat → Nat → Int32) (Bt : Nat) (hBt : Bt ≤ 1000000) (M : Nat → Int32) (L : Nat → Nat) (hI : TI r Bt M L 0 0 0 0 0 2 0 ρ) : Met l yX7_turn (.code yX7_turn cX7_turn 5 none :: gw_all) (rmk 9 360) (cPre E ρ [.ref (E.2.1 + 1076)]) (cV E (fun ρ1 => TI r (Bt + 2) M L 0 0 0 0 0 2 0 ρ1)) 0 0 (hA E) := by
  refine ent (own := RX7) (by decide) rfl (Nat.le_of_ble_eq_true rfl) ?_
  intro p e s m below meth c ls B hr hlk hl hP hS
  have hx := B.1.1
  have hb := B.1.2.1
  have hown := B.1.2.2.2.1
  have hts := B.1.2.2.2.2
  have hl : lv_has ls 5 [(0, .ref (E.2.1 + 1076))] := hl
  have hT := hI
  have hI := TI_RI hT
  have b227_0 : ∀ (ls : Array Slot) (ρ : Nat → Nat → Int32) (H : Heap) (locs : List Loc) (d227 : Nat) (j227_1 : Nat), lv_has ls 5 [(0, .ref (E.2.1 + 1076)), (1, .int (nI j227_1))] → WP E ρ H → va_S (hA E) s.heap H locs → TI r Bt M L 0 0 0 0 0 2 0 ρ → 3 - j227_1 < d227 → 0 ≤ j227_1 → j227_1 ≤ 2 → W p l e (rmk 9 360) s m ([.ref (E.2.1 + 1076)] : List Value).toArray below meth c H locs 0 0 (MQ below (cV E (fun ρ1 => TI r (Bt + 2) M L 0 0 0 0 0 2 0 ρ1)) ([.ref (E.2.1 + 1076)] : List Value).toArray s 0 0 (hA E)) (F0 m 227 ls []) := by
    intro ls ρ H locs d227
    induction d227 generalizing ls ρ H locs with
    | zero => intro j227_1 hl hP hS hI hd227 lj227_1 uj227_1; exact absurd hd227 (Nat.not_lt_zero _)
    | succ d227 ih227 =>
      intro j227_1 hl hP hS hI hd227 lj227_1 uj227_1
      have b350_0 : ∀ (ls : Array Slot) (ρ : Nat → Nat → Int32) (H : Heap) (locs : List Loc) , lv_has ls 5 [(0, .ref (E.2.1 + 1076)), (1, .int (nI j227_1))] → WP E ρ H → va_S (hA E) s.heap H locs → TI r Bt M L 0 0 0 0 0 2 0 ρ → 0 ≤ j227_1 → j227_1 ≤ 1 → W p l e (rmk 9 360) s m ([.ref (E.2.1 + 1076)] : List Value).toArray below meth c H locs 0 0 (MQ below (cV E (fun ρ1 => TI r (Bt + 2) M L 0 0 0 0 0 2 0 ρ1)) ([.ref (E.2.1 + 1076)] : List Value).toArray s 0 0 (hA E)) (F0 m 350 ls []) := by
        intro ls ρ H locs  hl hP hS hI tlj227_1 tuj227_1
        have hT := hI
        have hI := TI_RI hT
        refine lv_iinc (v := (nI (1 + j227_1))) (lv' := [(1, .int (nI (1 + j227_1))), (0, .ref (E.2.1 + 1076))]) hx hb dX7_turn_350 hl (k := 1) rfl (show nI j227_1 + nI 1 = _ from (nI_add _ _).trans (congrArg nI (by omega))) (by decide) rfl (fun ls hl => ?_)
        refine lv_goto (tgt := 227) hx hb dX7_turn_353 (by decide) ?_
        exact ih227 ls ρ _ _ (1 + j227_1) (lv_sub hl [1, 0] rfl) hP hS (TI_w hT (fun m a b => by omega) (fun m a b => by omega) (by omega) (by omega) (by omega)) (by omega) (by omega) (by omega)
      have b234_0 : ∀ (ls : Array Slot) (ρ : Nat → Nat → Int32) (H : Heap) (locs : List Loc) (d234 : Nat) (j234_2 : Nat), lv_has ls 5 [(0, .ref (E.2.1 + 1076)), (1, .int (nI j227_1)), (2, .int (nI j234_2))] → WP E ρ H → va_S (hA E) s.heap H locs → TI r Bt M L 0 0 0 0 0 2 0 ρ → 5 - j234_2 < d234 → 0 ≤ j234_2 → j234_2 ≤ 4 → 0 ≤ j227_1 → j227_1 ≤ 1 → W p l e (rmk 9 360) s m ([.ref (E.2.1 + 1076)] : List Value).toArray below meth c H locs 0 0 (MQ below (cV E (fun ρ1 => TI r (Bt + 2) M L 0 0 0 0 0 2 0 ρ1)) ([.ref (E.2.1 + 1076)] : List Value).toArray s 0 0 (hA E)) (F0 m 234 ls []) := by
        intro ls ρ H locs d234
        induction d234 generalizing ls ρ H locs with
        | zero => intro j234_2 hl hP hS hI hd234 lj234_2 uj234_2 tlj227_1 tuj227_1; exact absurd hd234 (Nat.not_lt_zero _)
        | succ d234 ih234 =>
          intro j234_2 hl hP hS hI hd234 lj234_2 uj234_2 tlj227_1 tuj227_1
          have b344_0 : ∀ (ls : Array Slot) (ρ : Nat → Nat → Int32) (H : Heap) (locs : List Loc) , lv_has ls 5 [(0, .ref (E.2.1 + 1076)), (1, .int (nI j227_1)), (2, .int (nI j234_2))] → WP E ρ H → va_S (hA E) s.heap H locs → TI r Bt M L 0 0 0 0 0 2 0 ρ → iR (M j227_1) (0) (5) → 1 ≤ (L j227_1) → (L j227_1) ≤ 4 → 0 ≤ j227_1 → j227_1 ≤ 1 → 0 ≤ j234_2 → j234_2 ≤ 3 → j234_2 + 1 ≤ L j227_1 → W p l e (rmk 9 360) s m ([.ref (E.2.1 + 1076)] : List Value).toArray below meth c H locs 0 0 (MQ below (cV E (fun ρ1 => TI r (Bt + 2) M L 0 0 0 0 0 2 0 ρ1)) ([.ref (E.2.1 + 1076)] : List Value).toArray s 0 0 (hA E)) (F0 m 344 ls []) := by
            intro ls ρ H locs  hl hP hS hI f_M_j227_1_ tl_L_j227_1_ tu_L_j227_1_ tlj227_1 tuj227_1 tlj234_2 tuj234_2 hr344_0
            have hT := hI
            have hI := TI_RI hT
            refine lv_iinc (v := (nI (1 + j234_2))) (lv' := [(2, .int (nI (1 + j234_2))), (0, .ref (E.2.1 + 1076)), (1, .int (nI j227_1))]) hx hb dX7_turn_344 hl (k := 2) rfl (show nI j234_2 + nI 1 = _ from (nI_add _ _).trans (congrArg nI (by omega))) (by decide) rfl (fun ls hl => ?_)
            refine lv_goto (tgt := 234) hx hb dX7_turn_347 (by decide) ?_
            exact ih234 ls ρ _ _ (1 + j234_2) (lv_sub hl [1, 2, 0] rfl) hP hS (TI_w hT (fun m a b => by omega) (fun m a b => by omega) (by omega) (by omega) (by omega)) (by omega) (by omega) (by omega) (by omega) (by omega)
          have b340_0 : ∀ (ls : Array Slot) (ρ : Nat → Nat → Int32) (H : Heap) (locs : List Loc) (x340_s1 : Int32), lv_has ls 5 [(0, .ref (E.2.1 + 1076)), (1, .int (nI j227_1)), (2, .int (nI j234_2))] → WP E ρ H → va_S (hA E) s.heap H locs → TI r Bt M L 0 0 0 0 0 2 0 ρ → iR x340_s1 (-2147483648) (2147483647) → iR (M j227_1) (0) (5) → 1 ≤ (L j227_1) → (L j227_1) ≤ 4 → 0 ≤ j227_1 → j227_1 ≤ 1 → 0 ≤ j234_2 → j234_2 ≤ 3 → j234_2 + 1 ≤ L j227_1 → W p l e (rmk 9 360) s m ([.ref (E.2.1 + 1076)] : List Value).toArray below meth c H locs 0 0 (MQ below (cV E (fun ρ1 => TI r (Bt + 2) M L 0 0 0 0 0 2 0 ρ1)) ([.ref (E.2.1 + 1076)] : List Value).toArray s 0 0 (hA E)) (F0 m 340 ls [.int 0, .int x340_s1, .ref (E.2.1 + 1076)]) := by
            intro ls ρ H locs x340_s1 hl hP hS hI hx340_s1 f_M_j227_1_ tl_L_j227_1_ tu_L_j227_1_ tlj227_1 tuj227_1 tlj234_2 tuj234_2 hr340_0
            have hT := hI
            have hI := TI_RI hT
            refine lv_iadd hx hb dX7_turn_340 ?_
            refine put7 B hP hS (show hk 1076 = 7 by decide +kernel) 17 (by decide) mw_1044 rfl rfl rfl (fs7_17 E 1076 _ _) dX7_turn_341 (fun H locs hP hS => ?_)
            obtain ⟨ρ968, e969⟩ : ∃ z, z = up ρ 1076 17 (x340_s1 + 0) := ⟨_, rfl⟩
            rw [← e969] at hP
            have hT : TI r Bt M L 0 0 0 0 0 2 0 ρ968 := by rw [e969]; exact TI_back hT (RI_76 hI (by decide))
            have hI := TI_RI hT
            exact b344_0 ls ρ968 _ _  (lv_sub hl [0, 1, 2] rfl) hP hS (TI_w hT (fun m a b => by omega) (fun m a b => by omega) (by omega) (by omega) (by omega)) (iR_w f_M_j227_1_ (by decide) (by decide)) (by omega) (by omega) (by omega) (by omega) (by omega) (by omega) (by omega)
          have b340_1 : ∀ (ls : Array Slot) (ρ : Nat → Nat → Int32) (H : Heap) (locs : List Loc) (x340_s1 : Int32), lv_has ls 5 [(0, .ref (E.2.1 + 1076)), (1, .int (nI j227_1)), (2, .int (nI j234_2))] → WP E ρ H → va_S (hA E) s.heap H locs → TI r Bt M L 0 0 0 0 0 2 0 ρ → iR x340_s1 (-2147483648) (2147483647) → iR (M j227_1) (0) (5) → 1 ≤ (L j227_1) → (L j227_1) ≤ 4 → 0 ≤ j227_1 → j227_1 ≤ 1 → 0 ≤ j234_2 → j234_2 ≤ 3 → j234_2 + 1 ≤ L j227_1 → W p l e (rmk 9 360) s m ([.ref (E.2.1 + 1076)] : List Value).toArray below meth c H locs 0 0 (MQ below (cV E (fun ρ1 => TI r (Bt + 2) M L 0 0 0 0 0 2 0 ρ1)) ([.ref (E.2.1 + 1076)] : List Value).toArray s 0 0 (hA E)) (F0 m 340 ls [.int 1, .int x340_s1, .ref (E.2.1 + 1076)]) := by
            intro ls ρ H locs x340_s1 hl hP hS hI hx340_s1 f_M_j227_1_ tl_L_j227_1_ tu_L_j227_1_ tlj227_1 tuj227_1 tlj234_2 tuj234_2 hr340_0
            have hT := hI
            have hI := TI_RI hT
            refine lv_iadd hx hb dX7_turn_340 ?_
            refine put7 B hP hS (show hk 1076 = 7 by decide +kernel) 17 (by decide) mw_1044 rfl rfl rfl (fs7_17 E 1076 _ _) dX7_turn_341 (fun H locs hP hS => ?_)
            obtain ⟨ρ970, e971⟩ : ∃ z, z = up ρ 1076 17 (x340_s1 + 1) := ⟨_, rfl⟩
            rw [← e971] at hP
            have hT : TI r Bt M L 0 0 0 0 0 2 0 ρ970 := by rw [e971]; exact TI_back hT (RI_76 hI (by decide))
            have hI := TI_RI hT
            exact b344_0 ls ρ970 _ _  (lv_sub hl [0, 1, 2] rfl) hP hS (TI_w hT (fun m a b => by omega) (fun m a b => by omega) (by omega) (by omega) (by omega)) (iR_w f_M_j227_1_ (by decide) (by decide)) (by omega) (by omega) (by omega) (by omega) (by omega) (by omega) (by omega)
          have b316_0 : ∀ (ls : Array Slot) (ρ : Nat → Nat → Int32) (H : Heap) (locs : List Loc) (x316_s2 : Int32), lv_has ls 5 [(0, .ref (E.2.1 + 1076)), (1, .int (nI j227_1)), (2, .int (nI j234_2)), (3, .int (nI (104 + 326 * j227_1 + 66 * j234_2)))] → WP E ρ H → va_S (hA E) s.heap H locs → TI r Bt M L 0 0 0 0 0 2 0 ρ → iR x316_s2 (-2147483648) (2147483647) → iR (M j227_1) (0) (5) → 1 ≤ (L j227_1) → (L j227_1) ≤ 4 → 0 ≤ j227_1 → j227_1 ≤ 1 → 0 ≤ j234_2 → j234_2 ≤ 3 → j234_2 + 1 ≤ L j227_1 → W p l e (rmk 9 360) s m ([.ref (E.2.1 + 1076)] : List Value).toArray below meth c H locs 0 0 (MQ below (cV E (fun ρ1 => TI r (Bt + 2) M L 0 0 0 0 0 2 0 ρ1)) ([.ref (E.2.1 + 1076)] : List Value).toArray s 0 0 (hA E)) (F0 m 316 ls [.int 0, .int x316_s2, .int (nI (139 + 326 * j227_1 + 66 * j234_2)), .ref (E.2.1 + 1078)]) := by
            intro ls ρ H locs x316_s2 hl hP hS hI hx316_s2 f_M_j227_1_ tl_L_j227_1_ tu_L_j227_1_ tlj227_1 tuj227_1 tlj234_2 tuj234_2 hr316_0
            have hT := hI
            have hI := TI_RI hT
            refine lv_iadd hx hb dX7_turn_316 ?_
            refine astn (n := 695) (j := (139 + 326 * j227_1 + 66 * j234_2)) B hP hS (show hk 1078 = 8 by decide +kernel) (show hlen 1078 = 695 by decide +kernel) rfl (by omega) (by decide) dX7_turn_317 (fun H locs hP hS => ?_)
            obtain ⟨ρ972, e973⟩ : ∃ z, z = up ρ 1078 (139 + 326 * j227_1 + 66 * j234_2) (x316_s2 + 0) := ⟨_, rfl⟩
            rw [← e973] at hP
            have hT : TI r Bt M L 0 0 0 0 0 2 0 ρ972 := by rw [e973]; exact TI_back hT (RI_up hI (ok_link (n0 := j227_1) (l0 := j234_2) (j := (139 + 326 * j227_1 + 66 * j234_2)) 35 (by omega) (by omega) (by omega) (by omega)))
            have hI := TI_RI hT
            refine lv_aload_n hx hb dX7_turn_318 rfl (lv_at hl 0 rfl) ?_
            refine lv_dup hx hb dX7_turn_319 rfl ?_
            refine get7 B hP (show hk 1076 = 7 by decide +kernel) 17 (by decide) mw_1044 rfl dX7_turn_320 ?_
            refine lv_aload_n hx hb dX7_turn_323 rfl (lv_at hl 0 rfl) ?_
            refine get7 B hP (show hk 1076 = 7 by decide +kernel) 3 (by decide) mw_1030 rfl dX7_turn_324 ?_
            refine lv_iload_n hx hb dX7_turn_327 rfl (lv_at hl 3 rfl) ?_
            refine lv_bipush (v := 36) hx hb dX7_turn_328 (by decide) ?_
            refine lv_iadd hx hb dX7_turn_330 ?_
            refine lv_topi (fun z974 ez974 => ?_)
            obtain rfl : z974 = (nI (140 + 326 * j227_1 + 66 * j234_2)) := ez974.trans (by rw [show (nI (104 + 326 * j227_1 + 66 * j234_2)) = nI (104 + 326 * j227_1 + 66 * j234_2) from rfl, show 36 = nI 36 from rfl, nI_add] <;> exact congrArg nI (by omega))
            refine aldn (n := 695) (j := (140 + 326 * j227_1 + 66 * j234_2)) B hP (show hk 1078 = 8 by decide +kernel) (show hlen 1078 = 695 by decide +kernel) rfl (by omega) (by decide) dX7_turn_331 ?_
            refine lv_if_ne (tgt := 339) hx hb dX7_turn_332 (by decide) (fun c975 => ?_) (fun c975 => ?_)
            · skip
              refine lv_iconst (v := 0) hx hb dX7_turn_339 (by decide) ?_
              exact b340_0 ls ρ972 _ _ ((ρ972 1076 17) : Int32) (lv_sub hl [0, 1, 2] rfl) hP hS (TI_w hT (fun m a b => by omega) (fun m a b => by omega) (by omega) (by omega) (by omega)) (iR_w (iR_any (ρ972 1076 17)) (by decide) (by decide)) (iR_w f_M_j227_1_ (by decide) (by decide)) (by omega) (by omega) (by omega) (by omega) (by omega) (by omega) (by omega)
            · skip
              have i976 : iR (ρ972 1078 (140 + 326 * j227_1 + 66 * j234_2)) (0) (0) := (by rw [c975]; exact ⟨by decide, by decide⟩)
              refine lv_iconst (v := 1) hx hb dX7_turn_335 (by decide) ?_
              refine lv_goto (tgt := 340) hx hb dX7_turn_336 (by decide) ?_
              exact b340_1 ls ρ972 _ _ ((ρ972 1076 17) : Int32) (lv_sub hl [0, 1, 2] rfl) hP hS (TI_w hT (fun m a b => by omega) (fun m a b => by omega) (by omega) (by omega) (by omega)) (iR_w (iR_any (ρ972 1076 17)) (by decide) (by decide)) (iR_w f_M_j227_1_ (by decide) (by decide)) (by omega) (by omega) (by omega) (by omega) (by omega) (by omega) (by omega)
          have b316_1 : ∀ (ls : Array Slot) (ρ : Nat → Nat → Int32) (H : Heap) (locs : List Loc) (x316_s2 : Int32), lv_has ls 5 [(0, .ref (E.2.1 + 1076)), (1, .int (nI j227_1)), (2, .int (nI j234_2)), (3, .int (nI (104 + 326 * j227_1 + 66 * j234_2)))] → WP E ρ H → va_S (hA E) s.heap H locs → TI r Bt M L 0 0 0 0 0 2 0 ρ → iR x316_s2 (-2147483648) (2147483647) → iR (M j227_1) (0) (5) → 1 ≤ (L j227_1) → (L j227_1) ≤ 4 → 0 ≤ j227_1 → j227_1 ≤ 1 → 0 ≤ j234_2 → j234_2 ≤ 3 → j234_2 + 1 ≤ L j227_1 → W p l e (rmk 9 360) s m ([.ref (E.2.1 + 1076)] : List Value).toArray below meth c H locs 0 0 (MQ below (cV E (fun ρ1 => TI r (Bt + 2) M L 0 0 0 0 0 2 0 ρ1)) ([.ref (E.2.1 + 1076)] : List Value).toArray s 0 0 (hA E)) (F0 m 316 ls [.int 1, .int x316_s2, .int (nI (139 + 326 * j227_1 + 66 * j234_2)), .ref (E.2.1 + 1078)]) := by
            intro ls ρ H locs x316_s2 hl hP hS hI hx316_s2 f_M_j227_1_ tl_L_j227_1_ tu_L_j227_1_ tlj227_1 tuj227_1 tlj234_2 tuj234_2 hr316_0
            have hT := hI
            have hI := TI_RI hT
            refine lv_iadd hx hb dX7_turn_316 ?_
            refine astn (n := 695) (j := (139 + 326 * j227_1 + 66 * j234_2)) B hP hS (show hk 1078 = 8 by decide +kernel) (show hlen 1078 = 695 by decide +kernel) rfl (by omega) (by decide) dX7_turn_317 (fun H locs hP hS => ?_)
            obtain ⟨ρ977, e978⟩ : ∃ z, z = up ρ 1078 (139 + 326 * j227_1 + 66 * j234_2) (x316_s2 + 1) := ⟨_, rfl⟩
            rw [← e978] at hP
            have hT : TI r Bt M L 0 0 0 0 0 2 0 ρ977 := by rw [e978]; exact TI_back hT (RI_up hI (ok_link (n0 := j227_1) (l0 := j234_2) (j := (139 + 326 * j227_1 + 66 * j234_2)) 35 (by omega) (by omega) (by omega) (by omega)))
            have hI := TI_RI hT
            refine lv_aload_n hx hb dX7_turn_318 rfl (lv_at hl 0 rfl) ?_
            refine lv_dup hx hb dX7_turn_319 rfl ?_
            refine get7 B hP (show hk 1076 = 7 by decide +kernel) 17 (by decide) mw_1044 rfl dX7_turn_320 ?_
            refine lv_aload_n hx hb dX7_turn_323 rfl (lv_at hl 0 rfl) ?_
            refine get7 B hP (show hk 1076 = 7 by decide +kernel) 3 (by decide) mw_1030 rfl dX7_turn_324 ?_
            refine lv_iload_n hx hb dX7_turn_327 rfl (lv_at hl 3 rfl) ?_
            refine lv_bipush (v := 36) hx hb dX7_turn_328 (by decide) ?_
            refine lv_iadd hx hb dX7_turn_330 ?_
            refine lv_topi (fun z979 ez979 => ?_)
            obtain rfl : z979 = (nI (140 + 326 * j227_1 + 66 * j234_2)) := ez979.trans (by rw [show (nI (104 + 326 * j227_1 + 66 * j234_2)) = nI (104 + 326 * j227_1 + 66 * j234_2) from rfl, show 36 = nI 36 from rfl, nI_add] <;> exact congrArg nI (by omega))
            refine aldn (n := 695) (j := (140 + 326 * j227_1 + 66 * j234_2)) B hP (show hk 1078 = 8 by decide +kernel) (show hlen 1078 = 695 by decide +kernel) rfl (by omega) (by decide) dX7_turn_331 ?_
            refine lv_if_ne (tgt := 339) hx hb dX7_turn_332 (by decide) (fun c980 => ?_) (fun c980 => ?_)
            · skip
              refine lv_iconst (v := 0) hx hb dX7_turn_339 (by decide) ?_
              exact b340_0 ls ρ977 _ _ ((ρ977 1076 17) : Int32) (lv_sub hl [0, 1, 2] rfl) hP hS (TI_w hT (fun m a b => by omega) (fun m a b => by omega) (by omega) (by omega) (by omega)) (iR_w (iR_any (ρ977 1076 17)) (by decide) (by decide)) (iR_w f_M_j227_1_ (by decide) (by decide)) (by omega) (by omega) (by omega) (by omega) (by omega) (by omega) (by omega)
            · skip
              have i981 : iR (ρ977 1078 (140 + 326 * j227_1 + 66 * j234_2)) (0) (0) := (by rw [c980]; exact ⟨by decide, by decide⟩)
              refine lv_iconst (v := 1) hx hb dX7_turn_335 (by decide) ?_
              refine lv_goto (tgt := 340) hx hb dX7_turn_336 (by decide) ?_
              exact b340_1 ls ρ977 _ _ ((ρ977 1076 17) : Int32) (lv_sub hl [0, 1, 2] rfl) hP hS (TI_w hT (fun m a b => by omega) (fun m a b => by omega) (by omega) (by omega) (by omega)) (iR_w (iR_any (ρ977 1076 17)) (by decide) (by decide)) (iR_w f_M_j227_1_ (by decide) (by decide)) (by omega) (by omega) (by omega) (by omega) (by omega) (by omega) (by omega)
          have hT := hI
          have hI := TI_RI hT
          refine lv_aload_n hx hb dX7_turn_234 rfl (lv_at hl 0 rfl) ?_
          refine lv_iload_n hx hb dX7_turn_235 rfl (lv_at hl 1 rfl) ?_
          refine call_i (cVt (k := 1076) (av := [.int (nI j227_1)]) (rest := []) B hP hS (d_X7_isNet l E ρ ρ Bt hBt M L (XT 0 0 0 0 (ρ 1084) (ρ 1087)) (nI j227_1) hI) lk_RX7_78 (hrecv (ci := 7) B hP (hk_lt (c := 7) (show hk 1076 = 7 by decide +kernel) (by decide)) (hcc7 _ _ (show hk 1076 = 7 by decide +kernel)) rfl) rfl rfl hl.1 (Nat.le_of_ble_eq_true rfl) ⟨Nat.le_of_ble_eq_true rfl, Nat.le_of_ble_eq_true rfl⟩ ⟨Nat.le_of_ble_eq_true rfl, Nat.le_of_ble_eq_true rfl⟩ dX7_turn_236) hS (fun r982 ρ983 H locs q984 hP hS => ?_)
          obtain ⟨rfl, -, q984⟩ := q984
          rcases q984 with rfl | ⟨rfl, j986, hj986, ej986, i987⟩
          · skip
            refine lv_if_eq (tgt := 350) hx hb dX7_turn_239 (by decide) (fun _ => ?_) (fun c988 => absurd rfl c988)
            exact b350_0 ls ρ _ _  (lv_sub hl [0, 1] rfl) hP hS (TI_w hT (fun m a b => by omega) (fun m a b => by omega) (by omega) (by omega) (by omega)) (by omega) (by omega)
          · skip
            have n989 : j227_1 = j986 := (nI_eq (by omega) (by omega)).mp (show nI j227_1 = nI j986 from ej986)
            have i990 : iR (M j227_1) 0 5 := by rw [n989]; exact i987
            refine lv_if_eq (tgt := 350) hx hb dX7_turn_239 (by decide) (fun c991 => absurd c991 (iR_ne (show iR 1 (1) (1) from ⟨by decide, by decide⟩) (show iR 0 (0) (0) from ⟨by decide, by decide⟩) (by decide))) (fun _ => ?_)
            refine lv_iload_n hx hb dX7_turn_242 rfl (lv_at hl 2 rfl) ?_
            refine lv_aload_n hx hb dX7_turn_243 rfl (lv_at hl 0 rfl) ?_
            refine get7 B hP (show hk 1076 = 7 by decide +kernel) 3 (by decide) mw_1030 rfl dX7_turn_244 ?_
            refine lv_iload_n hx hb dX7_turn_247 rfl (lv_at hl 1 rfl) ?_
            refine call_i (cS (av := [.int (nI j227_1)]) (rest := [.ref (E.2.1 + 1078), .int (nI j234_2)]) B hP hS (d_X7_netAt l E ρ ρ Bt hBt M L (XT 0 0 0 0 (ρ 1084) (ρ 1087)) j227_1 (by omega) (by omega) hI) lk_RX7_75 rfl rfl hl.1 (Nat.le_of_ble_eq_true rfl) ⟨Nat.le_of_ble_eq_true rfl, Nat.le_of_ble_eq_true rfl⟩ ⟨Nat.le_of_ble_eq_true rfl, Nat.le_of_ble_eq_true rfl⟩ dX7_turn_248) hS (fun r992 ρ993 H locs q994 hP hS => ?_)
            obtain ⟨rfl, -, q994⟩ := q994
            obtain rfl : r992 = nI (42 + 326 * j227_1) := q994.trans (congrArg nI (by omega))
            refine lv_bipush (v := 6) hx hb dX7_turn_251 (by decide) ?_
            refine lv_iadd hx hb dX7_turn_253 ?_
            refine lv_topi (fun z996 ez996 => ?_)
            obtain rfl : z996 = (nI (48 + 326 * j227_1)) := ez996.trans (by rw [show (nI (42 + 326 * j227_1)) = nI (42 + 326 * j227_1) from rfl, show 6 = nI 6 from rfl, nI_add] <;> exact congrArg nI (by omega))
            have := RI_Lb (n := j227_1) hI (by omega)
            refine aldf (n := 695) (j := (48 + 326 * j227_1)) (v := (nI (L j227_1))) B hP (show hk 1078 = 8 by decide +kernel) (show hlen 1078 = 695 by decide +kernel) rfl (by omega) (by decide) (g_l (n0 := j227_1) hI (by omega) (by omega)) dX7_turn_254 ?_
            refine lv_icmp_ge (tgt := 350) hx hb dX7_turn_255 (by decide) (fun c997 => ?_) (fun c997 => ?_)
            · skip
              have n998 := mt (nx_lt (a := j234_2) (b := (L j227_1)) (by omega) (by omega)).mpr (show ¬ (nI j234_2 < nI (L j227_1)) from (Int32.not_lt.mpr c997))
              exact b350_0 ls ρ _ _  (lv_sub hl [0, 1] rfl) hP hS (TI_w hT (fun m a b => by omega) (fun m a b => by omega) (by omega) (by omega) (by omega)) (by omega) (by omega)
            · skip
              have n999 := (nx_lt (a := j234_2) (b := (L j227_1)) (by omega) (by omega)).mp (show (nI j234_2 < nI (L j227_1)) from (Int32.not_le.mp c997))
              refine lv_iload_n hx hb dX7_turn_258 rfl (lv_at hl 1 rfl) ?_
              refine lv_iload_n hx hb dX7_turn_259 rfl (lv_at hl 2 rfl) ?_
              refine call_i (cS (av := [.int (nI j227_1), .int (nI j234_2)]) (rest := []) B hP hS (d_X7_linkAt l E ρ ρ Bt hBt M L (XT 0 0 0 0 (ρ 1084) (ρ 1087)) j227_1 (by omega) (by omega) j234_2 (by omega) (by omega) hI) lk_RX7_82 rfl rfl hl.1 (Nat.le_of_ble_eq_true rfl) ⟨Nat.le_of_ble_eq_true rfl, Nat.le_of_ble_eq_true rfl⟩ ⟨Nat.le_of_ble_eq_true rfl, Nat.le_of_ble_eq_true rfl⟩ dX7_turn_260) hS (fun r1000 ρ1001 H locs q1002 hP hS => ?_)
              obtain ⟨rfl, -, q1002⟩ := q1002
              obtain rfl : r1000 = nI (104 + 326 * j227_1 + 66 * j234_2) := q1002.trans (congrArg nI (by omega))
              refine lv_istore_n (lv' := [(3, .int (nI (104 + 326 * j227_1 + 66 * j234_2))), (0, .ref (E.2.1 + 1076)), (1, .int (nI j227_1)), (2, .int (nI j234_2))]) hx hb dX7_turn_263 rfl hl (by decide) rfl (fun ls hl => ?_)
              refine lv_aload_n hx hb dX7_turn_264 rfl (lv_at hl 1 rfl) ?_
              refine get7 B hP (show hk 1076 = 7 by decide +kernel) 3 (by decide) mw_1030 rfl dX7_turn_265 ?_
              refine lv_iload_n hx hb dX7_turn_268 rfl (lv_at hl 0 rfl) ?_
              refine lv_bipush (v := 36) hx hb dX7_turn_269 (by decide) ?_
              refine lv_iadd hx hb dX7_turn_271 ?_
              refine lv_topi (fun z1004 ez1004 => ?_)
              obtain rfl : z1004 = (nI (140 + 326 * j227_1 + 66 * j234_2)) := ez1004.trans (by rw [show (nI (104 + 326 * j227_1 + 66 * j234_2)) = nI (104 + 326 * j227_1 + 66 * j234_2) from rfl, show 36 = nI 36 from rfl, nI_add] <;> exact congrArg nI (by omega))
              refine aldn (n := 695) (j := (140 + 326 * j227_1 + 66 * j234_2)) B hP (show hk 1078 = 8 by decide +kernel) (show hlen 1078 = 695 by decide +kernel) rfl (by omega) (by decide) dX7_turn_272 ?_
              refine lv_if_le (tgt := 344) hx hb dX7_turn_273 (by decide) (fun c1005 => ?_) (fun c1005 => ?_)
              · skip
                have i1006 : iR (ρ 1078 (140 + 326 * j227_1 + 66 * j234_2)) (-2147483648) (0) := (iR_geR (show iR 0 (0) (0) from ⟨by decide, by decide⟩) (iR_any (ρ 1078 (140 + 326 * j227_1 + 66 * j234_2))) (Int32.not_lt.mpr c1005) (by decide))
                exact b344_0 ls ρ _ _  (lv_sub hl [1, 2, 3] rfl) hP hS (TI_w hT (fun m a b => by omega) (fun m a b => by omega) (by omega) (by omega) (by omega)) (iR_w i990 (by decide) (by decide)) (by omega) (by omega) (by omega) (by omega) (by omega) (by omega) (by omega)
              · skip
                have i1007 : iR (ρ 1078 (140 + 326 * j227_1 + 66 * j234_2)) (1) (2147483647) := (iR_ltR (show iR 0 (0) (0) from ⟨by decide, by decide⟩) (iR_any (ρ 1078 (140 + 326 * j227_1 + 66 * j234_2))) (Int32.not_le.mp c1005) (by decide))
                refine lv_aload_n hx hb dX7_turn_276 rfl (lv_at hl 1 rfl) ?_
                refine get7 B hP (show hk 1076 = 7 by decide +kernel) 3 (by decide) mw_1030 rfl dX7_turn_277 ?_
                refine lv_iload_n hx hb dX7_turn_280 rfl (lv_at hl 0 rfl) ?_
                refine lv_bipush (v := 36) hx hb dX7_turn_281 (by decide) ?_
                refine lv_iadd hx hb dX7_turn_283 ?_
                refine lv_topi (fun z1008 ez1008 => ?_)
                obtain rfl : z1008 = (nI (140 + 326 * j227_1 + 66 * j234_2)) := ez1008.trans (by rw [show (nI (104 + 326 * j227_1 + 66 * j234_2)) = nI (104 + 326 * j227_1 + 66 * j234_2) from rfl, show 36 = nI 36 from rfl, nI_add] <;> exact congrArg nI (by omega))
                refine lv_dup2_11 hx hb dX7_turn_284 rfl rfl ?_
                refine aldf (n := 695) (j := (140 + 326 * j227_1 + 66 * j234_2)) (v := (ρ 1078 (140 + 326 * j227_1 + 66 * j234_2))) B hP (show hk 1078 = 8 by decide +kernel) (show hlen 1078 = 695 by decide +kernel) rfl (by omega) (by decide) rfl dX7_turn_285 ?_
                refine lv_iconst (v := 1) hx hb dX7_turn_286 (by decide) ?_
                refine lv_isub hx hb dX7_turn_287 ?_
                refine astn (n := 695) (j := (140 + 326 * j227_1 + 66 * j234_2)) B hP hS (show hk 1078 = 8 by decide +kernel) (show hlen 1078 = 695 by decide +kernel) rfl (by omega) (by decide) dX7_turn_288 (fun H locs hP hS => ?_)
                obtain ⟨ρ1009, e1010⟩ : ∃ z, z = up ρ 1078 (140 + 326 * j227_1 + 66 * j234_2) ((ρ 1078 (140 + 326 * j227_1 + 66 * j234_2)) - 1) := ⟨_, rfl⟩
                rw [← e1010] at hP
                have hT : TI r Bt M L 0 0 0 0 0 2 0 ρ1009 := by rw [e1010]; exact TI_back hT (RI_up hI (ok_link (n0 := j227_1) (l0 := j234_2) (j := (140 + 326 * j227_1 + 66 * j234_2)) 36 (by omega) (by omega) (by omega) (by omega)))
                have hI := TI_RI hT
                refine lv_aload_n hx hb dX7_turn_289 rfl (lv_at hl 1 rfl) ?_
                refine get7 B hP (show hk 1076 = 7 by decide +kernel) 3 (by decide) mw_1030 rfl dX7_turn_290 ?_
                refine lv_iload_n hx hb dX7_turn_293 rfl (lv_at hl 0 rfl) ?_
                refine lv_bipush (v := 35) hx hb dX7_turn_294 (by decide) ?_
                refine lv_iadd hx hb dX7_turn_296 ?_
                refine lv_topi (fun z1011 ez1011 => ?_)
                obtain rfl : z1011 = (nI (139 + 326 * j227_1 + 66 * j234_2)) := ez1011.trans (by rw [show (nI (104 + 326 * j227_1 + 66 * j234_2)) = nI (104 + 326 * j227_1 + 66 * j234_2) from rfl, show 35 = nI 35 from rfl, nI_add] <;> exact congrArg nI (by omega))
                refine lv_dup2_11 hx hb dX7_turn_297 rfl rfl ?_
                refine aldn (n := 695) (j := (139 + 326 * j227_1 + 66 * j234_2)) B hP (show hk 1078 = 8 by decide +kernel) (show hlen 1078 = 695 by decide +kernel) rfl (by omega) (by decide) dX7_turn_298 ?_
                refine lv_aload_n hx hb dX7_turn_299 rfl (lv_at hl 1 rfl) ?_
                refine get7 B hP (show hk 1076 = 7 by decide +kernel) 3 (by decide) mw_1030 rfl dX7_turn_300 ?_
                refine lv_iload_n hx hb dX7_turn_303 rfl (lv_at hl 0 rfl) ?_
                refine lv_bipush (v := 36) hx hb dX7_turn_304 (by decide) ?_
                refine lv_iadd hx hb dX7_turn_306 ?_
                refine lv_topi (fun z1012 ez1012 => ?_)
                obtain rfl : z1012 = (nI (140 + 326 * j227_1 + 66 * j234_2)) := ez1012.trans (by rw [show (nI (104 + 326 * j227_1 + 66 * j234_2)) = nI (104 + 326 * j227_1 + 66 * j234_2) from rfl, show 36 = nI 36 from rfl, nI_add] <;> exact congrArg nI (by omega))
                refine aldf (n := 695) (j := (140 + 326 * j227_1 + 66 * j234_2)) (v := ((ρ 1078 (140 + 326 * j227_1 + 66 * j234_2)) - 1)) B hP (show hk 1078 = 8 by decide +kernel) (show hlen 1078 = 695 by decide +kernel) rfl (by omega) (by decide) (by rw [e1010]; exact up_get_at) dX7_turn_307 ?_
                refine lv_if_ne (tgt := 315) hx hb dX7_turn_308 (by decide) (fun c1013 => ?_) (fun c1013 => ?_)
                · skip
                  have i1014 : iR ((ρ 1078 (140 + 326 * j227_1 + 66 * j234_2)) - 1) (1) (2147483646) := (iR_neL (iR_sub (a' := 0) (b' := 2147483646) i1007 (show iR 1 (1) (1) from ⟨by decide, by decide⟩) (by decide) (by decide) (by decide) (by decide)) (show iR 0 (0) (0) from ⟨by decide, by decide⟩) c1013 (by decide) (by decide))
                  refine lv_iconst (v := 0) hx hb dX7_turn_315 (by decide) ?_
                  exact b316_0 ls ρ1009 _ _ ((ρ1009 1078 (139 + 326 * j227_1 + 66 * j234_2)) : Int32) (lv_sub hl [1, 2, 3, 0] rfl) hP hS (TI_w hT (fun m a b => by omega) (fun m a b => by omega) (by omega) (by omega) (by omega)) (iR_w (iR_any (ρ1009 1078 (139 + 326 * j227_1 + 66 * j234_2))) (by decide) (by decide)) (iR_w i990 (by decide) (by decide)) (by omega) (by omega) (by omega) (by omega) (by omega) (by omega) (by omega)
                · skip
                  have i1015 : iR ((ρ 1078 (140 + 326 * j227_1 + 66 * j234_2)) - 1) (0) (0) := (by rw [c1013]; exact ⟨by decide, by decide⟩)
                  refine lv_iconst (v := 1) hx hb dX7_turn_311 (by decide) ?_
                  refine lv_goto (tgt := 316) hx hb dX7_turn_312 (by decide) ?_
                  exact b316_1 ls ρ1009 _ _ ((ρ1009 1078 (139 + 326 * j227_1 + 66 * j234_2)) : Int32) (lv_sub hl [1, 2, 3, 0] rfl) hP hS (TI_w hT (fun m a b => by omega) (fun m a b => by omega) (by omega) (by omega) (by omega)) (iR_w (iR_any (ρ1009 1078 (139 + 326 * j227_1 + 66 * j234_2))) (by decide) (by decide)) (iR_w i990 (by decide) (by decide)) (by omega) (by omega) (by omega) (by omega) (by omega) (by omega) (by omega)
      have hT := hI
      have hI := TI_RI hT
      refine lv_iload_n hx hb dX7_turn_227 rfl (lv_at hl 1 rfl) ?_
      refine lv_iconst (v := 2) hx hb dX7_turn_228 (by decide) ?_
      refine lv_icmp_ge (tgt := 356) hx hb dX7_turn_229 (by decide) (fun c1016 => ?_) (fun c1016 => ?_)
      · skip
        have n1017 := mt (nx_lt (a := j227_1) (b := 2) (by omega) (by omega)).mpr (show ¬ (nI j227_1 < nI 2) from (Int32.not_lt.mpr c1016))
        refine lv_aload_n hx hb dX7_turn_356 rfl (lv_at hl 0 rfl) ?_
        refine get7 B hP (show hk 1076 = 7 by decide +kernel) 3 (by decide) mw_1030 rfl dX7_turn_357 ?_
        refine lv_bipush (v := 7) hx hb dX7_turn_360 (by decide) ?_
        refine lv_dup2_11 hx hb dX7_turn_362 rfl rfl ?_
        refine aldn (n := 695) (j := 7) B hP (show hk 1078 = 8 by decide +kernel) (show hlen 1078 = 695 by decide +kernel) rfl (by omega) (by decide) dX7_turn_363 ?_
        have i1018 : iR (ρ 1078 7) (0) (1000000) := (iR_w (g_time hI) (by omega) (by omega))
        obtain ⟨j1019, lj1019, uj1019, ej1019⟩ := iR_nat (a := 0) (b := 1000000) i1018
        refine lv_topi (fun z1020 ez1020 => ?_)
        obtain rfl : z1020 = nI j1019 := ez1020.trans ej1019
        have := time_le (g_time hI) ej1019 (by omega)
        refine lv_iconst (v := 2) hx hb dX7_turn_364 (by decide) ?_
        refine lv_iadd hx hb dX7_turn_365 ?_
        refine lv_topi (fun z1021 ez1021 => ?_)
        obtain rfl : z1021 = (nI (2 + j1019)) := ez1021.trans (by rw [show (nI j1019) = nI j1019 from rfl, show 2 = nI 2 from rfl, nI_add] <;> exact congrArg nI (by omega))
        refine astn (n := 695) (j := 7) B hP hS (show hk 1078 = 8 by decide +kernel) (show hlen 1078 = 695 by decide +kernel) rfl (by omega) (by decide) dX7_turn_366 (fun H locs hP hS => ?_)
        have hT := TI_w (p0 := 0) (p1 := 0) (p2 := 0) (p3 := 0) (p4 := 0) (pc := 2) (pl := 0) hT (fun m a b => by omega) (fun m a b => by omega) (by omega) (by omega) (by omega)
        obtain ⟨ρ1022, e1023⟩ : ∃ z, z = up ρ 1078 7 (nI (2 + j1019)) := ⟨_, rfl⟩
        rw [← e1023] at hP
        have hT : TI r (Bt + 2) M L 0 0 0 0 0 2 0 ρ1022 := by rw [e1023]; exact TI_time hT (by omega) (nI_iR (j := (2 + j1019)) (by omega) (by omega) (by omega))
        have hI := TI_RI hT
        exact ret_v B hr hlk hP hS dX7_turn_367 (TI_w hT (fun m a b => by omega) (fun m a b => by omega) (by omega) (by omega) (by omega))
      · skip
        have n1024 := (nx_lt (a := j227_1) (b := 2) (by omega) (by omega)).mp (show (nI j227_1 < nI 2) from (Int32.not_le.mp c1016))
        refine lv_iconst (v := 0) hx hb dX7_turn_232 (by decide) ?_
        refine lv_istore_n (lv' := [(2, .int 0), (0, .ref (E.2.1 + 1076)), (1, .int (nI j227_1))]) hx hb dX7_turn_233 rfl hl (by decide) rfl (fun ls hl => ?_)
        exact b234_0 ls ρ _ _ _ 0 (lv_sub hl [1, 2, 0] rfl) hP hS (TI_w hT (fun m a b => by omega) (fun m a b => by omega) (by omega) (by omega) (by omega)) (Nat.lt_succ_self _) (by omega) (by omega) (by omega) (by omega)
  have b183_0 : ∀ (ls : Array Slot) (ρ : Nat → Nat → Int32) (H : Heap) (locs : List Loc) (d183 : Nat) (j183_1 : Nat), lv_has ls 5 [(0, .ref (E.2.1 + 1076)), (1, .int (nI j183_1))] → WP E ρ H → va_S (hA E) s.heap H locs → TI r Bt M L j183_1 0 0 0 0 2 0 ρ → 3 - j183_1 < d183 → 0 ≤ j183_1 → j183_1 ≤ 2 → W p l e (rmk 9 360) s m ([.ref (E.2.1 + 1076)] : List Value).toArray below meth c H locs 0 0 (MQ below (cV E (fun ρ1 => TI r (Bt + 2) M L 0 0 0 0 0 2 0 ρ1)) ([.ref (E.2.1 + 1076)] : List Value).toArray s 0 0 (hA E)) (F0 m 183 ls []) := by
    intro ls ρ H locs d183
    induction d183 generalizing ls ρ H locs with
    | zero => intro j183_1 hl hP hS hI hd183 lj183_1 uj183_1; exact absurd hd183 (Nat.not_lt_zero _)
    | succ d183 ih183 =>
      intro j183_1 hl hP hS hI hd183 lj183_1 uj183_1
      have hT := hI
      have hI := TI_RI hT
      refine lv_iload_n hx hb dX7_turn_183 rfl (lv_at hl 1 rfl) ?_
      refine lv_iconst (v := 2) hx hb dX7_turn_184 (by decide) ?_
      refine lv_icmp_ge (tgt := 217) hx hb dX7_turn_185 (by decide) (fun c1025 => ?_) (fun c1025 => ?_)
      · skip
        have n1026 := mt (nx_lt (a := j183_1) (b := 2) (by omega) (by omega)).mpr (show ¬ (nI j183_1 < nI 2) from (Int32.not_lt.mpr c1025))
        refine lv_aload_n hx hb dX7_turn_217 rfl (lv_at hl 0 rfl) ?_
        refine call_v (cVt (k := 1076) (av := []) (rest := []) B hP hS (d_X7_sendsDown l E ρ r Bt hBt M L (TI_w hT (fun m a b => by omega) (fun m a b => by omega) (by omega) (by omega) (by omega))) lk_RX7_227 (hrecv (ci := 7) B hP (hk_lt (c := 7) (show hk 1076 = 7 by decide +kernel) (by decide)) (hcc7 _ _ (show hk 1076 = 7 by decide +kernel)) rfl) rfl rfl hl.1 (Nat.le_of_ble_eq_true rfl) ⟨Nat.le_of_ble_eq_true rfl, Nat.le_of_ble_eq_true rfl⟩ ⟨Nat.le_of_ble_eq_true rfl, Nat.le_of_ble_eq_true rfl⟩ dX7_turn_218) hS (fun ρ1028 H locs q1029 hP hS => ?_)
        have hT := q1029
        have hI := TI_RI hT
        refine lv_aload_n hx hb dX7_turn_221 rfl (lv_at hl 0 rfl) ?_
        refine call_v (cVt (k := 1076) (av := []) (rest := []) B hP hS (d_X7_sendsUp l E ρ1028 r Bt hBt M L (TI_w hT (fun m a b => by omega) (fun m a b => by omega) (by omega) (by omega) (by omega))) lk_RX7_230 (hrecv (ci := 7) B hP (hk_lt (c := 7) (show hk 1076 = 7 by decide +kernel) (by decide)) (hcc7 _ _ (show hk 1076 = 7 by decide +kernel)) rfl) rfl rfl hl.1 (Nat.le_of_ble_eq_true rfl) ⟨Nat.le_of_ble_eq_true rfl, Nat.le_of_ble_eq_true rfl⟩ ⟨Nat.le_of_ble_eq_true rfl, Nat.le_of_ble_eq_true rfl⟩ dX7_turn_222) hS (fun ρ1031 H locs q1032 hP hS => ?_)
        have hT := q1032
        have hI := TI_RI hT
        refine lv_iconst (v := 0) hx hb dX7_turn_225 (by decide) ?_
        refine lv_istore_n (lv' := [(1, .int 0), (0, .ref (E.2.1 + 1076))]) hx hb dX7_turn_226 rfl hl (by decide) rfl (fun ls hl => ?_)
        exact b227_0 ls ρ1031 _ _ _ 0 (lv_sub hl [1, 0] rfl) hP hS (TI_w hT (fun m a b => by omega) (fun m a b => by omega) (by omega) (by omega) (by omega)) (Nat.lt_succ_self _) (by omega) (by omega)
      · skip
        have n1033 := (nx_lt (a := j183_1) (b := 2) (by omega) (by omega)).mp (show (nI j183_1 < nI 2) from (Int32.not_le.mp c1025))
        refine lv_aload_n hx hb dX7_turn_188 rfl (lv_at hl 0 rfl) ?_
        refine get7 B hP (show hk 1076 = 7 by decide +kernel) 10 (by decide) mw_1037 rfl dX7_turn_189 ?_
        refine lv_iload_n hx hb dX7_turn_192 rfl (lv_at hl 1 rfl) ?_
        refine lv_aload_n hx hb dX7_turn_193 rfl (lv_at hl 0 rfl) ?_
        refine lv_iload_n hx hb dX7_turn_194 rfl (lv_at hl 1 rfl) ?_
        refine call_i (cVt (k := 1076) (av := [.int (nI j183_1)]) (rest := [.int (nI j183_1), .ref (E.2.1 + 1084)]) B hP hS (d_X7_isNet l E ρ ρ Bt hBt M L (XT j183_1 0 0 0 (ρ 1084) (ρ 1087)) (nI j183_1) hI) lk_RX7_78 (hrecv (ci := 7) B hP (hk_lt (c := 7) (show hk 1076 = 7 by decide +kernel) (by decide)) (hcc7 _ _ (show hk 1076 = 7 by decide +kernel)) rfl) rfl rfl hl.1 (Nat.le_of_ble_eq_true rfl) ⟨Nat.le_of_ble_eq_true rfl, Nat.le_of_ble_eq_true rfl⟩ ⟨Nat.le_of_ble_eq_true rfl, Nat.le_of_ble_eq_true rfl⟩ dX7_turn_195) hS (fun r1034 ρ1035 H locs q1036 hP hS => ?_)
        obtain ⟨rfl, -, q1036⟩ := q1036
        rcases q1036 with rfl | ⟨rfl, j1038, hj1038, ej1038, i1039⟩
        · skip
          refine lv_if_eq (tgt := 209) hx hb dX7_turn_198 (by decide) (fun _ => ?_) (fun c1040 => absurd rfl c1040)
          refine lv_iconst (v := (-1)) hx hb dX7_turn_209 (by decide) ?_
          refine astn (n := 2) (j := j183_1) B hP hS (show hk 1084 = 8 by decide +kernel) (show hlen 1084 = 2 by decide +kernel) rfl (by omega) (by decide) dX7_turn_210 (fun H locs hP hS => ?_)
          obtain ⟨ρ1041, e1042⟩ : ∃ z, z = up ρ 1084 j183_1 (-1) := ⟨_, rfl⟩
          rw [← e1042] at hP
          have hT : TI r Bt M L (j183_1 + 1) 0 0 0 0 2 0 ρ1041 := by rw [e1042]; exact TI_up4 hT rfl rfl (by omega) ⟨by decide, by rw [show (-1 : Int32).toInt = -1 from rfl]; omega⟩ (fun z => absurd rfl z) (fun z => absurd z (by decide))
          have hI := TI_RI hT
          refine lv_iinc (v := (nI (1 + j183_1))) (lv' := [(1, .int (nI (1 + j183_1))), (0, .ref (E.2.1 + 1076))]) hx hb dX7_turn_211 hl (k := 1) rfl (show nI j183_1 + nI 1 = _ from (nI_add _ _).trans (congrArg nI (by omega))) (by decide) rfl (fun ls hl => ?_)
          refine lv_goto (tgt := 183) hx hb dX7_turn_214 (by decide) ?_
          exact ih183 ls ρ1041 _ _ (1 + j183_1) (lv_sub hl [1, 0] rfl) hP hS (TI_w hT (fun m a b => by omega) (fun m a b => by omega) (by omega) (by omega) (by omega)) (by omega) (by omega) (by omega)
        · skip
          have n1043 : j183_1 = j1038 := (nI_eq (by omega) (by omega)).mp (show nI j183_1 = nI j1038 from ej1038)
          have i1044 : iR (M j183_1) 0 5 := by rw [n1043]; exact i1039
          refine lv_if_eq (tgt := 209) hx hb dX7_turn_198 (by decide) (fun c1045 => absurd c1045 (iR_ne (show iR 1 (1) (1) from ⟨by decide, by decide⟩) (show iR 0 (0) (0) from ⟨by decide, by decide⟩) (by decide))) (fun _ => ?_)
          refine lv_aload_n hx hb dX7_turn_201 rfl (lv_at hl 0 rfl) ?_
          refine lv_iload_n hx hb dX7_turn_202 rfl (lv_at hl 1 rfl) ?_
          refine call_i (cVt (k := 1076) (av := [.int (nI j183_1)]) (rest := [.int (nI j183_1), .ref (E.2.1 + 1084)]) B hP hS (d_X7_choose l E ρ ρ Bt hBt M L (XT j183_1 0 0 0 (ρ 1084) (ρ 1087)) j183_1 (by omega) (by omega) hI i1044) lk_RX7_224 (hrecv (ci := 7) B hP (hk_lt (c := 7) (show hk 1076 = 7 by decide +kernel) (by decide)) (hcc7 _ _ (show hk 1076 = 7 by decide +kernel)) rfl) rfl rfl hl.1 (Nat.le_of_ble_eq_true rfl) ⟨Nat.le_of_ble_eq_true rfl, Nat.le_of_ble_eq_true rfl⟩ ⟨Nat.le_of_ble_eq_true rfl, Nat.le_of_ble_eq_true rfl⟩ dX7_turn_203) hS (fun r1046 ρ1047 H locs q1048 hP hS => ?_)
          obtain ⟨hR1049, q1048⟩ := q1048
          have hT := TI_back hT hR1049
          have hI := TI_RI hT
          obtain ⟨i1050, q1048⟩ := q1048
          refine lv_goto (tgt := 210) hx hb dX7_turn_206 (by decide) ?_
          refine astn (n := 2) (j := j183_1) B hP hS (show hk 1084 = 8 by decide +kernel) (show hlen 1084 = 2 by decide +kernel) rfl (by omega) (by decide) dX7_turn_210 (fun H locs hP hS => ?_)
          obtain ⟨ρ1051, e1052⟩ : ∃ z, z = up ρ1047 1084 j183_1 r1046 := ⟨_, rfl⟩
          rw [← e1052] at hP
          have hT : TI r Bt M L (j183_1 + 1) 0 0 0 0 2 0 ρ1051 := by rw [e1052]; exact TI_up4 hT rfl rfl (by omega) i1050 (fun _ => i1044) q1048
          have hI := TI_RI hT
          refine lv_iinc (v := (nI (1 + j183_1))) (lv' := [(1, .int (nI (1 + j183_1))), (0, .ref (E.2.1 + 1076))]) hx hb dX7_turn_211 hl (k := 1) rfl (show nI j183_1 + nI 1 = _ from (nI_add _ _).trans (congrArg nI (by omega))) (by decide) rfl (fun ls hl => ?_)
          refine lv_goto (tgt := 183) hx hb dX7_turn_214 (by decide) ?_
          exact ih183 ls ρ1051 _ _ (1 + j183_1) (lv_sub hl [1, 0] rfl) hP hS (TI_w hT (fun m a b => by omega) (fun m a b => by omega) (by omega) (by omega) (by omega)) (by omega) (by omega) (by omega)
  have b99_0 : ∀ (ls : Array Slot) (ρ : Nat → Nat → Int32) (H : Heap) (locs : List Loc) (d99 : Nat) (j99_1 : Nat), lv_has ls 5 [(0, .ref (E.2.1 + 1076)), (1, .int (nI j99_1))] → WP E ρ H → va_S (hA E) s.heap H locs → TI r Bt M L 0 0 0 0 0 2 0 ρ → 3 - j99_1 < d99 → 0 ≤ j99_1 → j99_1 ≤ 2 → W p l e (rmk 9 360) s m ([.ref (E.2.1 + 1076)] : List Value).toArray below meth c H locs 0 0 (MQ below (cV E (fun ρ1 => TI r (Bt + 2) M L 0 0 0 0 0 2 0 ρ1)) ([.ref (E.2.1 + 1076)] : List Value).toArray s 0 0 (hA E)) (F0 m 99 ls []) := by
    intro ls ρ H locs d99
    induction d99 generalizing ls ρ H locs with
    | zero => intro j99_1 hl hP hS hI hd99 lj99_1 uj99_1; exact absurd hd99 (Nat.not_lt_zero _)
    | succ d99 ih99 =>
      intro j99_1 hl hP hS hI hd99 lj99_1 uj99_1
      have b175_0 : ∀ (ls : Array Slot) (ρ : Nat → Nat → Int32) (H : Heap) (locs : List Loc) , lv_has ls 5 [(0, .ref (E.2.1 + 1076)), (1, .int (nI j99_1))] → WP E ρ H → va_S (hA E) s.heap H locs → TI r Bt M L 0 0 0 0 0 2 0 ρ → 0 ≤ j99_1 → j99_1 ≤ 1 → W p l e (rmk 9 360) s m ([.ref (E.2.1 + 1076)] : List Value).toArray below meth c H locs 0 0 (MQ below (cV E (fun ρ1 => TI r (Bt + 2) M L 0 0 0 0 0 2 0 ρ1)) ([.ref (E.2.1 + 1076)] : List Value).toArray s 0 0 (hA E)) (F0 m 175 ls []) := by
        intro ls ρ H locs  hl hP hS hI tlj99_1 tuj99_1
        have hT := hI
        have hI := TI_RI hT
        refine lv_iinc (v := (nI (1 + j99_1))) (lv' := [(1, .int (nI (1 + j99_1))), (0, .ref (E.2.1 + 1076))]) hx hb dX7_turn_175 hl (k := 1) rfl (show nI j99_1 + nI 1 = _ from (nI_add _ _).trans (congrArg nI (by omega))) (by decide) rfl (fun ls hl => ?_)
        refine lv_goto (tgt := 99) hx hb dX7_turn_178 (by decide) ?_
        exact ih99 ls ρ _ _ (1 + j99_1) (lv_sub hl [1, 0] rfl) hP hS (TI_w hT (fun m a b => by omega) (fun m a b => by omega) (by omega) (by omega) (by omega)) (by omega) (by omega) (by omega)
      have b106_0 : ∀ (ls : Array Slot) (ρ : Nat → Nat → Int32) (H : Heap) (locs : List Loc) (d106 : Nat) (j106_2 : Nat), lv_has ls 5 [(0, .ref (E.2.1 + 1076)), (1, .int (nI j99_1)), (2, .int (nI j106_2))] → WP E ρ H → va_S (hA E) s.heap H locs → TI r Bt M L 0 0 0 0 0 2 0 ρ → 5 - j106_2 < d106 → 0 ≤ j106_2 → j106_2 ≤ 4 → 0 ≤ j99_1 → j99_1 ≤ 1 → W p l e (rmk 9 360) s m ([.ref (E.2.1 + 1076)] : List Value).toArray below meth c H locs 0 0 (MQ below (cV E (fun ρ1 => TI r (Bt + 2) M L 0 0 0 0 0 2 0 ρ1)) ([.ref (E.2.1 + 1076)] : List Value).toArray s 0 0 (hA E)) (F0 m 106 ls []) := by
        intro ls ρ H locs d106
        induction d106 generalizing ls ρ H locs with
        | zero => intro j106_2 hl hP hS hI hd106 lj106_2 uj106_2 tlj99_1 tuj99_1; exact absurd hd106 (Nat.not_lt_zero _)
        | succ d106 ih106 =>
          intro j106_2 hl hP hS hI hd106 lj106_2 uj106_2 tlj99_1 tuj99_1
          have b167_0 : ∀ (ls : Array Slot) (ρ : Nat → Nat → Int32) (H : Heap) (locs : List Loc) (x167_s2 : Int32), lv_has ls 5 [(0, .ref (E.2.1 + 1076)), (1, .int (nI j99_1)), (2, .int (nI j106_2))] → WP E ρ H → va_S (hA E) s.heap H locs → TI r Bt M L 0 0 0 0 0 2 0 ρ → iR x167_s2 (-2147483648) (2147483647) → iR (M j99_1) (0) (5) → 1 ≤ (L j99_1) → (L j99_1) ≤ 4 → 0 ≤ j106_2 → j106_2 ≤ 3 → 0 ≤ j99_1 → j99_1 ≤ 1 → j106_2 + 1 ≤ L j99_1 → W p l e (rmk 9 360) s m ([.ref (E.2.1 + 1076)] : List Value).toArray below meth c H locs 0 0 (MQ below (cV E (fun ρ1 => TI r (Bt + 2) M L 0 0 0 0 0 2 0 ρ1)) ([.ref (E.2.1 + 1076)] : List Value).toArray s 0 0 (hA E)) (F0 m 167 ls [.int 0, .int x167_s2, .int (nI (146 + 66 * j106_2 + 326 * j99_1)), .ref (E.2.1 + 1078)]) := by
            intro ls ρ H locs x167_s2 hl hP hS hI hx167_s2 f_M_j99_1_ tl_L_j99_1_ tu_L_j99_1_ tlj106_2 tuj106_2 tlj99_1 tuj99_1 hr167_0
            have hT := hI
            have hI := TI_RI hT
            refine lv_iadd hx hb dX7_turn_167 ?_
            refine astn (n := 695) (j := (146 + 66 * j106_2 + 326 * j99_1)) B hP hS (show hk 1078 = 8 by decide +kernel) (show hlen 1078 = 695 by decide +kernel) rfl (by omega) (by decide) dX7_turn_168 (fun H locs hP hS => ?_)
            obtain ⟨ρ1053, e1054⟩ : ∃ z, z = up ρ 1078 (146 + 66 * j106_2 + 326 * j99_1) (x167_s2 + 0) := ⟨_, rfl⟩
            rw [← e1054] at hP
            have hT : TI r Bt M L 0 0 0 0 0 2 0 ρ1053 := by rw [e1054]; exact TI_back hT (RI_up hI (ok_link (n0 := j99_1) (l0 := j106_2) (j := (146 + 66 * j106_2 + 326 * j99_1)) 42 (by omega) (by omega) (by omega) (by omega)))
            have hI := TI_RI hT
            refine lv_iinc (v := (nI (1 + j106_2))) (lv' := [(2, .int (nI (1 + j106_2))), (0, .ref (E.2.1 + 1076)), (1, .int (nI j99_1))]) hx hb dX7_turn_169 hl (k := 2) rfl (show nI j106_2 + nI 1 = _ from (nI_add _ _).trans (congrArg nI (by omega))) (by decide) rfl (fun ls hl => ?_)
            refine lv_goto (tgt := 106) hx hb dX7_turn_172 (by decide) ?_
            exact ih106 ls ρ1053 _ _ (1 + j106_2) (lv_sub hl [1, 2, 0] rfl) hP hS (TI_w hT (fun m a b => by omega) (fun m a b => by omega) (by omega) (by omega) (by omega)) (by omega) (by omega) (by omega) (by omega) (by omega)
          have b167_1 : ∀ (ls : Array Slot) (ρ : Nat → Nat → Int32) (H : Heap) (locs : List Loc) (x167_s2 : Int32), lv_has ls 5 [(0, .ref (E.2.1 + 1076)), (1, .int (nI j99_1)), (2, .int (nI j106_2))] → WP E ρ H → va_S (hA E) s.heap H locs → TI r Bt M L 0 0 0 0 0 2 0 ρ → iR x167_s2 (-2147483648) (2147483647) → iR (M j99_1) (0) (5) → 1 ≤ (L j99_1) → (L j99_1) ≤ 4 → 0 ≤ j106_2 → j106_2 ≤ 3 → 0 ≤ j99_1 → j99_1 ≤ 1 → j106_2 + 1 ≤ L j99_1 → W p l e (rmk 9 360) s m ([.ref (E.2.1 + 1076)] : List Value).toArray below meth c H locs 0 0 (MQ below (cV E (fun ρ1 => TI r (Bt + 2) M L 0 0 0 0 0 2 0 ρ1)) ([.ref (E.2.1 + 1076)] : List Value).toArray s 0 0 (hA E)) (F0 m 167 ls [.int 1, .int x167_s2, .int (nI (146 + 66 * j106_2 + 326 * j99_1)), .ref (E.2.1 + 1078)]) := by
            intro ls ρ H locs x167_s2 hl hP hS hI hx167_s2 f_M_j99_1_ tl_L_j99_1_ tu_L_j99_1_ tlj106_2 tuj106_2 tlj99_1 tuj99_1 hr167_0
            have hT := hI
            have hI := TI_RI hT
            refine lv_iadd hx hb dX7_turn_167 ?_
            refine astn (n := 695) (j := (146 + 66 * j106_2 + 326 * j99_1)) B hP hS (show hk 1078 = 8 by decide +kernel) (show hlen 1078 = 695 by decide +kernel) rfl (by omega) (by decide) dX7_turn_168 (fun H locs hP hS => ?_)
            obtain ⟨ρ1055, e1056⟩ : ∃ z, z = up ρ 1078 (146 + 66 * j106_2 + 326 * j99_1) (x167_s2 + 1) := ⟨_, rfl⟩
            rw [← e1056] at hP
            have hT : TI r Bt M L 0 0 0 0 0 2 0 ρ1055 := by rw [e1056]; exact TI_back hT (RI_up hI (ok_link (n0 := j99_1) (l0 := j106_2) (j := (146 + 66 * j106_2 + 326 * j99_1)) 42 (by omega) (by omega) (by omega) (by omega)))
            have hI := TI_RI hT
            refine lv_iinc (v := (nI (1 + j106_2))) (lv' := [(2, .int (nI (1 + j106_2))), (0, .ref (E.2.1 + 1076)), (1, .int (nI j99_1))]) hx hb dX7_turn_169 hl (k := 2) rfl (show nI j106_2 + nI 1 = _ from (nI_add _ _).trans (congrArg nI (by omega))) (by decide) rfl (fun ls hl => ?_)
            refine lv_goto (tgt := 106) hx hb dX7_turn_172 (by decide) ?_
            exact ih106 ls ρ1055 _ _ (1 + j106_2) (lv_sub hl [1, 2, 0] rfl) hP hS (TI_w hT (fun m a b => by omega) (fun m a b => by omega) (by omega) (by omega) (by omega)) (by omega) (by omega) (by omega) (by omega) (by omega)
          have hT := hI
          have hI := TI_RI hT
          refine lv_aload_n hx hb dX7_turn_106 rfl (lv_at hl 0 rfl) ?_
          refine lv_iload_n hx hb dX7_turn_107 rfl (lv_at hl 1 rfl) ?_
          refine call_i (cVt (k := 1076) (av := [.int (nI j99_1)]) (rest := []) B hP hS (d_X7_isNet l E ρ ρ Bt hBt M L (XT 0 0 0 0 (ρ 1084) (ρ 1087)) (nI j99_1) hI) lk_RX7_78 (hrecv (ci := 7) B hP (hk_lt (c := 7) (show hk 1076 = 7 by decide +kernel) (by decide)) (hcc7 _ _ (show hk 1076 = 7 by decide +kernel)) rfl) rfl rfl hl.1 (Nat.le_of_ble_eq_true rfl) ⟨Nat.le_of_ble_eq_true rfl, Nat.le_of_ble_eq_true rfl⟩ ⟨Nat.le_of_ble_eq_true rfl, Nat.le_of_ble_eq_true rfl⟩ dX7_turn_108) hS (fun r1057 ρ1058 H locs q1059 hP hS => ?_)
          obtain ⟨rfl, -, q1059⟩ := q1059
          rcases q1059 with rfl | ⟨rfl, j1061, hj1061, ej1061, i1062⟩
          · skip
            refine lv_if_eq (tgt := 175) hx hb dX7_turn_111 (by decide) (fun _ => ?_) (fun c1063 => absurd rfl c1063)
            exact b175_0 ls ρ _ _  (lv_sub hl [0, 1] rfl) hP hS (TI_w hT (fun m a b => by omega) (fun m a b => by omega) (by omega) (by omega) (by omega)) (by omega) (by omega)
          · skip
            have n1064 : j99_1 = j1061 := (nI_eq (by omega) (by omega)).mp (show nI j99_1 = nI j1061 from ej1061)
            have i1065 : iR (M j99_1) 0 5 := by rw [n1064]; exact i1062
            refine lv_if_eq (tgt := 175) hx hb dX7_turn_111 (by decide) (fun c1066 => absurd c1066 (iR_ne (show iR 1 (1) (1) from ⟨by decide, by decide⟩) (show iR 0 (0) (0) from ⟨by decide, by decide⟩) (by decide))) (fun _ => ?_)
            refine lv_iload_n hx hb dX7_turn_114 rfl (lv_at hl 2 rfl) ?_
            refine lv_aload_n hx hb dX7_turn_115 rfl (lv_at hl 0 rfl) ?_
            refine get7 B hP (show hk 1076 = 7 by decide +kernel) 3 (by decide) mw_1030 rfl dX7_turn_116 ?_
            refine lv_iload_n hx hb dX7_turn_119 rfl (lv_at hl 1 rfl) ?_
            refine call_i (cS (av := [.int (nI j99_1)]) (rest := [.ref (E.2.1 + 1078), .int (nI j106_2)]) B hP hS (d_X7_netAt l E ρ ρ Bt hBt M L (XT 0 0 0 0 (ρ 1084) (ρ 1087)) j99_1 (by omega) (by omega) hI) lk_RX7_75 rfl rfl hl.1 (Nat.le_of_ble_eq_true rfl) ⟨Nat.le_of_ble_eq_true rfl, Nat.le_of_ble_eq_true rfl⟩ ⟨Nat.le_of_ble_eq_true rfl, Nat.le_of_ble_eq_true rfl⟩ dX7_turn_120) hS (fun r1067 ρ1068 H locs q1069 hP hS => ?_)
            obtain ⟨rfl, -, q1069⟩ := q1069
            obtain rfl : r1067 = nI (42 + 326 * j99_1) := q1069.trans (congrArg nI (by omega))
            refine lv_bipush (v := 6) hx hb dX7_turn_123 (by decide) ?_
            refine lv_iadd hx hb dX7_turn_125 ?_
            refine lv_topi (fun z1071 ez1071 => ?_)
            obtain rfl : z1071 = (nI (48 + 326 * j99_1)) := ez1071.trans (by rw [show (nI (42 + 326 * j99_1)) = nI (42 + 326 * j99_1) from rfl, show 6 = nI 6 from rfl, nI_add] <;> exact congrArg nI (by omega))
            have := RI_Lb (n := j99_1) hI (by omega)
            refine aldf (n := 695) (j := (48 + 326 * j99_1)) (v := (nI (L j99_1))) B hP (show hk 1078 = 8 by decide +kernel) (show hlen 1078 = 695 by decide +kernel) rfl (by omega) (by decide) (g_l (n0 := j99_1) hI (by omega) (by omega)) dX7_turn_126 ?_
            refine lv_icmp_ge (tgt := 175) hx hb dX7_turn_127 (by decide) (fun c1072 => ?_) (fun c1072 => ?_)
            · skip
              have n1073 := mt (nx_lt (a := j106_2) (b := (L j99_1)) (by omega) (by omega)).mpr (show ¬ (nI j106_2 < nI (L j99_1)) from (Int32.not_lt.mpr c1072))
              exact b175_0 ls ρ _ _  (lv_sub hl [0, 1] rfl) hP hS (TI_w hT (fun m a b => by omega) (fun m a b => by omega) (by omega) (by omega) (by omega)) (by omega) (by omega)
            · skip
              have n1074 := (nx_lt (a := j106_2) (b := (L j99_1)) (by omega) (by omega)).mp (show (nI j106_2 < nI (L j99_1)) from (Int32.not_le.mp c1072))
              refine lv_aload_n hx hb dX7_turn_130 rfl (lv_at hl 0 rfl) ?_
              refine lv_iload_n hx hb dX7_turn_131 rfl (lv_at hl 1 rfl) ?_
              refine lv_iload_n hx hb dX7_turn_132 rfl (lv_at hl 2 rfl) ?_
              refine call_i (cS (av := [.int (nI j99_1), .int (nI j106_2)]) (rest := [.ref (E.2.1 + 1076)]) B hP hS (d_X7_linkAt l E ρ ρ Bt hBt M L (XT 0 0 0 0 (ρ 1084) (ρ 1087)) j99_1 (by omega) (by omega) j106_2 (by omega) (by omega) hI) lk_RX7_82 rfl rfl hl.1 (Nat.le_of_ble_eq_true rfl) ⟨Nat.le_of_ble_eq_true rfl, Nat.le_of_ble_eq_true rfl⟩ ⟨Nat.le_of_ble_eq_true rfl, Nat.le_of_ble_eq_true rfl⟩ dX7_turn_133) hS (fun r1075 ρ1076 H locs q1077 hP hS => ?_)
              obtain ⟨rfl, -, q1077⟩ := q1077
              obtain rfl : r1075 = nI (104 + 66 * j106_2 + 326 * j99_1) := q1077.trans (congrArg nI (by omega))
              refine call_v (cVt (k := 1076) (av := [.int (nI (104 + 66 * j106_2 + 326 * j99_1))]) (rest := []) B hP hS (d_X7_framesCome l E ρ ρ Bt hBt M L (XT 0 0 0 0 (ρ 1084) (ρ 1087)) j99_1 (by omega) j106_2 (by omega) hI) lk_RX7_221 (hrecv (ci := 7) B hP (hk_lt (c := 7) (show hk 1076 = 7 by decide +kernel) (by decide)) (hcc7 _ _ (show hk 1076 = 7 by decide +kernel)) rfl) rfl rfl hl.1 (Nat.le_of_ble_eq_true rfl) ⟨Nat.le_of_ble_eq_true rfl, Nat.le_of_ble_eq_true rfl⟩ ⟨Nat.le_of_ble_eq_true rfl, Nat.le_of_ble_eq_true rfl⟩ dX7_turn_136) hS (fun ρ1080 H locs q1081 hP hS => ?_)
              have hR1082 := q1081
              have hT := TI_back hT hR1082
              have hI := TI_RI hT
              refine lv_aload_n hx hb dX7_turn_139 rfl (lv_at hl 0 rfl) ?_
              refine get7 B hP (show hk 1076 = 7 by decide +kernel) 3 (by decide) mw_1030 rfl dX7_turn_140 ?_
              refine lv_iload_n hx hb dX7_turn_143 rfl (lv_at hl 1 rfl) ?_
              refine lv_iload_n hx hb dX7_turn_144 rfl (lv_at hl 2 rfl) ?_
              refine call_i (cS (av := [.int (nI j99_1), .int (nI j106_2)]) (rest := [.ref (E.2.1 + 1078)]) B hP hS (d_X7_linkAt l E ρ1080 ρ1080 Bt hBt M L (XT 0 0 0 0 (ρ1080 1084) (ρ1080 1087)) j99_1 (by omega) (by omega) j106_2 (by omega) (by omega) hI) lk_RX7_82 rfl rfl hl.1 (Nat.le_of_ble_eq_true rfl) ⟨Nat.le_of_ble_eq_true rfl, Nat.le_of_ble_eq_true rfl⟩ ⟨Nat.le_of_ble_eq_true rfl, Nat.le_of_ble_eq_true rfl⟩ dX7_turn_145) hS (fun r1083 ρ1084 H locs q1085 hP hS => ?_)
              obtain ⟨rfl, -, q1085⟩ := q1085
              obtain rfl : r1083 = nI (104 + 66 * j106_2 + 326 * j99_1) := q1085.trans (congrArg nI (by omega))
              refine lv_bipush (v := 42) hx hb dX7_turn_148 (by decide) ?_
              refine lv_iadd hx hb dX7_turn_150 ?_
              refine lv_topi (fun z1087 ez1087 => ?_)
              obtain rfl : z1087 = (nI (146 + 66 * j106_2 + 326 * j99_1)) := ez1087.trans (by rw [show (nI (104 + 66 * j106_2 + 326 * j99_1)) = nI (104 + 66 * j106_2 + 326 * j99_1) from rfl, show 42 = nI 42 from rfl, nI_add] <;> exact congrArg nI (by omega))
              refine lv_dup2_11 hx hb dX7_turn_151 rfl rfl ?_
              refine aldn (n := 695) (j := (146 + 66 * j106_2 + 326 * j99_1)) B hP (show hk 1078 = 8 by decide +kernel) (show hlen 1078 = 695 by decide +kernel) rfl (by omega) (by decide) dX7_turn_152 ?_
              refine lv_aload_n hx hb dX7_turn_153 rfl (lv_at hl 0 rfl) ?_
              refine lv_iload_n hx hb dX7_turn_154 rfl (lv_at hl 1 rfl) ?_
              refine lv_iload_n hx hb dX7_turn_155 rfl (lv_at hl 2 rfl) ?_
              refine call_i (cVt (k := 1076) (av := [.int (nI j99_1), .int (nI j106_2)]) (rest := [.int (ρ1080 1078 (146 + 66 * j106_2 + 326 * j99_1)), .int (nI (146 + 66 * j106_2 + 326 * j99_1)), .ref (E.2.1 + 1078)]) B hP hS (d_X7_isLinkHere l E ρ1080 ρ1080 Bt hBt M L (XT 0 0 0 0 (ρ1080 1084) (ρ1080 1087)) j99_1 (by omega) (by omega) j106_2 (by omega) (by omega) hI) lk_RX7_182 (hrecv (ci := 7) B hP (hk_lt (c := 7) (show hk 1076 = 7 by decide +kernel) (by decide)) (hcc7 _ _ (show hk 1076 = 7 by decide +kernel)) rfl) rfl rfl hl.1 (Nat.le_of_ble_eq_true rfl) ⟨Nat.le_of_ble_eq_true rfl, Nat.le_of_ble_eq_true rfl⟩ ⟨Nat.le_of_ble_eq_true rfl, Nat.le_of_ble_eq_true rfl⟩ dX7_turn_156) hS (fun r1088 ρ1089 H locs q1090 hP hS => ?_)
              obtain ⟨rfl, -, q1090⟩ := q1090
              obtain ⟨j1092, lj1092, uj1092, ej1092⟩ := iR_nat (a := 0) (b := 1) q1090
              refine lv_topi (fun z1093 ez1093 => ?_)
              obtain rfl : z1093 = nI j1092 := ez1093.trans ej1092
              refine lv_if_eq (tgt := 166) hx hb dX7_turn_159 (by decide) (fun c1094 => ?_) (fun c1094 => ?_)
              · skip
                have n1095 := (nI_eq (a := j1092) (b := 0) (by omega) (by omega)).mp (show (nI j1092 = nI 0) from c1094)
                refine lv_iconst (v := 0) hx hb dX7_turn_166 (by decide) ?_
                exact b167_0 ls ρ1080 _ _ ((ρ1080 1078 (146 + 66 * j106_2 + 326 * j99_1)) : Int32) (lv_sub hl [0, 1, 2] rfl) hP hS (TI_w hT (fun m a b => by omega) (fun m a b => by omega) (by omega) (by omega) (by omega)) (iR_w (iR_any (ρ1080 1078 (146 + 66 * j106_2 + 326 * j99_1))) (by decide) (by decide)) (iR_w i1065 (by decide) (by decide)) (by omega) (by omega) (by omega) (by omega) (by omega) (by omega) (by omega)
              · skip
                have n1096 := mt (nI_eq (a := j1092) (b := 0) (by omega) (by omega)).mpr (show ¬ (nI j1092 = nI 0) from c1094)
                refine lv_iconst (v := 1) hx hb dX7_turn_162 (by decide) ?_
                refine lv_goto (tgt := 167) hx hb dX7_turn_163 (by decide) ?_
                exact b167_1 ls ρ1080 _ _ ((ρ1080 1078 (146 + 66 * j106_2 + 326 * j99_1)) : Int32) (lv_sub hl [0, 1, 2] rfl) hP hS (TI_w hT (fun m a b => by omega) (fun m a b => by omega) (by omega) (by omega) (by omega)) (iR_w (iR_any (ρ1080 1078 (146 + 66 * j106_2 + 326 * j99_1))) (by decide) (by decide)) (iR_w i1065 (by decide) (by decide)) (by omega) (by omega) (by omega) (by omega) (by omega) (by omega) (by omega)
      have hT := hI
      have hI := TI_RI hT
      refine lv_iload_n hx hb dX7_turn_99 rfl (lv_at hl 1 rfl) ?_
      refine lv_iconst (v := 2) hx hb dX7_turn_100 (by decide) ?_
      refine lv_icmp_ge (tgt := 181) hx hb dX7_turn_101 (by decide) (fun c1097 => ?_) (fun c1097 => ?_)
      · skip
        have n1098 := mt (nx_lt (a := j99_1) (b := 2) (by omega) (by omega)).mpr (show ¬ (nI j99_1 < nI 2) from (Int32.not_lt.mpr c1097))
        refine lv_iconst (v := 0) hx hb dX7_turn_181 (by decide) ?_
        refine lv_istore_n (lv' := [(1, .int 0), (0, .ref (E.2.1 + 1076))]) hx hb dX7_turn_182 rfl hl (by decide) rfl (fun ls hl => ?_)
        exact b183_0 ls ρ _ _ _ 0 (lv_sub hl [1, 0] rfl) hP hS (TI_w hT (fun m a b => by omega) (fun m a b => by omega) (by omega) (by omega) (by omega)) (Nat.lt_succ_self _) (by omega) (by omega)
      · skip
        have n1099 := (nx_lt (a := j99_1) (b := 2) (by omega) (by omega)).mp (show (nI j99_1 < nI 2) from (Int32.not_le.mp c1097))
        refine lv_iconst (v := 0) hx hb dX7_turn_104 (by decide) ?_
        refine lv_istore_n (lv' := [(2, .int 0), (0, .ref (E.2.1 + 1076)), (1, .int (nI j99_1))]) hx hb dX7_turn_105 rfl hl (by decide) rfl (fun ls hl => ?_)
        exact b106_0 ls ρ _ _ _ 0 (lv_sub hl [1, 2, 0] rfl) hP hS (TI_w hT (fun m a b => by omega) (fun m a b => by omega) (by omega) (by omega) (by omega)) (Nat.lt_succ_self _) (by omega) (by omega) (by omega) (by omega)
  have b2_0 : ∀ (ls : Array Slot) (ρ : Nat → Nat → Int32) (H : Heap) (locs : List Loc) (d2 : Nat) (j2_1 : Nat), lv_has ls 5 [(0, .ref (E.2.1 + 1076)), (1, .int (nI j2_1))] → WP E ρ H → va_S (hA E) s.heap H locs → TI r Bt M L 0 0 0 0 0 2 0 ρ → 3 - j2_1 < d2 → 0 ≤ j2_1 → j2_1 ≤ 2 → W p l e (rmk 9 360) s m ([.ref (E.2.1 + 1076)] : List Value).toArray below meth c H locs 0 0 (MQ below (cV E (fun ρ1 => TI r (Bt + 2) M L 0 0 0 0 0 2 0 ρ1)) ([.ref (E.2.1 + 1076)] : List Value).toArray s 0 0 (hA E)) (F0 m 2 ls []) := by
    intro ls ρ H locs d2
    induction d2 generalizing ls ρ H locs with
    | zero => intro j2_1 hl hP hS hI hd2 lj2_1 uj2_1; exact absurd hd2 (Nat.not_lt_zero _)
    | succ d2 ih2 =>
      intro j2_1 hl hP hS hI hd2 lj2_1 uj2_1
      have b91_0 : ∀ (ls : Array Slot) (ρ : Nat → Nat → Int32) (H : Heap) (locs : List Loc) , lv_has ls 5 [(0, .ref (E.2.1 + 1076)), (1, .int (nI j2_1))] → WP E ρ H → va_S (hA E) s.heap H locs → TI r Bt M L 0 0 0 0 0 2 0 ρ → 0 ≤ j2_1 → j2_1 ≤ 1 → W p l e (rmk 9 360) s m ([.ref (E.2.1 + 1076)] : List Value).toArray below meth c H locs 0 0 (MQ below (cV E (fun ρ1 => TI r (Bt + 2) M L 0 0 0 0 0 2 0 ρ1)) ([.ref (E.2.1 + 1076)] : List Value).toArray s 0 0 (hA E)) (F0 m 91 ls []) := by
        intro ls ρ H locs  hl hP hS hI tlj2_1 tuj2_1
        have hT := hI
        have hI := TI_RI hT
        refine lv_iinc (v := (nI (1 + j2_1))) (lv' := [(1, .int (nI (1 + j2_1))), (0, .ref (E.2.1 + 1076))]) hx hb dX7_turn_91 hl (k := 1) rfl (show nI j2_1 + nI 1 = _ from (nI_add _ _).trans (congrArg nI (by omega))) (by decide) rfl (fun ls hl => ?_)
        refine lv_goto (tgt := 2) hx hb dX7_turn_94 (by decide) ?_
        exact ih2 ls ρ _ _ (1 + j2_1) (lv_sub hl [1, 0] rfl) hP hS (TI_w hT (fun m a b => by omega) (fun m a b => by omega) (by omega) (by omega) (by omega)) (by omega) (by omega) (by omega)
      have b14_0 : ∀ (ls : Array Slot) (ρ : Nat → Nat → Int32) (H : Heap) (locs : List Loc) (d14 : Nat) (x14_3 : Int32), lv_has ls 5 [(0, .ref (E.2.1 + 1076)), (1, .int (nI j2_1)), (2, .int (nI (42 + 326 * j2_1))), (3, .int x14_3)] → WP E ρ H → va_S (hA E) s.heap H locs → TI r Bt M L 0 0 0 0 0 2 0 ρ → (5 - x14_3.toInt).toNat < d14 → iR x14_3 (-1) (4) → 0 ≤ j2_1 → j2_1 ≤ 1 → W p l e (rmk 9 360) s m ([.ref (E.2.1 + 1076)] : List Value).toArray below meth c H locs 0 0 (MQ below (cV E (fun ρ1 => TI r (Bt + 2) M L 0 0 0 0 0 2 0 ρ1)) ([.ref (E.2.1 + 1076)] : List Value).toArray s 0 0 (hA E)) (F0 m 14 ls []) := by
        intro ls ρ H locs d14
        induction d14 generalizing ls ρ H locs with
        | zero => intro x14_3 hl hP hS hI hd14 hx14_3 tlj2_1 tuj2_1; exact absurd hd14 (Nat.not_lt_zero _)
        | succ d14 ih14 =>
          intro x14_3 hl hP hS hI hd14 hx14_3 tlj2_1 tuj2_1
          have hT := hI
          have hI := TI_RI hT
          refine lv_aload_n hx hb dX7_turn_14 rfl (lv_at hl 0 rfl) ?_
          refine lv_iload_n hx hb dX7_turn_15 rfl (lv_at hl 1 rfl) ?_
          refine call_i (cVt (k := 1076) (av := [.int (nI j2_1)]) (rest := []) B hP hS (d_X7_isNet l E ρ ρ Bt hBt M L (XT 0 0 0 0 (ρ 1084) (ρ 1087)) (nI j2_1) hI) lk_RX7_78 (hrecv (ci := 7) B hP (hk_lt (c := 7) (show hk 1076 = 7 by decide +kernel) (by decide)) (hcc7 _ _ (show hk 1076 = 7 by decide +kernel)) rfl) rfl rfl hl.1 (Nat.le_of_ble_eq_true rfl) ⟨Nat.le_of_ble_eq_true rfl, Nat.le_of_ble_eq_true rfl⟩ ⟨Nat.le_of_ble_eq_true rfl, Nat.le_of_ble_eq_true rfl⟩ dX7_turn_16) hS (fun r1100 ρ1101 H locs q1102 hP hS => ?_)
          obtain ⟨rfl, -, q1102⟩ := q1102
          rcases q1102 with rfl | ⟨rfl, j1104, hj1104, ej1104, i1105⟩
          · skip
            refine lv_if_eq (tgt := 91) hx hb dX7_turn_19 (by decide) (fun _ => ?_) (fun c1106 => absurd rfl c1106)
            exact b91_0 ls ρ _ _  (lv_sub hl [0, 1] rfl) hP hS (TI_w hT (fun m a b => by omega) (fun m a b => by omega) (by omega) (by omega) (by omega)) (by omega) (by omega)
          · skip
            have n1107 : j2_1 = j1104 := (nI_eq (by omega) (by omega)).mp (show nI j2_1 = nI j1104 from ej1104)
            have i1108 : iR (M j2_1) 0 5 := by rw [n1107]; exact i1105
            refine lv_if_eq (tgt := 91) hx hb dX7_turn_19 (by decide) (fun c1109 => absurd c1109 (iR_ne (show iR 1 (1) (1) from ⟨by decide, by decide⟩) (show iR 0 (0) (0) from ⟨by decide, by decide⟩) (by decide))) (fun _ => ?_)
            refine lv_iload_n hx hb dX7_turn_22 rfl (lv_at hl 3 rfl) ?_
            refine lv_aload_n hx hb dX7_turn_23 rfl (lv_at hl 0 rfl) ?_
            refine get7 B hP (show hk 1076 = 7 by decide +kernel) 3 (by decide) mw_1030 rfl dX7_turn_24 ?_
            refine lv_iload_n hx hb dX7_turn_27 rfl (lv_at hl 2 rfl) ?_
            refine lv_bipush (v := 6) hx hb dX7_turn_28 (by decide) ?_
            refine lv_iadd hx hb dX7_turn_30 ?_
            refine lv_topi (fun z1110 ez1110 => ?_)
            obtain rfl : z1110 = (nI (48 + 326 * j2_1)) := ez1110.trans (by rw [show (nI (42 + 326 * j2_1)) = nI (42 + 326 * j2_1) from rfl, show 6 = nI 6 from rfl, nI_add] <;> exact congrArg nI (by omega))
            have := RI_Lb (n := j2_1) hI (by omega)
            refine aldf (n := 695) (j := (48 + 326 * j2_1)) (v := (nI (L j2_1))) B hP (show hk 1078 = 8 by decide +kernel) (show hlen 1078 = 695 by decide +kernel) rfl (by omega) (by decide) (g_l (n0 := j2_1) hI (by omega) (by omega)) dX7_turn_31 ?_
            refine lv_icmp_ge (tgt := 91) hx hb dX7_turn_32 (by decide) (fun c1111 => ?_) (fun c1111 => ?_)
            · skip
              have i1112 : iR x14_3 (0) (4) := (iR_geL hx14_3 (nI_iR (j := (L j2_1)) (a := 0) (b := 4) (by omega) (by omega) (by omega)) (Int32.not_lt.mpr c1111) (by decide))
              exact b91_0 ls ρ _ _  (lv_sub hl [0, 1] rfl) hP hS (TI_w hT (fun m a b => by omega) (fun m a b => by omega) (by omega) (by omega) (by omega)) (by omega) (by omega)
            · skip
              have i1113 : iR x14_3 (-1) (3) := (iR_ltL hx14_3 (nI_iR (j := (L j2_1)) (a := 0) (b := 4) (by omega) (by omega) (by omega)) (Int32.not_le.mp c1111) (by decide))
              have i1114 : iR x14_3 (-1) ((L j2_1 : Int) - 1) := rl_cmp (iR_w (a := -1) (b := 3) (b' := 3) i1113 (by decide) (by decide)) (by omega) (Int32.not_le.mp c1111)
              refine lv_iload_n hx hb dX7_turn_35 rfl (lv_at hl 3 rfl) ?_
              refine lv_iconst (v := (-1)) hx hb dX7_turn_36 (by decide) ?_
              refine lv_icmp_ne (tgt := 46) hx hb dX7_turn_37 (by decide) (fun c1115 => ?_) (fun c1115 => ?_)
              · skip
                have i1116 : iR x14_3 (0) (3) := (iR_neL i1113 (show iR (-1) (-1) (-1) from ⟨by decide, by decide⟩) c1115 (by decide) (by decide))
                refine lv_iload_n hx hb dX7_turn_46 rfl (lv_at hl 1 rfl) ?_
                refine lv_iload_n hx hb dX7_turn_47 rfl (lv_at hl 3 rfl) ?_
                obtain ⟨j1117, lj1117, uj1117, ej1117⟩ := iR_nat (a := 0) (b := 3) i1116
                refine lv_topi (fun z1118 ez1118 => ?_)
                obtain rfl : z1118 = nI j1117 := ez1118.trans ej1117
                have : j1117 < L j2_1 := rl_lt i1114 ej1117 (by omega)
                refine call_i (cS (av := [.int (nI j2_1), .int (nI j1117)]) (rest := []) B hP hS (d_X7_linkAt l E ρ ρ Bt hBt M L (XT 0 0 0 0 (ρ 1084) (ρ 1087)) j2_1 (by omega) (by omega) j1117 (by omega) (by omega) hI) lk_RX7_82 rfl rfl hl.1 (Nat.le_of_ble_eq_true rfl) ⟨Nat.le_of_ble_eq_true rfl, Nat.le_of_ble_eq_true rfl⟩ ⟨Nat.le_of_ble_eq_true rfl, Nat.le_of_ble_eq_true rfl⟩ dX7_turn_48) hS (fun r1119 ρ1120 H locs q1121 hP hS => ?_)
                obtain ⟨rfl, -, q1121⟩ := q1121
                obtain rfl : r1119 = nI (104 + 66 * j1117 + 326 * j2_1) := q1121.trans (congrArg nI (by omega))
                refine lv_iconst (v := 2) hx hb dX7_turn_51 (by decide) ?_
                refine lv_iadd hx hb dX7_turn_52 ?_
                refine lv_topi (fun z1123 ez1123 => ?_)
                obtain rfl : z1123 = (nI (106 + 66 * j1117 + 326 * j2_1)) := ez1123.trans (by rw [show (nI (104 + 66 * j1117 + 326 * j2_1)) = nI (104 + 66 * j1117 + 326 * j2_1) from rfl, show 2 = nI 2 from rfl, nI_add] <;> exact congrArg nI (by omega))
                refine lv_istore (lv' := [(4, .int (nI (106 + 66 * j1117 + 326 * j2_1))), (0, .ref (E.2.1 + 1076)), (1, .int (nI j2_1)), (2, .int (nI (42 + 326 * j2_1))), (3, .int x14_3)]) hx hb dX7_turn_53 hl (by decide) rfl (fun ls hl => ?_)
                refine lv_aload_n hx hb dX7_turn_55 rfl (lv_at hl 1 rfl) ?_
                refine lv_iload hx hb dX7_turn_56 (lv_at hl 0 rfl) ?_
                refine lv_iload hx hb dX7_turn_58 (lv_at hl 0 rfl) ?_
                refine lv_iconst (v := 1) hx hb dX7_turn_60 (by decide) ?_
                refine lv_iadd hx hb dX7_turn_61 ?_
                refine lv_topi (fun z1124 ez1124 => ?_)
                obtain rfl : z1124 = (nI (107 + 66 * j1117 + 326 * j2_1)) := ez1124.trans (by rw [show (nI (106 + 66 * j1117 + 326 * j2_1)) = nI (106 + 66 * j1117 + 326 * j2_1) from rfl, show 1 = nI 1 from rfl, nI_add] <;> exact congrArg nI (by omega))
                refine lv_iload hx hb dX7_turn_62 (lv_at hl 0 rfl) ?_
                refine lv_iconst (v := 1) hx hb dX7_turn_64 (by decide) ?_
                refine lv_isub hx hb dX7_turn_65 ?_
                refine lv_topi (fun z1125 ez1125 => ?_)
                obtain rfl : z1125 = (nI (105 + 66 * j1117 + 326 * j2_1)) := ez1125.trans (nI_subE (a := (106 + 66 * j1117 + 326 * j2_1)) (b := 1) (q := (105 + 66 * j1117 + 326 * j2_1)) (by omega))
                refine lv_iload_n hx hb dX7_turn_66 rfl (lv_at hl 4 rfl) ?_
                refine lv_topi (fun z1126 ez1126 => ?_)
                obtain rfl : z1126 = nI j1117 := ez1126.trans ej1117
                refine lv_iconst (v := (-1)) hx hb dX7_turn_67 (by decide) ?_
                refine lv_icmp_ne (tgt := 78) hx hb dX7_turn_68 (by decide) (fun _ => ?_) (fun c1127 => absurd c1127 (iR_ne (nI_iR (j := j1117) (a := 0) (b := 3) (by omega) (by omega) (by omega)) (show iR (-1) (-1) (-1) from ⟨by decide, by decide⟩) (by decide)))
                refine lv_iload hx hb dX7_turn_78 (lv_at hl 0 rfl) ?_
                refine lv_iconst (v := 1) hx hb dX7_turn_80 (by decide) ?_
                refine lv_isub hx hb dX7_turn_81 ?_
                refine lv_topi (fun z1128 ez1128 => ?_)
                obtain rfl : z1128 = (nI (105 + 66 * j1117 + 326 * j2_1)) := ez1128.trans (nI_subE (a := (106 + 66 * j1117 + 326 * j2_1)) (b := 1) (q := (105 + 66 * j1117 + 326 * j2_1)) (by omega))
                refine call_v (cVt (k := 1076) (av := [.int (nI (106 + 66 * j1117 + 326 * j2_1)), .int (nI (107 + 66 * j1117 + 326 * j2_1)), .int (nI (105 + 66 * j1117 + 326 * j2_1)), .int (nI (105 + 66 * j1117 + 326 * j2_1))]) (rest := []) B hP hS (d_X7_mapsBecomeL l E ρ ρ Bt hBt M L (XT 0 0 0 0 (ρ 1084) (ρ 1087)) j2_1 (by omega) j1117 (by omega) hI (by omega)) lk_RX7_218 (hrecv (ci := 7) B hP (hk_lt (c := 7) (show hk 1076 = 7 by decide +kernel) (by decide)) (hcc7 _ _ (show hk 1076 = 7 by decide +kernel)) rfl) rfl rfl hl.1 (Nat.le_of_ble_eq_true rfl) ⟨Nat.le_of_ble_eq_true rfl, Nat.le_of_ble_eq_true rfl⟩ ⟨Nat.le_of_ble_eq_true rfl, Nat.le_of_ble_eq_true rfl⟩ dX7_turn_82) hS (fun ρ1130 H locs q1131 hP hS => ?_)
                have hR1132 := q1131
                have hT := TI_back hT hR1132
                have hI := TI_RI hT
                have m1133 := iI_dec (m := 1) (n := 1) i1116 rfl (by decide) (by decide)
                refine lv_iinc (v := (x14_3 + 1)) (lv' := [(3, .int (x14_3 + 1)), (4, .int (nI (106 + 66 * j1117 + 326 * j2_1))), (0, .ref (E.2.1 + 1076)), (1, .int (nI j2_1)), (2, .int (nI (42 + 326 * j2_1)))]) hx hb dX7_turn_85 hl (k := 4) rfl rfl (by decide) rfl (fun ls hl => ?_)
                refine lv_goto (tgt := 14) hx hb dX7_turn_88 (by decide) ?_
                exact ih14 ls ρ1130 _ _ ((x14_3 + 1) : Int32) (lv_sub hl [2, 3, 4, 0] rfl) hP hS (TI_w hT (fun m a b => by omega) (fun m a b => by omega) (by omega) (by omega) (by omega)) (by omega) (iR_w (iR_add (a' := 1) (b' := 4) i1116 (show iR 1 (1) (1) from ⟨by decide, by decide⟩) (by decide) (by decide) (by decide) (by decide)) (by decide) (by decide)) (by omega) (by omega)
              · skip
                have i1134 : iR x14_3 (-1) (-1) := (by rw [c1115]; exact ⟨by decide, by decide⟩)
                refine lv_iload_n hx hb dX7_turn_40 rfl (lv_at hl 2 rfl) ?_
                refine lv_iconst (v := 3) hx hb dX7_turn_41 (by decide) ?_
                refine lv_iadd hx hb dX7_turn_42 ?_
                refine lv_topi (fun z1135 ez1135 => ?_)
                obtain rfl : z1135 = (nI (45 + 326 * j2_1)) := ez1135.trans (by rw [show (nI (42 + 326 * j2_1)) = nI (42 + 326 * j2_1) from rfl, show 3 = nI 3 from rfl, nI_add] <;> exact congrArg nI (by omega))
                refine lv_goto (tgt := 53) hx hb dX7_turn_43 (by decide) ?_
                refine lv_istore (lv' := [(4, .int (nI (45 + 326 * j2_1))), (0, .ref (E.2.1 + 1076)), (1, .int (nI j2_1)), (2, .int (nI (42 + 326 * j2_1))), (3, .int x14_3)]) hx hb dX7_turn_53 hl (by decide) rfl (fun ls hl => ?_)
                refine lv_aload_n hx hb dX7_turn_55 rfl (lv_at hl 1 rfl) ?_
                refine lv_iload hx hb dX7_turn_56 (lv_at hl 0 rfl) ?_
                refine lv_iload hx hb dX7_turn_58 (lv_at hl 0 rfl) ?_
                refine lv_iconst (v := 1) hx hb dX7_turn_60 (by decide) ?_
                refine lv_iadd hx hb dX7_turn_61 ?_
                refine lv_topi (fun z1136 ez1136 => ?_)
                obtain rfl : z1136 = (nI (46 + 326 * j2_1)) := ez1136.trans (by rw [show (nI (45 + 326 * j2_1)) = nI (45 + 326 * j2_1) from rfl, show 1 = nI 1 from rfl, nI_add] <;> exact congrArg nI (by omega))
                refine lv_iload hx hb dX7_turn_62 (lv_at hl 0 rfl) ?_
                refine lv_iconst (v := 1) hx hb dX7_turn_64 (by decide) ?_
                refine lv_isub hx hb dX7_turn_65 ?_
                refine lv_topi (fun z1137 ez1137 => ?_)
                obtain rfl : z1137 = (nI (44 + 326 * j2_1)) := ez1137.trans (nI_subE (a := (45 + 326 * j2_1)) (b := 1) (q := (44 + 326 * j2_1)) (by omega))
                refine lv_iload_n hx hb dX7_turn_66 rfl (lv_at hl 4 rfl) ?_
                refine lv_iconst (v := (-1)) hx hb dX7_turn_67 (by decide) ?_
                refine lv_icmp_ne (tgt := 78) hx hb dX7_turn_68 (by decide) (fun c1138 => ?_) (fun c1138 => ?_)
                · skip
                  have i1139 : iR x14_3 (0) (-2) := (iR_neL i1134 (show iR (-1) (-1) (-1) from ⟨by decide, by decide⟩) c1138 (by decide) (by decide))
                  refine lv_iload hx hb dX7_turn_78 (lv_at hl 0 rfl) ?_
                  refine lv_iconst (v := 1) hx hb dX7_turn_80 (by decide) ?_
                  refine lv_isub hx hb dX7_turn_81 ?_
                  refine lv_topi (fun z1140 ez1140 => ?_)
                  obtain rfl : z1140 = (nI (44 + 326 * j2_1)) := ez1140.trans (nI_subE (a := (45 + 326 * j2_1)) (b := 1) (q := (44 + 326 * j2_1)) (by omega))
                  refine call_v (cVt (k := 1076) (av := [.int (nI (45 + 326 * j2_1)), .int (nI (46 + 326 * j2_1)), .int (nI (44 + 326 * j2_1)), .int (nI (44 + 326 * j2_1))]) (rest := []) B hP hS (d_X7_mapsBecomeN l E ρ ρ Bt hBt M L (XT 0 0 0 0 (ρ 1084) (ρ 1087)) j2_1 (by omega) hI i1108) lk_RX7_218 (hrecv (ci := 7) B hP (hk_lt (c := 7) (show hk 1076 = 7 by decide +kernel) (by decide)) (hcc7 _ _ (show hk 1076 = 7 by decide +kernel)) rfl) rfl rfl hl.1 (Nat.le_of_ble_eq_true rfl) ⟨Nat.le_of_ble_eq_true rfl, Nat.le_of_ble_eq_true rfl⟩ ⟨Nat.le_of_ble_eq_true rfl, Nat.le_of_ble_eq_true rfl⟩ dX7_turn_82) hS (fun ρ1142 H locs q1143 hP hS => ?_)
                  have hR1144 := q1143
                  have hT := TI_back hT hR1144
                  have hI := TI_RI hT
                  have m1145 := iI_dec (m := 1) (n := 1) i1139 rfl (by decide) (by decide)
                  refine lv_iinc (v := (x14_3 + 1)) (lv' := [(3, .int (x14_3 + 1)), (4, .int (nI (45 + 326 * j2_1))), (0, .ref (E.2.1 + 1076)), (1, .int (nI j2_1)), (2, .int (nI (42 + 326 * j2_1)))]) hx hb dX7_turn_85 hl (k := 4) rfl rfl (by decide) rfl (fun ls hl => ?_)
                  refine lv_goto (tgt := 14) hx hb dX7_turn_88 (by decide) ?_
                  exact ih14 ls ρ1142 _ _ ((x14_3 + 1) : Int32) (lv_sub hl [2, 3, 4, 0] rfl) hP hS (TI_w hT (fun m a b => by omega) (fun m a b => by omega) (by omega) (by omega) (by omega)) (by omega) (iR_w (iR_add (a' := 1) (b' := -1) i1139 (show iR 1 (1) (1) from ⟨by decide, by decide⟩) (by decide) (by decide) (by decide) (by decide)) (by decide) (by decide)) (by omega) (by omega)
                · skip
                  refine lv_iload_n hx hb dX7_turn_71 rfl (lv_at hl 3 rfl) ?_
                  refine lv_bipush (v := 7) hx hb dX7_turn_72 (by decide) ?_
                  refine lv_iadd hx hb dX7_turn_74 ?_
                  refine lv_topi (fun z1146 ez1146 => ?_)
                  obtain rfl : z1146 = (nI (49 + 326 * j2_1)) := ez1146.trans (by rw [show (nI (42 + 326 * j2_1)) = nI (42 + 326 * j2_1) from rfl, show 7 = nI 7 from rfl, nI_add] <;> exact congrArg nI (by omega))
                  refine lv_goto (tgt := 82) hx hb dX7_turn_75 (by decide) ?_
                  refine call_v (cVt (k := 1076) (av := [.int (nI (45 + 326 * j2_1)), .int (nI (46 + 326 * j2_1)), .int (nI (44 + 326 * j2_1)), .int (nI (49 + 326 * j2_1))]) (rest := []) B hP hS (d_X7_mapsBecomeN l E ρ ρ Bt hBt M L (XT 0 0 0 0 (ρ 1084) (ρ 1087)) j2_1 (by omega) hI i1108) lk_RX7_218 (hrecv (ci := 7) B hP (hk_lt (c := 7) (show hk 1076 = 7 by decide +kernel) (by decide)) (hcc7 _ _ (show hk 1076 = 7 by decide +kernel)) rfl) rfl rfl hl.1 (Nat.le_of_ble_eq_true rfl) ⟨Nat.le_of_ble_eq_true rfl, Nat.le_of_ble_eq_true rfl⟩ ⟨Nat.le_of_ble_eq_true rfl, Nat.le_of_ble_eq_true rfl⟩ dX7_turn_82) hS (fun ρ1148 H locs q1149 hP hS => ?_)
                  have hR1150 := q1149
                  have hT := TI_back hT hR1150
                  have hI := TI_RI hT
                  have m1151 := iI_dec (m := 1) (n := 1) i1134 rfl (by decide) (by decide)
                  refine lv_iinc (v := (x14_3 + 1)) (lv' := [(3, .int (x14_3 + 1)), (4, .int (nI (45 + 326 * j2_1))), (0, .ref (E.2.1 + 1076)), (1, .int (nI j2_1)), (2, .int (nI (42 + 326 * j2_1)))]) hx hb dX7_turn_85 hl (k := 4) rfl rfl (by decide) rfl (fun ls hl => ?_)
                  refine lv_goto (tgt := 14) hx hb dX7_turn_88 (by decide) ?_
                  exact ih14 ls ρ1148 _ _ ((x14_3 + 1) : Int32) (lv_sub hl [2, 3, 4, 0] rfl) hP hS (TI_w hT (fun m a b => by omega) (fun m a b => by omega) (by omega) (by omega) (by omega)) (by omega) (iR_w (iR_add (a' := 0) (b' := 0) i1134 (show iR 1 (1) (1) from ⟨by decide, by decide⟩) (by decide) (by decide) (by decide) (by decide)) (by decide) (by decide)) (by omega) (by omega)
      have hT := hI
      have hI := TI_RI hT
      refine lv_iload_n hx hb dX7_turn_2 rfl (lv_at hl 1 rfl) ?_
      refine lv_iconst (v := 2) hx hb dX7_turn_3 (by decide) ?_
      refine lv_icmp_ge (tgt := 97) hx hb dX7_turn_4 (by decide) (fun c1152 => ?_) (fun c1152 => ?_)
      · skip
        have n1153 := mt (nx_lt (a := j2_1) (b := 2) (by omega) (by omega)).mpr (show ¬ (nI j2_1 < nI 2) from (Int32.not_lt.mpr c1152))
        refine lv_iconst (v := 0) hx hb dX7_turn_97 (by decide) ?_
        refine lv_istore_n (lv' := [(1, .int 0), (0, .ref (E.2.1 + 1076))]) hx hb dX7_turn_98 rfl hl (by decide) rfl (fun ls hl => ?_)
        exact b99_0 ls ρ _ _ _ 0 (lv_sub hl [1, 0] rfl) hP hS (TI_w hT (fun m a b => by omega) (fun m a b => by omega) (by omega) (by omega) (by omega)) (Nat.lt_succ_self _) (by omega) (by omega)
      · skip
        have n1154 := (nx_lt (a := j2_1) (b := 2) (by omega) (by omega)).mp (show (nI j2_1 < nI 2) from (Int32.not_le.mp c1152))
        refine lv_iload_n hx hb dX7_turn_7 rfl (lv_at hl 1 rfl) ?_
        refine call_i (cS (av := [.int (nI j2_1)]) (rest := []) B hP hS (d_X7_netAt l E ρ ρ Bt hBt M L (XT 0 0 0 0 (ρ 1084) (ρ 1087)) j2_1 (by omega) (by omega) hI) lk_RX7_75 rfl rfl hl.1 (Nat.le_of_ble_eq_true rfl) ⟨Nat.le_of_ble_eq_true rfl, Nat.le_of_ble_eq_true rfl⟩ ⟨Nat.le_of_ble_eq_true rfl, Nat.le_of_ble_eq_true rfl⟩ dX7_turn_8) hS (fun r1155 ρ1156 H locs q1157 hP hS => ?_)
        obtain ⟨rfl, -, q1157⟩ := q1157
        obtain rfl : r1155 = nI (42 + 326 * j2_1) := q1157.trans (congrArg nI (by omega))
        refine lv_istore_n (lv' := [(2, .int (nI (42 + 326 * j2_1))), (0, .ref (E.2.1 + 1076)), (1, .int (nI j2_1))]) hx hb dX7_turn_11 rfl hl (by decide) rfl (fun ls hl => ?_)
        refine lv_iconst (v := (-1)) hx hb dX7_turn_12 (by decide) ?_
        refine lv_istore_n (lv' := [(3, .int (-1)), (2, .int (nI (42 + 326 * j2_1))), (0, .ref (E.2.1 + 1076)), (1, .int (nI j2_1))]) hx hb dX7_turn_13 rfl hl (by decide) rfl (fun ls hl => ?_)
        exact b14_0 ls ρ _ _ _ ((-1) : Int32) (lv_sub hl [2, 3, 1, 0] rfl) hP hS (TI_w hT (fun m a b => by omega) (fun m a b => by omega) (by omega) (by omega) (by omega)) (Nat.lt_succ_self _) (iR_w (show iR (-1) (-1) (-1) from ⟨by decide, by decide⟩) (by decide) (by decide)) (by omega) (by omega)
  refine lv_iconst (v := 0) hx hb dX7_turn_0 (by decide) ?_
  refine lv_istore_n (lv' := [(1, .int 0), (0, .ref (E.2.1 + 1076))]) hx hb dX7_turn_1 rfl hl (by decide) rfl (fun ls hl => ?_)
  exact b2_0 ls ρ _ _ _ 0 (lv_sub hl [1, 0] rfl) hP hS (TI_w hT (fun m a b => by omega) (fun m a b => by omega) (by omega) (by omega) (by omega)) (Nat.lt_succ_self _) (by omega) (by omega)

theorem lk_RX7_236 : LkV RX7 236 RX7 yX7_turn cX7_turn 5 none 0 := ⟨⟨mw_1261, mw_1263, mw_23, mw_59, mw_1264⟩, by decide +kernel⟩
set_option maxHeartbeats 4000000 in
set_option maxRecDepth 100000 in
theorem d_X7_turnsBy (l : Launch) (E : hE) (ρ r : Nat → Nat → Int32) (Bt : Nat) (hBt : Bt ≤ 1000000) (M : Nat → Int32) (L : Nat → Nat) (na1 : Nat) (lna1 : 0 ≤ na1) (una1 : na1 ≤ 400) (hI : TI r Bt M L 0 0 0 0 0 2 0 ρ) (hB2 : Bt + 2 * na1 ≤ 1000000) : Met l yX7_turnsBy (.code yX7_turnsBy cX7_turnsBy 3 none :: gw_all) (rmk 10 400) (cPre E ρ [.ref (E.2.1 + 1076), .int (nI na1)]) (cV E (fun ρ1 => TI r (Bt + 2 * na1) M L 0 0 0 0 0 2 0 ρ1)) 0 0 (hA E) := by
  refine ent (own := RX7) (by decide) rfl (Nat.le_of_ble_eq_true rfl) ?_
  intro p e s m below meth c ls B hr hlk hl hP hS
  have hx := B.1.1
  have hb := B.1.2.1
  have hown := B.1.2.2.2.1
  have hts := B.1.2.2.2.2
  have hl : lv_has ls 3 [(0, .ref (E.2.1 + 1076)), (1, .int (nI na1))] := hl
  have hT := hI
  have hI := TI_RI hT
  have b12_0 : ∀ (ls : Array Slot) (ρ : Nat → Nat → Int32) (H : Heap) (locs : List Loc) (d12 : Nat) (j12_2 : Nat), lv_has ls 3 [(0, .ref (E.2.1 + 1076)), (1, .int (nI na1)), (2, .int (nI j12_2))] → WP E ρ H → va_S (hA E) s.heap H locs → TI r (Bt + 2 * j12_2) M L 0 0 0 0 0 2 0 ρ → 513 - j12_2 < d12 → 0 ≤ j12_2 → j12_2 ≤ 512 → 0 ≤ na1 → na1 ≤ 400 → W p l e (rmk 10 400) s m ([.ref (E.2.1 + 1076), .int (nI na1)] : List Value).toArray below meth c H locs 0 0 (MQ below (cV E (fun ρ1 => TI r (Bt + 2 * na1) M L 0 0 0 0 0 2 0 ρ1)) ([.ref (E.2.1 + 1076), .int (nI na1)] : List Value).toArray s 0 0 (hA E)) (F0 m 12 ls []) := by
    intro ls ρ H locs d12
    induction d12 generalizing ls ρ H locs with
    | zero => intro j12_2 hl hP hS hI hd12 lj12_2 uj12_2 tlna1 tuna1; exact absurd hd12 (Nat.not_lt_zero _)
    | succ d12 ih12 =>
      intro j12_2 hl hP hS hI hd12 lj12_2 uj12_2 tlna1 tuna1
      have hT := hI
      have hI := TI_RI hT
      refine lv_iload_n hx hb dX7_turnsBy_12 rfl (lv_at hl 2 rfl) ?_
      refine lv_iload_n hx hb dX7_turnsBy_13 rfl (lv_at hl 1 rfl) ?_
      refine lv_icmp_ge (tgt := 27) hx hb dX7_turnsBy_14 (by decide) (fun c125 => ?_) (fun c125 => ?_)
      · skip
        have n126 := mt (nx_lt (a := j12_2) (b := na1) (by omega) (by omega)).mpr (show ¬ (nI j12_2 < nI na1) from (Int32.not_lt.mpr c125))
        exact ret_v B hr hlk hP hS dX7_turnsBy_27 (TI_B (by omega) (TI_w hT (fun m a b => by omega) (fun m a b => by omega) (by omega) (by omega) (by omega)))
      · skip
        have n127 := (nx_lt (a := j12_2) (b := na1) (by omega) (by omega)).mp (show (nI j12_2 < nI na1) from (Int32.not_le.mp c125))
        refine lv_aload_n hx hb dX7_turnsBy_17 rfl (lv_at hl 0 rfl) ?_
        refine call_v (cVt (k := 1076) (av := []) (rest := []) B hP hS (d_X7_turn l E ρ r (Bt + 2 * j12_2) (by omega) M L (TI_w hT (fun m a b => by omega) (fun m a b => by omega) (by omega) (by omega) (by omega))) lk_RX7_236 (hrecv (ci := 7) B hP (hk_lt (c := 7) (show hk 1076 = 7 by decide +kernel) (by decide)) (hcc7 _ _ (show hk 1076 = 7 by decide +kernel)) rfl) rfl rfl hl.1 (Nat.le_of_ble_eq_true rfl) ⟨Nat.le_of_ble_eq_true rfl, Nat.le_of_ble_eq_true rfl⟩ ⟨Nat.le_of_ble_eq_true rfl, Nat.le_of_ble_eq_true rfl⟩ dX7_turnsBy_18) hS (fun ρ129 H locs q130 hP hS => ?_)
        have hT := q130
        have hI := TI_RI hT
        refine lv_iinc (v := (nI (1 + j12_2))) (lv' := [(2, .int (nI (1 + j12_2))), (0, .ref (E.2.1 + 1076)), (1, .int (nI na1))]) hx hb dX7_turnsBy_21 hl (k := 2) rfl (show nI j12_2 + nI 1 = _ from (nI_add _ _).trans (congrArg nI (by omega))) (by decide) rfl (fun ls hl => ?_)
        refine lv_goto (tgt := 12) hx hb dX7_turnsBy_24 (by decide) ?_
        exact ih12 ls ρ129 _ _ (1 + j12_2) (lv_sub hl [1, 2, 0] rfl) hP hS (TI_B (by omega) (TI_w hT (fun m a b => by omega) (fun m a b => by omega) (by omega) (by omega) (by omega))) (by omega) (by omega) (by omega) (by omega) (by omega)
  refine lv_aload_n hx hb dX7_turnsBy_0 rfl (lv_at hl 0 rfl) ?_
  refine lv_iconst (v := 0) hx hb dX7_turnsBy_1 (by decide) ?_
  refine put7 B hP hS (show hk 1076 = 7 by decide +kernel) 16 (by decide) mw_1043 rfl rfl rfl (fs7_16 E 1076 _ _) dX7_turnsBy_2 (fun H locs hP hS => ?_)
  obtain ⟨ρ131, e132⟩ : ∃ z, z = up ρ 1076 16 0 := ⟨_, rfl⟩
  rw [← e132] at hP
  have hT : TI r Bt M L 0 0 0 0 0 2 0 ρ131 := by rw [e132]; exact TI_back hT (RI_76 hI (by decide))
  have hI := TI_RI hT
  refine lv_aload_n hx hb dX7_turnsBy_5 rfl (lv_at hl 0 rfl) ?_
  refine lv_iconst (v := 0) hx hb dX7_turnsBy_6 (by decide) ?_
  refine put7 B hP hS (show hk 1076 = 7 by decide +kernel) 17 (by decide) mw_1044 rfl rfl rfl (fs7_17 E 1076 _ _) dX7_turnsBy_7 (fun H locs hP hS => ?_)
  obtain ⟨ρ133, e134⟩ : ∃ z, z = up ρ131 1076 17 0 := ⟨_, rfl⟩
  rw [← e134] at hP
  have hT : TI r Bt M L 0 0 0 0 0 2 0 ρ133 := by rw [e134]; exact TI_back hT (RI_76 hI (by decide))
  have hI := TI_RI hT
  refine lv_iconst (v := 0) hx hb dX7_turnsBy_10 (by decide) ?_
  refine lv_istore_n (lv' := [(2, .int 0), (0, .ref (E.2.1 + 1076)), (1, .int (nI na1))]) hx hb dX7_turnsBy_11 rfl hl (by decide) rfl (fun ls hl => ?_)
  exact b12_0 ls ρ133 _ _ _ 0 (lv_sub hl [1, 2, 0] rfl) hP hS (TI_B (by omega) (TI_w hT (fun m a b => by omega) (fun m a b => by omega) (by omega) (by omega) (by omega))) (Nat.lt_succ_self _) (by omega) (by omega) (by omega) (by omega)
