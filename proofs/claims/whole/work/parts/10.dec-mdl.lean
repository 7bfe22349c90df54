theorem d_Mdl_init_0 : decode b_Mdl_init 0 = .ok (.aload_n 0, 1) := by decide +kernel
theorem d_Mdl_init_1 : decode b_Mdl_init 1 = .ok (.invokespecial 1, 3) := by decide +kernel
theorem d_Mdl_init_4 : decode b_Mdl_init 4 = .ok (.aload_n 0, 1) := by decide +kernel
theorem d_Mdl_init_5 : decode b_Mdl_init 5 = .ok (.bipush 6, 2) := by decide +kernel
theorem d_Mdl_init_7 : decode b_Mdl_init 7 = .ok (.newarray .boolean, 2) := by decide +kernel
theorem d_Mdl_init_9 : decode b_Mdl_init 9 = .ok (.putfield 7, 3) := by decide +kernel
theorem d_Mdl_init_12 : decode b_Mdl_init 12 = .ok (.aload_n 0, 1) := by decide +kernel
theorem d_Mdl_init_13 : decode b_Mdl_init 13 = .ok (.bipush 24, 2) := by decide +kernel
theorem d_Mdl_init_15 : decode b_Mdl_init 15 = .ok (.newarray .int, 2) := by decide +kernel
theorem d_Mdl_init_17 : decode b_Mdl_init 17 = .ok (.putfield 13, 3) := by decide +kernel
theorem d_Mdl_init_20 : decode b_Mdl_init 20 = .ok (.aload_n 0, 1) := by decide +kernel
theorem d_Mdl_init_21 : decode b_Mdl_init 21 = .ok (.bipush 6, 2) := by decide +kernel
theorem d_Mdl_init_23 : decode b_Mdl_init 23 = .ok (.newarray .int, 2) := by decide +kernel
theorem d_Mdl_init_25 : decode b_Mdl_init 25 = .ok (.putfield 17, 3) := by decide +kernel
theorem d_Mdl_init_28 : decode b_Mdl_init 28 = .ok (.aload_n 0, 1) := by decide +kernel
theorem d_Mdl_init_29 : decode b_Mdl_init 29 = .ok (.bipush 36, 2) := by decide +kernel
theorem d_Mdl_init_31 : decode b_Mdl_init 31 = .ok (.newarray .int, 2) := by decide +kernel
theorem d_Mdl_init_33 : decode b_Mdl_init 33 = .ok (.putfield 20, 3) := by decide +kernel
theorem d_Mdl_init_36 : decode b_Mdl_init 36 = .ok (.aload_n 0, 1) := by decide +kernel
theorem d_Mdl_init_37 : decode b_Mdl_init 37 = .ok (.bipush 36, 2) := by decide +kernel
theorem d_Mdl_init_39 : decode b_Mdl_init 39 = .ok (.newarray .int, 2) := by decide +kernel
theorem d_Mdl_init_41 : decode b_Mdl_init 41 = .ok (.putfield 23, 3) := by decide +kernel
theorem d_Mdl_init_44 : decode b_Mdl_init 44 = .ok (.aload_n 0, 1) := by decide +kernel
theorem d_Mdl_init_45 : decode b_Mdl_init 45 = .ok (.sipush 144, 3) := by decide +kernel
theorem d_Mdl_init_48 : decode b_Mdl_init 48 = .ok (.newarray .int, 2) := by decide +kernel
theorem d_Mdl_init_50 : decode b_Mdl_init 50 = .ok (.putfield 26, 3) := by decide +kernel
theorem d_Mdl_init_53 : decode b_Mdl_init 53 = .ok (.aload_n 0, 1) := by decide +kernel
theorem d_Mdl_init_54 : decode b_Mdl_init 54 = .ok (.sipush 144, 3) := by decide +kernel
theorem d_Mdl_init_57 : decode b_Mdl_init 57 = .ok (.newarray .int, 2) := by decide +kernel
theorem d_Mdl_init_59 : decode b_Mdl_init 59 = .ok (.putfield 29, 3) := by decide +kernel
theorem d_Mdl_init_62 : decode b_Mdl_init 62 = .ok (.aload_n 0, 1) := by decide +kernel
theorem d_Mdl_init_63 : decode b_Mdl_init 63 = .ok (.sipush 144, 3) := by decide +kernel
theorem d_Mdl_init_66 : decode b_Mdl_init 66 = .ok (.newarray .int, 2) := by decide +kernel
theorem d_Mdl_init_68 : decode b_Mdl_init 68 = .ok (.putfield 32, 3) := by decide +kernel
theorem d_Mdl_init_71 : decode b_Mdl_init 71 = .ok (.aload_n 0, 1) := by decide +kernel
theorem d_Mdl_init_72 : decode b_Mdl_init 72 = .ok (.bipush 36, 2) := by decide +kernel
theorem d_Mdl_init_74 : decode b_Mdl_init 74 = .ok (.newarray .int, 2) := by decide +kernel
theorem d_Mdl_init_76 : decode b_Mdl_init 76 = .ok (.putfield 35, 3) := by decide +kernel
theorem d_Mdl_init_79 : decode b_Mdl_init 79 = .ok (.aload_n 0, 1) := by decide +kernel
theorem d_Mdl_init_80 : decode b_Mdl_init 80 = .ok (.bipush 36, 2) := by decide +kernel
theorem d_Mdl_init_82 : decode b_Mdl_init 82 = .ok (.newarray .int, 2) := by decide +kernel
theorem d_Mdl_init_84 : decode b_Mdl_init 84 = .ok (.putfield 38, 3) := by decide +kernel
theorem d_Mdl_init_87 : decode b_Mdl_init 87 = .ok (.aload_n 0, 1) := by decide +kernel
theorem d_Mdl_init_88 : decode b_Mdl_init 88 = .ok (.bipush 36, 2) := by decide +kernel
theorem d_Mdl_init_90 : decode b_Mdl_init 90 = .ok (.newarray .int, 2) := by decide +kernel
theorem d_Mdl_init_92 : decode b_Mdl_init 92 = .ok (.putfield 41, 3) := by decide +kernel
theorem d_Mdl_init_95 : decode b_Mdl_init 95 = .ok (.aload_n 0, 1) := by decide +kernel
theorem d_Mdl_init_96 : decode b_Mdl_init 96 = .ok (.bipush 6, 2) := by decide +kernel
theorem d_Mdl_init_98 : decode b_Mdl_init 98 = .ok (.newarray .boolean, 2) := by decide +kernel
theorem d_Mdl_init_100 : decode b_Mdl_init 100 = .ok (.putfield 44, 3) := by decide +kernel
theorem d_Mdl_init_103 : decode b_Mdl_init 103 = .ok (.aload_n 0, 1) := by decide +kernel
theorem d_Mdl_init_104 : decode b_Mdl_init 104 = .ok (.bipush 6, 2) := by decide +kernel
theorem d_Mdl_init_106 : decode b_Mdl_init 106 = .ok (.newarray .boolean, 2) := by decide +kernel
theorem d_Mdl_init_108 : decode b_Mdl_init 108 = .ok (.putfield 47, 3) := by decide +kernel
theorem d_Mdl_init_111 : decode b_Mdl_init 111 = .ok (.aload_n 0, 1) := by decide +kernel
theorem d_Mdl_init_112 : decode b_Mdl_init 112 = .ok (.bipush 6, 2) := by decide +kernel
theorem d_Mdl_init_114 : decode b_Mdl_init 114 = .ok (.newarray .int, 2) := by decide +kernel
theorem d_Mdl_init_116 : decode b_Mdl_init 116 = .ok (.putfield 50, 3) := by decide +kernel
theorem d_Mdl_init_119 : decode b_Mdl_init 119 = .ok (.aload_n 0, 1) := by decide +kernel
theorem d_Mdl_init_120 : decode b_Mdl_init 120 = .ok (.bipush 6, 2) := by decide +kernel
theorem d_Mdl_init_122 : decode b_Mdl_init 122 = .ok (.newarray .int, 2) := by decide +kernel
theorem d_Mdl_init_124 : decode b_Mdl_init 124 = .ok (.putfield 53, 3) := by decide +kernel
theorem d_Mdl_init_127 : decode b_Mdl_init 127 = .ok (.aload_n 0, 1) := by decide +kernel
theorem d_Mdl_init_128 : decode b_Mdl_init 128 = .ok (.bipush 6, 2) := by decide +kernel
theorem d_Mdl_init_130 : decode b_Mdl_init 130 = .ok (.newarray .int, 2) := by decide +kernel
theorem d_Mdl_init_132 : decode b_Mdl_init 132 = .ok (.putfield 56, 3) := by decide +kernel
theorem d_Mdl_init_135 : decode b_Mdl_init 135 = .ok (.aload_n 0, 1) := by decide +kernel
theorem d_Mdl_init_136 : decode b_Mdl_init 136 = .ok (.bipush 6, 2) := by decide +kernel
theorem d_Mdl_init_138 : decode b_Mdl_init 138 = .ok (.newarray .boolean, 2) := by decide +kernel
theorem d_Mdl_init_140 : decode b_Mdl_init 140 = .ok (.putfield 59, 3) := by decide +kernel
theorem d_Mdl_init_143 : decode b_Mdl_init 143 = .ok (.aload_n 0, 1) := by decide +kernel
theorem d_Mdl_init_144 : decode b_Mdl_init 144 = .ok (.iconst 4, 1) := by decide +kernel
theorem d_Mdl_init_145 : decode b_Mdl_init 145 = .ok (.newarray .int, 2) := by decide +kernel
theorem d_Mdl_init_147 : decode b_Mdl_init 147 = .ok (.dup, 1) := by decide +kernel
theorem d_Mdl_init_148 : decode b_Mdl_init 148 = .ok (.iconst 0, 1) := by decide +kernel
theorem d_Mdl_init_149 : decode b_Mdl_init 149 = .ok (.iconst (-1), 1) := by decide +kernel
theorem d_Mdl_init_150 : decode b_Mdl_init 150 = .ok (.iastore, 1) := by decide +kernel
theorem d_Mdl_init_151 : decode b_Mdl_init 151 = .ok (.dup, 1) := by decide +kernel
theorem d_Mdl_init_152 : decode b_Mdl_init 152 = .ok (.iconst 1, 1) := by decide +kernel
theorem d_Mdl_init_153 : decode b_Mdl_init 153 = .ok (.iconst (-1), 1) := by decide +kernel
theorem d_Mdl_init_154 : decode b_Mdl_init 154 = .ok (.iastore, 1) := by decide +kernel
theorem d_Mdl_init_155 : decode b_Mdl_init 155 = .ok (.dup, 1) := by decide +kernel
theorem d_Mdl_init_156 : decode b_Mdl_init 156 = .ok (.iconst 2, 1) := by decide +kernel
theorem d_Mdl_init_157 : decode b_Mdl_init 157 = .ok (.iconst (-1), 1) := by decide +kernel
theorem d_Mdl_init_158 : decode b_Mdl_init 158 = .ok (.iastore, 1) := by decide +kernel
theorem d_Mdl_init_159 : decode b_Mdl_init 159 = .ok (.dup, 1) := by decide +kernel
theorem d_Mdl_init_160 : decode b_Mdl_init 160 = .ok (.iconst 3, 1) := by decide +kernel
theorem d_Mdl_init_161 : decode b_Mdl_init 161 = .ok (.iconst (-1), 1) := by decide +kernel
theorem d_Mdl_init_162 : decode b_Mdl_init 162 = .ok (.iastore, 1) := by decide +kernel
theorem d_Mdl_init_163 : decode b_Mdl_init 163 = .ok (.putfield 62, 3) := by decide +kernel
theorem d_Mdl_init_166 : decode b_Mdl_init 166 = .ok (.aload_n 0, 1) := by decide +kernel
theorem d_Mdl_init_167 : decode b_Mdl_init 167 = .ok (.iconst 4, 1) := by decide +kernel
theorem d_Mdl_init_168 : decode b_Mdl_init 168 = .ok (.newarray .int, 2) := by decide +kernel
theorem d_Mdl_init_170 : decode b_Mdl_init 170 = .ok (.putfield 65, 3) := by decide +kernel
theorem d_Mdl_init_173 : decode b_Mdl_init 173 = .ok (.aload_n 0, 1) := by decide +kernel
theorem d_Mdl_init_174 : decode b_Mdl_init 174 = .ok (.iconst 4, 1) := by decide +kernel
theorem d_Mdl_init_175 : decode b_Mdl_init 175 = .ok (.newarray .int, 2) := by decide +kernel
theorem d_Mdl_init_177 : decode b_Mdl_init 177 = .ok (.putfield 68, 3) := by decide +kernel
theorem d_Mdl_init_180 : decode b_Mdl_init 180 = .ok (.aload_n 0, 1) := by decide +kernel
theorem d_Mdl_init_181 : decode b_Mdl_init 181 = .ok (.iconst 4, 1) := by decide +kernel
theorem d_Mdl_init_182 : decode b_Mdl_init 182 = .ok (.newarray .int, 2) := by decide +kernel
theorem d_Mdl_init_184 : decode b_Mdl_init 184 = .ok (.putfield 71, 3) := by decide +kernel
theorem d_Mdl_init_187 : decode b_Mdl_init 187 = .ok (.aload_n 0, 1) := by decide +kernel
theorem d_Mdl_init_188 : decode b_Mdl_init 188 = .ok (.bipush 30, 2) := by decide +kernel
theorem d_Mdl_init_190 : decode b_Mdl_init 190 = .ok (.newarray .int, 2) := by decide +kernel
theorem d_Mdl_init_192 : decode b_Mdl_init 192 = .ok (.putfield 74, 3) := by decide +kernel
theorem d_Mdl_init_195 : decode b_Mdl_init 195 = .ok (.aload_n 0, 1) := by decide +kernel
theorem d_Mdl_init_196 : decode b_Mdl_init 196 = .ok (.bipush 30, 2) := by decide +kernel
theorem d_Mdl_init_198 : decode b_Mdl_init 198 = .ok (.newarray .int, 2) := by decide +kernel
theorem d_Mdl_init_200 : decode b_Mdl_init 200 = .ok (.putfield 77, 3) := by decide +kernel
theorem d_Mdl_init_203 : decode b_Mdl_init 203 = .ok (.aload_n 0, 1) := by decide +kernel
theorem d_Mdl_init_204 : decode b_Mdl_init 204 = .ok (.bipush 30, 2) := by decide +kernel
theorem d_Mdl_init_206 : decode b_Mdl_init 206 = .ok (.newarray .int, 2) := by decide +kernel
theorem d_Mdl_init_208 : decode b_Mdl_init 208 = .ok (.putfield 80, 3) := by decide +kernel
theorem d_Mdl_init_211 : decode b_Mdl_init 211 = .ok (.aload_n 0, 1) := by decide +kernel
theorem d_Mdl_init_212 : decode b_Mdl_init 212 = .ok (.bipush 6, 2) := by decide +kernel
theorem d_Mdl_init_214 : decode b_Mdl_init 214 = .ok (.newarray .int, 2) := by decide +kernel
theorem d_Mdl_init_216 : decode b_Mdl_init 216 = .ok (.dup, 1) := by decide +kernel
theorem d_Mdl_init_217 : decode b_Mdl_init 217 = .ok (.iconst 0, 1) := by decide +kernel
theorem d_Mdl_init_218 : decode b_Mdl_init 218 = .ok (.iconst (-1), 1) := by decide +kernel
theorem d_Mdl_init_219 : decode b_Mdl_init 219 = .ok (.iastore, 1) := by decide +kernel
theorem d_Mdl_init_220 : decode b_Mdl_init 220 = .ok (.dup, 1) := by decide +kernel
theorem d_Mdl_init_221 : decode b_Mdl_init 221 = .ok (.iconst 1, 1) := by decide +kernel
theorem d_Mdl_init_222 : decode b_Mdl_init 222 = .ok (.iconst (-1), 1) := by decide +kernel
theorem d_Mdl_init_223 : decode b_Mdl_init 223 = .ok (.iastore, 1) := by decide +kernel
theorem d_Mdl_init_224 : decode b_Mdl_init 224 = .ok (.dup, 1) := by decide +kernel
theorem d_Mdl_init_225 : decode b_Mdl_init 225 = .ok (.iconst 2, 1) := by decide +kernel
theorem d_Mdl_init_226 : decode b_Mdl_init 226 = .ok (.iconst (-1), 1) := by decide +kernel
theorem d_Mdl_init_227 : decode b_Mdl_init 227 = .ok (.iastore, 1) := by decide +kernel
theorem d_Mdl_init_228 : decode b_Mdl_init 228 = .ok (.dup, 1) := by decide +kernel
theorem d_Mdl_init_229 : decode b_Mdl_init 229 = .ok (.iconst 3, 1) := by decide +kernel
theorem d_Mdl_init_230 : decode b_Mdl_init 230 = .ok (.iconst (-1), 1) := by decide +kernel
theorem d_Mdl_init_231 : decode b_Mdl_init 231 = .ok (.iastore, 1) := by decide +kernel
theorem d_Mdl_init_232 : decode b_Mdl_init 232 = .ok (.dup, 1) := by decide +kernel
theorem d_Mdl_init_233 : decode b_Mdl_init 233 = .ok (.iconst 4, 1) := by decide +kernel
theorem d_Mdl_init_234 : decode b_Mdl_init 234 = .ok (.iconst (-1), 1) := by decide +kernel
theorem d_Mdl_init_235 : decode b_Mdl_init 235 = .ok (.iastore, 1) := by decide +kernel
theorem d_Mdl_init_236 : decode b_Mdl_init 236 = .ok (.dup, 1) := by decide +kernel
theorem d_Mdl_init_237 : decode b_Mdl_init 237 = .ok (.iconst 5, 1) := by decide +kernel
theorem d_Mdl_init_238 : decode b_Mdl_init 238 = .ok (.iconst (-1), 1) := by decide +kernel
theorem d_Mdl_init_239 : decode b_Mdl_init 239 = .ok (.iastore, 1) := by decide +kernel
theorem d_Mdl_init_240 : decode b_Mdl_init 240 = .ok (.putfield 83, 3) := by decide +kernel
theorem d_Mdl_init_243 : decode b_Mdl_init 243 = .ok (.aload_n 0, 1) := by decide +kernel
theorem d_Mdl_init_244 : decode b_Mdl_init 244 = .ok (.bipush 6, 2) := by decide +kernel
theorem d_Mdl_init_246 : decode b_Mdl_init 246 = .ok (.newarray .int, 2) := by decide +kernel
theorem d_Mdl_init_248 : decode b_Mdl_init 248 = .ok (.putfield 86, 3) := by decide +kernel
theorem d_Mdl_init_251 : decode b_Mdl_init 251 = .ok (.aload_n 0, 1) := by decide +kernel
theorem d_Mdl_init_252 : decode b_Mdl_init 252 = .ok (.bipush 24, 2) := by decide +kernel
theorem d_Mdl_init_254 : decode b_Mdl_init 254 = .ok (.newarray .int, 2) := by decide +kernel
theorem d_Mdl_init_256 : decode b_Mdl_init 256 = .ok (.putfield 89, 3) := by decide +kernel
theorem d_Mdl_init_259 : decode b_Mdl_init 259 = .ok (.aload_n 0, 1) := by decide +kernel
theorem d_Mdl_init_260 : decode b_Mdl_init 260 = .ok (.bipush 24, 2) := by decide +kernel
theorem d_Mdl_init_262 : decode b_Mdl_init 262 = .ok (.newarray .long, 2) := by decide +kernel
theorem d_Mdl_init_264 : decode b_Mdl_init 264 = .ok (.putfield 92, 3) := by decide +kernel
theorem d_Mdl_init_267 : decode b_Mdl_init 267 = .ok (.aload_n 0, 1) := by decide +kernel
theorem d_Mdl_init_268 : decode b_Mdl_init 268 = .ok (.bipush 24, 2) := by decide +kernel
theorem d_Mdl_init_270 : decode b_Mdl_init 270 = .ok (.newarray .long, 2) := by decide +kernel
theorem d_Mdl_init_272 : decode b_Mdl_init 272 = .ok (.putfield 96, 3) := by decide +kernel
theorem d_Mdl_init_275 : decode b_Mdl_init 275 = .ok (.aload_n 0, 1) := by decide +kernel
theorem d_Mdl_init_276 : decode b_Mdl_init 276 = .ok (.bipush 24, 2) := by decide +kernel
theorem d_Mdl_init_278 : decode b_Mdl_init 278 = .ok (.newarray .int, 2) := by decide +kernel
theorem d_Mdl_init_280 : decode b_Mdl_init 280 = .ok (.putfield 99, 3) := by decide +kernel
theorem d_Mdl_init_283 : decode b_Mdl_init 283 = .ok (.iconst 0, 1) := by decide +kernel
theorem d_Mdl_init_284 : decode b_Mdl_init 284 = .ok (.istore_n 1, 1) := by decide +kernel
theorem d_Mdl_init_285 : decode b_Mdl_init 285 = .ok (.iload_n 1, 1) := by decide +kernel
theorem d_Mdl_init_286 : decode b_Mdl_init 286 = .ok (.bipush 36, 2) := by decide +kernel
theorem d_Mdl_init_288 : decode b_Mdl_init 288 = .ok (.if_icmp .ge 16, 3) := by decide +kernel
theorem d_Mdl_init_291 : decode b_Mdl_init 291 = .ok (.aload_n 0, 1) := by decide +kernel
theorem d_Mdl_init_292 : decode b_Mdl_init 292 = .ok (.getfield 35, 3) := by decide +kernel
theorem d_Mdl_init_295 : decode b_Mdl_init 295 = .ok (.iload_n 1, 1) := by decide +kernel
theorem d_Mdl_init_296 : decode b_Mdl_init 296 = .ok (.iconst (-1), 1) := by decide +kernel
theorem d_Mdl_init_297 : decode b_Mdl_init 297 = .ok (.iastore, 1) := by decide +kernel
theorem d_Mdl_init_298 : decode b_Mdl_init 298 = .ok (.iinc 1 1, 3) := by decide +kernel
theorem d_Mdl_init_301 : decode b_Mdl_init 301 = .ok (.goto (-16), 3) := by decide +kernel
theorem d_Mdl_init_304 : decode b_Mdl_init 304 = .ok (.return_, 1) := by decide +kernel
theorem d_Mdl_thrown_0 : decode b_Mdl_thrown 0 = .ok (.aload_n 0, 1) := by decide +kernel
theorem d_Mdl_thrown_1 : decode b_Mdl_thrown 1 = .ok (.getfield 102, 3) := by decide +kernel
theorem d_Mdl_thrown_4 : decode b_Mdl_thrown 4 = .ok (.ireturn, 1) := by decide +kernel
theorem d_Mdl_join_0 : decode b_Mdl_join 0 = .ok (.aload_n 0, 1) := by decide +kernel
theorem d_Mdl_join_1 : decode b_Mdl_join 1 = .ok (.iconst 0, 1) := by decide +kernel
theorem d_Mdl_join_2 : decode b_Mdl_join 2 = .ok (.putfield 102, 3) := by decide +kernel
theorem d_Mdl_join_5 : decode b_Mdl_join 5 = .ok (.iload_n 1, 1) := by decide +kernel
theorem d_Mdl_join_6 : decode b_Mdl_join 6 = .ok (.iconst 0, 1) := by decide +kernel
theorem d_Mdl_join_7 : decode b_Mdl_join 7 = .ok (.iconst 5, 1) := by decide +kernel
theorem d_Mdl_join_8 : decode b_Mdl_join 8 = .ok (.invokestatic 106, 3) := by decide +kernel
theorem d_Mdl_join_11 : decode b_Mdl_join 11 = .ok (.ifCond .ne 9, 3) := by decide +kernel
theorem d_Mdl_join_14 : decode b_Mdl_join 14 = .ok (.aload_n 0, 1) := by decide +kernel
theorem d_Mdl_join_15 : decode b_Mdl_join 15 = .ok (.iconst 1, 1) := by decide +kernel
theorem d_Mdl_join_16 : decode b_Mdl_join 16 = .ok (.invokevirtual 110, 3) := by decide +kernel
theorem d_Mdl_join_19 : decode b_Mdl_join 19 = .ok (.ireturn, 1) := by decide +kernel
theorem d_Mdl_join_20 : decode b_Mdl_join 20 = .ok (.aload_n 0, 1) := by decide +kernel
theorem d_Mdl_join_21 : decode b_Mdl_join 21 = .ok (.getfield 7, 3) := by decide +kernel
theorem d_Mdl_join_24 : decode b_Mdl_join 24 = .ok (.iload_n 1, 1) := by decide +kernel
theorem d_Mdl_join_25 : decode b_Mdl_join 25 = .ok (.baload, 1) := by decide +kernel
theorem d_Mdl_join_26 : decode b_Mdl_join 26 = .ok (.ifCond .eq 9, 3) := by decide +kernel
theorem d_Mdl_join_29 : decode b_Mdl_join 29 = .ok (.aload_n 0, 1) := by decide +kernel
theorem d_Mdl_join_30 : decode b_Mdl_join 30 = .ok (.iconst 2, 1) := by decide +kernel
theorem d_Mdl_join_31 : decode b_Mdl_join 31 = .ok (.invokevirtual 110, 3) := by decide +kernel
theorem d_Mdl_join_34 : decode b_Mdl_join 34 = .ok (.ireturn, 1) := by decide +kernel
theorem d_Mdl_join_35 : decode b_Mdl_join 35 = .ok (.aload_n 0, 1) := by decide +kernel
theorem d_Mdl_join_36 : decode b_Mdl_join 36 = .ok (.getfield 7, 3) := by decide +kernel
theorem d_Mdl_join_39 : decode b_Mdl_join 39 = .ok (.iload_n 1, 1) := by decide +kernel
theorem d_Mdl_join_40 : decode b_Mdl_join 40 = .ok (.iconst 1, 1) := by decide +kernel
theorem d_Mdl_join_41 : decode b_Mdl_join 41 = .ok (.bastore, 1) := by decide +kernel
theorem d_Mdl_join_42 : decode b_Mdl_join 42 = .ok (.aload_n 0, 1) := by decide +kernel
theorem d_Mdl_join_43 : decode b_Mdl_join 43 = .ok (.getfield 17, 3) := by decide +kernel
theorem d_Mdl_join_46 : decode b_Mdl_join 46 = .ok (.iload_n 1, 1) := by decide +kernel
theorem d_Mdl_join_47 : decode b_Mdl_join 47 = .ok (.iconst 5, 1) := by decide +kernel
theorem d_Mdl_join_48 : decode b_Mdl_join 48 = .ok (.iastore, 1) := by decide +kernel
theorem d_Mdl_join_49 : decode b_Mdl_join 49 = .ok (.iconst 0, 1) := by decide +kernel
theorem d_Mdl_join_50 : decode b_Mdl_join 50 = .ok (.istore_n 2, 1) := by decide +kernel
theorem d_Mdl_join_51 : decode b_Mdl_join 51 = .ok (.iload_n 2, 1) := by decide +kernel
theorem d_Mdl_join_52 : decode b_Mdl_join 52 = .ok (.iconst 4, 1) := by decide +kernel
theorem d_Mdl_join_53 : decode b_Mdl_join 53 = .ok (.if_icmp .ge 20, 3) := by decide +kernel
theorem d_Mdl_join_56 : decode b_Mdl_join 56 = .ok (.aload_n 0, 1) := by decide +kernel
theorem d_Mdl_join_57 : decode b_Mdl_join 57 = .ok (.getfield 13, 3) := by decide +kernel
theorem d_Mdl_join_60 : decode b_Mdl_join 60 = .ok (.iconst 4, 1) := by decide +kernel
theorem d_Mdl_join_61 : decode b_Mdl_join 61 = .ok (.iload_n 1, 1) := by decide +kernel
theorem d_Mdl_join_62 : decode b_Mdl_join 62 = .ok (.imul, 1) := by decide +kernel
theorem d_Mdl_join_63 : decode b_Mdl_join 63 = .ok (.iload_n 2, 1) := by decide +kernel
theorem d_Mdl_join_64 : decode b_Mdl_join 64 = .ok (.iadd, 1) := by decide +kernel
theorem d_Mdl_join_65 : decode b_Mdl_join 65 = .ok (.iconst 0, 1) := by decide +kernel
theorem d_Mdl_join_66 : decode b_Mdl_join 66 = .ok (.iastore, 1) := by decide +kernel
theorem d_Mdl_join_67 : decode b_Mdl_join 67 = .ok (.iinc 2 1, 3) := by decide +kernel
theorem d_Mdl_join_70 : decode b_Mdl_join 70 = .ok (.goto (-19), 3) := by decide +kernel
theorem d_Mdl_join_73 : decode b_Mdl_join 73 = .ok (.iconst 1, 1) := by decide +kernel
theorem d_Mdl_join_74 : decode b_Mdl_join 74 = .ok (.ireturn, 1) := by decide +kernel
theorem d_Mdl_in_0 : decode b_Mdl_in 0 = .ok (.iload_n 0, 1) := by decide +kernel
theorem d_Mdl_in_1 : decode b_Mdl_in 1 = .ok (.iload_n 1, 1) := by decide +kernel
theorem d_Mdl_in_2 : decode b_Mdl_in 2 = .ok (.if_icmp .lt 12, 3) := by decide +kernel
theorem d_Mdl_in_5 : decode b_Mdl_in 5 = .ok (.iload_n 0, 1) := by decide +kernel
theorem d_Mdl_in_6 : decode b_Mdl_in 6 = .ok (.iload_n 2, 1) := by decide +kernel
theorem d_Mdl_in_7 : decode b_Mdl_in 7 = .ok (.if_icmp .gt 7, 3) := by decide +kernel
theorem d_Mdl_in_10 : decode b_Mdl_in 10 = .ok (.iconst 1, 1) := by decide +kernel
theorem d_Mdl_in_11 : decode b_Mdl_in 11 = .ok (.goto 4, 3) := by decide +kernel
theorem d_Mdl_in_14 : decode b_Mdl_in 14 = .ok (.iconst 0, 1) := by decide +kernel
theorem d_Mdl_in_15 : decode b_Mdl_in 15 = .ok (.ireturn, 1) := by decide +kernel
theorem d_Mdl_raise_0 : decode b_Mdl_raise 0 = .ok (.aload_n 0, 1) := by decide +kernel
theorem d_Mdl_raise_1 : decode b_Mdl_raise 1 = .ok (.iload_n 1, 1) := by decide +kernel
theorem d_Mdl_raise_2 : decode b_Mdl_raise 2 = .ok (.putfield 102, 3) := by decide +kernel
theorem d_Mdl_raise_5 : decode b_Mdl_raise 5 = .ok (.iconst 0, 1) := by decide +kernel
theorem d_Mdl_raise_6 : decode b_Mdl_raise 6 = .ok (.ireturn, 1) := by decide +kernel
theorem d_Mdl_leave_0 : decode b_Mdl_leave 0 = .ok (.aload_n 0, 1) := by decide +kernel
theorem d_Mdl_leave_1 : decode b_Mdl_leave 1 = .ok (.iconst 0, 1) := by decide +kernel
theorem d_Mdl_leave_2 : decode b_Mdl_leave 2 = .ok (.putfield 102, 3) := by decide +kernel
theorem d_Mdl_leave_5 : decode b_Mdl_leave 5 = .ok (.aload_n 0, 1) := by decide +kernel
theorem d_Mdl_leave_6 : decode b_Mdl_leave 6 = .ok (.iload_n 1, 1) := by decide +kernel
theorem d_Mdl_leave_7 : decode b_Mdl_leave 7 = .ok (.invokevirtual 114, 3) := by decide +kernel
theorem d_Mdl_leave_10 : decode b_Mdl_leave 10 = .ok (.ifCond .eq 9, 3) := by decide +kernel
theorem d_Mdl_leave_13 : decode b_Mdl_leave 13 = .ok (.aload_n 0, 1) := by decide +kernel
theorem d_Mdl_leave_14 : decode b_Mdl_leave 14 = .ok (.iconst 1, 1) := by decide +kernel
theorem d_Mdl_leave_15 : decode b_Mdl_leave 15 = .ok (.invokevirtual 110, 3) := by decide +kernel
theorem d_Mdl_leave_18 : decode b_Mdl_leave 18 = .ok (.ireturn, 1) := by decide +kernel
theorem d_Mdl_leave_19 : decode b_Mdl_leave 19 = .ok (.iconst 0, 1) := by decide +kernel
theorem d_Mdl_leave_20 : decode b_Mdl_leave 20 = .ok (.istore_n 2, 1) := by decide +kernel
theorem d_Mdl_leave_21 : decode b_Mdl_leave 21 = .ok (.bipush 6, 2) := by decide +kernel
theorem d_Mdl_leave_23 : decode b_Mdl_leave 23 = .ok (.iload_n 1, 1) := by decide +kernel
theorem d_Mdl_leave_24 : decode b_Mdl_leave 24 = .ok (.imul, 1) := by decide +kernel
theorem d_Mdl_leave_25 : decode b_Mdl_leave 25 = .ok (.istore_n 3, 1) := by decide +kernel
theorem d_Mdl_leave_26 : decode b_Mdl_leave 26 = .ok (.iload_n 3, 1) := by decide +kernel
theorem d_Mdl_leave_27 : decode b_Mdl_leave 27 = .ok (.bipush 6, 2) := by decide +kernel
theorem d_Mdl_leave_29 : decode b_Mdl_leave 29 = .ok (.iload_n 1, 1) := by decide +kernel
theorem d_Mdl_leave_30 : decode b_Mdl_leave 30 = .ok (.imul, 1) := by decide +kernel
theorem d_Mdl_leave_31 : decode b_Mdl_leave 31 = .ok (.bipush 6, 2) := by decide +kernel
theorem d_Mdl_leave_33 : decode b_Mdl_leave 33 = .ok (.iadd, 1) := by decide +kernel
theorem d_Mdl_leave_34 : decode b_Mdl_leave 34 = .ok (.if_icmp .ge 39, 3) := by decide +kernel
theorem d_Mdl_leave_37 : decode b_Mdl_leave 37 = .ok (.iload_n 2, 1) := by decide +kernel
theorem d_Mdl_leave_38 : decode b_Mdl_leave 38 = .ok (.aload_n 0, 1) := by decide +kernel
theorem d_Mdl_leave_39 : decode b_Mdl_leave 39 = .ok (.getfield 23, 3) := by decide +kernel
theorem d_Mdl_leave_42 : decode b_Mdl_leave 42 = .ok (.iload_n 3, 1) := by decide +kernel
theorem d_Mdl_leave_43 : decode b_Mdl_leave 43 = .ok (.iaload, 1) := by decide +kernel
theorem d_Mdl_leave_44 : decode b_Mdl_leave 44 = .ok (.iadd, 1) := by decide +kernel
theorem d_Mdl_leave_45 : decode b_Mdl_leave 45 = .ok (.istore_n 2, 1) := by decide +kernel
theorem d_Mdl_leave_46 : decode b_Mdl_leave 46 = .ok (.aload_n 0, 1) := by decide +kernel
theorem d_Mdl_leave_47 : decode b_Mdl_leave 47 = .ok (.getfield 23, 3) := by decide +kernel
theorem d_Mdl_leave_50 : decode b_Mdl_leave 50 = .ok (.iload_n 3, 1) := by decide +kernel
theorem d_Mdl_leave_51 : decode b_Mdl_leave 51 = .ok (.iconst 0, 1) := by decide +kernel
theorem d_Mdl_leave_52 : decode b_Mdl_leave 52 = .ok (.iastore, 1) := by decide +kernel
theorem d_Mdl_leave_53 : decode b_Mdl_leave 53 = .ok (.aload_n 0, 1) := by decide +kernel
theorem d_Mdl_leave_54 : decode b_Mdl_leave 54 = .ok (.getfield 20, 3) := by decide +kernel
theorem d_Mdl_leave_57 : decode b_Mdl_leave 57 = .ok (.iload_n 3, 1) := by decide +kernel
theorem d_Mdl_leave_58 : decode b_Mdl_leave 58 = .ok (.iconst 0, 1) := by decide +kernel
theorem d_Mdl_leave_59 : decode b_Mdl_leave 59 = .ok (.iastore, 1) := by decide +kernel
theorem d_Mdl_leave_60 : decode b_Mdl_leave 60 = .ok (.aload_n 0, 1) := by decide +kernel
theorem d_Mdl_leave_61 : decode b_Mdl_leave 61 = .ok (.getfield 35, 3) := by decide +kernel
theorem d_Mdl_leave_64 : decode b_Mdl_leave 64 = .ok (.iload_n 3, 1) := by decide +kernel
theorem d_Mdl_leave_65 : decode b_Mdl_leave 65 = .ok (.iconst (-1), 1) := by decide +kernel
theorem d_Mdl_leave_66 : decode b_Mdl_leave 66 = .ok (.iastore, 1) := by decide +kernel
theorem d_Mdl_leave_67 : decode b_Mdl_leave 67 = .ok (.iinc 3 1, 3) := by decide +kernel
theorem d_Mdl_leave_70 : decode b_Mdl_leave 70 = .ok (.goto (-44), 3) := by decide +kernel
theorem d_Mdl_leave_73 : decode b_Mdl_leave 73 = .ok (.iconst 0, 1) := by decide +kernel
theorem d_Mdl_leave_74 : decode b_Mdl_leave 74 = .ok (.istore_n 3, 1) := by decide +kernel
theorem d_Mdl_leave_75 : decode b_Mdl_leave 75 = .ok (.iload_n 3, 1) := by decide +kernel
theorem d_Mdl_leave_76 : decode b_Mdl_leave 76 = .ok (.iconst 4, 1) := by decide +kernel
theorem d_Mdl_leave_77 : decode b_Mdl_leave 77 = .ok (.if_icmp .ge 26, 3) := by decide +kernel
theorem d_Mdl_leave_80 : decode b_Mdl_leave 80 = .ok (.aload_n 0, 1) := by decide +kernel
theorem d_Mdl_leave_81 : decode b_Mdl_leave 81 = .ok (.getfield 62, 3) := by decide +kernel
theorem d_Mdl_leave_84 : decode b_Mdl_leave 84 = .ok (.iload_n 3, 1) := by decide +kernel
theorem d_Mdl_leave_85 : decode b_Mdl_leave 85 = .ok (.iaload, 1) := by decide +kernel
theorem d_Mdl_leave_86 : decode b_Mdl_leave 86 = .ok (.iload_n 1, 1) := by decide +kernel
theorem d_Mdl_leave_87 : decode b_Mdl_leave 87 = .ok (.if_icmp .ne 10, 3) := by decide +kernel
theorem d_Mdl_leave_90 : decode b_Mdl_leave 90 = .ok (.aload_n 0, 1) := by decide +kernel
theorem d_Mdl_leave_91 : decode b_Mdl_leave 91 = .ok (.getfield 62, 3) := by decide +kernel
theorem d_Mdl_leave_94 : decode b_Mdl_leave 94 = .ok (.iload_n 3, 1) := by decide +kernel
theorem d_Mdl_leave_95 : decode b_Mdl_leave 95 = .ok (.iconst (-1), 1) := by decide +kernel
theorem d_Mdl_leave_96 : decode b_Mdl_leave 96 = .ok (.iastore, 1) := by decide +kernel
theorem d_Mdl_leave_97 : decode b_Mdl_leave 97 = .ok (.iinc 3 1, 3) := by decide +kernel
theorem d_Mdl_leave_100 : decode b_Mdl_leave 100 = .ok (.goto (-25), 3) := by decide +kernel
theorem d_Mdl_leave_103 : decode b_Mdl_leave 103 = .ok (.aload_n 0, 1) := by decide +kernel
theorem d_Mdl_leave_104 : decode b_Mdl_leave 104 = .ok (.getfield 7, 3) := by decide +kernel
theorem d_Mdl_leave_107 : decode b_Mdl_leave 107 = .ok (.iload_n 1, 1) := by decide +kernel
theorem d_Mdl_leave_108 : decode b_Mdl_leave 108 = .ok (.iconst 0, 1) := by decide +kernel
theorem d_Mdl_leave_109 : decode b_Mdl_leave 109 = .ok (.bastore, 1) := by decide +kernel
theorem d_Mdl_leave_110 : decode b_Mdl_leave 110 = .ok (.iload_n 2, 1) := by decide +kernel
theorem d_Mdl_leave_111 : decode b_Mdl_leave 111 = .ok (.ireturn, 1) := by decide +kernel
theorem d_Mdl_noNode_0 : decode b_Mdl_noNode 0 = .ok (.iload_n 1, 1) := by decide +kernel
theorem d_Mdl_noNode_1 : decode b_Mdl_noNode 1 = .ok (.iconst 0, 1) := by decide +kernel
theorem d_Mdl_noNode_2 : decode b_Mdl_noNode 2 = .ok (.iconst 5, 1) := by decide +kernel
theorem d_Mdl_noNode_3 : decode b_Mdl_noNode 3 = .ok (.invokestatic 106, 3) := by decide +kernel
theorem d_Mdl_noNode_6 : decode b_Mdl_noNode 6 = .ok (.ifCond .eq 12, 3) := by decide +kernel
theorem d_Mdl_noNode_9 : decode b_Mdl_noNode 9 = .ok (.aload_n 0, 1) := by decide +kernel
theorem d_Mdl_noNode_10 : decode b_Mdl_noNode 10 = .ok (.getfield 7, 3) := by decide +kernel
theorem d_Mdl_noNode_13 : decode b_Mdl_noNode 13 = .ok (.iload_n 1, 1) := by decide +kernel
theorem d_Mdl_noNode_14 : decode b_Mdl_noNode 14 = .ok (.baload, 1) := by decide +kernel
theorem d_Mdl_noNode_15 : decode b_Mdl_noNode 15 = .ok (.ifCond .ne 7, 3) := by decide +kernel
theorem d_Mdl_noNode_18 : decode b_Mdl_noNode 18 = .ok (.iconst 1, 1) := by decide +kernel
theorem d_Mdl_noNode_19 : decode b_Mdl_noNode 19 = .ok (.goto 4, 3) := by decide +kernel
theorem d_Mdl_noNode_22 : decode b_Mdl_noNode 22 = .ok (.iconst 0, 1) := by decide +kernel
theorem d_Mdl_noNode_23 : decode b_Mdl_noNode 23 = .ok (.ireturn, 1) := by decide +kernel
theorem d_Mdl_latch_0 : decode b_Mdl_latch 0 = .ok (.aload_n 0, 1) := by decide +kernel
theorem d_Mdl_latch_1 : decode b_Mdl_latch 1 = .ok (.iconst 0, 1) := by decide +kernel
theorem d_Mdl_latch_2 : decode b_Mdl_latch 2 = .ok (.putfield 102, 3) := by decide +kernel
theorem d_Mdl_latch_5 : decode b_Mdl_latch 5 = .ok (.iload_n 1, 1) := by decide +kernel
theorem d_Mdl_latch_6 : decode b_Mdl_latch 6 = .ok (.iconst 0, 1) := by decide +kernel
theorem d_Mdl_latch_7 : decode b_Mdl_latch 7 = .ok (.iconst 5, 1) := by decide +kernel
theorem d_Mdl_latch_8 : decode b_Mdl_latch 8 = .ok (.invokestatic 106, 3) := by decide +kernel
theorem d_Mdl_latch_11 : decode b_Mdl_latch 11 = .ok (.ifCond .ne 9, 3) := by decide +kernel
theorem d_Mdl_latch_14 : decode b_Mdl_latch 14 = .ok (.aload_n 0, 1) := by decide +kernel
theorem d_Mdl_latch_15 : decode b_Mdl_latch 15 = .ok (.iconst 1, 1) := by decide +kernel
theorem d_Mdl_latch_16 : decode b_Mdl_latch 16 = .ok (.invokevirtual 110, 3) := by decide +kernel
theorem d_Mdl_latch_19 : decode b_Mdl_latch 19 = .ok (.ireturn, 1) := by decide +kernel
theorem d_Mdl_latch_20 : decode b_Mdl_latch 20 = .ok (.aload_n 0, 1) := by decide +kernel
theorem d_Mdl_latch_21 : decode b_Mdl_latch 21 = .ok (.getfield 44, 3) := by decide +kernel
theorem d_Mdl_latch_24 : decode b_Mdl_latch 24 = .ok (.iload_n 1, 1) := by decide +kernel
theorem d_Mdl_latch_25 : decode b_Mdl_latch 25 = .ok (.baload, 1) := by decide +kernel
theorem d_Mdl_latch_26 : decode b_Mdl_latch 26 = .ok (.iload_n 2, 1) := by decide +kernel
theorem d_Mdl_latch_27 : decode b_Mdl_latch 27 = .ok (.if_icmp .eq 7, 3) := by decide +kernel
theorem d_Mdl_latch_30 : decode b_Mdl_latch 30 = .ok (.iconst 1, 1) := by decide +kernel
theorem d_Mdl_latch_31 : decode b_Mdl_latch 31 = .ok (.goto 4, 3) := by decide +kernel
theorem d_Mdl_latch_34 : decode b_Mdl_latch 34 = .ok (.iconst 0, 1) := by decide +kernel
theorem d_Mdl_latch_35 : decode b_Mdl_latch 35 = .ok (.istore_n 3, 1) := by decide +kernel
theorem d_Mdl_latch_36 : decode b_Mdl_latch 36 = .ok (.aload_n 0, 1) := by decide +kernel
theorem d_Mdl_latch_37 : decode b_Mdl_latch 37 = .ok (.getfield 44, 3) := by decide +kernel
theorem d_Mdl_latch_40 : decode b_Mdl_latch 40 = .ok (.iload_n 1, 1) := by decide +kernel
theorem d_Mdl_latch_41 : decode b_Mdl_latch 41 = .ok (.iload_n 2, 1) := by decide +kernel
theorem d_Mdl_latch_42 : decode b_Mdl_latch 42 = .ok (.bastore, 1) := by decide +kernel
theorem d_Mdl_latch_43 : decode b_Mdl_latch 43 = .ok (.iload_n 3, 1) := by decide +kernel
theorem d_Mdl_latch_44 : decode b_Mdl_latch 44 = .ok (.ifCond .eq 7, 3) := by decide +kernel
theorem d_Mdl_latch_47 : decode b_Mdl_latch 47 = .ok (.iconst 1, 1) := by decide +kernel
theorem d_Mdl_latch_48 : decode b_Mdl_latch 48 = .ok (.goto 4, 3) := by decide +kernel
theorem d_Mdl_latch_51 : decode b_Mdl_latch 51 = .ok (.iconst 0, 1) := by decide +kernel
theorem d_Mdl_latch_52 : decode b_Mdl_latch 52 = .ok (.ireturn, 1) := by decide +kernel
theorem d_Mdl_subscribe_0 : decode b_Mdl_subscribe 0 = .ok (.aload_n 0, 1) := by decide +kernel
theorem d_Mdl_subscribe_1 : decode b_Mdl_subscribe 1 = .ok (.iconst 0, 1) := by decide +kernel
theorem d_Mdl_subscribe_2 : decode b_Mdl_subscribe 2 = .ok (.putfield 102, 3) := by decide +kernel
theorem d_Mdl_subscribe_5 : decode b_Mdl_subscribe 5 = .ok (.aload_n 0, 1) := by decide +kernel
theorem d_Mdl_subscribe_6 : decode b_Mdl_subscribe 6 = .ok (.iload_n 1, 1) := by decide +kernel
theorem d_Mdl_subscribe_7 : decode b_Mdl_subscribe 7 = .ok (.invokevirtual 114, 3) := by decide +kernel
theorem d_Mdl_subscribe_10 : decode b_Mdl_subscribe 10 = .ok (.ifCond .eq 9, 3) := by decide +kernel
theorem d_Mdl_subscribe_13 : decode b_Mdl_subscribe 13 = .ok (.aload_n 0, 1) := by decide +kernel
theorem d_Mdl_subscribe_14 : decode b_Mdl_subscribe 14 = .ok (.iconst 1, 1) := by decide +kernel
theorem d_Mdl_subscribe_15 : decode b_Mdl_subscribe 15 = .ok (.invokevirtual 110, 3) := by decide +kernel
theorem d_Mdl_subscribe_18 : decode b_Mdl_subscribe 18 = .ok (.ireturn, 1) := by decide +kernel
theorem d_Mdl_subscribe_19 : decode b_Mdl_subscribe 19 = .ok (.iload_n 2, 1) := by decide +kernel
theorem d_Mdl_subscribe_20 : decode b_Mdl_subscribe 20 = .ok (.iconst 0, 1) := by decide +kernel
theorem d_Mdl_subscribe_21 : decode b_Mdl_subscribe 21 = .ok (.iconst 5, 1) := by decide +kernel
theorem d_Mdl_subscribe_22 : decode b_Mdl_subscribe 22 = .ok (.invokestatic 106, 3) := by decide +kernel
theorem d_Mdl_subscribe_25 : decode b_Mdl_subscribe 25 = .ok (.ifCond .eq 12, 3) := by decide +kernel
theorem d_Mdl_subscribe_28 : decode b_Mdl_subscribe 28 = .ok (.iload_n 3, 1) := by decide +kernel
theorem d_Mdl_subscribe_29 : decode b_Mdl_subscribe 29 = .ok (.iconst 1, 1) := by decide +kernel
theorem d_Mdl_subscribe_30 : decode b_Mdl_subscribe 30 = .ok (.iconst 4, 1) := by decide +kernel
theorem d_Mdl_subscribe_31 : decode b_Mdl_subscribe 31 = .ok (.invokestatic 106, 3) := by decide +kernel
theorem d_Mdl_subscribe_34 : decode b_Mdl_subscribe 34 = .ok (.ifCond .ne 9, 3) := by decide +kernel
theorem d_Mdl_subscribe_37 : decode b_Mdl_subscribe 37 = .ok (.aload_n 0, 1) := by decide +kernel
theorem d_Mdl_subscribe_38 : decode b_Mdl_subscribe 38 = .ok (.iconst 2, 1) := by decide +kernel
theorem d_Mdl_subscribe_39 : decode b_Mdl_subscribe 39 = .ok (.invokevirtual 110, 3) := by decide +kernel
theorem d_Mdl_subscribe_42 : decode b_Mdl_subscribe 42 = .ok (.ireturn, 1) := by decide +kernel
theorem d_Mdl_subscribe_43 : decode b_Mdl_subscribe 43 = .ok (.bipush 6, 2) := by decide +kernel
theorem d_Mdl_subscribe_45 : decode b_Mdl_subscribe 45 = .ok (.iload_n 1, 1) := by decide +kernel
theorem d_Mdl_subscribe_46 : decode b_Mdl_subscribe 46 = .ok (.imul, 1) := by decide +kernel
theorem d_Mdl_subscribe_47 : decode b_Mdl_subscribe 47 = .ok (.iload_n 2, 1) := by decide +kernel
theorem d_Mdl_subscribe_48 : decode b_Mdl_subscribe 48 = .ok (.iadd, 1) := by decide +kernel
theorem d_Mdl_subscribe_49 : decode b_Mdl_subscribe 49 = .ok (.istore 4, 2) := by decide +kernel
theorem d_Mdl_subscribe_51 : decode b_Mdl_subscribe 51 = .ok (.aload_n 0, 1) := by decide +kernel
theorem d_Mdl_subscribe_52 : decode b_Mdl_subscribe 52 = .ok (.getfield 20, 3) := by decide +kernel
theorem d_Mdl_subscribe_55 : decode b_Mdl_subscribe 55 = .ok (.iload 4, 2) := by decide +kernel
theorem d_Mdl_subscribe_57 : decode b_Mdl_subscribe 57 = .ok (.iaload, 1) := by decide +kernel
theorem d_Mdl_subscribe_58 : decode b_Mdl_subscribe 58 = .ok (.ifCond .ne 7, 3) := by decide +kernel
theorem d_Mdl_subscribe_61 : decode b_Mdl_subscribe 61 = .ok (.iconst 1, 1) := by decide +kernel
theorem d_Mdl_subscribe_62 : decode b_Mdl_subscribe 62 = .ok (.goto 4, 3) := by decide +kernel
theorem d_Mdl_subscribe_65 : decode b_Mdl_subscribe 65 = .ok (.iconst 0, 1) := by decide +kernel
theorem d_Mdl_subscribe_66 : decode b_Mdl_subscribe 66 = .ok (.istore 5, 2) := by decide +kernel
theorem d_Mdl_subscribe_68 : decode b_Mdl_subscribe 68 = .ok (.aload_n 0, 1) := by decide +kernel
theorem d_Mdl_subscribe_69 : decode b_Mdl_subscribe 69 = .ok (.getfield 20, 3) := by decide +kernel
theorem d_Mdl_subscribe_72 : decode b_Mdl_subscribe 72 = .ok (.iload 4, 2) := by decide +kernel
theorem d_Mdl_subscribe_74 : decode b_Mdl_subscribe 74 = .ok (.iload_n 3, 1) := by decide +kernel
theorem d_Mdl_subscribe_75 : decode b_Mdl_subscribe 75 = .ok (.iastore, 1) := by decide +kernel
theorem d_Mdl_subscribe_76 : decode b_Mdl_subscribe 76 = .ok (.iload 5, 2) := by decide +kernel
theorem d_Mdl_subscribe_78 : decode b_Mdl_subscribe 78 = .ok (.ifCond .eq 45, 3) := by decide +kernel
theorem d_Mdl_subscribe_81 : decode b_Mdl_subscribe 81 = .ok (.aload_n 0, 1) := by decide +kernel
theorem d_Mdl_subscribe_82 : decode b_Mdl_subscribe 82 = .ok (.getfield 44, 3) := by decide +kernel
theorem d_Mdl_subscribe_85 : decode b_Mdl_subscribe 85 = .ok (.iload_n 2, 1) := by decide +kernel
theorem d_Mdl_subscribe_86 : decode b_Mdl_subscribe 86 = .ok (.baload, 1) := by decide +kernel
theorem d_Mdl_subscribe_87 : decode b_Mdl_subscribe 87 = .ok (.ifCond .eq 36, 3) := by decide +kernel
theorem d_Mdl_subscribe_90 : decode b_Mdl_subscribe 90 = .ok (.aload_n 0, 1) := by decide +kernel
theorem d_Mdl_subscribe_91 : decode b_Mdl_subscribe 91 = .ok (.getfield 47, 3) := by decide +kernel
theorem d_Mdl_subscribe_94 : decode b_Mdl_subscribe 94 = .ok (.iload_n 2, 1) := by decide +kernel
theorem d_Mdl_subscribe_95 : decode b_Mdl_subscribe 95 = .ok (.baload, 1) := by decide +kernel
theorem d_Mdl_subscribe_96 : decode b_Mdl_subscribe 96 = .ok (.ifCond .eq 27, 3) := by decide +kernel
theorem d_Mdl_subscribe_99 : decode b_Mdl_subscribe 99 = .ok (.aload_n 0, 1) := by decide +kernel
theorem d_Mdl_subscribe_100 : decode b_Mdl_subscribe 100 = .ok (.iload 4, 2) := by decide +kernel
theorem d_Mdl_subscribe_102 : decode b_Mdl_subscribe 102 = .ok (.aload_n 0, 1) := by decide +kernel
theorem d_Mdl_subscribe_103 : decode b_Mdl_subscribe 103 = .ok (.getfield 50, 3) := by decide +kernel
theorem d_Mdl_subscribe_106 : decode b_Mdl_subscribe 106 = .ok (.iload_n 2, 1) := by decide +kernel
theorem d_Mdl_subscribe_107 : decode b_Mdl_subscribe 107 = .ok (.iaload, 1) := by decide +kernel
theorem d_Mdl_subscribe_108 : decode b_Mdl_subscribe 108 = .ok (.aload_n 0, 1) := by decide +kernel
theorem d_Mdl_subscribe_109 : decode b_Mdl_subscribe 109 = .ok (.getfield 53, 3) := by decide +kernel
theorem d_Mdl_subscribe_112 : decode b_Mdl_subscribe 112 = .ok (.iload_n 2, 1) := by decide +kernel
theorem d_Mdl_subscribe_113 : decode b_Mdl_subscribe 113 = .ok (.iaload, 1) := by decide +kernel
theorem d_Mdl_subscribe_114 : decode b_Mdl_subscribe 114 = .ok (.aload_n 0, 1) := by decide +kernel
theorem d_Mdl_subscribe_115 : decode b_Mdl_subscribe 115 = .ok (.getfield 56, 3) := by decide +kernel
theorem d_Mdl_subscribe_118 : decode b_Mdl_subscribe 118 = .ok (.iload_n 2, 1) := by decide +kernel
theorem d_Mdl_subscribe_119 : decode b_Mdl_subscribe 119 = .ok (.iaload, 1) := by decide +kernel
theorem d_Mdl_subscribe_120 : decode b_Mdl_subscribe 120 = .ok (.invokevirtual 131, 3) := by decide +kernel
theorem d_Mdl_subscribe_123 : decode b_Mdl_subscribe 123 = .ok (.aload_n 0, 1) := by decide +kernel
theorem d_Mdl_subscribe_124 : decode b_Mdl_subscribe 124 = .ok (.getfield 23, 3) := by decide +kernel
theorem d_Mdl_subscribe_127 : decode b_Mdl_subscribe 127 = .ok (.iload 4, 2) := by decide +kernel
theorem d_Mdl_subscribe_129 : decode b_Mdl_subscribe 129 = .ok (.iaload, 1) := by decide +kernel
theorem d_Mdl_subscribe_130 : decode b_Mdl_subscribe 130 = .ok (.iload_n 3, 1) := by decide +kernel
theorem d_Mdl_subscribe_131 : decode b_Mdl_subscribe 131 = .ok (.if_icmp .le 22, 3) := by decide +kernel
theorem d_Mdl_subscribe_134 : decode b_Mdl_subscribe 134 = .ok (.aload_n 0, 1) := by decide +kernel
theorem d_Mdl_subscribe_135 : decode b_Mdl_subscribe 135 = .ok (.iload 4, 2) := by decide +kernel
theorem d_Mdl_subscribe_137 : decode b_Mdl_subscribe 137 = .ok (.invokevirtual 118, 3) := by decide +kernel
theorem d_Mdl_subscribe_140 : decode b_Mdl_subscribe 140 = .ok (.aload_n 0, 1) := by decide +kernel
theorem d_Mdl_subscribe_141 : decode b_Mdl_subscribe 141 = .ok (.dup, 1) := by decide +kernel
theorem d_Mdl_subscribe_142 : decode b_Mdl_subscribe 142 = .ok (.getfield 122, 3) := by decide +kernel
theorem d_Mdl_subscribe_145 : decode b_Mdl_subscribe 145 = .ok (.iconst 1, 1) := by decide +kernel
theorem d_Mdl_subscribe_146 : decode b_Mdl_subscribe 146 = .ok (.iadd, 1) := by decide +kernel
theorem d_Mdl_subscribe_147 : decode b_Mdl_subscribe 147 = .ok (.putfield 122, 3) := by decide +kernel
theorem d_Mdl_subscribe_150 : decode b_Mdl_subscribe 150 = .ok (.goto (-27), 3) := by decide +kernel
theorem d_Mdl_subscribe_153 : decode b_Mdl_subscribe 153 = .ok (.aload_n 0, 1) := by decide +kernel
theorem d_Mdl_subscribe_154 : decode b_Mdl_subscribe 154 = .ok (.getfield 23, 3) := by decide +kernel
theorem d_Mdl_subscribe_157 : decode b_Mdl_subscribe 157 = .ok (.iload 4, 2) := by decide +kernel
theorem d_Mdl_subscribe_159 : decode b_Mdl_subscribe 159 = .ok (.iaload, 1) := by decide +kernel
theorem d_Mdl_subscribe_160 : decode b_Mdl_subscribe 160 = .ok (.ireturn, 1) := by decide +kernel
theorem d_Mdl_put_0 : decode b_Mdl_put 0 = .ok (.aload_n 0, 1) := by decide +kernel
theorem d_Mdl_put_1 : decode b_Mdl_put 1 = .ok (.getfield 23, 3) := by decide +kernel
theorem d_Mdl_put_4 : decode b_Mdl_put 4 = .ok (.iload_n 1, 1) := by decide +kernel
theorem d_Mdl_put_5 : decode b_Mdl_put 5 = .ok (.iaload, 1) := by decide +kernel
theorem d_Mdl_put_6 : decode b_Mdl_put 6 = .ok (.aload_n 0, 1) := by decide +kernel
theorem d_Mdl_put_7 : decode b_Mdl_put 7 = .ok (.getfield 20, 3) := by decide +kernel
theorem d_Mdl_put_10 : decode b_Mdl_put 10 = .ok (.iload_n 1, 1) := by decide +kernel
theorem d_Mdl_put_11 : decode b_Mdl_put 11 = .ok (.iaload, 1) := by decide +kernel
theorem d_Mdl_put_12 : decode b_Mdl_put 12 = .ok (.if_icmp .ne 18, 3) := by decide +kernel
theorem d_Mdl_put_15 : decode b_Mdl_put 15 = .ok (.aload_n 0, 1) := by decide +kernel
theorem d_Mdl_put_16 : decode b_Mdl_put 16 = .ok (.iload_n 1, 1) := by decide +kernel
theorem d_Mdl_put_17 : decode b_Mdl_put 17 = .ok (.invokevirtual 118, 3) := by decide +kernel
theorem d_Mdl_put_20 : decode b_Mdl_put 20 = .ok (.aload_n 0, 1) := by decide +kernel
theorem d_Mdl_put_21 : decode b_Mdl_put 21 = .ok (.dup, 1) := by decide +kernel
theorem d_Mdl_put_22 : decode b_Mdl_put 22 = .ok (.getfield 122, 3) := by decide +kernel
theorem d_Mdl_put_25 : decode b_Mdl_put 25 = .ok (.iconst 1, 1) := by decide +kernel
theorem d_Mdl_put_26 : decode b_Mdl_put 26 = .ok (.iadd, 1) := by decide +kernel
theorem d_Mdl_put_27 : decode b_Mdl_put 27 = .ok (.putfield 122, 3) := by decide +kernel
theorem d_Mdl_put_30 : decode b_Mdl_put 30 = .ok (.iconst 4, 1) := by decide +kernel
theorem d_Mdl_put_31 : decode b_Mdl_put 31 = .ok (.iload_n 1, 1) := by decide +kernel
theorem d_Mdl_put_32 : decode b_Mdl_put 32 = .ok (.imul, 1) := by decide +kernel
theorem d_Mdl_put_33 : decode b_Mdl_put 33 = .ok (.aload_n 0, 1) := by decide +kernel
theorem d_Mdl_put_34 : decode b_Mdl_put 34 = .ok (.getfield 23, 3) := by decide +kernel
theorem d_Mdl_put_37 : decode b_Mdl_put 37 = .ok (.iload_n 1, 1) := by decide +kernel
theorem d_Mdl_put_38 : decode b_Mdl_put 38 = .ok (.iaload, 1) := by decide +kernel
theorem d_Mdl_put_39 : decode b_Mdl_put 39 = .ok (.iadd, 1) := by decide +kernel
theorem d_Mdl_put_40 : decode b_Mdl_put 40 = .ok (.istore 5, 2) := by decide +kernel
theorem d_Mdl_put_42 : decode b_Mdl_put 42 = .ok (.aload_n 0, 1) := by decide +kernel
theorem d_Mdl_put_43 : decode b_Mdl_put 43 = .ok (.getfield 26, 3) := by decide +kernel
theorem d_Mdl_put_46 : decode b_Mdl_put 46 = .ok (.iload 5, 2) := by decide +kernel
theorem d_Mdl_put_48 : decode b_Mdl_put 48 = .ok (.iload_n 2, 1) := by decide +kernel
theorem d_Mdl_put_49 : decode b_Mdl_put 49 = .ok (.iastore, 1) := by decide +kernel
theorem d_Mdl_put_50 : decode b_Mdl_put 50 = .ok (.aload_n 0, 1) := by decide +kernel
theorem d_Mdl_put_51 : decode b_Mdl_put 51 = .ok (.getfield 29, 3) := by decide +kernel
theorem d_Mdl_put_54 : decode b_Mdl_put 54 = .ok (.iload 5, 2) := by decide +kernel
theorem d_Mdl_put_56 : decode b_Mdl_put 56 = .ok (.iload_n 3, 1) := by decide +kernel
theorem d_Mdl_put_57 : decode b_Mdl_put 57 = .ok (.iastore, 1) := by decide +kernel
theorem d_Mdl_put_58 : decode b_Mdl_put 58 = .ok (.aload_n 0, 1) := by decide +kernel
theorem d_Mdl_put_59 : decode b_Mdl_put 59 = .ok (.getfield 32, 3) := by decide +kernel
theorem d_Mdl_put_62 : decode b_Mdl_put 62 = .ok (.iload 5, 2) := by decide +kernel
theorem d_Mdl_put_64 : decode b_Mdl_put 64 = .ok (.iload 4, 2) := by decide +kernel
theorem d_Mdl_put_66 : decode b_Mdl_put 66 = .ok (.iastore, 1) := by decide +kernel
theorem d_Mdl_put_67 : decode b_Mdl_put 67 = .ok (.aload_n 0, 1) := by decide +kernel
theorem d_Mdl_put_68 : decode b_Mdl_put 68 = .ok (.getfield 23, 3) := by decide +kernel
theorem d_Mdl_put_71 : decode b_Mdl_put 71 = .ok (.iload_n 1, 1) := by decide +kernel
theorem d_Mdl_put_72 : decode b_Mdl_put 72 = .ok (.dup2, 1) := by decide +kernel
theorem d_Mdl_put_73 : decode b_Mdl_put 73 = .ok (.iaload, 1) := by decide +kernel
theorem d_Mdl_put_74 : decode b_Mdl_put 74 = .ok (.iconst 1, 1) := by decide +kernel
theorem d_Mdl_put_75 : decode b_Mdl_put 75 = .ok (.iadd, 1) := by decide +kernel
theorem d_Mdl_put_76 : decode b_Mdl_put 76 = .ok (.iastore, 1) := by decide +kernel
theorem d_Mdl_put_77 : decode b_Mdl_put 77 = .ok (.return_, 1) := by decide +kernel
theorem d_Mdl_shift_0 : decode b_Mdl_shift 0 = .ok (.aload_n 0, 1) := by decide +kernel
theorem d_Mdl_shift_1 : decode b_Mdl_shift 1 = .ok (.getfield 23, 3) := by decide +kernel
theorem d_Mdl_shift_4 : decode b_Mdl_shift 4 = .ok (.iload_n 1, 1) := by decide +kernel
theorem d_Mdl_shift_5 : decode b_Mdl_shift 5 = .ok (.dup2, 1) := by decide +kernel
theorem d_Mdl_shift_6 : decode b_Mdl_shift 6 = .ok (.iaload, 1) := by decide +kernel
theorem d_Mdl_shift_7 : decode b_Mdl_shift 7 = .ok (.iconst 1, 1) := by decide +kernel
theorem d_Mdl_shift_8 : decode b_Mdl_shift 8 = .ok (.isub, 1) := by decide +kernel
theorem d_Mdl_shift_9 : decode b_Mdl_shift 9 = .ok (.iastore, 1) := by decide +kernel
theorem d_Mdl_shift_10 : decode b_Mdl_shift 10 = .ok (.iconst 4, 1) := by decide +kernel
theorem d_Mdl_shift_11 : decode b_Mdl_shift 11 = .ok (.iload_n 1, 1) := by decide +kernel
theorem d_Mdl_shift_12 : decode b_Mdl_shift 12 = .ok (.imul, 1) := by decide +kernel
theorem d_Mdl_shift_13 : decode b_Mdl_shift 13 = .ok (.istore_n 2, 1) := by decide +kernel
theorem d_Mdl_shift_14 : decode b_Mdl_shift 14 = .ok (.iload_n 2, 1) := by decide +kernel
theorem d_Mdl_shift_15 : decode b_Mdl_shift 15 = .ok (.iconst 4, 1) := by decide +kernel
theorem d_Mdl_shift_16 : decode b_Mdl_shift 16 = .ok (.iload_n 1, 1) := by decide +kernel
theorem d_Mdl_shift_17 : decode b_Mdl_shift 17 = .ok (.imul, 1) := by decide +kernel
theorem d_Mdl_shift_18 : decode b_Mdl_shift 18 = .ok (.aload_n 0, 1) := by decide +kernel
theorem d_Mdl_shift_19 : decode b_Mdl_shift 19 = .ok (.getfield 23, 3) := by decide +kernel
theorem d_Mdl_shift_22 : decode b_Mdl_shift 22 = .ok (.iload_n 1, 1) := by decide +kernel
theorem d_Mdl_shift_23 : decode b_Mdl_shift 23 = .ok (.iaload, 1) := by decide +kernel
theorem d_Mdl_shift_24 : decode b_Mdl_shift 24 = .ok (.iadd, 1) := by decide +kernel
theorem d_Mdl_shift_25 : decode b_Mdl_shift 25 = .ok (.if_icmp .ge 51, 3) := by decide +kernel
theorem d_Mdl_shift_28 : decode b_Mdl_shift 28 = .ok (.aload_n 0, 1) := by decide +kernel
theorem d_Mdl_shift_29 : decode b_Mdl_shift 29 = .ok (.getfield 26, 3) := by decide +kernel
theorem d_Mdl_shift_32 : decode b_Mdl_shift 32 = .ok (.iload_n 2, 1) := by decide +kernel
theorem d_Mdl_shift_33 : decode b_Mdl_shift 33 = .ok (.aload_n 0, 1) := by decide +kernel
theorem d_Mdl_shift_34 : decode b_Mdl_shift 34 = .ok (.getfield 26, 3) := by decide +kernel
theorem d_Mdl_shift_37 : decode b_Mdl_shift 37 = .ok (.iload_n 2, 1) := by decide +kernel
theorem d_Mdl_shift_38 : decode b_Mdl_shift 38 = .ok (.iconst 1, 1) := by decide +kernel
theorem d_Mdl_shift_39 : decode b_Mdl_shift 39 = .ok (.iadd, 1) := by decide +kernel
theorem d_Mdl_shift_40 : decode b_Mdl_shift 40 = .ok (.iaload, 1) := by decide +kernel
theorem d_Mdl_shift_41 : decode b_Mdl_shift 41 = .ok (.iastore, 1) := by decide +kernel
theorem d_Mdl_shift_42 : decode b_Mdl_shift 42 = .ok (.aload_n 0, 1) := by decide +kernel
theorem d_Mdl_shift_43 : decode b_Mdl_shift 43 = .ok (.getfield 29, 3) := by decide +kernel
theorem d_Mdl_shift_46 : decode b_Mdl_shift 46 = .ok (.iload_n 2, 1) := by decide +kernel
theorem d_Mdl_shift_47 : decode b_Mdl_shift 47 = .ok (.aload_n 0, 1) := by decide +kernel
theorem d_Mdl_shift_48 : decode b_Mdl_shift 48 = .ok (.getfield 29, 3) := by decide +kernel
theorem d_Mdl_shift_51 : decode b_Mdl_shift 51 = .ok (.iload_n 2, 1) := by decide +kernel
theorem d_Mdl_shift_52 : decode b_Mdl_shift 52 = .ok (.iconst 1, 1) := by decide +kernel
theorem d_Mdl_shift_53 : decode b_Mdl_shift 53 = .ok (.iadd, 1) := by decide +kernel
theorem d_Mdl_shift_54 : decode b_Mdl_shift 54 = .ok (.iaload, 1) := by decide +kernel
theorem d_Mdl_shift_55 : decode b_Mdl_shift 55 = .ok (.iastore, 1) := by decide +kernel
theorem d_Mdl_shift_56 : decode b_Mdl_shift 56 = .ok (.aload_n 0, 1) := by decide +kernel
theorem d_Mdl_shift_57 : decode b_Mdl_shift 57 = .ok (.getfield 32, 3) := by decide +kernel
theorem d_Mdl_shift_60 : decode b_Mdl_shift 60 = .ok (.iload_n 2, 1) := by decide +kernel
theorem d_Mdl_shift_61 : decode b_Mdl_shift 61 = .ok (.aload_n 0, 1) := by decide +kernel
theorem d_Mdl_shift_62 : decode b_Mdl_shift 62 = .ok (.getfield 32, 3) := by decide +kernel
theorem d_Mdl_shift_65 : decode b_Mdl_shift 65 = .ok (.iload_n 2, 1) := by decide +kernel
theorem d_Mdl_shift_66 : decode b_Mdl_shift 66 = .ok (.iconst 1, 1) := by decide +kernel
theorem d_Mdl_shift_67 : decode b_Mdl_shift 67 = .ok (.iadd, 1) := by decide +kernel
theorem d_Mdl_shift_68 : decode b_Mdl_shift 68 = .ok (.iaload, 1) := by decide +kernel
theorem d_Mdl_shift_69 : decode b_Mdl_shift 69 = .ok (.iastore, 1) := by decide +kernel
theorem d_Mdl_shift_70 : decode b_Mdl_shift 70 = .ok (.iinc 2 1, 3) := by decide +kernel
theorem d_Mdl_shift_73 : decode b_Mdl_shift 73 = .ok (.goto (-59), 3) := by decide +kernel
theorem d_Mdl_shift_76 : decode b_Mdl_shift 76 = .ok (.return_, 1) := by decide +kernel
theorem d_Mdl_unsubscribe_0 : decode b_Mdl_unsubscribe 0 = .ok (.aload_n 0, 1) := by decide +kernel
theorem d_Mdl_unsubscribe_1 : decode b_Mdl_unsubscribe 1 = .ok (.iconst 0, 1) := by decide +kernel
theorem d_Mdl_unsubscribe_2 : decode b_Mdl_unsubscribe 2 = .ok (.putfield 102, 3) := by decide +kernel
theorem d_Mdl_unsubscribe_5 : decode b_Mdl_unsubscribe 5 = .ok (.aload_n 0, 1) := by decide +kernel
theorem d_Mdl_unsubscribe_6 : decode b_Mdl_unsubscribe 6 = .ok (.iload_n 1, 1) := by decide +kernel
theorem d_Mdl_unsubscribe_7 : decode b_Mdl_unsubscribe 7 = .ok (.invokevirtual 114, 3) := by decide +kernel
theorem d_Mdl_unsubscribe_10 : decode b_Mdl_unsubscribe 10 = .ok (.ifCond .eq 9, 3) := by decide +kernel
theorem d_Mdl_unsubscribe_13 : decode b_Mdl_unsubscribe 13 = .ok (.aload_n 0, 1) := by decide +kernel
theorem d_Mdl_unsubscribe_14 : decode b_Mdl_unsubscribe 14 = .ok (.iconst 1, 1) := by decide +kernel
theorem d_Mdl_unsubscribe_15 : decode b_Mdl_unsubscribe 15 = .ok (.invokevirtual 110, 3) := by decide +kernel
theorem d_Mdl_unsubscribe_18 : decode b_Mdl_unsubscribe 18 = .ok (.ireturn, 1) := by decide +kernel
theorem d_Mdl_unsubscribe_19 : decode b_Mdl_unsubscribe 19 = .ok (.iload_n 2, 1) := by decide +kernel
theorem d_Mdl_unsubscribe_20 : decode b_Mdl_unsubscribe 20 = .ok (.iconst 0, 1) := by decide +kernel
theorem d_Mdl_unsubscribe_21 : decode b_Mdl_unsubscribe 21 = .ok (.iconst 5, 1) := by decide +kernel
theorem d_Mdl_unsubscribe_22 : decode b_Mdl_unsubscribe 22 = .ok (.invokestatic 106, 3) := by decide +kernel
theorem d_Mdl_unsubscribe_25 : decode b_Mdl_unsubscribe 25 = .ok (.ifCond .ne 9, 3) := by decide +kernel
theorem d_Mdl_unsubscribe_28 : decode b_Mdl_unsubscribe 28 = .ok (.aload_n 0, 1) := by decide +kernel
theorem d_Mdl_unsubscribe_29 : decode b_Mdl_unsubscribe 29 = .ok (.iconst 2, 1) := by decide +kernel
theorem d_Mdl_unsubscribe_30 : decode b_Mdl_unsubscribe 30 = .ok (.invokevirtual 110, 3) := by decide +kernel
theorem d_Mdl_unsubscribe_33 : decode b_Mdl_unsubscribe 33 = .ok (.ireturn, 1) := by decide +kernel
theorem d_Mdl_unsubscribe_34 : decode b_Mdl_unsubscribe 34 = .ok (.bipush 6, 2) := by decide +kernel
theorem d_Mdl_unsubscribe_36 : decode b_Mdl_unsubscribe 36 = .ok (.iload_n 1, 1) := by decide +kernel
theorem d_Mdl_unsubscribe_37 : decode b_Mdl_unsubscribe 37 = .ok (.imul, 1) := by decide +kernel
theorem d_Mdl_unsubscribe_38 : decode b_Mdl_unsubscribe 38 = .ok (.iload_n 2, 1) := by decide +kernel
theorem d_Mdl_unsubscribe_39 : decode b_Mdl_unsubscribe 39 = .ok (.iadd, 1) := by decide +kernel
theorem d_Mdl_unsubscribe_40 : decode b_Mdl_unsubscribe 40 = .ok (.istore_n 3, 1) := by decide +kernel
theorem d_Mdl_unsubscribe_41 : decode b_Mdl_unsubscribe 41 = .ok (.aload_n 0, 1) := by decide +kernel
theorem d_Mdl_unsubscribe_42 : decode b_Mdl_unsubscribe 42 = .ok (.getfield 20, 3) := by decide +kernel
theorem d_Mdl_unsubscribe_45 : decode b_Mdl_unsubscribe 45 = .ok (.iload_n 3, 1) := by decide +kernel
theorem d_Mdl_unsubscribe_46 : decode b_Mdl_unsubscribe 46 = .ok (.iaload, 1) := by decide +kernel
theorem d_Mdl_unsubscribe_47 : decode b_Mdl_unsubscribe 47 = .ok (.ifCond .ne 9, 3) := by decide +kernel
theorem d_Mdl_unsubscribe_50 : decode b_Mdl_unsubscribe 50 = .ok (.aload_n 0, 1) := by decide +kernel
theorem d_Mdl_unsubscribe_51 : decode b_Mdl_unsubscribe 51 = .ok (.iconst 1, 1) := by decide +kernel
theorem d_Mdl_unsubscribe_52 : decode b_Mdl_unsubscribe 52 = .ok (.invokevirtual 110, 3) := by decide +kernel
theorem d_Mdl_unsubscribe_55 : decode b_Mdl_unsubscribe 55 = .ok (.ireturn, 1) := by decide +kernel
theorem d_Mdl_unsubscribe_56 : decode b_Mdl_unsubscribe 56 = .ok (.aload_n 0, 1) := by decide +kernel
theorem d_Mdl_unsubscribe_57 : decode b_Mdl_unsubscribe 57 = .ok (.getfield 23, 3) := by decide +kernel
theorem d_Mdl_unsubscribe_60 : decode b_Mdl_unsubscribe 60 = .ok (.iload_n 3, 1) := by decide +kernel
theorem d_Mdl_unsubscribe_61 : decode b_Mdl_unsubscribe 61 = .ok (.iaload, 1) := by decide +kernel
theorem d_Mdl_unsubscribe_62 : decode b_Mdl_unsubscribe 62 = .ok (.istore 4, 2) := by decide +kernel
theorem d_Mdl_unsubscribe_64 : decode b_Mdl_unsubscribe 64 = .ok (.aload_n 0, 1) := by decide +kernel
theorem d_Mdl_unsubscribe_65 : decode b_Mdl_unsubscribe 65 = .ok (.getfield 20, 3) := by decide +kernel
theorem d_Mdl_unsubscribe_68 : decode b_Mdl_unsubscribe 68 = .ok (.iload_n 3, 1) := by decide +kernel
theorem d_Mdl_unsubscribe_69 : decode b_Mdl_unsubscribe 69 = .ok (.iconst 0, 1) := by decide +kernel
theorem d_Mdl_unsubscribe_70 : decode b_Mdl_unsubscribe 70 = .ok (.iastore, 1) := by decide +kernel
theorem d_Mdl_unsubscribe_71 : decode b_Mdl_unsubscribe 71 = .ok (.aload_n 0, 1) := by decide +kernel
theorem d_Mdl_unsubscribe_72 : decode b_Mdl_unsubscribe 72 = .ok (.getfield 23, 3) := by decide +kernel
theorem d_Mdl_unsubscribe_75 : decode b_Mdl_unsubscribe 75 = .ok (.iload_n 3, 1) := by decide +kernel
theorem d_Mdl_unsubscribe_76 : decode b_Mdl_unsubscribe 76 = .ok (.iconst 0, 1) := by decide +kernel
theorem d_Mdl_unsubscribe_77 : decode b_Mdl_unsubscribe 77 = .ok (.iastore, 1) := by decide +kernel
theorem d_Mdl_unsubscribe_78 : decode b_Mdl_unsubscribe 78 = .ok (.iload 4, 2) := by decide +kernel
theorem d_Mdl_unsubscribe_80 : decode b_Mdl_unsubscribe 80 = .ok (.ireturn, 1) := by decide +kernel
theorem d_Mdl_publish_0 : decode b_Mdl_publish 0 = .ok (.aload_n 0, 1) := by decide +kernel
theorem d_Mdl_publish_1 : decode b_Mdl_publish 1 = .ok (.iconst 0, 1) := by decide +kernel
theorem d_Mdl_publish_2 : decode b_Mdl_publish 2 = .ok (.putfield 102, 3) := by decide +kernel
theorem d_Mdl_publish_5 : decode b_Mdl_publish 5 = .ok (.aload_n 0, 1) := by decide +kernel
theorem d_Mdl_publish_6 : decode b_Mdl_publish 6 = .ok (.iload_n 1, 1) := by decide +kernel
theorem d_Mdl_publish_7 : decode b_Mdl_publish 7 = .ok (.invokevirtual 114, 3) := by decide +kernel
theorem d_Mdl_publish_10 : decode b_Mdl_publish 10 = .ok (.ifCond .eq 9, 3) := by decide +kernel
theorem d_Mdl_publish_13 : decode b_Mdl_publish 13 = .ok (.aload_n 0, 1) := by decide +kernel
theorem d_Mdl_publish_14 : decode b_Mdl_publish 14 = .ok (.iconst 1, 1) := by decide +kernel
theorem d_Mdl_publish_15 : decode b_Mdl_publish 15 = .ok (.invokevirtual 110, 3) := by decide +kernel
theorem d_Mdl_publish_18 : decode b_Mdl_publish 18 = .ok (.ireturn, 1) := by decide +kernel
theorem d_Mdl_publish_19 : decode b_Mdl_publish 19 = .ok (.iload_n 2, 1) := by decide +kernel
theorem d_Mdl_publish_20 : decode b_Mdl_publish 20 = .ok (.iconst 0, 1) := by decide +kernel
theorem d_Mdl_publish_21 : decode b_Mdl_publish 21 = .ok (.iconst 5, 1) := by decide +kernel
theorem d_Mdl_publish_22 : decode b_Mdl_publish 22 = .ok (.invokestatic 106, 3) := by decide +kernel
theorem d_Mdl_publish_25 : decode b_Mdl_publish 25 = .ok (.ifCond .eq 13, 3) := by decide +kernel
theorem d_Mdl_publish_28 : decode b_Mdl_publish 28 = .ok (.aload_n 0, 1) := by decide +kernel
theorem d_Mdl_publish_29 : decode b_Mdl_publish 29 = .ok (.iload_n 2, 1) := by decide +kernel
theorem d_Mdl_publish_30 : decode b_Mdl_publish 30 = .ok (.iload_n 3, 1) := by decide +kernel
theorem d_Mdl_publish_31 : decode b_Mdl_publish 31 = .ok (.iload_n 1, 1) := by decide +kernel
theorem d_Mdl_publish_32 : decode b_Mdl_publish 32 = .ok (.invokevirtual 138, 3) := by decide +kernel
theorem d_Mdl_publish_35 : decode b_Mdl_publish 35 = .ok (.goto 8, 3) := by decide +kernel
theorem d_Mdl_publish_38 : decode b_Mdl_publish 38 = .ok (.aload_n 0, 1) := by decide +kernel
theorem d_Mdl_publish_39 : decode b_Mdl_publish 39 = .ok (.iconst 2, 1) := by decide +kernel
theorem d_Mdl_publish_40 : decode b_Mdl_publish 40 = .ok (.invokevirtual 110, 3) := by decide +kernel
theorem d_Mdl_publish_43 : decode b_Mdl_publish 43 = .ok (.ireturn, 1) := by decide +kernel
theorem d_Mdl_send_0 : decode b_Mdl_send 0 = .ok (.iconst 0, 1) := by decide +kernel
theorem d_Mdl_send_1 : decode b_Mdl_send 1 = .ok (.istore 4, 2) := by decide +kernel
theorem d_Mdl_send_3 : decode b_Mdl_send 3 = .ok (.aload_n 0, 1) := by decide +kernel
theorem d_Mdl_send_4 : decode b_Mdl_send 4 = .ok (.dup, 1) := by decide +kernel
theorem d_Mdl_send_5 : decode b_Mdl_send 5 = .ok (.getfield 125, 3) := by decide +kernel
theorem d_Mdl_send_8 : decode b_Mdl_send 8 = .ok (.iconst 1, 1) := by decide +kernel
theorem d_Mdl_send_9 : decode b_Mdl_send 9 = .ok (.iadd, 1) := by decide +kernel
theorem d_Mdl_send_10 : decode b_Mdl_send 10 = .ok (.putfield 125, 3) := by decide +kernel
theorem d_Mdl_send_13 : decode b_Mdl_send 13 = .ok (.iconst 0, 1) := by decide +kernel
theorem d_Mdl_send_14 : decode b_Mdl_send 14 = .ok (.istore 5, 2) := by decide +kernel
theorem d_Mdl_send_16 : decode b_Mdl_send 16 = .ok (.iload 5, 2) := by decide +kernel
theorem d_Mdl_send_18 : decode b_Mdl_send 18 = .ok (.bipush 6, 2) := by decide +kernel
theorem d_Mdl_send_20 : decode b_Mdl_send 20 = .ok (.if_icmp .ge 56, 3) := by decide +kernel
theorem d_Mdl_send_23 : decode b_Mdl_send 23 = .ok (.bipush 6, 2) := by decide +kernel
theorem d_Mdl_send_25 : decode b_Mdl_send 25 = .ok (.iload 5, 2) := by decide +kernel
theorem d_Mdl_send_27 : decode b_Mdl_send 27 = .ok (.imul, 1) := by decide +kernel
theorem d_Mdl_send_28 : decode b_Mdl_send 28 = .ok (.iload_n 1, 1) := by decide +kernel
theorem d_Mdl_send_29 : decode b_Mdl_send 29 = .ok (.iadd, 1) := by decide +kernel
theorem d_Mdl_send_30 : decode b_Mdl_send 30 = .ok (.istore 6, 2) := by decide +kernel
theorem d_Mdl_send_32 : decode b_Mdl_send 32 = .ok (.aload_n 0, 1) := by decide +kernel
theorem d_Mdl_send_33 : decode b_Mdl_send 33 = .ok (.getfield 7, 3) := by decide +kernel
theorem d_Mdl_send_36 : decode b_Mdl_send 36 = .ok (.iload 5, 2) := by decide +kernel
theorem d_Mdl_send_38 : decode b_Mdl_send 38 = .ok (.baload, 1) := by decide +kernel
theorem d_Mdl_send_39 : decode b_Mdl_send 39 = .ok (.ifCond .eq 31, 3) := by decide +kernel
theorem d_Mdl_send_42 : decode b_Mdl_send 42 = .ok (.aload_n 0, 1) := by decide +kernel
theorem d_Mdl_send_43 : decode b_Mdl_send 43 = .ok (.getfield 20, 3) := by decide +kernel
theorem d_Mdl_send_46 : decode b_Mdl_send 46 = .ok (.iload 6, 2) := by decide +kernel
theorem d_Mdl_send_48 : decode b_Mdl_send 48 = .ok (.iaload, 1) := by decide +kernel
theorem d_Mdl_send_49 : decode b_Mdl_send 49 = .ok (.ifCond .ne 6, 3) := by decide +kernel
theorem d_Mdl_send_52 : decode b_Mdl_send 52 = .ok (.goto 18, 3) := by decide +kernel
theorem d_Mdl_send_55 : decode b_Mdl_send 55 = .ok (.aload_n 0, 1) := by decide +kernel
theorem d_Mdl_send_56 : decode b_Mdl_send 56 = .ok (.iload 6, 2) := by decide +kernel
theorem d_Mdl_send_58 : decode b_Mdl_send 58 = .ok (.iload_n 2, 1) := by decide +kernel
theorem d_Mdl_send_59 : decode b_Mdl_send 59 = .ok (.iload_n 3, 1) := by decide +kernel
theorem d_Mdl_send_60 : decode b_Mdl_send 60 = .ok (.aload_n 0, 1) := by decide +kernel
theorem d_Mdl_send_61 : decode b_Mdl_send 61 = .ok (.getfield 128, 3) := by decide +kernel
theorem d_Mdl_send_64 : decode b_Mdl_send 64 = .ok (.invokevirtual 131, 3) := by decide +kernel
theorem d_Mdl_send_67 : decode b_Mdl_send 67 = .ok (.iinc 4 1, 3) := by decide +kernel
theorem d_Mdl_send_70 : decode b_Mdl_send 70 = .ok (.iinc 5 1, 3) := by decide +kernel
theorem d_Mdl_send_73 : decode b_Mdl_send 73 = .ok (.goto (-57), 3) := by decide +kernel
theorem d_Mdl_send_76 : decode b_Mdl_send 76 = .ok (.aload_n 0, 1) := by decide +kernel
theorem d_Mdl_send_77 : decode b_Mdl_send 77 = .ok (.getfield 47, 3) := by decide +kernel
theorem d_Mdl_send_80 : decode b_Mdl_send 80 = .ok (.iload_n 1, 1) := by decide +kernel
theorem d_Mdl_send_81 : decode b_Mdl_send 81 = .ok (.iconst 1, 1) := by decide +kernel
theorem d_Mdl_send_82 : decode b_Mdl_send 82 = .ok (.bastore, 1) := by decide +kernel
theorem d_Mdl_send_83 : decode b_Mdl_send 83 = .ok (.aload_n 0, 1) := by decide +kernel
theorem d_Mdl_send_84 : decode b_Mdl_send 84 = .ok (.getfield 50, 3) := by decide +kernel
theorem d_Mdl_send_87 : decode b_Mdl_send 87 = .ok (.iload_n 1, 1) := by decide +kernel
theorem d_Mdl_send_88 : decode b_Mdl_send 88 = .ok (.iload_n 2, 1) := by decide +kernel
theorem d_Mdl_send_89 : decode b_Mdl_send 89 = .ok (.iastore, 1) := by decide +kernel
theorem d_Mdl_send_90 : decode b_Mdl_send 90 = .ok (.aload_n 0, 1) := by decide +kernel
theorem d_Mdl_send_91 : decode b_Mdl_send 91 = .ok (.getfield 53, 3) := by decide +kernel
theorem d_Mdl_send_94 : decode b_Mdl_send 94 = .ok (.iload_n 1, 1) := by decide +kernel
theorem d_Mdl_send_95 : decode b_Mdl_send 95 = .ok (.iload_n 3, 1) := by decide +kernel
theorem d_Mdl_send_96 : decode b_Mdl_send 96 = .ok (.iastore, 1) := by decide +kernel
theorem d_Mdl_send_97 : decode b_Mdl_send 97 = .ok (.aload_n 0, 1) := by decide +kernel
theorem d_Mdl_send_98 : decode b_Mdl_send 98 = .ok (.getfield 56, 3) := by decide +kernel
theorem d_Mdl_send_101 : decode b_Mdl_send 101 = .ok (.iload_n 1, 1) := by decide +kernel
theorem d_Mdl_send_102 : decode b_Mdl_send 102 = .ok (.aload_n 0, 1) := by decide +kernel
theorem d_Mdl_send_103 : decode b_Mdl_send 103 = .ok (.getfield 128, 3) := by decide +kernel
theorem d_Mdl_send_106 : decode b_Mdl_send 106 = .ok (.iastore, 1) := by decide +kernel
theorem d_Mdl_send_107 : decode b_Mdl_send 107 = .ok (.aload_n 0, 1) := by decide +kernel
theorem d_Mdl_send_108 : decode b_Mdl_send 108 = .ok (.getfield 59, 3) := by decide +kernel
theorem d_Mdl_send_111 : decode b_Mdl_send 111 = .ok (.iload_n 1, 1) := by decide +kernel
theorem d_Mdl_send_112 : decode b_Mdl_send 112 = .ok (.baload, 1) := by decide +kernel
theorem d_Mdl_send_113 : decode b_Mdl_send 113 = .ok (.ifCond .eq 59, 3) := by decide +kernel
theorem d_Mdl_send_116 : decode b_Mdl_send 116 = .ok (.iload_n 3, 1) := by decide +kernel
theorem d_Mdl_send_117 : decode b_Mdl_send 117 = .ok (.ifCond .lt 55, 3) := by decide +kernel
theorem d_Mdl_send_120 : decode b_Mdl_send 120 = .ok (.aload_n 0, 1) := by decide +kernel
theorem d_Mdl_send_121 : decode b_Mdl_send 121 = .ok (.getfield 135, 3) := by decide +kernel
theorem d_Mdl_send_124 : decode b_Mdl_send 124 = .ok (.bipush 30, 2) := by decide +kernel
theorem d_Mdl_send_126 : decode b_Mdl_send 126 = .ok (.if_icmp .ge 46, 3) := by decide +kernel
theorem d_Mdl_send_129 : decode b_Mdl_send 129 = .ok (.aload_n 0, 1) := by decide +kernel
theorem d_Mdl_send_130 : decode b_Mdl_send 130 = .ok (.getfield 74, 3) := by decide +kernel
theorem d_Mdl_send_133 : decode b_Mdl_send 133 = .ok (.aload_n 0, 1) := by decide +kernel
theorem d_Mdl_send_134 : decode b_Mdl_send 134 = .ok (.getfield 135, 3) := by decide +kernel
theorem d_Mdl_send_137 : decode b_Mdl_send 137 = .ok (.aload_n 0, 1) := by decide +kernel
theorem d_Mdl_send_138 : decode b_Mdl_send 138 = .ok (.getfield 128, 3) := by decide +kernel
theorem d_Mdl_send_141 : decode b_Mdl_send 141 = .ok (.iastore, 1) := by decide +kernel
theorem d_Mdl_send_142 : decode b_Mdl_send 142 = .ok (.aload_n 0, 1) := by decide +kernel
theorem d_Mdl_send_143 : decode b_Mdl_send 143 = .ok (.getfield 77, 3) := by decide +kernel
theorem d_Mdl_send_146 : decode b_Mdl_send 146 = .ok (.aload_n 0, 1) := by decide +kernel
theorem d_Mdl_send_147 : decode b_Mdl_send 147 = .ok (.getfield 135, 3) := by decide +kernel
theorem d_Mdl_send_150 : decode b_Mdl_send 150 = .ok (.iload_n 1, 1) := by decide +kernel
theorem d_Mdl_send_151 : decode b_Mdl_send 151 = .ok (.iastore, 1) := by decide +kernel
theorem d_Mdl_send_152 : decode b_Mdl_send 152 = .ok (.aload_n 0, 1) := by decide +kernel
theorem d_Mdl_send_153 : decode b_Mdl_send 153 = .ok (.getfield 80, 3) := by decide +kernel
theorem d_Mdl_send_156 : decode b_Mdl_send 156 = .ok (.aload_n 0, 1) := by decide +kernel
theorem d_Mdl_send_157 : decode b_Mdl_send 157 = .ok (.getfield 135, 3) := by decide +kernel
theorem d_Mdl_send_160 : decode b_Mdl_send 160 = .ok (.iload_n 2, 1) := by decide +kernel
theorem d_Mdl_send_161 : decode b_Mdl_send 161 = .ok (.iastore, 1) := by decide +kernel
theorem d_Mdl_send_162 : decode b_Mdl_send 162 = .ok (.aload_n 0, 1) := by decide +kernel
theorem d_Mdl_send_163 : decode b_Mdl_send 163 = .ok (.dup, 1) := by decide +kernel
theorem d_Mdl_send_164 : decode b_Mdl_send 164 = .ok (.getfield 135, 3) := by decide +kernel
theorem d_Mdl_send_167 : decode b_Mdl_send 167 = .ok (.iconst 1, 1) := by decide +kernel
theorem d_Mdl_send_168 : decode b_Mdl_send 168 = .ok (.iadd, 1) := by decide +kernel
theorem d_Mdl_send_169 : decode b_Mdl_send 169 = .ok (.putfield 135, 3) := by decide +kernel
theorem d_Mdl_send_172 : decode b_Mdl_send 172 = .ok (.iload 4, 2) := by decide +kernel
theorem d_Mdl_send_174 : decode b_Mdl_send 174 = .ok (.ireturn, 1) := by decide +kernel
theorem d_Mdl_act_0 : decode b_Mdl_act 0 = .ok (.aload_n 0, 1) := by decide +kernel
theorem d_Mdl_act_1 : decode b_Mdl_act 1 = .ok (.iconst 0, 1) := by decide +kernel
theorem d_Mdl_act_2 : decode b_Mdl_act 2 = .ok (.putfield 102, 3) := by decide +kernel
theorem d_Mdl_act_5 : decode b_Mdl_act 5 = .ok (.aload_n 0, 1) := by decide +kernel
theorem d_Mdl_act_6 : decode b_Mdl_act 6 = .ok (.iload_n 1, 1) := by decide +kernel
theorem d_Mdl_act_7 : decode b_Mdl_act 7 = .ok (.invokevirtual 114, 3) := by decide +kernel
theorem d_Mdl_act_10 : decode b_Mdl_act 10 = .ok (.ifCond .eq 9, 3) := by decide +kernel
theorem d_Mdl_act_13 : decode b_Mdl_act 13 = .ok (.aload_n 0, 1) := by decide +kernel
theorem d_Mdl_act_14 : decode b_Mdl_act 14 = .ok (.iconst 1, 1) := by decide +kernel
theorem d_Mdl_act_15 : decode b_Mdl_act 15 = .ok (.invokevirtual 110, 3) := by decide +kernel
theorem d_Mdl_act_18 : decode b_Mdl_act 18 = .ok (.ireturn, 1) := by decide +kernel
theorem d_Mdl_act_19 : decode b_Mdl_act 19 = .ok (.iload_n 2, 1) := by decide +kernel
theorem d_Mdl_act_20 : decode b_Mdl_act 20 = .ok (.iconst 0, 1) := by decide +kernel
theorem d_Mdl_act_21 : decode b_Mdl_act 21 = .ok (.iconst 5, 1) := by decide +kernel
theorem d_Mdl_act_22 : decode b_Mdl_act 22 = .ok (.invokestatic 106, 3) := by decide +kernel
theorem d_Mdl_act_25 : decode b_Mdl_act 25 = .ok (.ifCond .eq 14, 3) := by decide +kernel
theorem d_Mdl_act_28 : decode b_Mdl_act 28 = .ok (.iload_n 3, 1) := by decide +kernel
theorem d_Mdl_act_29 : decode b_Mdl_act 29 = .ok (.iload 4, 2) := by decide +kernel
theorem d_Mdl_act_31 : decode b_Mdl_act 31 = .ok (.iload 5, 2) := by decide +kernel
theorem d_Mdl_act_33 : decode b_Mdl_act 33 = .ok (.invokestatic 142, 3) := by decide +kernel
theorem d_Mdl_act_36 : decode b_Mdl_act 36 = .ok (.ifCond .ne 9, 3) := by decide +kernel
theorem d_Mdl_act_39 : decode b_Mdl_act 39 = .ok (.aload_n 0, 1) := by decide +kernel
theorem d_Mdl_act_40 : decode b_Mdl_act 40 = .ok (.iconst 2, 1) := by decide +kernel
theorem d_Mdl_act_41 : decode b_Mdl_act 41 = .ok (.invokevirtual 110, 3) := by decide +kernel
theorem d_Mdl_act_44 : decode b_Mdl_act 44 = .ok (.ireturn, 1) := by decide +kernel
theorem d_Mdl_act_45 : decode b_Mdl_act 45 = .ok (.bipush 6, 2) := by decide +kernel
theorem d_Mdl_act_47 : decode b_Mdl_act 47 = .ok (.iload_n 1, 1) := by decide +kernel
theorem d_Mdl_act_48 : decode b_Mdl_act 48 = .ok (.imul, 1) := by decide +kernel
theorem d_Mdl_act_49 : decode b_Mdl_act 49 = .ok (.iload_n 2, 1) := by decide +kernel
theorem d_Mdl_act_50 : decode b_Mdl_act 50 = .ok (.iadd, 1) := by decide +kernel
theorem d_Mdl_act_51 : decode b_Mdl_act 51 = .ok (.istore 6, 2) := by decide +kernel
theorem d_Mdl_act_53 : decode b_Mdl_act 53 = .ok (.aload_n 0, 1) := by decide +kernel
theorem d_Mdl_act_54 : decode b_Mdl_act 54 = .ok (.getfield 35, 3) := by decide +kernel
theorem d_Mdl_act_57 : decode b_Mdl_act 57 = .ok (.iload 6, 2) := by decide +kernel
theorem d_Mdl_act_59 : decode b_Mdl_act 59 = .ok (.iaload, 1) := by decide +kernel
theorem d_Mdl_act_60 : decode b_Mdl_act 60 = .ok (.istore 7, 2) := by decide +kernel
theorem d_Mdl_act_62 : decode b_Mdl_act 62 = .ok (.aload_n 0, 1) := by decide +kernel
theorem d_Mdl_act_63 : decode b_Mdl_act 63 = .ok (.getfield 35, 3) := by decide +kernel
theorem d_Mdl_act_66 : decode b_Mdl_act 66 = .ok (.iload 6, 2) := by decide +kernel
theorem d_Mdl_act_68 : decode b_Mdl_act 68 = .ok (.iload_n 3, 1) := by decide +kernel
theorem d_Mdl_act_69 : decode b_Mdl_act 69 = .ok (.iastore, 1) := by decide +kernel
theorem d_Mdl_act_70 : decode b_Mdl_act 70 = .ok (.aload_n 0, 1) := by decide +kernel
theorem d_Mdl_act_71 : decode b_Mdl_act 71 = .ok (.getfield 38, 3) := by decide +kernel
theorem d_Mdl_act_74 : decode b_Mdl_act 74 = .ok (.iload 6, 2) := by decide +kernel
theorem d_Mdl_act_76 : decode b_Mdl_act 76 = .ok (.iload 4, 2) := by decide +kernel
theorem d_Mdl_act_78 : decode b_Mdl_act 78 = .ok (.iastore, 1) := by decide +kernel
theorem d_Mdl_act_79 : decode b_Mdl_act 79 = .ok (.aload_n 0, 1) := by decide +kernel
theorem d_Mdl_act_80 : decode b_Mdl_act 80 = .ok (.getfield 41, 3) := by decide +kernel
theorem d_Mdl_act_83 : decode b_Mdl_act 83 = .ok (.iload 6, 2) := by decide +kernel
theorem d_Mdl_act_85 : decode b_Mdl_act 85 = .ok (.iload 5, 2) := by decide +kernel
theorem d_Mdl_act_87 : decode b_Mdl_act 87 = .ok (.iastore, 1) := by decide +kernel
theorem d_Mdl_act_88 : decode b_Mdl_act 88 = .ok (.iload 7, 2) := by decide +kernel
theorem d_Mdl_act_90 : decode b_Mdl_act 90 = .ok (.ifCond .ge 7, 3) := by decide +kernel
theorem d_Mdl_act_93 : decode b_Mdl_act 93 = .ok (.iconst 1, 1) := by decide +kernel
theorem d_Mdl_act_94 : decode b_Mdl_act 94 = .ok (.goto 4, 3) := by decide +kernel
theorem d_Mdl_act_97 : decode b_Mdl_act 97 = .ok (.iconst 0, 1) := by decide +kernel
theorem d_Mdl_act_98 : decode b_Mdl_act 98 = .ok (.ireturn, 1) := by decide +kernel
theorem d_Mdl_actionFits_0 : decode b_Mdl_actionFits 0 = .ok (.iload_n 0, 1) := by decide +kernel
theorem d_Mdl_actionFits_1 : decode b_Mdl_actionFits 1 = .ok (.tableswitch 122 (-1) 4 #[39, 41, 41, 48, 74, 98], 39) := by decide +kernel
theorem d_Mdl_actionFits_40 : decode b_Mdl_actionFits 40 = .ok (.iconst 1, 1) := by decide +kernel
theorem d_Mdl_actionFits_41 : decode b_Mdl_actionFits 41 = .ok (.ireturn, 1) := by decide +kernel
theorem d_Mdl_actionFits_42 : decode b_Mdl_actionFits 42 = .ok (.iload_n 1, 1) := by decide +kernel
theorem d_Mdl_actionFits_43 : decode b_Mdl_actionFits 43 = .ok (.iconst 0, 1) := by decide +kernel
theorem d_Mdl_actionFits_44 : decode b_Mdl_actionFits 44 = .ok (.iconst 3, 1) := by decide +kernel
theorem d_Mdl_actionFits_45 : decode b_Mdl_actionFits 45 = .ok (.invokestatic 106, 3) := by decide +kernel
theorem d_Mdl_actionFits_48 : decode b_Mdl_actionFits 48 = .ok (.ireturn, 1) := by decide +kernel
theorem d_Mdl_actionFits_49 : decode b_Mdl_actionFits 49 = .ok (.iload_n 1, 1) := by decide +kernel
theorem d_Mdl_actionFits_50 : decode b_Mdl_actionFits 50 = .ok (.iconst 0, 1) := by decide +kernel
theorem d_Mdl_actionFits_51 : decode b_Mdl_actionFits 51 = .ok (.iconst 5, 1) := by decide +kernel
theorem d_Mdl_actionFits_52 : decode b_Mdl_actionFits 52 = .ok (.invokestatic 106, 3) := by decide +kernel
theorem d_Mdl_actionFits_55 : decode b_Mdl_actionFits 55 = .ok (.ifCond .eq 18, 3) := by decide +kernel
theorem d_Mdl_actionFits_58 : decode b_Mdl_actionFits 58 = .ok (.iload_n 2, 1) := by decide +kernel
theorem d_Mdl_actionFits_59 : decode b_Mdl_actionFits 59 = .ok (.bipush (-100), 2) := by decide +kernel
theorem d_Mdl_actionFits_61 : decode b_Mdl_actionFits 61 = .ok (.bipush 100, 2) := by decide +kernel
theorem d_Mdl_actionFits_63 : decode b_Mdl_actionFits 63 = .ok (.invokestatic 106, 3) := by decide +kernel
theorem d_Mdl_actionFits_66 : decode b_Mdl_actionFits 66 = .ok (.ifCond .eq 7, 3) := by decide +kernel
theorem d_Mdl_actionFits_69 : decode b_Mdl_actionFits 69 = .ok (.iconst 1, 1) := by decide +kernel
theorem d_Mdl_actionFits_70 : decode b_Mdl_actionFits 70 = .ok (.goto 4, 3) := by decide +kernel
theorem d_Mdl_actionFits_73 : decode b_Mdl_actionFits 73 = .ok (.iconst 0, 1) := by decide +kernel
theorem d_Mdl_actionFits_74 : decode b_Mdl_actionFits 74 = .ok (.ireturn, 1) := by decide +kernel
theorem d_Mdl_actionFits_75 : decode b_Mdl_actionFits 75 = .ok (.iload_n 1, 1) := by decide +kernel
theorem d_Mdl_actionFits_76 : decode b_Mdl_actionFits 76 = .ok (.iconst 0, 1) := by decide +kernel
theorem d_Mdl_actionFits_77 : decode b_Mdl_actionFits 77 = .ok (.iconst 3, 1) := by decide +kernel
theorem d_Mdl_actionFits_78 : decode b_Mdl_actionFits 78 = .ok (.invokestatic 106, 3) := by decide +kernel
theorem d_Mdl_actionFits_81 : decode b_Mdl_actionFits 81 = .ok (.ifCond .eq 16, 3) := by decide +kernel
theorem d_Mdl_actionFits_84 : decode b_Mdl_actionFits 84 = .ok (.iload_n 2, 1) := by decide +kernel
theorem d_Mdl_actionFits_85 : decode b_Mdl_actionFits 85 = .ok (.iconst 0, 1) := by decide +kernel
theorem d_Mdl_actionFits_86 : decode b_Mdl_actionFits 86 = .ok (.iconst 3, 1) := by decide +kernel
theorem d_Mdl_actionFits_87 : decode b_Mdl_actionFits 87 = .ok (.invokestatic 106, 3) := by decide +kernel
theorem d_Mdl_actionFits_90 : decode b_Mdl_actionFits 90 = .ok (.ifCond .eq 7, 3) := by decide +kernel
theorem d_Mdl_actionFits_93 : decode b_Mdl_actionFits 93 = .ok (.iconst 1, 1) := by decide +kernel
theorem d_Mdl_actionFits_94 : decode b_Mdl_actionFits 94 = .ok (.goto 4, 3) := by decide +kernel
theorem d_Mdl_actionFits_97 : decode b_Mdl_actionFits 97 = .ok (.iconst 0, 1) := by decide +kernel
theorem d_Mdl_actionFits_98 : decode b_Mdl_actionFits 98 = .ok (.ireturn, 1) := by decide +kernel
theorem d_Mdl_actionFits_99 : decode b_Mdl_actionFits 99 = .ok (.iload_n 1, 1) := by decide +kernel
theorem d_Mdl_actionFits_100 : decode b_Mdl_actionFits 100 = .ok (.iconst 0, 1) := by decide +kernel
theorem d_Mdl_actionFits_101 : decode b_Mdl_actionFits 101 = .ok (.iconst 5, 1) := by decide +kernel
theorem d_Mdl_actionFits_102 : decode b_Mdl_actionFits 102 = .ok (.invokestatic 106, 3) := by decide +kernel
theorem d_Mdl_actionFits_105 : decode b_Mdl_actionFits 105 = .ok (.ifCond .eq 16, 3) := by decide +kernel
theorem d_Mdl_actionFits_108 : decode b_Mdl_actionFits 108 = .ok (.iload_n 2, 1) := by decide +kernel
theorem d_Mdl_actionFits_109 : decode b_Mdl_actionFits 109 = .ok (.iconst 0, 1) := by decide +kernel
theorem d_Mdl_actionFits_110 : decode b_Mdl_actionFits 110 = .ok (.iconst 3, 1) := by decide +kernel
theorem d_Mdl_actionFits_111 : decode b_Mdl_actionFits 111 = .ok (.invokestatic 106, 3) := by decide +kernel
theorem d_Mdl_actionFits_114 : decode b_Mdl_actionFits 114 = .ok (.ifCond .eq 7, 3) := by decide +kernel
theorem d_Mdl_actionFits_117 : decode b_Mdl_actionFits 117 = .ok (.iconst 1, 1) := by decide +kernel
theorem d_Mdl_actionFits_118 : decode b_Mdl_actionFits 118 = .ok (.goto 4, 3) := by decide +kernel
theorem d_Mdl_actionFits_121 : decode b_Mdl_actionFits 121 = .ok (.iconst 0, 1) := by decide +kernel
theorem d_Mdl_actionFits_122 : decode b_Mdl_actionFits 122 = .ok (.ireturn, 1) := by decide +kernel
theorem d_Mdl_actionFits_123 : decode b_Mdl_actionFits 123 = .ok (.iconst 0, 1) := by decide +kernel
theorem d_Mdl_actionFits_124 : decode b_Mdl_actionFits 124 = .ok (.ireturn, 1) := by decide +kernel
theorem d_Mdl_offer_0 : decode b_Mdl_offer 0 = .ok (.aload_n 0, 1) := by decide +kernel
theorem d_Mdl_offer_1 : decode b_Mdl_offer 1 = .ok (.iconst 0, 1) := by decide +kernel
theorem d_Mdl_offer_2 : decode b_Mdl_offer 2 = .ok (.putfield 102, 3) := by decide +kernel
theorem d_Mdl_offer_5 : decode b_Mdl_offer 5 = .ok (.aload_n 0, 1) := by decide +kernel
theorem d_Mdl_offer_6 : decode b_Mdl_offer 6 = .ok (.iload_n 1, 1) := by decide +kernel
theorem d_Mdl_offer_7 : decode b_Mdl_offer 7 = .ok (.invokevirtual 114, 3) := by decide +kernel
theorem d_Mdl_offer_10 : decode b_Mdl_offer 10 = .ok (.ifCond .eq 9, 3) := by decide +kernel
theorem d_Mdl_offer_13 : decode b_Mdl_offer 13 = .ok (.aload_n 0, 1) := by decide +kernel
theorem d_Mdl_offer_14 : decode b_Mdl_offer 14 = .ok (.iconst 1, 1) := by decide +kernel
theorem d_Mdl_offer_15 : decode b_Mdl_offer 15 = .ok (.invokevirtual 110, 3) := by decide +kernel
theorem d_Mdl_offer_18 : decode b_Mdl_offer 18 = .ok (.ireturn, 1) := by decide +kernel
theorem d_Mdl_offer_19 : decode b_Mdl_offer 19 = .ok (.iload_n 2, 1) := by decide +kernel
theorem d_Mdl_offer_20 : decode b_Mdl_offer 20 = .ok (.iload_n 3, 1) := by decide +kernel
theorem d_Mdl_offer_21 : decode b_Mdl_offer 21 = .ok (.iload 4, 2) := by decide +kernel
theorem d_Mdl_offer_23 : decode b_Mdl_offer 23 = .ok (.iload 5, 2) := by decide +kernel
theorem d_Mdl_offer_25 : decode b_Mdl_offer 25 = .ok (.invokestatic 145, 3) := by decide +kernel
theorem d_Mdl_offer_28 : decode b_Mdl_offer 28 = .ok (.ifCond .ne 9, 3) := by decide +kernel
theorem d_Mdl_offer_31 : decode b_Mdl_offer 31 = .ok (.aload_n 0, 1) := by decide +kernel
theorem d_Mdl_offer_32 : decode b_Mdl_offer 32 = .ok (.iconst 2, 1) := by decide +kernel
theorem d_Mdl_offer_33 : decode b_Mdl_offer 33 = .ok (.invokevirtual 110, 3) := by decide +kernel
theorem d_Mdl_offer_36 : decode b_Mdl_offer 36 = .ok (.ireturn, 1) := by decide +kernel
theorem d_Mdl_offer_37 : decode b_Mdl_offer 37 = .ok (.aload_n 0, 1) := by decide +kernel
theorem d_Mdl_offer_38 : decode b_Mdl_offer 38 = .ok (.getfield 62, 3) := by decide +kernel
theorem d_Mdl_offer_41 : decode b_Mdl_offer 41 = .ok (.iload_n 2, 1) := by decide +kernel
theorem d_Mdl_offer_42 : decode b_Mdl_offer 42 = .ok (.iaload, 1) := by decide +kernel
theorem d_Mdl_offer_43 : decode b_Mdl_offer 43 = .ok (.ifCond .ge 7, 3) := by decide +kernel
theorem d_Mdl_offer_46 : decode b_Mdl_offer 46 = .ok (.iconst 1, 1) := by decide +kernel
theorem d_Mdl_offer_47 : decode b_Mdl_offer 47 = .ok (.goto 4, 3) := by decide +kernel
theorem d_Mdl_offer_50 : decode b_Mdl_offer 50 = .ok (.iconst 0, 1) := by decide +kernel
theorem d_Mdl_offer_51 : decode b_Mdl_offer 51 = .ok (.istore 6, 2) := by decide +kernel
theorem d_Mdl_offer_53 : decode b_Mdl_offer 53 = .ok (.aload_n 0, 1) := by decide +kernel
theorem d_Mdl_offer_54 : decode b_Mdl_offer 54 = .ok (.getfield 62, 3) := by decide +kernel
theorem d_Mdl_offer_57 : decode b_Mdl_offer 57 = .ok (.iload_n 2, 1) := by decide +kernel
theorem d_Mdl_offer_58 : decode b_Mdl_offer 58 = .ok (.iload_n 1, 1) := by decide +kernel
theorem d_Mdl_offer_59 : decode b_Mdl_offer 59 = .ok (.iastore, 1) := by decide +kernel
theorem d_Mdl_offer_60 : decode b_Mdl_offer 60 = .ok (.aload_n 0, 1) := by decide +kernel
theorem d_Mdl_offer_61 : decode b_Mdl_offer 61 = .ok (.getfield 65, 3) := by decide +kernel
theorem d_Mdl_offer_64 : decode b_Mdl_offer 64 = .ok (.iload_n 2, 1) := by decide +kernel
theorem d_Mdl_offer_65 : decode b_Mdl_offer 65 = .ok (.iload_n 3, 1) := by decide +kernel
theorem d_Mdl_offer_66 : decode b_Mdl_offer 66 = .ok (.iastore, 1) := by decide +kernel
theorem d_Mdl_offer_67 : decode b_Mdl_offer 67 = .ok (.aload_n 0, 1) := by decide +kernel
theorem d_Mdl_offer_68 : decode b_Mdl_offer 68 = .ok (.getfield 68, 3) := by decide +kernel
theorem d_Mdl_offer_71 : decode b_Mdl_offer 71 = .ok (.iload_n 2, 1) := by decide +kernel
theorem d_Mdl_offer_72 : decode b_Mdl_offer 72 = .ok (.iload 4, 2) := by decide +kernel
theorem d_Mdl_offer_74 : decode b_Mdl_offer 74 = .ok (.iastore, 1) := by decide +kernel
theorem d_Mdl_offer_75 : decode b_Mdl_offer 75 = .ok (.aload_n 0, 1) := by decide +kernel
theorem d_Mdl_offer_76 : decode b_Mdl_offer 76 = .ok (.getfield 71, 3) := by decide +kernel
theorem d_Mdl_offer_79 : decode b_Mdl_offer 79 = .ok (.iload_n 2, 1) := by decide +kernel
theorem d_Mdl_offer_80 : decode b_Mdl_offer 80 = .ok (.iload 5, 2) := by decide +kernel
theorem d_Mdl_offer_82 : decode b_Mdl_offer 82 = .ok (.iastore, 1) := by decide +kernel
theorem d_Mdl_offer_83 : decode b_Mdl_offer 83 = .ok (.iload 6, 2) := by decide +kernel
theorem d_Mdl_offer_85 : decode b_Mdl_offer 85 = .ok (.ifCond .eq 7, 3) := by decide +kernel
theorem d_Mdl_offer_88 : decode b_Mdl_offer 88 = .ok (.iconst 1, 1) := by decide +kernel
theorem d_Mdl_offer_89 : decode b_Mdl_offer 89 = .ok (.goto 4, 3) := by decide +kernel
theorem d_Mdl_offer_92 : decode b_Mdl_offer 92 = .ok (.iconst 0, 1) := by decide +kernel
theorem d_Mdl_offer_93 : decode b_Mdl_offer 93 = .ok (.ireturn, 1) := by decide +kernel
theorem d_Mdl_serviceFits_0 : decode b_Mdl_serviceFits 0 = .ok (.iload_n 3, 1) := by decide +kernel
theorem d_Mdl_serviceFits_1 : decode b_Mdl_serviceFits 1 = .ok (.sipush (-1000), 3) := by decide +kernel
theorem d_Mdl_serviceFits_4 : decode b_Mdl_serviceFits 4 = .ok (.sipush 1000, 3) := by decide +kernel
theorem d_Mdl_serviceFits_7 : decode b_Mdl_serviceFits 7 = .ok (.invokestatic 106, 3) := by decide +kernel
theorem d_Mdl_serviceFits_10 : decode b_Mdl_serviceFits 10 = .ok (.ifCond .eq 12, 3) := by decide +kernel
theorem d_Mdl_serviceFits_13 : decode b_Mdl_serviceFits 13 = .ok (.iload_n 0, 1) := by decide +kernel
theorem d_Mdl_serviceFits_14 : decode b_Mdl_serviceFits 14 = .ok (.iconst 0, 1) := by decide +kernel
theorem d_Mdl_serviceFits_15 : decode b_Mdl_serviceFits 15 = .ok (.iconst 3, 1) := by decide +kernel
theorem d_Mdl_serviceFits_16 : decode b_Mdl_serviceFits 16 = .ok (.invokestatic 106, 3) := by decide +kernel
theorem d_Mdl_serviceFits_19 : decode b_Mdl_serviceFits 19 = .ok (.ifCond .ne 5, 3) := by decide +kernel
theorem d_Mdl_serviceFits_22 : decode b_Mdl_serviceFits 22 = .ok (.iconst 0, 1) := by decide +kernel
theorem d_Mdl_serviceFits_23 : decode b_Mdl_serviceFits 23 = .ok (.ireturn, 1) := by decide +kernel
theorem d_Mdl_serviceFits_24 : decode b_Mdl_serviceFits 24 = .ok (.iload_n 1, 1) := by decide +kernel
theorem d_Mdl_serviceFits_25 : decode b_Mdl_serviceFits 25 = .ok (.ifCond .ne 12, 3) := by decide +kernel
theorem d_Mdl_serviceFits_28 : decode b_Mdl_serviceFits 28 = .ok (.iload_n 2, 1) := by decide +kernel
theorem d_Mdl_serviceFits_29 : decode b_Mdl_serviceFits 29 = .ok (.bipush (-100), 2) := by decide +kernel
theorem d_Mdl_serviceFits_31 : decode b_Mdl_serviceFits 31 = .ok (.bipush 100, 2) := by decide +kernel
theorem d_Mdl_serviceFits_33 : decode b_Mdl_serviceFits 33 = .ok (.invokestatic 106, 3) := by decide +kernel
theorem d_Mdl_serviceFits_36 : decode b_Mdl_serviceFits 36 = .ok (.ireturn, 1) := by decide +kernel
theorem d_Mdl_serviceFits_37 : decode b_Mdl_serviceFits 37 = .ok (.iload_n 1, 1) := by decide +kernel
theorem d_Mdl_serviceFits_38 : decode b_Mdl_serviceFits 38 = .ok (.iconst 3, 1) := by decide +kernel
theorem d_Mdl_serviceFits_39 : decode b_Mdl_serviceFits 39 = .ok (.if_icmp .ne 12, 3) := by decide +kernel
theorem d_Mdl_serviceFits_42 : decode b_Mdl_serviceFits 42 = .ok (.iload_n 2, 1) := by decide +kernel
theorem d_Mdl_serviceFits_43 : decode b_Mdl_serviceFits 43 = .ok (.iconst 0, 1) := by decide +kernel
theorem d_Mdl_serviceFits_44 : decode b_Mdl_serviceFits 44 = .ok (.iload_n 0, 1) := by decide +kernel
theorem d_Mdl_serviceFits_45 : decode b_Mdl_serviceFits 45 = .ok (.iconst 1, 1) := by decide +kernel
theorem d_Mdl_serviceFits_46 : decode b_Mdl_serviceFits 46 = .ok (.isub, 1) := by decide +kernel
theorem d_Mdl_serviceFits_47 : decode b_Mdl_serviceFits 47 = .ok (.invokestatic 106, 3) := by decide +kernel
theorem d_Mdl_serviceFits_50 : decode b_Mdl_serviceFits 50 = .ok (.ireturn, 1) := by decide +kernel
theorem d_Mdl_serviceFits_51 : decode b_Mdl_serviceFits 51 = .ok (.iload_n 1, 1) := by decide +kernel
theorem d_Mdl_serviceFits_52 : decode b_Mdl_serviceFits 52 = .ok (.iconst 1, 1) := by decide +kernel
theorem d_Mdl_serviceFits_53 : decode b_Mdl_serviceFits 53 = .ok (.iconst 2, 1) := by decide +kernel
theorem d_Mdl_serviceFits_54 : decode b_Mdl_serviceFits 54 = .ok (.invokestatic 106, 3) := by decide +kernel
theorem d_Mdl_serviceFits_57 : decode b_Mdl_serviceFits 57 = .ok (.ifCond .eq 16, 3) := by decide +kernel
theorem d_Mdl_serviceFits_60 : decode b_Mdl_serviceFits 60 = .ok (.iload_n 2, 1) := by decide +kernel
theorem d_Mdl_serviceFits_61 : decode b_Mdl_serviceFits 61 = .ok (.iconst 0, 1) := by decide +kernel
theorem d_Mdl_serviceFits_62 : decode b_Mdl_serviceFits 62 = .ok (.iconst 3, 1) := by decide +kernel
theorem d_Mdl_serviceFits_63 : decode b_Mdl_serviceFits 63 = .ok (.invokestatic 106, 3) := by decide +kernel
theorem d_Mdl_serviceFits_66 : decode b_Mdl_serviceFits 66 = .ok (.ifCond .eq 7, 3) := by decide +kernel
theorem d_Mdl_serviceFits_69 : decode b_Mdl_serviceFits 69 = .ok (.iconst 1, 1) := by decide +kernel
theorem d_Mdl_serviceFits_70 : decode b_Mdl_serviceFits 70 = .ok (.goto 4, 3) := by decide +kernel
theorem d_Mdl_serviceFits_73 : decode b_Mdl_serviceFits 73 = .ok (.iconst 0, 1) := by decide +kernel
theorem d_Mdl_serviceFits_74 : decode b_Mdl_serviceFits 74 = .ok (.ireturn, 1) := by decide +kernel
theorem d_Mdl_call_0 : decode b_Mdl_call 0 = .ok (.aload_n 0, 1) := by decide +kernel
theorem d_Mdl_call_1 : decode b_Mdl_call 1 = .ok (.iconst 0, 1) := by decide +kernel
theorem d_Mdl_call_2 : decode b_Mdl_call 2 = .ok (.putfield 102, 3) := by decide +kernel
theorem d_Mdl_call_5 : decode b_Mdl_call 5 = .ok (.iload_n 1, 1) := by decide +kernel
theorem d_Mdl_call_6 : decode b_Mdl_call 6 = .ok (.iconst 0, 1) := by decide +kernel
theorem d_Mdl_call_7 : decode b_Mdl_call 7 = .ok (.iconst 3, 1) := by decide +kernel
theorem d_Mdl_call_8 : decode b_Mdl_call 8 = .ok (.invokestatic 106, 3) := by decide +kernel
theorem d_Mdl_call_11 : decode b_Mdl_call 11 = .ok (.ifCond .ne 9, 3) := by decide +kernel
theorem d_Mdl_call_14 : decode b_Mdl_call 14 = .ok (.aload_n 0, 1) := by decide +kernel
theorem d_Mdl_call_15 : decode b_Mdl_call 15 = .ok (.iconst 1, 1) := by decide +kernel
theorem d_Mdl_call_16 : decode b_Mdl_call 16 = .ok (.invokevirtual 110, 3) := by decide +kernel
theorem d_Mdl_call_19 : decode b_Mdl_call 19 = .ok (.ireturn, 1) := by decide +kernel
theorem d_Mdl_call_20 : decode b_Mdl_call 20 = .ok (.aload_n 0, 1) := by decide +kernel
theorem d_Mdl_call_21 : decode b_Mdl_call 21 = .ok (.iload_n 1, 1) := by decide +kernel
theorem d_Mdl_call_22 : decode b_Mdl_call 22 = .ok (.iload_n 2, 1) := by decide +kernel
theorem d_Mdl_call_23 : decode b_Mdl_call 23 = .ok (.invokevirtual 152, 3) := by decide +kernel
theorem d_Mdl_call_26 : decode b_Mdl_call 26 = .ok (.istore_n 3, 1) := by decide +kernel
theorem d_Mdl_call_27 : decode b_Mdl_call 27 = .ok (.aload_n 0, 1) := by decide +kernel
theorem d_Mdl_call_28 : decode b_Mdl_call 28 = .ok (.getfield 149, 3) := by decide +kernel
theorem d_Mdl_call_31 : decode b_Mdl_call 31 = .ok (.ifCond .ne 7, 3) := by decide +kernel
theorem d_Mdl_call_34 : decode b_Mdl_call 34 = .ok (.iload_n 3, 1) := by decide +kernel
theorem d_Mdl_call_35 : decode b_Mdl_call 35 = .ok (.goto 11, 3) := by decide +kernel
theorem d_Mdl_call_38 : decode b_Mdl_call 38 = .ok (.aload_n 0, 1) := by decide +kernel
theorem d_Mdl_call_39 : decode b_Mdl_call 39 = .ok (.aload_n 0, 1) := by decide +kernel
theorem d_Mdl_call_40 : decode b_Mdl_call 40 = .ok (.getfield 149, 3) := by decide +kernel
theorem d_Mdl_call_43 : decode b_Mdl_call 43 = .ok (.invokevirtual 110, 3) := by decide +kernel
theorem d_Mdl_call_46 : decode b_Mdl_call 46 = .ok (.ireturn, 1) := by decide +kernel
theorem d_Mdl_ask_0 : decode b_Mdl_ask 0 = .ok (.iload_n 1, 1) := by decide +kernel
theorem d_Mdl_ask_1 : decode b_Mdl_ask 1 = .ok (.istore_n 3, 1) := by decide +kernel
theorem d_Mdl_ask_2 : decode b_Mdl_ask 2 = .ok (.iconst 0, 1) := by decide +kernel
theorem d_Mdl_ask_3 : decode b_Mdl_ask 3 = .ok (.istore 4, 2) := by decide +kernel
theorem d_Mdl_ask_5 : decode b_Mdl_ask 5 = .ok (.aload_n 0, 1) := by decide +kernel
theorem d_Mdl_ask_6 : decode b_Mdl_ask 6 = .ok (.iconst 0, 1) := by decide +kernel
theorem d_Mdl_ask_7 : decode b_Mdl_ask 7 = .ok (.putfield 149, 3) := by decide +kernel
theorem d_Mdl_ask_10 : decode b_Mdl_ask 10 = .ok (.aload_n 0, 1) := by decide +kernel
theorem d_Mdl_ask_11 : decode b_Mdl_ask 11 = .ok (.getfield 62, 3) := by decide +kernel
theorem d_Mdl_ask_14 : decode b_Mdl_ask 14 = .ok (.iload_n 3, 1) := by decide +kernel
theorem d_Mdl_ask_15 : decode b_Mdl_ask 15 = .ok (.iaload, 1) := by decide +kernel
theorem d_Mdl_ask_16 : decode b_Mdl_ask 16 = .ok (.ifCond .lt 34, 3) := by decide +kernel
theorem d_Mdl_ask_19 : decode b_Mdl_ask 19 = .ok (.aload_n 0, 1) := by decide +kernel
theorem d_Mdl_ask_20 : decode b_Mdl_ask 20 = .ok (.getfield 65, 3) := by decide +kernel
theorem d_Mdl_ask_23 : decode b_Mdl_ask 23 = .ok (.iload_n 3, 1) := by decide +kernel
theorem d_Mdl_ask_24 : decode b_Mdl_ask 24 = .ok (.iaload, 1) := by decide +kernel
theorem d_Mdl_ask_25 : decode b_Mdl_ask 25 = .ok (.iconst 3, 1) := by decide +kernel
theorem d_Mdl_ask_26 : decode b_Mdl_ask 26 = .ok (.if_icmp .ne 24, 3) := by decide +kernel
theorem d_Mdl_ask_29 : decode b_Mdl_ask 29 = .ok (.iload 4, 2) := by decide +kernel
theorem d_Mdl_ask_31 : decode b_Mdl_ask 31 = .ok (.aload_n 0, 1) := by decide +kernel
theorem d_Mdl_ask_32 : decode b_Mdl_ask 32 = .ok (.getfield 71, 3) := by decide +kernel
theorem d_Mdl_ask_35 : decode b_Mdl_ask 35 = .ok (.iload_n 3, 1) := by decide +kernel
theorem d_Mdl_ask_36 : decode b_Mdl_ask 36 = .ok (.iaload, 1) := by decide +kernel
theorem d_Mdl_ask_37 : decode b_Mdl_ask 37 = .ok (.iadd, 1) := by decide +kernel
theorem d_Mdl_ask_38 : decode b_Mdl_ask 38 = .ok (.istore 4, 2) := by decide +kernel
theorem d_Mdl_ask_40 : decode b_Mdl_ask 40 = .ok (.aload_n 0, 1) := by decide +kernel
theorem d_Mdl_ask_41 : decode b_Mdl_ask 41 = .ok (.getfield 68, 3) := by decide +kernel
theorem d_Mdl_ask_44 : decode b_Mdl_ask 44 = .ok (.iload_n 3, 1) := by decide +kernel
theorem d_Mdl_ask_45 : decode b_Mdl_ask 45 = .ok (.iaload, 1) := by decide +kernel
theorem d_Mdl_ask_46 : decode b_Mdl_ask 46 = .ok (.istore_n 3, 1) := by decide +kernel
theorem d_Mdl_ask_47 : decode b_Mdl_ask 47 = .ok (.goto (-37), 3) := by decide +kernel
theorem d_Mdl_ask_50 : decode b_Mdl_ask 50 = .ok (.aload_n 0, 1) := by decide +kernel
theorem d_Mdl_ask_51 : decode b_Mdl_ask 51 = .ok (.getfield 62, 3) := by decide +kernel
theorem d_Mdl_ask_54 : decode b_Mdl_ask 54 = .ok (.iload_n 3, 1) := by decide +kernel
theorem d_Mdl_ask_55 : decode b_Mdl_ask 55 = .ok (.iaload, 1) := by decide +kernel
theorem d_Mdl_ask_56 : decode b_Mdl_ask 56 = .ok (.ifCond .ge 10, 3) := by decide +kernel
theorem d_Mdl_ask_59 : decode b_Mdl_ask 59 = .ok (.aload_n 0, 1) := by decide +kernel
theorem d_Mdl_ask_60 : decode b_Mdl_ask 60 = .ok (.iconst 2, 1) := by decide +kernel
theorem d_Mdl_ask_61 : decode b_Mdl_ask 61 = .ok (.putfield 149, 3) := by decide +kernel
theorem d_Mdl_ask_64 : decode b_Mdl_ask 64 = .ok (.iconst 0, 1) := by decide +kernel
theorem d_Mdl_ask_65 : decode b_Mdl_ask 65 = .ok (.ireturn, 1) := by decide +kernel
theorem d_Mdl_ask_66 : decode b_Mdl_ask 66 = .ok (.iconst 4, 1) := by decide +kernel
theorem d_Mdl_ask_67 : decode b_Mdl_ask 67 = .ok (.aload_n 0, 1) := by decide +kernel
theorem d_Mdl_ask_68 : decode b_Mdl_ask 68 = .ok (.getfield 62, 3) := by decide +kernel
theorem d_Mdl_ask_71 : decode b_Mdl_ask 71 = .ok (.iload_n 3, 1) := by decide +kernel
theorem d_Mdl_ask_72 : decode b_Mdl_ask 72 = .ok (.iaload, 1) := by decide +kernel
theorem d_Mdl_ask_73 : decode b_Mdl_ask 73 = .ok (.imul, 1) := by decide +kernel
theorem d_Mdl_ask_74 : decode b_Mdl_ask 74 = .ok (.aload_n 0, 1) := by decide +kernel
theorem d_Mdl_ask_75 : decode b_Mdl_ask 75 = .ok (.getfield 65, 3) := by decide +kernel
theorem d_Mdl_ask_78 : decode b_Mdl_ask 78 = .ok (.iload_n 3, 1) := by decide +kernel
theorem d_Mdl_ask_79 : decode b_Mdl_ask 79 = .ok (.iaload, 1) := by decide +kernel
theorem d_Mdl_ask_80 : decode b_Mdl_ask 80 = .ok (.ifCond .ne 7, 3) := by decide +kernel
theorem d_Mdl_ask_83 : decode b_Mdl_ask 83 = .ok (.iconst 0, 1) := by decide +kernel
theorem d_Mdl_ask_84 : decode b_Mdl_ask 84 = .ok (.goto 9, 3) := by decide +kernel
theorem d_Mdl_ask_87 : decode b_Mdl_ask 87 = .ok (.aload_n 0, 1) := by decide +kernel
theorem d_Mdl_ask_88 : decode b_Mdl_ask 88 = .ok (.getfield 68, 3) := by decide +kernel
theorem d_Mdl_ask_91 : decode b_Mdl_ask 91 = .ok (.iload_n 3, 1) := by decide +kernel
theorem d_Mdl_ask_92 : decode b_Mdl_ask 92 = .ok (.iaload, 1) := by decide +kernel
theorem d_Mdl_ask_93 : decode b_Mdl_ask 93 = .ok (.iadd, 1) := by decide +kernel
theorem d_Mdl_ask_94 : decode b_Mdl_ask 94 = .ok (.istore 5, 2) := by decide +kernel
theorem d_Mdl_ask_96 : decode b_Mdl_ask 96 = .ok (.aload_n 0, 1) := by decide +kernel
theorem d_Mdl_ask_97 : decode b_Mdl_ask 97 = .ok (.getfield 65, 3) := by decide +kernel
theorem d_Mdl_ask_100 : decode b_Mdl_ask 100 = .ok (.iload_n 3, 1) := by decide +kernel
theorem d_Mdl_ask_101 : decode b_Mdl_ask 101 = .ok (.iaload, 1) := by decide +kernel
theorem d_Mdl_ask_102 : decode b_Mdl_ask 102 = .ok (.ifCond .ne 22, 3) := by decide +kernel
theorem d_Mdl_ask_105 : decode b_Mdl_ask 105 = .ok (.aload_n 0, 1) := by decide +kernel
theorem d_Mdl_ask_106 : decode b_Mdl_ask 106 = .ok (.getfield 68, 3) := by decide +kernel
theorem d_Mdl_ask_109 : decode b_Mdl_ask 109 = .ok (.iload_n 3, 1) := by decide +kernel
theorem d_Mdl_ask_110 : decode b_Mdl_ask 110 = .ok (.iaload, 1) := by decide +kernel
theorem d_Mdl_ask_111 : decode b_Mdl_ask 111 = .ok (.iload_n 2, 1) := by decide +kernel
theorem d_Mdl_ask_112 : decode b_Mdl_ask 112 = .ok (.imul, 1) := by decide +kernel
theorem d_Mdl_ask_113 : decode b_Mdl_ask 113 = .ok (.aload_n 0, 1) := by decide +kernel
theorem d_Mdl_ask_114 : decode b_Mdl_ask 114 = .ok (.getfield 71, 3) := by decide +kernel
theorem d_Mdl_ask_117 : decode b_Mdl_ask 117 = .ok (.iload_n 3, 1) := by decide +kernel
theorem d_Mdl_ask_118 : decode b_Mdl_ask 118 = .ok (.iaload, 1) := by decide +kernel
theorem d_Mdl_ask_119 : decode b_Mdl_ask 119 = .ok (.iadd, 1) := by decide +kernel
theorem d_Mdl_ask_120 : decode b_Mdl_ask 120 = .ok (.iload 4, 2) := by decide +kernel
theorem d_Mdl_ask_122 : decode b_Mdl_ask 122 = .ok (.iadd, 1) := by decide +kernel
theorem d_Mdl_ask_123 : decode b_Mdl_ask 123 = .ok (.ireturn, 1) := by decide +kernel
theorem d_Mdl_ask_124 : decode b_Mdl_ask 124 = .ok (.aload_n 0, 1) := by decide +kernel
theorem d_Mdl_ask_125 : decode b_Mdl_ask 125 = .ok (.getfield 65, 3) := by decide +kernel
theorem d_Mdl_ask_128 : decode b_Mdl_ask 128 = .ok (.iload_n 3, 1) := by decide +kernel
theorem d_Mdl_ask_129 : decode b_Mdl_ask 129 = .ok (.iaload, 1) := by decide +kernel
theorem d_Mdl_ask_130 : decode b_Mdl_ask 130 = .ok (.iconst 1, 1) := by decide +kernel
theorem d_Mdl_ask_131 : decode b_Mdl_ask 131 = .ok (.if_icmp .ne 25, 3) := by decide +kernel
theorem d_Mdl_ask_134 : decode b_Mdl_ask 134 = .ok (.aload_n 0, 1) := by decide +kernel
theorem d_Mdl_ask_135 : decode b_Mdl_ask 135 = .ok (.getfield 13, 3) := by decide +kernel
theorem d_Mdl_ask_138 : decode b_Mdl_ask 138 = .ok (.iload 5, 2) := by decide +kernel
theorem d_Mdl_ask_140 : decode b_Mdl_ask 140 = .ok (.dup2, 1) := by decide +kernel
theorem d_Mdl_ask_141 : decode b_Mdl_ask 141 = .ok (.iaload, 1) := by decide +kernel
theorem d_Mdl_ask_142 : decode b_Mdl_ask 142 = .ok (.iload_n 2, 1) := by decide +kernel
theorem d_Mdl_ask_143 : decode b_Mdl_ask 143 = .ok (.iadd, 1) := by decide +kernel
theorem d_Mdl_ask_144 : decode b_Mdl_ask 144 = .ok (.iastore, 1) := by decide +kernel
theorem d_Mdl_ask_145 : decode b_Mdl_ask 145 = .ok (.aload_n 0, 1) := by decide +kernel
theorem d_Mdl_ask_146 : decode b_Mdl_ask 146 = .ok (.getfield 13, 3) := by decide +kernel
theorem d_Mdl_ask_149 : decode b_Mdl_ask 149 = .ok (.iload 5, 2) := by decide +kernel
theorem d_Mdl_ask_151 : decode b_Mdl_ask 151 = .ok (.iaload, 1) := by decide +kernel
theorem d_Mdl_ask_152 : decode b_Mdl_ask 152 = .ok (.iload 4, 2) := by decide +kernel
theorem d_Mdl_ask_154 : decode b_Mdl_ask 154 = .ok (.iadd, 1) := by decide +kernel
theorem d_Mdl_ask_155 : decode b_Mdl_ask 155 = .ok (.ireturn, 1) := by decide +kernel
theorem d_Mdl_ask_156 : decode b_Mdl_ask 156 = .ok (.aload_n 0, 1) := by decide +kernel
theorem d_Mdl_ask_157 : decode b_Mdl_ask 157 = .ok (.getfield 13, 3) := by decide +kernel
theorem d_Mdl_ask_160 : decode b_Mdl_ask 160 = .ok (.iload 5, 2) := by decide +kernel
theorem d_Mdl_ask_162 : decode b_Mdl_ask 162 = .ok (.iaload, 1) := by decide +kernel
theorem d_Mdl_ask_163 : decode b_Mdl_ask 163 = .ok (.ifCond .ne 10, 3) := by decide +kernel
theorem d_Mdl_ask_166 : decode b_Mdl_ask 166 = .ok (.aload_n 0, 1) := by decide +kernel
theorem d_Mdl_ask_167 : decode b_Mdl_ask 167 = .ok (.iconst 3, 1) := by decide +kernel
theorem d_Mdl_ask_168 : decode b_Mdl_ask 168 = .ok (.putfield 149, 3) := by decide +kernel
theorem d_Mdl_ask_171 : decode b_Mdl_ask 171 = .ok (.iconst 0, 1) := by decide +kernel
theorem d_Mdl_ask_172 : decode b_Mdl_ask 172 = .ok (.ireturn, 1) := by decide +kernel
theorem d_Mdl_ask_173 : decode b_Mdl_ask 173 = .ok (.iload_n 2, 1) := by decide +kernel
theorem d_Mdl_ask_174 : decode b_Mdl_ask 174 = .ok (.aload_n 0, 1) := by decide +kernel
theorem d_Mdl_ask_175 : decode b_Mdl_ask 175 = .ok (.getfield 13, 3) := by decide +kernel
theorem d_Mdl_ask_178 : decode b_Mdl_ask 178 = .ok (.iload 5, 2) := by decide +kernel
theorem d_Mdl_ask_180 : decode b_Mdl_ask 180 = .ok (.iaload, 1) := by decide +kernel
theorem d_Mdl_ask_181 : decode b_Mdl_ask 181 = .ok (.idiv, 1) := by decide +kernel
theorem d_Mdl_ask_182 : decode b_Mdl_ask 182 = .ok (.iload 4, 2) := by decide +kernel
theorem d_Mdl_ask_184 : decode b_Mdl_ask 184 = .ok (.iadd, 1) := by decide +kernel
theorem d_Mdl_ask_185 : decode b_Mdl_ask 185 = .ok (.ireturn, 1) := by decide +kernel
theorem d_Mdl_tick_0 : decode b_Mdl_tick 0 = .ok (.aload_n 0, 1) := by decide +kernel
theorem d_Mdl_tick_1 : decode b_Mdl_tick 1 = .ok (.iconst 0, 1) := by decide +kernel
theorem d_Mdl_tick_2 : decode b_Mdl_tick 2 = .ok (.putfield 102, 3) := by decide +kernel
theorem d_Mdl_tick_5 : decode b_Mdl_tick 5 = .ok (.iload_n 1, 1) := by decide +kernel
theorem d_Mdl_tick_6 : decode b_Mdl_tick 6 = .ok (.iconst 1, 1) := by decide +kernel
theorem d_Mdl_tick_7 : decode b_Mdl_tick 7 = .ok (.bipush 8, 2) := by decide +kernel
theorem d_Mdl_tick_9 : decode b_Mdl_tick 9 = .ok (.invokestatic 106, 3) := by decide +kernel
theorem d_Mdl_tick_12 : decode b_Mdl_tick 12 = .ok (.ifCond .ne 9, 3) := by decide +kernel
theorem d_Mdl_tick_15 : decode b_Mdl_tick 15 = .ok (.aload_n 0, 1) := by decide +kernel
theorem d_Mdl_tick_16 : decode b_Mdl_tick 16 = .ok (.iconst 1, 1) := by decide +kernel
theorem d_Mdl_tick_17 : decode b_Mdl_tick 17 = .ok (.invokevirtual 110, 3) := by decide +kernel
theorem d_Mdl_tick_20 : decode b_Mdl_tick 20 = .ok (.ireturn, 1) := by decide +kernel
theorem d_Mdl_tick_21 : decode b_Mdl_tick 21 = .ok (.iconst 0, 1) := by decide +kernel
theorem d_Mdl_tick_22 : decode b_Mdl_tick 22 = .ok (.istore_n 2, 1) := by decide +kernel
theorem d_Mdl_tick_23 : decode b_Mdl_tick 23 = .ok (.iload_n 2, 1) := by decide +kernel
theorem d_Mdl_tick_24 : decode b_Mdl_tick 24 = .ok (.iload_n 1, 1) := by decide +kernel
theorem d_Mdl_tick_25 : decode b_Mdl_tick 25 = .ok (.if_icmp .ge 51, 3) := by decide +kernel
theorem d_Mdl_tick_28 : decode b_Mdl_tick 28 = .ok (.aload_n 0, 1) := by decide +kernel
theorem d_Mdl_tick_29 : decode b_Mdl_tick 29 = .ok (.dup, 1) := by decide +kernel
theorem d_Mdl_tick_30 : decode b_Mdl_tick 30 = .ok (.getfield 128, 3) := by decide +kernel
theorem d_Mdl_tick_33 : decode b_Mdl_tick 33 = .ok (.iconst 1, 1) := by decide +kernel
theorem d_Mdl_tick_34 : decode b_Mdl_tick 34 = .ok (.iadd, 1) := by decide +kernel
theorem d_Mdl_tick_35 : decode b_Mdl_tick 35 = .ok (.putfield 128, 3) := by decide +kernel
theorem d_Mdl_tick_38 : decode b_Mdl_tick 38 = .ok (.aload_n 0, 1) := by decide +kernel
theorem d_Mdl_tick_39 : decode b_Mdl_tick 39 = .ok (.invokevirtual 182, 3) := by decide +kernel
theorem d_Mdl_tick_42 : decode b_Mdl_tick 42 = .ok (.iconst 0, 1) := by decide +kernel
theorem d_Mdl_tick_43 : decode b_Mdl_tick 43 = .ok (.istore_n 3, 1) := by decide +kernel
theorem d_Mdl_tick_44 : decode b_Mdl_tick 44 = .ok (.iload_n 3, 1) := by decide +kernel
theorem d_Mdl_tick_45 : decode b_Mdl_tick 45 = .ok (.bipush 6, 2) := by decide +kernel
theorem d_Mdl_tick_47 : decode b_Mdl_tick 47 = .ok (.if_icmp .ge 23, 3) := by decide +kernel
theorem d_Mdl_tick_50 : decode b_Mdl_tick 50 = .ok (.aload_n 0, 1) := by decide +kernel
theorem d_Mdl_tick_51 : decode b_Mdl_tick 51 = .ok (.getfield 7, 3) := by decide +kernel
theorem d_Mdl_tick_54 : decode b_Mdl_tick 54 = .ok (.iload_n 3, 1) := by decide +kernel
theorem d_Mdl_tick_55 : decode b_Mdl_tick 55 = .ok (.baload, 1) := by decide +kernel
theorem d_Mdl_tick_56 : decode b_Mdl_tick 56 = .ok (.ifCond .eq 8, 3) := by decide +kernel
theorem d_Mdl_tick_59 : decode b_Mdl_tick 59 = .ok (.aload_n 0, 1) := by decide +kernel
theorem d_Mdl_tick_60 : decode b_Mdl_tick 60 = .ok (.iload_n 3, 1) := by decide +kernel
theorem d_Mdl_tick_61 : decode b_Mdl_tick 61 = .ok (.invokevirtual 185, 3) := by decide +kernel
theorem d_Mdl_tick_64 : decode b_Mdl_tick 64 = .ok (.iinc 3 1, 3) := by decide +kernel
theorem d_Mdl_tick_67 : decode b_Mdl_tick 67 = .ok (.goto (-23), 3) := by decide +kernel
theorem d_Mdl_tick_70 : decode b_Mdl_tick 70 = .ok (.iinc 2 1, 3) := by decide +kernel
theorem d_Mdl_tick_73 : decode b_Mdl_tick 73 = .ok (.goto (-50), 3) := by decide +kernel
theorem d_Mdl_tick_76 : decode b_Mdl_tick 76 = .ok (.aload_n 0, 1) := by decide +kernel
theorem d_Mdl_tick_77 : decode b_Mdl_tick 77 = .ok (.getfield 128, 3) := by decide +kernel
theorem d_Mdl_tick_80 : decode b_Mdl_tick 80 = .ok (.ireturn, 1) := by decide +kernel
theorem d_Mdl_playDue_0 : decode b_Mdl_playDue 0 = .ok (.aload_n 0, 1) := by decide +kernel
theorem d_Mdl_playDue_1 : decode b_Mdl_playDue 1 = .ok (.getfield 156, 3) := by decide +kernel
theorem d_Mdl_playDue_4 : decode b_Mdl_playDue 4 = .ok (.ifCond .eq 102, 3) := by decide +kernel
theorem d_Mdl_playDue_7 : decode b_Mdl_playDue 7 = .ok (.aload_n 0, 1) := by decide +kernel
theorem d_Mdl_playDue_8 : decode b_Mdl_playDue 8 = .ok (.getfield 74, 3) := by decide +kernel
theorem d_Mdl_playDue_11 : decode b_Mdl_playDue 11 = .ok (.aload_n 0, 1) := by decide +kernel
theorem d_Mdl_playDue_12 : decode b_Mdl_playDue 12 = .ok (.getfield 160, 3) := by decide +kernel
theorem d_Mdl_playDue_15 : decode b_Mdl_playDue 15 = .ok (.iaload, 1) := by decide +kernel
theorem d_Mdl_playDue_16 : decode b_Mdl_playDue 16 = .ok (.aload_n 0, 1) := by decide +kernel
theorem d_Mdl_playDue_17 : decode b_Mdl_playDue 17 = .ok (.getfield 74, 3) := by decide +kernel
theorem d_Mdl_playDue_20 : decode b_Mdl_playDue 20 = .ok (.iconst 0, 1) := by decide +kernel
theorem d_Mdl_playDue_21 : decode b_Mdl_playDue 21 = .ok (.iaload, 1) := by decide +kernel
theorem d_Mdl_playDue_22 : decode b_Mdl_playDue 22 = .ok (.isub, 1) := by decide +kernel
theorem d_Mdl_playDue_23 : decode b_Mdl_playDue 23 = .ok (.istore_n 1, 1) := by decide +kernel
theorem d_Mdl_playDue_24 : decode b_Mdl_playDue 24 = .ok (.aload_n 0, 1) := by decide +kernel
theorem d_Mdl_playDue_25 : decode b_Mdl_playDue 25 = .ok (.getfield 163, 3) := by decide +kernel
theorem d_Mdl_playDue_28 : decode b_Mdl_playDue 28 = .ok (.iload_n 1, 1) := by decide +kernel
theorem d_Mdl_playDue_29 : decode b_Mdl_playDue 29 = .ok (.aload_n 0, 1) := by decide +kernel
theorem d_Mdl_playDue_30 : decode b_Mdl_playDue 30 = .ok (.getfield 166, 3) := by decide +kernel
theorem d_Mdl_playDue_33 : decode b_Mdl_playDue 33 = .ok (.iadd, 1) := by decide +kernel
theorem d_Mdl_playDue_34 : decode b_Mdl_playDue 34 = .ok (.iconst 1, 1) := by decide +kernel
theorem d_Mdl_playDue_35 : decode b_Mdl_playDue 35 = .ok (.isub, 1) := by decide +kernel
theorem d_Mdl_playDue_36 : decode b_Mdl_playDue 36 = .ok (.aload_n 0, 1) := by decide +kernel
theorem d_Mdl_playDue_37 : decode b_Mdl_playDue 37 = .ok (.getfield 166, 3) := by decide +kernel
theorem d_Mdl_playDue_40 : decode b_Mdl_playDue 40 = .ok (.idiv, 1) := by decide +kernel
theorem d_Mdl_playDue_41 : decode b_Mdl_playDue 41 = .ok (.iadd, 1) := by decide +kernel
theorem d_Mdl_playDue_42 : decode b_Mdl_playDue 42 = .ok (.aload_n 0, 1) := by decide +kernel
theorem d_Mdl_playDue_43 : decode b_Mdl_playDue 43 = .ok (.getfield 128, 3) := by decide +kernel
theorem d_Mdl_playDue_46 : decode b_Mdl_playDue 46 = .ok (.if_icmp .le 4, 3) := by decide +kernel
theorem d_Mdl_playDue_49 : decode b_Mdl_playDue 49 = .ok (.return_, 1) := by decide +kernel
theorem d_Mdl_playDue_50 : decode b_Mdl_playDue 50 = .ok (.aload_n 0, 1) := by decide +kernel
theorem d_Mdl_playDue_51 : decode b_Mdl_playDue 51 = .ok (.getfield 160, 3) := by decide +kernel
theorem d_Mdl_playDue_54 : decode b_Mdl_playDue 54 = .ok (.istore_n 2, 1) := by decide +kernel
theorem d_Mdl_playDue_55 : decode b_Mdl_playDue 55 = .ok (.aload_n 0, 1) := by decide +kernel
theorem d_Mdl_playDue_56 : decode b_Mdl_playDue 56 = .ok (.dup, 1) := by decide +kernel
theorem d_Mdl_playDue_57 : decode b_Mdl_playDue 57 = .ok (.getfield 160, 3) := by decide +kernel
theorem d_Mdl_playDue_60 : decode b_Mdl_playDue 60 = .ok (.iconst 1, 1) := by decide +kernel
theorem d_Mdl_playDue_61 : decode b_Mdl_playDue 61 = .ok (.iadd, 1) := by decide +kernel
theorem d_Mdl_playDue_62 : decode b_Mdl_playDue 62 = .ok (.putfield 160, 3) := by decide +kernel
theorem d_Mdl_playDue_65 : decode b_Mdl_playDue 65 = .ok (.aload_n 0, 1) := by decide +kernel
theorem d_Mdl_playDue_66 : decode b_Mdl_playDue 66 = .ok (.aload_n 0, 1) := by decide +kernel
theorem d_Mdl_playDue_67 : decode b_Mdl_playDue 67 = .ok (.getfield 160, 3) := by decide +kernel
theorem d_Mdl_playDue_70 : decode b_Mdl_playDue 70 = .ok (.aload_n 0, 1) := by decide +kernel
theorem d_Mdl_playDue_71 : decode b_Mdl_playDue 71 = .ok (.getfield 169, 3) := by decide +kernel
theorem d_Mdl_playDue_74 : decode b_Mdl_playDue 74 = .ok (.if_icmp .ge 7, 3) := by decide +kernel
theorem d_Mdl_playDue_77 : decode b_Mdl_playDue 77 = .ok (.iconst 1, 1) := by decide +kernel
theorem d_Mdl_playDue_78 : decode b_Mdl_playDue 78 = .ok (.goto 4, 3) := by decide +kernel
theorem d_Mdl_playDue_81 : decode b_Mdl_playDue 81 = .ok (.iconst 0, 1) := by decide +kernel
theorem d_Mdl_playDue_82 : decode b_Mdl_playDue 82 = .ok (.putfield 156, 3) := by decide +kernel
theorem d_Mdl_playDue_85 : decode b_Mdl_playDue 85 = .ok (.aload_n 0, 1) := by decide +kernel
theorem d_Mdl_playDue_86 : decode b_Mdl_playDue 86 = .ok (.aload_n 0, 1) := by decide +kernel
theorem d_Mdl_playDue_87 : decode b_Mdl_playDue 87 = .ok (.getfield 77, 3) := by decide +kernel
theorem d_Mdl_playDue_90 : decode b_Mdl_playDue 90 = .ok (.iload_n 2, 1) := by decide +kernel
theorem d_Mdl_playDue_91 : decode b_Mdl_playDue 91 = .ok (.iaload, 1) := by decide +kernel
theorem d_Mdl_playDue_92 : decode b_Mdl_playDue 92 = .ok (.aload_n 0, 1) := by decide +kernel
theorem d_Mdl_playDue_93 : decode b_Mdl_playDue 93 = .ok (.getfield 80, 3) := by decide +kernel
theorem d_Mdl_playDue_96 : decode b_Mdl_playDue 96 = .ok (.iload_n 2, 1) := by decide +kernel
theorem d_Mdl_playDue_97 : decode b_Mdl_playDue 97 = .ok (.iaload, 1) := by decide +kernel
theorem d_Mdl_playDue_98 : decode b_Mdl_playDue 98 = .ok (.iconst (-1), 1) := by decide +kernel
theorem d_Mdl_playDue_99 : decode b_Mdl_playDue 99 = .ok (.invokevirtual 138, 3) := by decide +kernel
theorem d_Mdl_playDue_102 : decode b_Mdl_playDue 102 = .ok (.pop, 1) := by decide +kernel
theorem d_Mdl_playDue_103 : decode b_Mdl_playDue 103 = .ok (.goto (-103), 3) := by decide +kernel
theorem d_Mdl_playDue_106 : decode b_Mdl_playDue 106 = .ok (.return_, 1) := by decide +kernel
theorem d_Mdl_spin_0 : decode b_Mdl_spin 0 = .ok (.iconst 1, 1) := by decide +kernel
theorem d_Mdl_spin_1 : decode b_Mdl_spin 1 = .ok (.istore_n 2, 1) := by decide +kernel
theorem d_Mdl_spin_2 : decode b_Mdl_spin 2 = .ok (.iload_n 2, 1) := by decide +kernel
theorem d_Mdl_spin_3 : decode b_Mdl_spin 3 = .ok (.bipush 6, 2) := by decide +kernel
theorem d_Mdl_spin_5 : decode b_Mdl_spin 5 = .ok (.if_icmp .gt 86, 3) := by decide +kernel
theorem d_Mdl_spin_8 : decode b_Mdl_spin 8 = .ok (.aload_n 0, 1) := by decide +kernel
theorem d_Mdl_spin_9 : decode b_Mdl_spin 9 = .ok (.getfield 17, 3) := by decide +kernel
theorem d_Mdl_spin_12 : decode b_Mdl_spin 12 = .ok (.iload_n 1, 1) := by decide +kernel
theorem d_Mdl_spin_13 : decode b_Mdl_spin 13 = .ok (.iaload, 1) := by decide +kernel
theorem d_Mdl_spin_14 : decode b_Mdl_spin 14 = .ok (.iload_n 2, 1) := by decide +kernel
theorem d_Mdl_spin_15 : decode b_Mdl_spin 15 = .ok (.iadd, 1) := by decide +kernel
theorem d_Mdl_spin_16 : decode b_Mdl_spin 16 = .ok (.bipush 6, 2) := by decide +kernel
theorem d_Mdl_spin_18 : decode b_Mdl_spin 18 = .ok (.irem, 1) := by decide +kernel
theorem d_Mdl_spin_19 : decode b_Mdl_spin 19 = .ok (.istore_n 3, 1) := by decide +kernel
theorem d_Mdl_spin_20 : decode b_Mdl_spin 20 = .ok (.bipush 6, 2) := by decide +kernel
theorem d_Mdl_spin_22 : decode b_Mdl_spin 22 = .ok (.iload_n 1, 1) := by decide +kernel
theorem d_Mdl_spin_23 : decode b_Mdl_spin 23 = .ok (.imul, 1) := by decide +kernel
theorem d_Mdl_spin_24 : decode b_Mdl_spin 24 = .ok (.iload_n 3, 1) := by decide +kernel
theorem d_Mdl_spin_25 : decode b_Mdl_spin 25 = .ok (.iadd, 1) := by decide +kernel
theorem d_Mdl_spin_26 : decode b_Mdl_spin 26 = .ok (.istore 4, 2) := by decide +kernel
theorem d_Mdl_spin_28 : decode b_Mdl_spin 28 = .ok (.aload_n 0, 1) := by decide +kernel
theorem d_Mdl_spin_29 : decode b_Mdl_spin 29 = .ok (.getfield 23, 3) := by decide +kernel
theorem d_Mdl_spin_32 : decode b_Mdl_spin 32 = .ok (.iload 4, 2) := by decide +kernel
theorem d_Mdl_spin_34 : decode b_Mdl_spin 34 = .ok (.iaload, 1) := by decide +kernel
theorem d_Mdl_spin_35 : decode b_Mdl_spin 35 = .ok (.ifCond .ne 6, 3) := by decide +kernel
theorem d_Mdl_spin_38 : decode b_Mdl_spin 38 = .ok (.goto 47, 3) := by decide +kernel
theorem d_Mdl_spin_41 : decode b_Mdl_spin 41 = .ok (.aload_n 0, 1) := by decide +kernel
theorem d_Mdl_spin_42 : decode b_Mdl_spin 42 = .ok (.getfield 26, 3) := by decide +kernel
theorem d_Mdl_spin_45 : decode b_Mdl_spin 45 = .ok (.iconst 4, 1) := by decide +kernel
theorem d_Mdl_spin_46 : decode b_Mdl_spin 46 = .ok (.iload 4, 2) := by decide +kernel
theorem d_Mdl_spin_48 : decode b_Mdl_spin 48 = .ok (.imul, 1) := by decide +kernel
theorem d_Mdl_spin_49 : decode b_Mdl_spin 49 = .ok (.iaload, 1) := by decide +kernel
theorem d_Mdl_spin_50 : decode b_Mdl_spin 50 = .ok (.istore 5, 2) := by decide +kernel
theorem d_Mdl_spin_52 : decode b_Mdl_spin 52 = .ok (.aload_n 0, 1) := by decide +kernel
theorem d_Mdl_spin_53 : decode b_Mdl_spin 53 = .ok (.iload 4, 2) := by decide +kernel
theorem d_Mdl_spin_55 : decode b_Mdl_spin 55 = .ok (.invokevirtual 118, 3) := by decide +kernel
theorem d_Mdl_spin_58 : decode b_Mdl_spin 58 = .ok (.aload_n 0, 1) := by decide +kernel
theorem d_Mdl_spin_59 : decode b_Mdl_spin 59 = .ok (.getfield 17, 3) := by decide +kernel
theorem d_Mdl_spin_62 : decode b_Mdl_spin 62 = .ok (.iload_n 1, 1) := by decide +kernel
theorem d_Mdl_spin_63 : decode b_Mdl_spin 63 = .ok (.iload_n 3, 1) := by decide +kernel
theorem d_Mdl_spin_64 : decode b_Mdl_spin 64 = .ok (.iastore, 1) := by decide +kernel
theorem d_Mdl_spin_65 : decode b_Mdl_spin 65 = .ok (.aload_n 0, 1) := by decide +kernel
theorem d_Mdl_spin_66 : decode b_Mdl_spin 66 = .ok (.getfield 35, 3) := by decide +kernel
theorem d_Mdl_spin_69 : decode b_Mdl_spin 69 = .ok (.iload 4, 2) := by decide +kernel
theorem d_Mdl_spin_71 : decode b_Mdl_spin 71 = .ok (.iaload, 1) := by decide +kernel
theorem d_Mdl_spin_72 : decode b_Mdl_spin 72 = .ok (.ifCond .lt 12, 3) := by decide +kernel
theorem d_Mdl_spin_75 : decode b_Mdl_spin 75 = .ok (.aload_n 0, 1) := by decide +kernel
theorem d_Mdl_spin_76 : decode b_Mdl_spin 76 = .ok (.iload_n 1, 1) := by decide +kernel
theorem d_Mdl_spin_77 : decode b_Mdl_spin 77 = .ok (.iload 4, 2) := by decide +kernel
theorem d_Mdl_spin_79 : decode b_Mdl_spin 79 = .ok (.iload 5, 2) := by decide +kernel
theorem d_Mdl_spin_81 : decode b_Mdl_spin 81 = .ok (.invokevirtual 178, 3) := by decide +kernel
theorem d_Mdl_spin_84 : decode b_Mdl_spin 84 = .ok (.return_, 1) := by decide +kernel
theorem d_Mdl_spin_85 : decode b_Mdl_spin 85 = .ok (.iinc 2 1, 3) := by decide +kernel
theorem d_Mdl_spin_88 : decode b_Mdl_spin 88 = .ok (.goto (-86), 3) := by decide +kernel
theorem d_Mdl_spin_91 : decode b_Mdl_spin 91 = .ok (.return_, 1) := by decide +kernel
theorem d_Mdl_perform_0 : decode b_Mdl_perform 0 = .ok (.aload_n 0, 1) := by decide +kernel
theorem d_Mdl_perform_1 : decode b_Mdl_perform 1 = .ok (.getfield 38, 3) := by decide +kernel
theorem d_Mdl_perform_4 : decode b_Mdl_perform 4 = .ok (.iload_n 2, 1) := by decide +kernel
theorem d_Mdl_perform_5 : decode b_Mdl_perform 5 = .ok (.iaload, 1) := by decide +kernel
theorem d_Mdl_perform_6 : decode b_Mdl_perform 6 = .ok (.istore 4, 2) := by decide +kernel
theorem d_Mdl_perform_8 : decode b_Mdl_perform 8 = .ok (.aload_n 0, 1) := by decide +kernel
theorem d_Mdl_perform_9 : decode b_Mdl_perform 9 = .ok (.getfield 41, 3) := by decide +kernel
theorem d_Mdl_perform_12 : decode b_Mdl_perform 12 = .ok (.iload_n 2, 1) := by decide +kernel
theorem d_Mdl_perform_13 : decode b_Mdl_perform 13 = .ok (.iaload, 1) := by decide +kernel
theorem d_Mdl_perform_14 : decode b_Mdl_perform 14 = .ok (.istore 5, 2) := by decide +kernel
theorem d_Mdl_perform_16 : decode b_Mdl_perform 16 = .ok (.aload_n 0, 1) := by decide +kernel
theorem d_Mdl_perform_17 : decode b_Mdl_perform 17 = .ok (.dup, 1) := by decide +kernel
theorem d_Mdl_perform_18 : decode b_Mdl_perform 18 = .ok (.getfield 172, 3) := by decide +kernel
theorem d_Mdl_perform_21 : decode b_Mdl_perform 21 = .ok (.iconst 1, 1) := by decide +kernel
theorem d_Mdl_perform_22 : decode b_Mdl_perform 22 = .ok (.iadd, 1) := by decide +kernel
theorem d_Mdl_perform_23 : decode b_Mdl_perform 23 = .ok (.putfield 172, 3) := by decide +kernel
theorem d_Mdl_perform_26 : decode b_Mdl_perform 26 = .ok (.aload_n 0, 1) := by decide +kernel
theorem d_Mdl_perform_27 : decode b_Mdl_perform 27 = .ok (.getfield 35, 3) := by decide +kernel
theorem d_Mdl_perform_30 : decode b_Mdl_perform 30 = .ok (.iload_n 2, 1) := by decide +kernel
theorem d_Mdl_perform_31 : decode b_Mdl_perform 31 = .ok (.iaload, 1) := by decide +kernel
theorem d_Mdl_perform_32 : decode b_Mdl_perform 32 = .ok (.tableswitch 125 0 3 #[32, 47, 65, 80], 32) := by decide +kernel
theorem d_Mdl_perform_64 : decode b_Mdl_perform 64 = .ok (.aload_n 0, 1) := by decide +kernel
theorem d_Mdl_perform_65 : decode b_Mdl_perform 65 = .ok (.getfield 13, 3) := by decide +kernel
theorem d_Mdl_perform_68 : decode b_Mdl_perform 68 = .ok (.iconst 4, 1) := by decide +kernel
theorem d_Mdl_perform_69 : decode b_Mdl_perform 69 = .ok (.iload_n 1, 1) := by decide +kernel
theorem d_Mdl_perform_70 : decode b_Mdl_perform 70 = .ok (.imul, 1) := by decide +kernel
theorem d_Mdl_perform_71 : decode b_Mdl_perform 71 = .ok (.iload 4, 2) := by decide +kernel
theorem d_Mdl_perform_73 : decode b_Mdl_perform 73 = .ok (.iadd, 1) := by decide +kernel
theorem d_Mdl_perform_74 : decode b_Mdl_perform 74 = .ok (.iload_n 3, 1) := by decide +kernel
theorem d_Mdl_perform_75 : decode b_Mdl_perform 75 = .ok (.iastore, 1) := by decide +kernel
theorem d_Mdl_perform_76 : decode b_Mdl_perform 76 = .ok (.goto 100, 3) := by decide +kernel
theorem d_Mdl_perform_79 : decode b_Mdl_perform 79 = .ok (.aload_n 0, 1) := by decide +kernel
theorem d_Mdl_perform_80 : decode b_Mdl_perform 80 = .ok (.getfield 13, 3) := by decide +kernel
theorem d_Mdl_perform_83 : decode b_Mdl_perform 83 = .ok (.iconst 4, 1) := by decide +kernel
theorem d_Mdl_perform_84 : decode b_Mdl_perform 84 = .ok (.iload_n 1, 1) := by decide +kernel
theorem d_Mdl_perform_85 : decode b_Mdl_perform 85 = .ok (.imul, 1) := by decide +kernel
theorem d_Mdl_perform_86 : decode b_Mdl_perform 86 = .ok (.iload 4, 2) := by decide +kernel
theorem d_Mdl_perform_88 : decode b_Mdl_perform 88 = .ok (.iadd, 1) := by decide +kernel
theorem d_Mdl_perform_89 : decode b_Mdl_perform 89 = .ok (.dup2, 1) := by decide +kernel
theorem d_Mdl_perform_90 : decode b_Mdl_perform 90 = .ok (.iaload, 1) := by decide +kernel
theorem d_Mdl_perform_91 : decode b_Mdl_perform 91 = .ok (.iload_n 3, 1) := by decide +kernel
theorem d_Mdl_perform_92 : decode b_Mdl_perform 92 = .ok (.iadd, 1) := by decide +kernel
theorem d_Mdl_perform_93 : decode b_Mdl_perform 93 = .ok (.iastore, 1) := by decide +kernel
theorem d_Mdl_perform_94 : decode b_Mdl_perform 94 = .ok (.goto 82, 3) := by decide +kernel
theorem d_Mdl_perform_97 : decode b_Mdl_perform 97 = .ok (.aload_n 0, 1) := by decide +kernel
theorem d_Mdl_perform_98 : decode b_Mdl_perform 98 = .ok (.iload 4, 2) := by decide +kernel
theorem d_Mdl_perform_100 : decode b_Mdl_perform 100 = .ok (.iload_n 3, 1) := by decide +kernel
theorem d_Mdl_perform_101 : decode b_Mdl_perform 101 = .ok (.iload 5, 2) := by decide +kernel
theorem d_Mdl_perform_103 : decode b_Mdl_perform 103 = .ok (.imul, 1) := by decide +kernel
theorem d_Mdl_perform_104 : decode b_Mdl_perform 104 = .ok (.iload_n 1, 1) := by decide +kernel
theorem d_Mdl_perform_105 : decode b_Mdl_perform 105 = .ok (.invokevirtual 138, 3) := by decide +kernel
theorem d_Mdl_perform_108 : decode b_Mdl_perform 108 = .ok (.pop, 1) := by decide +kernel
theorem d_Mdl_perform_109 : decode b_Mdl_perform 109 = .ok (.goto 67, 3) := by decide +kernel
theorem d_Mdl_perform_112 : decode b_Mdl_perform 112 = .ok (.aload_n 0, 1) := by decide +kernel
theorem d_Mdl_perform_113 : decode b_Mdl_perform 113 = .ok (.iload 4, 2) := by decide +kernel
theorem d_Mdl_perform_115 : decode b_Mdl_perform 115 = .ok (.iload_n 3, 1) := by decide +kernel
theorem d_Mdl_perform_116 : decode b_Mdl_perform 116 = .ok (.invokevirtual 152, 3) := by decide +kernel
theorem d_Mdl_perform_119 : decode b_Mdl_perform 119 = .ok (.istore 6, 2) := by decide +kernel
theorem d_Mdl_perform_121 : decode b_Mdl_perform 121 = .ok (.aload_n 0, 1) := by decide +kernel
theorem d_Mdl_perform_122 : decode b_Mdl_perform 122 = .ok (.getfield 149, 3) := by decide +kernel
theorem d_Mdl_perform_125 : decode b_Mdl_perform 125 = .ok (.ifCond .ne 19, 3) := by decide +kernel
theorem d_Mdl_perform_128 : decode b_Mdl_perform 128 = .ok (.aload_n 0, 1) := by decide +kernel
theorem d_Mdl_perform_129 : decode b_Mdl_perform 129 = .ok (.getfield 13, 3) := by decide +kernel
theorem d_Mdl_perform_132 : decode b_Mdl_perform 132 = .ok (.iconst 4, 1) := by decide +kernel
theorem d_Mdl_perform_133 : decode b_Mdl_perform 133 = .ok (.iload_n 1, 1) := by decide +kernel
theorem d_Mdl_perform_134 : decode b_Mdl_perform 134 = .ok (.imul, 1) := by decide +kernel
theorem d_Mdl_perform_135 : decode b_Mdl_perform 135 = .ok (.iload 5, 2) := by decide +kernel
theorem d_Mdl_perform_137 : decode b_Mdl_perform 137 = .ok (.iadd, 1) := by decide +kernel
theorem d_Mdl_perform_138 : decode b_Mdl_perform 138 = .ok (.iload 6, 2) := by decide +kernel
theorem d_Mdl_perform_140 : decode b_Mdl_perform 140 = .ok (.iastore, 1) := by decide +kernel
theorem d_Mdl_perform_141 : decode b_Mdl_perform 141 = .ok (.goto 35, 3) := by decide +kernel
theorem d_Mdl_perform_144 : decode b_Mdl_perform 144 = .ok (.aload_n 0, 1) := by decide +kernel
theorem d_Mdl_perform_145 : decode b_Mdl_perform 145 = .ok (.dup, 1) := by decide +kernel
theorem d_Mdl_perform_146 : decode b_Mdl_perform 146 = .ok (.getfield 175, 3) := by decide +kernel
theorem d_Mdl_perform_149 : decode b_Mdl_perform 149 = .ok (.iconst 1, 1) := by decide +kernel
theorem d_Mdl_perform_150 : decode b_Mdl_perform 150 = .ok (.iadd, 1) := by decide +kernel
theorem d_Mdl_perform_151 : decode b_Mdl_perform 151 = .ok (.putfield 175, 3) := by decide +kernel
theorem d_Mdl_perform_154 : decode b_Mdl_perform 154 = .ok (.goto 22, 3) := by decide +kernel
theorem d_Mdl_perform_157 : decode b_Mdl_perform 157 = .ok (.aload_n 0, 1) := by decide +kernel
theorem d_Mdl_perform_158 : decode b_Mdl_perform 158 = .ok (.iload 4, 2) := by decide +kernel
theorem d_Mdl_perform_160 : decode b_Mdl_perform 160 = .ok (.aload_n 0, 1) := by decide +kernel
theorem d_Mdl_perform_161 : decode b_Mdl_perform 161 = .ok (.getfield 13, 3) := by decide +kernel
theorem d_Mdl_perform_164 : decode b_Mdl_perform 164 = .ok (.iconst 4, 1) := by decide +kernel
theorem d_Mdl_perform_165 : decode b_Mdl_perform 165 = .ok (.iload_n 1, 1) := by decide +kernel
theorem d_Mdl_perform_166 : decode b_Mdl_perform 166 = .ok (.imul, 1) := by decide +kernel
theorem d_Mdl_perform_167 : decode b_Mdl_perform 167 = .ok (.iload 5, 2) := by decide +kernel
theorem d_Mdl_perform_169 : decode b_Mdl_perform 169 = .ok (.iadd, 1) := by decide +kernel
theorem d_Mdl_perform_170 : decode b_Mdl_perform 170 = .ok (.iaload, 1) := by decide +kernel
theorem d_Mdl_perform_171 : decode b_Mdl_perform 171 = .ok (.iload_n 1, 1) := by decide +kernel
theorem d_Mdl_perform_172 : decode b_Mdl_perform 172 = .ok (.invokevirtual 138, 3) := by decide +kernel
theorem d_Mdl_perform_175 : decode b_Mdl_perform 175 = .ok (.pop, 1) := by decide +kernel
theorem d_Mdl_perform_176 : decode b_Mdl_perform 176 = .ok (.return_, 1) := by decide +kernel
theorem d_Mdl_variable_0 : decode b_Mdl_variable 0 = .ok (.aload_n 0, 1) := by decide +kernel
theorem d_Mdl_variable_1 : decode b_Mdl_variable 1 = .ok (.iconst 0, 1) := by decide +kernel
theorem d_Mdl_variable_2 : decode b_Mdl_variable 2 = .ok (.putfield 102, 3) := by decide +kernel
theorem d_Mdl_variable_5 : decode b_Mdl_variable 5 = .ok (.aload_n 0, 1) := by decide +kernel
theorem d_Mdl_variable_6 : decode b_Mdl_variable 6 = .ok (.iload_n 1, 1) := by decide +kernel
theorem d_Mdl_variable_7 : decode b_Mdl_variable 7 = .ok (.invokevirtual 114, 3) := by decide +kernel
theorem d_Mdl_variable_10 : decode b_Mdl_variable 10 = .ok (.ifCond .eq 9, 3) := by decide +kernel
theorem d_Mdl_variable_13 : decode b_Mdl_variable 13 = .ok (.aload_n 0, 1) := by decide +kernel
theorem d_Mdl_variable_14 : decode b_Mdl_variable 14 = .ok (.iconst 1, 1) := by decide +kernel
theorem d_Mdl_variable_15 : decode b_Mdl_variable 15 = .ok (.invokevirtual 110, 3) := by decide +kernel
theorem d_Mdl_variable_18 : decode b_Mdl_variable 18 = .ok (.ireturn, 1) := by decide +kernel
theorem d_Mdl_variable_19 : decode b_Mdl_variable 19 = .ok (.iload_n 2, 1) := by decide +kernel
theorem d_Mdl_variable_20 : decode b_Mdl_variable 20 = .ok (.iconst 0, 1) := by decide +kernel
theorem d_Mdl_variable_21 : decode b_Mdl_variable 21 = .ok (.iconst 3, 1) := by decide +kernel
theorem d_Mdl_variable_22 : decode b_Mdl_variable 22 = .ok (.invokestatic 106, 3) := by decide +kernel
theorem d_Mdl_variable_25 : decode b_Mdl_variable 25 = .ok (.ifCond .eq 16, 3) := by decide +kernel
theorem d_Mdl_variable_28 : decode b_Mdl_variable 28 = .ok (.aload_n 0, 1) := by decide +kernel
theorem d_Mdl_variable_29 : decode b_Mdl_variable 29 = .ok (.getfield 13, 3) := by decide +kernel
theorem d_Mdl_variable_32 : decode b_Mdl_variable 32 = .ok (.iconst 4, 1) := by decide +kernel
theorem d_Mdl_variable_33 : decode b_Mdl_variable 33 = .ok (.iload_n 1, 1) := by decide +kernel
theorem d_Mdl_variable_34 : decode b_Mdl_variable 34 = .ok (.imul, 1) := by decide +kernel
theorem d_Mdl_variable_35 : decode b_Mdl_variable 35 = .ok (.iload_n 2, 1) := by decide +kernel
theorem d_Mdl_variable_36 : decode b_Mdl_variable 36 = .ok (.iadd, 1) := by decide +kernel
theorem d_Mdl_variable_37 : decode b_Mdl_variable 37 = .ok (.iaload, 1) := by decide +kernel
theorem d_Mdl_variable_38 : decode b_Mdl_variable 38 = .ok (.goto 8, 3) := by decide +kernel
theorem d_Mdl_variable_41 : decode b_Mdl_variable 41 = .ok (.aload_n 0, 1) := by decide +kernel
theorem d_Mdl_variable_42 : decode b_Mdl_variable 42 = .ok (.iconst 2, 1) := by decide +kernel
theorem d_Mdl_variable_43 : decode b_Mdl_variable 43 = .ok (.invokevirtual 110, 3) := by decide +kernel
theorem d_Mdl_variable_46 : decode b_Mdl_variable 46 = .ok (.ireturn, 1) := by decide +kernel
theorem d_Mdl_queued_0 : decode b_Mdl_queued 0 = .ok (.aload_n 0, 1) := by decide +kernel
theorem d_Mdl_queued_1 : decode b_Mdl_queued 1 = .ok (.iconst 0, 1) := by decide +kernel
theorem d_Mdl_queued_2 : decode b_Mdl_queued 2 = .ok (.putfield 102, 3) := by decide +kernel
theorem d_Mdl_queued_5 : decode b_Mdl_queued 5 = .ok (.aload_n 0, 1) := by decide +kernel
theorem d_Mdl_queued_6 : decode b_Mdl_queued 6 = .ok (.iload_n 1, 1) := by decide +kernel
theorem d_Mdl_queued_7 : decode b_Mdl_queued 7 = .ok (.invokevirtual 114, 3) := by decide +kernel
theorem d_Mdl_queued_10 : decode b_Mdl_queued 10 = .ok (.ifCond .ne 31, 3) := by decide +kernel
theorem d_Mdl_queued_13 : decode b_Mdl_queued 13 = .ok (.iload_n 2, 1) := by decide +kernel
theorem d_Mdl_queued_14 : decode b_Mdl_queued 14 = .ok (.iconst 0, 1) := by decide +kernel
theorem d_Mdl_queued_15 : decode b_Mdl_queued 15 = .ok (.iconst 5, 1) := by decide +kernel
theorem d_Mdl_queued_16 : decode b_Mdl_queued 16 = .ok (.invokestatic 106, 3) := by decide +kernel
theorem d_Mdl_queued_19 : decode b_Mdl_queued 19 = .ok (.ifCond .eq 22, 3) := by decide +kernel
theorem d_Mdl_queued_22 : decode b_Mdl_queued 22 = .ok (.iload_n 3, 1) := by decide +kernel
theorem d_Mdl_queued_23 : decode b_Mdl_queued 23 = .ok (.ifCond .lt 18, 3) := by decide +kernel
theorem d_Mdl_queued_26 : decode b_Mdl_queued 26 = .ok (.iload_n 3, 1) := by decide +kernel
theorem d_Mdl_queued_27 : decode b_Mdl_queued 27 = .ok (.aload_n 0, 1) := by decide +kernel
theorem d_Mdl_queued_28 : decode b_Mdl_queued 28 = .ok (.getfield 23, 3) := by decide +kernel
theorem d_Mdl_queued_31 : decode b_Mdl_queued 31 = .ok (.bipush 6, 2) := by decide +kernel
theorem d_Mdl_queued_33 : decode b_Mdl_queued 33 = .ok (.iload_n 1, 1) := by decide +kernel
theorem d_Mdl_queued_34 : decode b_Mdl_queued 34 = .ok (.imul, 1) := by decide +kernel
theorem d_Mdl_queued_35 : decode b_Mdl_queued 35 = .ok (.iload_n 2, 1) := by decide +kernel
theorem d_Mdl_queued_36 : decode b_Mdl_queued 36 = .ok (.iadd, 1) := by decide +kernel
theorem d_Mdl_queued_37 : decode b_Mdl_queued 37 = .ok (.iaload, 1) := by decide +kernel
theorem d_Mdl_queued_38 : decode b_Mdl_queued 38 = .ok (.if_icmp .lt 9, 3) := by decide +kernel
theorem d_Mdl_queued_41 : decode b_Mdl_queued 41 = .ok (.aload_n 0, 1) := by decide +kernel
theorem d_Mdl_queued_42 : decode b_Mdl_queued 42 = .ok (.iconst 1, 1) := by decide +kernel
theorem d_Mdl_queued_43 : decode b_Mdl_queued 43 = .ok (.invokevirtual 110, 3) := by decide +kernel
theorem d_Mdl_queued_46 : decode b_Mdl_queued 46 = .ok (.ireturn, 1) := by decide +kernel
theorem d_Mdl_queued_47 : decode b_Mdl_queued 47 = .ok (.iconst 4, 1) := by decide +kernel
theorem d_Mdl_queued_48 : decode b_Mdl_queued 48 = .ok (.bipush 6, 2) := by decide +kernel
theorem d_Mdl_queued_50 : decode b_Mdl_queued 50 = .ok (.iload_n 1, 1) := by decide +kernel
theorem d_Mdl_queued_51 : decode b_Mdl_queued 51 = .ok (.imul, 1) := by decide +kernel
theorem d_Mdl_queued_52 : decode b_Mdl_queued 52 = .ok (.iload_n 2, 1) := by decide +kernel
theorem d_Mdl_queued_53 : decode b_Mdl_queued 53 = .ok (.iadd, 1) := by decide +kernel
theorem d_Mdl_queued_54 : decode b_Mdl_queued 54 = .ok (.imul, 1) := by decide +kernel
theorem d_Mdl_queued_55 : decode b_Mdl_queued 55 = .ok (.iload_n 3, 1) := by decide +kernel
theorem d_Mdl_queued_56 : decode b_Mdl_queued 56 = .ok (.iadd, 1) := by decide +kernel
theorem d_Mdl_queued_57 : decode b_Mdl_queued 57 = .ok (.istore 5, 2) := by decide +kernel
theorem d_Mdl_queued_59 : decode b_Mdl_queued 59 = .ok (.iload 4, 2) := by decide +kernel
theorem d_Mdl_queued_61 : decode b_Mdl_queued 61 = .ok (.tableswitch 51 0 2 #[27, 35, 43], 27) := by decide +kernel
theorem d_Mdl_queued_88 : decode b_Mdl_queued 88 = .ok (.aload_n 0, 1) := by decide +kernel
theorem d_Mdl_queued_89 : decode b_Mdl_queued 89 = .ok (.getfield 26, 3) := by decide +kernel
theorem d_Mdl_queued_92 : decode b_Mdl_queued 92 = .ok (.iload 5, 2) := by decide +kernel
theorem d_Mdl_queued_94 : decode b_Mdl_queued 94 = .ok (.iaload, 1) := by decide +kernel
theorem d_Mdl_queued_95 : decode b_Mdl_queued 95 = .ok (.ireturn, 1) := by decide +kernel
theorem d_Mdl_queued_96 : decode b_Mdl_queued 96 = .ok (.aload_n 0, 1) := by decide +kernel
theorem d_Mdl_queued_97 : decode b_Mdl_queued 97 = .ok (.getfield 29, 3) := by decide +kernel
theorem d_Mdl_queued_100 : decode b_Mdl_queued 100 = .ok (.iload 5, 2) := by decide +kernel
theorem d_Mdl_queued_102 : decode b_Mdl_queued 102 = .ok (.iaload, 1) := by decide +kernel
theorem d_Mdl_queued_103 : decode b_Mdl_queued 103 = .ok (.ireturn, 1) := by decide +kernel
theorem d_Mdl_queued_104 : decode b_Mdl_queued 104 = .ok (.aload_n 0, 1) := by decide +kernel
theorem d_Mdl_queued_105 : decode b_Mdl_queued 105 = .ok (.getfield 32, 3) := by decide +kernel
theorem d_Mdl_queued_108 : decode b_Mdl_queued 108 = .ok (.iload 5, 2) := by decide +kernel
theorem d_Mdl_queued_110 : decode b_Mdl_queued 110 = .ok (.iaload, 1) := by decide +kernel
theorem d_Mdl_queued_111 : decode b_Mdl_queued 111 = .ok (.ireturn, 1) := by decide +kernel
theorem d_Mdl_queued_112 : decode b_Mdl_queued 112 = .ok (.aload_n 0, 1) := by decide +kernel
theorem d_Mdl_queued_113 : decode b_Mdl_queued 113 = .ok (.iconst 2, 1) := by decide +kernel
theorem d_Mdl_queued_114 : decode b_Mdl_queued 114 = .ok (.invokevirtual 110, 3) := by decide +kernel
theorem d_Mdl_queued_117 : decode b_Mdl_queued 117 = .ok (.ireturn, 1) := by decide +kernel
theorem d_Mdl_keep_0 : decode b_Mdl_keep 0 = .ok (.aload_n 0, 1) := by decide +kernel
theorem d_Mdl_keep_1 : decode b_Mdl_keep 1 = .ok (.iconst 0, 1) := by decide +kernel
theorem d_Mdl_keep_2 : decode b_Mdl_keep 2 = .ok (.putfield 102, 3) := by decide +kernel
theorem d_Mdl_keep_5 : decode b_Mdl_keep 5 = .ok (.iload_n 1, 1) := by decide +kernel
theorem d_Mdl_keep_6 : decode b_Mdl_keep 6 = .ok (.iconst 0, 1) := by decide +kernel
theorem d_Mdl_keep_7 : decode b_Mdl_keep 7 = .ok (.iconst 5, 1) := by decide +kernel
theorem d_Mdl_keep_8 : decode b_Mdl_keep 8 = .ok (.invokestatic 106, 3) := by decide +kernel
theorem d_Mdl_keep_11 : decode b_Mdl_keep 11 = .ok (.ifCond .ne 9, 3) := by decide +kernel
theorem d_Mdl_keep_14 : decode b_Mdl_keep 14 = .ok (.aload_n 0, 1) := by decide +kernel
theorem d_Mdl_keep_15 : decode b_Mdl_keep 15 = .ok (.iconst 1, 1) := by decide +kernel
theorem d_Mdl_keep_16 : decode b_Mdl_keep 16 = .ok (.invokevirtual 110, 3) := by decide +kernel
theorem d_Mdl_keep_19 : decode b_Mdl_keep 19 = .ok (.ireturn, 1) := by decide +kernel
theorem d_Mdl_keep_20 : decode b_Mdl_keep 20 = .ok (.aload_n 0, 1) := by decide +kernel
theorem d_Mdl_keep_21 : decode b_Mdl_keep 21 = .ok (.getfield 59, 3) := by decide +kernel
theorem d_Mdl_keep_24 : decode b_Mdl_keep 24 = .ok (.iload_n 1, 1) := by decide +kernel
theorem d_Mdl_keep_25 : decode b_Mdl_keep 25 = .ok (.baload, 1) := by decide +kernel
theorem d_Mdl_keep_26 : decode b_Mdl_keep 26 = .ok (.iload_n 2, 1) := by decide +kernel
theorem d_Mdl_keep_27 : decode b_Mdl_keep 27 = .ok (.if_icmp .eq 7, 3) := by decide +kernel
theorem d_Mdl_keep_30 : decode b_Mdl_keep 30 = .ok (.iconst 1, 1) := by decide +kernel
theorem d_Mdl_keep_31 : decode b_Mdl_keep 31 = .ok (.goto 4, 3) := by decide +kernel
theorem d_Mdl_keep_34 : decode b_Mdl_keep 34 = .ok (.iconst 0, 1) := by decide +kernel
theorem d_Mdl_keep_35 : decode b_Mdl_keep 35 = .ok (.istore_n 3, 1) := by decide +kernel
theorem d_Mdl_keep_36 : decode b_Mdl_keep 36 = .ok (.aload_n 0, 1) := by decide +kernel
theorem d_Mdl_keep_37 : decode b_Mdl_keep 37 = .ok (.getfield 59, 3) := by decide +kernel
theorem d_Mdl_keep_40 : decode b_Mdl_keep 40 = .ok (.iload_n 1, 1) := by decide +kernel
theorem d_Mdl_keep_41 : decode b_Mdl_keep 41 = .ok (.iload_n 2, 1) := by decide +kernel
theorem d_Mdl_keep_42 : decode b_Mdl_keep 42 = .ok (.bastore, 1) := by decide +kernel
theorem d_Mdl_keep_43 : decode b_Mdl_keep 43 = .ok (.iload_n 3, 1) := by decide +kernel
theorem d_Mdl_keep_44 : decode b_Mdl_keep 44 = .ok (.ifCond .eq 7, 3) := by decide +kernel
theorem d_Mdl_keep_47 : decode b_Mdl_keep 47 = .ok (.iconst 1, 1) := by decide +kernel
theorem d_Mdl_keep_48 : decode b_Mdl_keep 48 = .ok (.goto 4, 3) := by decide +kernel
theorem d_Mdl_keep_51 : decode b_Mdl_keep 51 = .ok (.iconst 0, 1) := by decide +kernel
theorem d_Mdl_keep_52 : decode b_Mdl_keep 52 = .ok (.ireturn, 1) := by decide +kernel
theorem d_Mdl_play_0 : decode b_Mdl_play 0 = .ok (.aload_n 0, 1) := by decide +kernel
theorem d_Mdl_play_1 : decode b_Mdl_play 1 = .ok (.iconst 0, 1) := by decide +kernel
theorem d_Mdl_play_2 : decode b_Mdl_play 2 = .ok (.putfield 102, 3) := by decide +kernel
theorem d_Mdl_play_5 : decode b_Mdl_play 5 = .ok (.iload_n 1, 1) := by decide +kernel
theorem d_Mdl_play_6 : decode b_Mdl_play 6 = .ok (.iconst 1, 1) := by decide +kernel
theorem d_Mdl_play_7 : decode b_Mdl_play 7 = .ok (.iconst 4, 1) := by decide +kernel
theorem d_Mdl_play_8 : decode b_Mdl_play 8 = .ok (.invokestatic 106, 3) := by decide +kernel
theorem d_Mdl_play_11 : decode b_Mdl_play 11 = .ok (.ifCond .ne 9, 3) := by decide +kernel
theorem d_Mdl_play_14 : decode b_Mdl_play 14 = .ok (.aload_n 0, 1) := by decide +kernel
theorem d_Mdl_play_15 : decode b_Mdl_play 15 = .ok (.iconst 1, 1) := by decide +kernel
theorem d_Mdl_play_16 : decode b_Mdl_play 16 = .ok (.invokevirtual 110, 3) := by decide +kernel
theorem d_Mdl_play_19 : decode b_Mdl_play 19 = .ok (.ireturn, 1) := by decide +kernel
theorem d_Mdl_play_20 : decode b_Mdl_play 20 = .ok (.aload_n 0, 1) := by decide +kernel
theorem d_Mdl_play_21 : decode b_Mdl_play 21 = .ok (.getfield 156, 3) := by decide +kernel
theorem d_Mdl_play_24 : decode b_Mdl_play 24 = .ok (.ifCond .eq 9, 3) := by decide +kernel
theorem d_Mdl_play_27 : decode b_Mdl_play 27 = .ok (.aload_n 0, 1) := by decide +kernel
theorem d_Mdl_play_28 : decode b_Mdl_play 28 = .ok (.iconst 2, 1) := by decide +kernel
theorem d_Mdl_play_29 : decode b_Mdl_play 29 = .ok (.invokevirtual 110, 3) := by decide +kernel
theorem d_Mdl_play_32 : decode b_Mdl_play 32 = .ok (.ireturn, 1) := by decide +kernel
theorem d_Mdl_play_33 : decode b_Mdl_play 33 = .ok (.aload_n 0, 1) := by decide +kernel
theorem d_Mdl_play_34 : decode b_Mdl_play 34 = .ok (.getfield 135, 3) := by decide +kernel
theorem d_Mdl_play_37 : decode b_Mdl_play 37 = .ok (.ifCond .ne 9, 3) := by decide +kernel
theorem d_Mdl_play_40 : decode b_Mdl_play 40 = .ok (.aload_n 0, 1) := by decide +kernel
theorem d_Mdl_play_41 : decode b_Mdl_play 41 = .ok (.iconst 3, 1) := by decide +kernel
theorem d_Mdl_play_42 : decode b_Mdl_play 42 = .ok (.invokevirtual 110, 3) := by decide +kernel
theorem d_Mdl_play_45 : decode b_Mdl_play 45 = .ok (.ireturn, 1) := by decide +kernel
theorem d_Mdl_play_46 : decode b_Mdl_play 46 = .ok (.aload_n 0, 1) := by decide +kernel
theorem d_Mdl_play_47 : decode b_Mdl_play 47 = .ok (.iconst 1, 1) := by decide +kernel
theorem d_Mdl_play_48 : decode b_Mdl_play 48 = .ok (.putfield 156, 3) := by decide +kernel
theorem d_Mdl_play_51 : decode b_Mdl_play 51 = .ok (.aload_n 0, 1) := by decide +kernel
theorem d_Mdl_play_52 : decode b_Mdl_play 52 = .ok (.aload_n 0, 1) := by decide +kernel
theorem d_Mdl_play_53 : decode b_Mdl_play 53 = .ok (.getfield 128, 3) := by decide +kernel
theorem d_Mdl_play_56 : decode b_Mdl_play 56 = .ok (.putfield 163, 3) := by decide +kernel
theorem d_Mdl_play_59 : decode b_Mdl_play 59 = .ok (.aload_n 0, 1) := by decide +kernel
theorem d_Mdl_play_60 : decode b_Mdl_play 60 = .ok (.iload_n 1, 1) := by decide +kernel
theorem d_Mdl_play_61 : decode b_Mdl_play 61 = .ok (.putfield 166, 3) := by decide +kernel
theorem d_Mdl_play_64 : decode b_Mdl_play 64 = .ok (.aload_n 0, 1) := by decide +kernel
theorem d_Mdl_play_65 : decode b_Mdl_play 65 = .ok (.iconst 0, 1) := by decide +kernel
theorem d_Mdl_play_66 : decode b_Mdl_play 66 = .ok (.putfield 160, 3) := by decide +kernel
theorem d_Mdl_play_69 : decode b_Mdl_play 69 = .ok (.aload_n 0, 1) := by decide +kernel
theorem d_Mdl_play_70 : decode b_Mdl_play 70 = .ok (.aload_n 0, 1) := by decide +kernel
theorem d_Mdl_play_71 : decode b_Mdl_play 71 = .ok (.getfield 135, 3) := by decide +kernel
theorem d_Mdl_play_74 : decode b_Mdl_play 74 = .ok (.putfield 169, 3) := by decide +kernel
theorem d_Mdl_play_77 : decode b_Mdl_play 77 = .ok (.aload_n 0, 1) := by decide +kernel
theorem d_Mdl_play_78 : decode b_Mdl_play 78 = .ok (.getfield 135, 3) := by decide +kernel
theorem d_Mdl_play_81 : decode b_Mdl_play 81 = .ok (.ireturn, 1) := by decide +kernel
theorem d_Mdl_empty_0 : decode b_Mdl_empty 0 = .ok (.aload_n 0, 1) := by decide +kernel
theorem d_Mdl_empty_1 : decode b_Mdl_empty 1 = .ok (.iconst 0, 1) := by decide +kernel
theorem d_Mdl_empty_2 : decode b_Mdl_empty 2 = .ok (.putfield 102, 3) := by decide +kernel
theorem d_Mdl_empty_5 : decode b_Mdl_empty 5 = .ok (.aload_n 0, 1) := by decide +kernel
theorem d_Mdl_empty_6 : decode b_Mdl_empty 6 = .ok (.getfield 156, 3) := by decide +kernel
theorem d_Mdl_empty_9 : decode b_Mdl_empty 9 = .ok (.ifCond .eq 9, 3) := by decide +kernel
theorem d_Mdl_empty_12 : decode b_Mdl_empty 12 = .ok (.aload_n 0, 1) := by decide +kernel
theorem d_Mdl_empty_13 : decode b_Mdl_empty 13 = .ok (.iconst 1, 1) := by decide +kernel
theorem d_Mdl_empty_14 : decode b_Mdl_empty 14 = .ok (.invokevirtual 110, 3) := by decide +kernel
theorem d_Mdl_empty_17 : decode b_Mdl_empty 17 = .ok (.ireturn, 1) := by decide +kernel
theorem d_Mdl_empty_18 : decode b_Mdl_empty 18 = .ok (.aload_n 0, 1) := by decide +kernel
theorem d_Mdl_empty_19 : decode b_Mdl_empty 19 = .ok (.getfield 135, 3) := by decide +kernel
theorem d_Mdl_empty_22 : decode b_Mdl_empty 22 = .ok (.istore_n 1, 1) := by decide +kernel
theorem d_Mdl_empty_23 : decode b_Mdl_empty 23 = .ok (.aload_n 0, 1) := by decide +kernel
theorem d_Mdl_empty_24 : decode b_Mdl_empty 24 = .ok (.iconst 0, 1) := by decide +kernel
theorem d_Mdl_empty_25 : decode b_Mdl_empty 25 = .ok (.putfield 135, 3) := by decide +kernel
theorem d_Mdl_empty_28 : decode b_Mdl_empty 28 = .ok (.iload_n 1, 1) := by decide +kernel
theorem d_Mdl_empty_29 : decode b_Mdl_empty 29 = .ok (.ireturn, 1) := by decide +kernel
theorem d_Mdl_mount_0 : decode b_Mdl_mount 0 = .ok (.aload_n 0, 1) := by decide +kernel
theorem d_Mdl_mount_1 : decode b_Mdl_mount 1 = .ok (.iconst 0, 1) := by decide +kernel
theorem d_Mdl_mount_2 : decode b_Mdl_mount 2 = .ok (.putfield 102, 3) := by decide +kernel
theorem d_Mdl_mount_5 : decode b_Mdl_mount 5 = .ok (.iload_n 1, 1) := by decide +kernel
theorem d_Mdl_mount_6 : decode b_Mdl_mount 6 = .ok (.iconst 1, 1) := by decide +kernel
theorem d_Mdl_mount_7 : decode b_Mdl_mount 7 = .ok (.iconst 5, 1) := by decide +kernel
theorem d_Mdl_mount_8 : decode b_Mdl_mount 8 = .ok (.invokestatic 106, 3) := by decide +kernel
theorem d_Mdl_mount_11 : decode b_Mdl_mount 11 = .ok (.ifCond .eq 12, 3) := by decide +kernel
theorem d_Mdl_mount_14 : decode b_Mdl_mount 14 = .ok (.iload_n 2, 1) := by decide +kernel
theorem d_Mdl_mount_15 : decode b_Mdl_mount 15 = .ok (.iconst 0, 1) := by decide +kernel
theorem d_Mdl_mount_16 : decode b_Mdl_mount 16 = .ok (.iconst 5, 1) := by decide +kernel
theorem d_Mdl_mount_17 : decode b_Mdl_mount 17 = .ok (.invokestatic 106, 3) := by decide +kernel
theorem d_Mdl_mount_20 : decode b_Mdl_mount 20 = .ok (.ifCond .ne 9, 3) := by decide +kernel
theorem d_Mdl_mount_23 : decode b_Mdl_mount 23 = .ok (.aload_n 0, 1) := by decide +kernel
theorem d_Mdl_mount_24 : decode b_Mdl_mount 24 = .ok (.iconst 1, 1) := by decide +kernel
theorem d_Mdl_mount_25 : decode b_Mdl_mount 25 = .ok (.invokevirtual 110, 3) := by decide +kernel
theorem d_Mdl_mount_28 : decode b_Mdl_mount 28 = .ok (.ireturn, 1) := by decide +kernel
theorem d_Mdl_mount_29 : decode b_Mdl_mount 29 = .ok (.iload_n 2, 1) := by decide +kernel
theorem d_Mdl_mount_30 : decode b_Mdl_mount 30 = .ok (.istore_n 3, 1) := by decide +kernel
theorem d_Mdl_mount_31 : decode b_Mdl_mount 31 = .ok (.iload_n 3, 1) := by decide +kernel
theorem d_Mdl_mount_32 : decode b_Mdl_mount 32 = .ok (.ifCond .lt 24, 3) := by decide +kernel
theorem d_Mdl_mount_35 : decode b_Mdl_mount 35 = .ok (.iload_n 3, 1) := by decide +kernel
theorem d_Mdl_mount_36 : decode b_Mdl_mount 36 = .ok (.iload_n 1, 1) := by decide +kernel
theorem d_Mdl_mount_37 : decode b_Mdl_mount 37 = .ok (.if_icmp .ne 9, 3) := by decide +kernel
theorem d_Mdl_mount_40 : decode b_Mdl_mount 40 = .ok (.aload_n 0, 1) := by decide +kernel
theorem d_Mdl_mount_41 : decode b_Mdl_mount 41 = .ok (.iconst 2, 1) := by decide +kernel
theorem d_Mdl_mount_42 : decode b_Mdl_mount 42 = .ok (.invokevirtual 110, 3) := by decide +kernel
theorem d_Mdl_mount_45 : decode b_Mdl_mount 45 = .ok (.ireturn, 1) := by decide +kernel
theorem d_Mdl_mount_46 : decode b_Mdl_mount 46 = .ok (.aload_n 0, 1) := by decide +kernel
theorem d_Mdl_mount_47 : decode b_Mdl_mount 47 = .ok (.getfield 83, 3) := by decide +kernel
theorem d_Mdl_mount_50 : decode b_Mdl_mount 50 = .ok (.iload_n 3, 1) := by decide +kernel
theorem d_Mdl_mount_51 : decode b_Mdl_mount 51 = .ok (.iaload, 1) := by decide +kernel
theorem d_Mdl_mount_52 : decode b_Mdl_mount 52 = .ok (.istore_n 3, 1) := by decide +kernel
theorem d_Mdl_mount_53 : decode b_Mdl_mount 53 = .ok (.goto (-22), 3) := by decide +kernel
theorem d_Mdl_mount_56 : decode b_Mdl_mount 56 = .ok (.aload_n 0, 1) := by decide +kernel
theorem d_Mdl_mount_57 : decode b_Mdl_mount 57 = .ok (.getfield 83, 3) := by decide +kernel
theorem d_Mdl_mount_60 : decode b_Mdl_mount 60 = .ok (.iload_n 1, 1) := by decide +kernel
theorem d_Mdl_mount_61 : decode b_Mdl_mount 61 = .ok (.iaload, 1) := by decide +kernel
theorem d_Mdl_mount_62 : decode b_Mdl_mount 62 = .ok (.istore_n 3, 1) := by decide +kernel
theorem d_Mdl_mount_63 : decode b_Mdl_mount 63 = .ok (.aload_n 0, 1) := by decide +kernel
theorem d_Mdl_mount_64 : decode b_Mdl_mount 64 = .ok (.getfield 83, 3) := by decide +kernel
theorem d_Mdl_mount_67 : decode b_Mdl_mount 67 = .ok (.iload_n 1, 1) := by decide +kernel
theorem d_Mdl_mount_68 : decode b_Mdl_mount 68 = .ok (.iload_n 2, 1) := by decide +kernel
theorem d_Mdl_mount_69 : decode b_Mdl_mount 69 = .ok (.iastore, 1) := by decide +kernel
theorem d_Mdl_mount_70 : decode b_Mdl_mount 70 = .ok (.aload_n 0, 1) := by decide +kernel
theorem d_Mdl_mount_71 : decode b_Mdl_mount 71 = .ok (.getfield 86, 3) := by decide +kernel
theorem d_Mdl_mount_74 : decode b_Mdl_mount 74 = .ok (.iload_n 1, 1) := by decide +kernel
theorem d_Mdl_mount_75 : decode b_Mdl_mount 75 = .ok (.iconst 0, 1) := by decide +kernel
theorem d_Mdl_mount_76 : decode b_Mdl_mount 76 = .ok (.iastore, 1) := by decide +kernel
theorem d_Mdl_mount_77 : decode b_Mdl_mount 77 = .ok (.iload_n 3, 1) := by decide +kernel
theorem d_Mdl_mount_78 : decode b_Mdl_mount 78 = .ok (.ireturn, 1) := by decide +kernel
theorem d_Mdl_sample_0 : decode b_Mdl_sample 0 = .ok (.aload_n 0, 1) := by decide +kernel
theorem d_Mdl_sample_1 : decode b_Mdl_sample 1 = .ok (.iconst 0, 1) := by decide +kernel
theorem d_Mdl_sample_2 : decode b_Mdl_sample 2 = .ok (.putfield 102, 3) := by decide +kernel
theorem d_Mdl_sample_5 : decode b_Mdl_sample 5 = .ok (.iload_n 1, 1) := by decide +kernel
theorem d_Mdl_sample_6 : decode b_Mdl_sample 6 = .ok (.iconst 0, 1) := by decide +kernel
theorem d_Mdl_sample_7 : decode b_Mdl_sample 7 = .ok (.iconst 5, 1) := by decide +kernel
theorem d_Mdl_sample_8 : decode b_Mdl_sample 8 = .ok (.invokestatic 106, 3) := by decide +kernel
theorem d_Mdl_sample_11 : decode b_Mdl_sample 11 = .ok (.ifCond .eq 12, 3) := by decide +kernel
theorem d_Mdl_sample_14 : decode b_Mdl_sample 14 = .ok (.aload_n 0, 1) := by decide +kernel
theorem d_Mdl_sample_15 : decode b_Mdl_sample 15 = .ok (.getfield 83, 3) := by decide +kernel
theorem d_Mdl_sample_18 : decode b_Mdl_sample 18 = .ok (.iload_n 1, 1) := by decide +kernel
theorem d_Mdl_sample_19 : decode b_Mdl_sample 19 = .ok (.iaload, 1) := by decide +kernel
theorem d_Mdl_sample_20 : decode b_Mdl_sample 20 = .ok (.ifCond .ge 9, 3) := by decide +kernel
theorem d_Mdl_sample_23 : decode b_Mdl_sample 23 = .ok (.aload_n 0, 1) := by decide +kernel
theorem d_Mdl_sample_24 : decode b_Mdl_sample 24 = .ok (.iconst 1, 1) := by decide +kernel
theorem d_Mdl_sample_25 : decode b_Mdl_sample 25 = .ok (.invokevirtual 110, 3) := by decide +kernel
theorem d_Mdl_sample_28 : decode b_Mdl_sample 28 = .ok (.ireturn, 1) := by decide +kernel
theorem d_Mdl_sample_29 : decode b_Mdl_sample 29 = .ok (.dload_n 3, 1) := by decide +kernel
theorem d_Mdl_sample_30 : decode b_Mdl_sample 30 = .ok (.invokestatic 194, 3) := by decide +kernel
theorem d_Mdl_sample_33 : decode b_Mdl_sample 33 = .ok (.ifCond .eq 31, 3) := by decide +kernel
theorem d_Mdl_sample_36 : decode b_Mdl_sample 36 = .ok (.dload 5, 2) := by decide +kernel
theorem d_Mdl_sample_38 : decode b_Mdl_sample 38 = .ok (.invokestatic 194, 3) := by decide +kernel
theorem d_Mdl_sample_41 : decode b_Mdl_sample 41 = .ok (.ifCond .eq 23, 3) := by decide +kernel
theorem d_Mdl_sample_44 : decode b_Mdl_sample 44 = .ok (.iload 7, 2) := by decide +kernel
theorem d_Mdl_sample_46 : decode b_Mdl_sample 46 = .ok (.iconst 0, 1) := by decide +kernel
theorem d_Mdl_sample_47 : decode b_Mdl_sample 47 = .ok (.iconst 3, 1) := by decide +kernel
theorem d_Mdl_sample_48 : decode b_Mdl_sample 48 = .ok (.invokestatic 106, 3) := by decide +kernel
theorem d_Mdl_sample_51 : decode b_Mdl_sample 51 = .ok (.ifCond .eq 13, 3) := by decide +kernel
theorem d_Mdl_sample_54 : decode b_Mdl_sample 54 = .ok (.iload_n 2, 1) := by decide +kernel
theorem d_Mdl_sample_55 : decode b_Mdl_sample 55 = .ok (.iconst 0, 1) := by decide +kernel
theorem d_Mdl_sample_56 : decode b_Mdl_sample 56 = .ok (.ldc 198, 2) := by decide +kernel
theorem d_Mdl_sample_58 : decode b_Mdl_sample 58 = .ok (.invokestatic 106, 3) := by decide +kernel
theorem d_Mdl_sample_61 : decode b_Mdl_sample 61 = .ok (.ifCond .ne 9, 3) := by decide +kernel
theorem d_Mdl_sample_64 : decode b_Mdl_sample 64 = .ok (.aload_n 0, 1) := by decide +kernel
theorem d_Mdl_sample_65 : decode b_Mdl_sample 65 = .ok (.iconst 2, 1) := by decide +kernel
theorem d_Mdl_sample_66 : decode b_Mdl_sample 66 = .ok (.invokevirtual 110, 3) := by decide +kernel
theorem d_Mdl_sample_69 : decode b_Mdl_sample 69 = .ok (.ireturn, 1) := by decide +kernel
theorem d_Mdl_sample_70 : decode b_Mdl_sample 70 = .ok (.aload_n 0, 1) := by decide +kernel
theorem d_Mdl_sample_71 : decode b_Mdl_sample 71 = .ok (.getfield 86, 3) := by decide +kernel
theorem d_Mdl_sample_74 : decode b_Mdl_sample 74 = .ok (.iload_n 1, 1) := by decide +kernel
theorem d_Mdl_sample_75 : decode b_Mdl_sample 75 = .ok (.iaload, 1) := by decide +kernel
theorem d_Mdl_sample_76 : decode b_Mdl_sample 76 = .ok (.istore 8, 2) := by decide +kernel
theorem d_Mdl_sample_78 : decode b_Mdl_sample 78 = .ok (.iload 8, 2) := by decide +kernel
theorem d_Mdl_sample_80 : decode b_Mdl_sample 80 = .ok (.ifCond .le 26, 3) := by decide +kernel
theorem d_Mdl_sample_83 : decode b_Mdl_sample 83 = .ok (.iload_n 2, 1) := by decide +kernel
theorem d_Mdl_sample_84 : decode b_Mdl_sample 84 = .ok (.aload_n 0, 1) := by decide +kernel
theorem d_Mdl_sample_85 : decode b_Mdl_sample 85 = .ok (.getfield 89, 3) := by decide +kernel
theorem d_Mdl_sample_88 : decode b_Mdl_sample 88 = .ok (.iconst 4, 1) := by decide +kernel
theorem d_Mdl_sample_89 : decode b_Mdl_sample 89 = .ok (.iload_n 1, 1) := by decide +kernel
theorem d_Mdl_sample_90 : decode b_Mdl_sample 90 = .ok (.imul, 1) := by decide +kernel
theorem d_Mdl_sample_91 : decode b_Mdl_sample 91 = .ok (.iload 8, 2) := by decide +kernel
theorem d_Mdl_sample_93 : decode b_Mdl_sample 93 = .ok (.iadd, 1) := by decide +kernel
theorem d_Mdl_sample_94 : decode b_Mdl_sample 94 = .ok (.iconst 1, 1) := by decide +kernel
theorem d_Mdl_sample_95 : decode b_Mdl_sample 95 = .ok (.isub, 1) := by decide +kernel
theorem d_Mdl_sample_96 : decode b_Mdl_sample 96 = .ok (.iaload, 1) := by decide +kernel
theorem d_Mdl_sample_97 : decode b_Mdl_sample 97 = .ok (.if_icmp .gt 9, 3) := by decide +kernel
theorem d_Mdl_sample_100 : decode b_Mdl_sample 100 = .ok (.aload_n 0, 1) := by decide +kernel
theorem d_Mdl_sample_101 : decode b_Mdl_sample 101 = .ok (.iconst 3, 1) := by decide +kernel
theorem d_Mdl_sample_102 : decode b_Mdl_sample 102 = .ok (.invokevirtual 110, 3) := by decide +kernel
theorem d_Mdl_sample_105 : decode b_Mdl_sample 105 = .ok (.ireturn, 1) := by decide +kernel
theorem d_Mdl_sample_106 : decode b_Mdl_sample 106 = .ok (.iload 8, 2) := by decide +kernel
theorem d_Mdl_sample_108 : decode b_Mdl_sample 108 = .ok (.iconst 4, 1) := by decide +kernel
theorem d_Mdl_sample_109 : decode b_Mdl_sample 109 = .ok (.if_icmp .ne 91, 3) := by decide +kernel
theorem d_Mdl_sample_112 : decode b_Mdl_sample 112 = .ok (.iconst 4, 1) := by decide +kernel
theorem d_Mdl_sample_113 : decode b_Mdl_sample 113 = .ok (.iload_n 1, 1) := by decide +kernel
theorem d_Mdl_sample_114 : decode b_Mdl_sample 114 = .ok (.imul, 1) := by decide +kernel
theorem d_Mdl_sample_115 : decode b_Mdl_sample 115 = .ok (.istore 9, 2) := by decide +kernel
theorem d_Mdl_sample_117 : decode b_Mdl_sample 117 = .ok (.iload 9, 2) := by decide +kernel
theorem d_Mdl_sample_119 : decode b_Mdl_sample 119 = .ok (.iconst 4, 1) := by decide +kernel
theorem d_Mdl_sample_120 : decode b_Mdl_sample 120 = .ok (.iload_n 1, 1) := by decide +kernel
theorem d_Mdl_sample_121 : decode b_Mdl_sample 121 = .ok (.imul, 1) := by decide +kernel
theorem d_Mdl_sample_122 : decode b_Mdl_sample 122 = .ok (.iconst 3, 1) := by decide +kernel
theorem d_Mdl_sample_123 : decode b_Mdl_sample 123 = .ok (.iadd, 1) := by decide +kernel
theorem d_Mdl_sample_124 : decode b_Mdl_sample 124 = .ok (.if_icmp .ge 73, 3) := by decide +kernel
theorem d_Mdl_sample_127 : decode b_Mdl_sample 127 = .ok (.aload_n 0, 1) := by decide +kernel
theorem d_Mdl_sample_128 : decode b_Mdl_sample 128 = .ok (.getfield 89, 3) := by decide +kernel
theorem d_Mdl_sample_131 : decode b_Mdl_sample 131 = .ok (.iload 9, 2) := by decide +kernel
theorem d_Mdl_sample_133 : decode b_Mdl_sample 133 = .ok (.aload_n 0, 1) := by decide +kernel
theorem d_Mdl_sample_134 : decode b_Mdl_sample 134 = .ok (.getfield 89, 3) := by decide +kernel
theorem d_Mdl_sample_137 : decode b_Mdl_sample 137 = .ok (.iload 9, 2) := by decide +kernel
theorem d_Mdl_sample_139 : decode b_Mdl_sample 139 = .ok (.iconst 1, 1) := by decide +kernel
theorem d_Mdl_sample_140 : decode b_Mdl_sample 140 = .ok (.iadd, 1) := by decide +kernel
theorem d_Mdl_sample_141 : decode b_Mdl_sample 141 = .ok (.iaload, 1) := by decide +kernel
theorem d_Mdl_sample_142 : decode b_Mdl_sample 142 = .ok (.iastore, 1) := by decide +kernel
theorem d_Mdl_sample_143 : decode b_Mdl_sample 143 = .ok (.aload_n 0, 1) := by decide +kernel
theorem d_Mdl_sample_144 : decode b_Mdl_sample 144 = .ok (.getfield 92, 3) := by decide +kernel
theorem d_Mdl_sample_147 : decode b_Mdl_sample 147 = .ok (.iload 9, 2) := by decide +kernel
theorem d_Mdl_sample_149 : decode b_Mdl_sample 149 = .ok (.aload_n 0, 1) := by decide +kernel
theorem d_Mdl_sample_150 : decode b_Mdl_sample 150 = .ok (.getfield 92, 3) := by decide +kernel
theorem d_Mdl_sample_153 : decode b_Mdl_sample 153 = .ok (.iload 9, 2) := by decide +kernel
theorem d_Mdl_sample_155 : decode b_Mdl_sample 155 = .ok (.iconst 1, 1) := by decide +kernel
theorem d_Mdl_sample_156 : decode b_Mdl_sample 156 = .ok (.iadd, 1) := by decide +kernel
theorem d_Mdl_sample_157 : decode b_Mdl_sample 157 = .ok (.laload, 1) := by decide +kernel
theorem d_Mdl_sample_158 : decode b_Mdl_sample 158 = .ok (.lastore, 1) := by decide +kernel
theorem d_Mdl_sample_159 : decode b_Mdl_sample 159 = .ok (.aload_n 0, 1) := by decide +kernel
theorem d_Mdl_sample_160 : decode b_Mdl_sample 160 = .ok (.getfield 96, 3) := by decide +kernel
theorem d_Mdl_sample_163 : decode b_Mdl_sample 163 = .ok (.iload 9, 2) := by decide +kernel
theorem d_Mdl_sample_165 : decode b_Mdl_sample 165 = .ok (.aload_n 0, 1) := by decide +kernel
theorem d_Mdl_sample_166 : decode b_Mdl_sample 166 = .ok (.getfield 96, 3) := by decide +kernel
theorem d_Mdl_sample_169 : decode b_Mdl_sample 169 = .ok (.iload 9, 2) := by decide +kernel
theorem d_Mdl_sample_171 : decode b_Mdl_sample 171 = .ok (.iconst 1, 1) := by decide +kernel
theorem d_Mdl_sample_172 : decode b_Mdl_sample 172 = .ok (.iadd, 1) := by decide +kernel
theorem d_Mdl_sample_173 : decode b_Mdl_sample 173 = .ok (.laload, 1) := by decide +kernel
theorem d_Mdl_sample_174 : decode b_Mdl_sample 174 = .ok (.lastore, 1) := by decide +kernel
theorem d_Mdl_sample_175 : decode b_Mdl_sample 175 = .ok (.aload_n 0, 1) := by decide +kernel
theorem d_Mdl_sample_176 : decode b_Mdl_sample 176 = .ok (.getfield 99, 3) := by decide +kernel
theorem d_Mdl_sample_179 : decode b_Mdl_sample 179 = .ok (.iload 9, 2) := by decide +kernel
theorem d_Mdl_sample_181 : decode b_Mdl_sample 181 = .ok (.aload_n 0, 1) := by decide +kernel
theorem d_Mdl_sample_182 : decode b_Mdl_sample 182 = .ok (.getfield 99, 3) := by decide +kernel
theorem d_Mdl_sample_185 : decode b_Mdl_sample 185 = .ok (.iload 9, 2) := by decide +kernel
theorem d_Mdl_sample_187 : decode b_Mdl_sample 187 = .ok (.iconst 1, 1) := by decide +kernel
theorem d_Mdl_sample_188 : decode b_Mdl_sample 188 = .ok (.iadd, 1) := by decide +kernel
theorem d_Mdl_sample_189 : decode b_Mdl_sample 189 = .ok (.iaload, 1) := by decide +kernel
theorem d_Mdl_sample_190 : decode b_Mdl_sample 190 = .ok (.iastore, 1) := by decide +kernel
theorem d_Mdl_sample_191 : decode b_Mdl_sample 191 = .ok (.iinc 9 1, 3) := by decide +kernel
theorem d_Mdl_sample_194 : decode b_Mdl_sample 194 = .ok (.goto (-77), 3) := by decide +kernel
theorem d_Mdl_sample_197 : decode b_Mdl_sample 197 = .ok (.iconst 3, 1) := by decide +kernel
theorem d_Mdl_sample_198 : decode b_Mdl_sample 198 = .ok (.istore 8, 2) := by decide +kernel
theorem d_Mdl_sample_200 : decode b_Mdl_sample 200 = .ok (.iconst 4, 1) := by decide +kernel
theorem d_Mdl_sample_201 : decode b_Mdl_sample 201 = .ok (.iload_n 1, 1) := by decide +kernel
theorem d_Mdl_sample_202 : decode b_Mdl_sample 202 = .ok (.imul, 1) := by decide +kernel
theorem d_Mdl_sample_203 : decode b_Mdl_sample 203 = .ok (.iload 8, 2) := by decide +kernel
theorem d_Mdl_sample_205 : decode b_Mdl_sample 205 = .ok (.iadd, 1) := by decide +kernel
theorem d_Mdl_sample_206 : decode b_Mdl_sample 206 = .ok (.istore 9, 2) := by decide +kernel
theorem d_Mdl_sample_208 : decode b_Mdl_sample 208 = .ok (.aload_n 0, 1) := by decide +kernel
theorem d_Mdl_sample_209 : decode b_Mdl_sample 209 = .ok (.getfield 89, 3) := by decide +kernel
theorem d_Mdl_sample_212 : decode b_Mdl_sample 212 = .ok (.iload 9, 2) := by decide +kernel
theorem d_Mdl_sample_214 : decode b_Mdl_sample 214 = .ok (.iload_n 2, 1) := by decide +kernel
theorem d_Mdl_sample_215 : decode b_Mdl_sample 215 = .ok (.iastore, 1) := by decide +kernel
theorem d_Mdl_sample_216 : decode b_Mdl_sample 216 = .ok (.aload_n 0, 1) := by decide +kernel
theorem d_Mdl_sample_217 : decode b_Mdl_sample 217 = .ok (.getfield 92, 3) := by decide +kernel
theorem d_Mdl_sample_220 : decode b_Mdl_sample 220 = .ok (.iload 9, 2) := by decide +kernel
theorem d_Mdl_sample_222 : decode b_Mdl_sample 222 = .ok (.dload_n 3, 1) := by decide +kernel
theorem d_Mdl_sample_223 : decode b_Mdl_sample 223 = .ok (.ldc2_w 192, 3) := by decide +kernel
theorem d_Mdl_sample_226 : decode b_Mdl_sample 226 = .ok (.dmul, 1) := by decide +kernel
theorem d_Mdl_sample_227 : decode b_Mdl_sample 227 = .ok (.d2l, 1) := by decide +kernel
theorem d_Mdl_sample_228 : decode b_Mdl_sample 228 = .ok (.lastore, 1) := by decide +kernel
theorem d_Mdl_sample_229 : decode b_Mdl_sample 229 = .ok (.aload_n 0, 1) := by decide +kernel
theorem d_Mdl_sample_230 : decode b_Mdl_sample 230 = .ok (.getfield 96, 3) := by decide +kernel
theorem d_Mdl_sample_233 : decode b_Mdl_sample 233 = .ok (.iload 9, 2) := by decide +kernel
theorem d_Mdl_sample_235 : decode b_Mdl_sample 235 = .ok (.dload 5, 2) := by decide +kernel
theorem d_Mdl_sample_237 : decode b_Mdl_sample 237 = .ok (.ldc2_w 192, 3) := by decide +kernel
theorem d_Mdl_sample_240 : decode b_Mdl_sample 240 = .ok (.dmul, 1) := by decide +kernel
theorem d_Mdl_sample_241 : decode b_Mdl_sample 241 = .ok (.d2l, 1) := by decide +kernel
theorem d_Mdl_sample_242 : decode b_Mdl_sample 242 = .ok (.lastore, 1) := by decide +kernel
theorem d_Mdl_sample_243 : decode b_Mdl_sample 243 = .ok (.aload_n 0, 1) := by decide +kernel
theorem d_Mdl_sample_244 : decode b_Mdl_sample 244 = .ok (.getfield 99, 3) := by decide +kernel
theorem d_Mdl_sample_247 : decode b_Mdl_sample 247 = .ok (.iload 9, 2) := by decide +kernel
theorem d_Mdl_sample_249 : decode b_Mdl_sample 249 = .ok (.iload 7, 2) := by decide +kernel
theorem d_Mdl_sample_251 : decode b_Mdl_sample 251 = .ok (.iastore, 1) := by decide +kernel
theorem d_Mdl_sample_252 : decode b_Mdl_sample 252 = .ok (.aload_n 0, 1) := by decide +kernel
theorem d_Mdl_sample_253 : decode b_Mdl_sample 253 = .ok (.getfield 86, 3) := by decide +kernel
theorem d_Mdl_sample_256 : decode b_Mdl_sample 256 = .ok (.iload_n 1, 1) := by decide +kernel
theorem d_Mdl_sample_257 : decode b_Mdl_sample 257 = .ok (.iload 8, 2) := by decide +kernel
theorem d_Mdl_sample_259 : decode b_Mdl_sample 259 = .ok (.iconst 1, 1) := by decide +kernel
theorem d_Mdl_sample_260 : decode b_Mdl_sample 260 = .ok (.iadd, 1) := by decide +kernel
theorem d_Mdl_sample_261 : decode b_Mdl_sample 261 = .ok (.iastore, 1) := by decide +kernel
theorem d_Mdl_sample_262 : decode b_Mdl_sample 262 = .ok (.iload 8, 2) := by decide +kernel
theorem d_Mdl_sample_264 : decode b_Mdl_sample 264 = .ok (.iconst 1, 1) := by decide +kernel
theorem d_Mdl_sample_265 : decode b_Mdl_sample 265 = .ok (.iadd, 1) := by decide +kernel
theorem d_Mdl_sample_266 : decode b_Mdl_sample 266 = .ok (.ireturn, 1) := by decide +kernel
theorem d_Mdl_near_0 : decode b_Mdl_near 0 = .ok (.dload_n 0, 1) := by decide +kernel
theorem d_Mdl_near_1 : decode b_Mdl_near 1 = .ok (.ldc2_w 188, 3) := by decide +kernel
theorem d_Mdl_near_4 : decode b_Mdl_near 4 = .ok (.dcmp .l, 1) := by decide +kernel
theorem d_Mdl_near_5 : decode b_Mdl_near 5 = .ok (.ifCond .lt 31, 3) := by decide +kernel
theorem d_Mdl_near_8 : decode b_Mdl_near 8 = .ok (.dload_n 0, 1) := by decide +kernel
theorem d_Mdl_near_9 : decode b_Mdl_near 9 = .ok (.ldc2_w 190, 3) := by decide +kernel
theorem d_Mdl_near_12 : decode b_Mdl_near 12 = .ok (.dcmp .g, 1) := by decide +kernel
theorem d_Mdl_near_13 : decode b_Mdl_near 13 = .ok (.ifCond .gt 23, 3) := by decide +kernel
theorem d_Mdl_near_16 : decode b_Mdl_near 16 = .ok (.dload_n 0, 1) := by decide +kernel
theorem d_Mdl_near_17 : decode b_Mdl_near 17 = .ok (.ldc2_w 192, 3) := by decide +kernel
theorem d_Mdl_near_20 : decode b_Mdl_near 20 = .ok (.dmul, 1) := by decide +kernel
theorem d_Mdl_near_21 : decode b_Mdl_near 21 = .ok (.dload_n 0, 1) := by decide +kernel
theorem d_Mdl_near_22 : decode b_Mdl_near 22 = .ok (.ldc2_w 192, 3) := by decide +kernel
theorem d_Mdl_near_25 : decode b_Mdl_near 25 = .ok (.dmul, 1) := by decide +kernel
theorem d_Mdl_near_26 : decode b_Mdl_near 26 = .ok (.d2l, 1) := by decide +kernel
theorem d_Mdl_near_27 : decode b_Mdl_near 27 = .ok (.l2d, 1) := by decide +kernel
theorem d_Mdl_near_28 : decode b_Mdl_near 28 = .ok (.dcmp .l, 1) := by decide +kernel
theorem d_Mdl_near_29 : decode b_Mdl_near 29 = .ok (.ifCond .ne 7, 3) := by decide +kernel
theorem d_Mdl_near_32 : decode b_Mdl_near 32 = .ok (.iconst 1, 1) := by decide +kernel
theorem d_Mdl_near_33 : decode b_Mdl_near 33 = .ok (.goto 4, 3) := by decide +kernel
theorem d_Mdl_near_36 : decode b_Mdl_near 36 = .ok (.iconst 0, 1) := by decide +kernel
theorem d_Mdl_near_37 : decode b_Mdl_near 37 = .ok (.ireturn, 1) := by decide +kernel
theorem d_Mdl_locate_0 : decode b_Mdl_locate 0 = .ok (.aload_n 0, 1) := by decide +kernel
theorem d_Mdl_locate_1 : decode b_Mdl_locate 1 = .ok (.iconst 0, 1) := by decide +kernel
theorem d_Mdl_locate_2 : decode b_Mdl_locate 2 = .ok (.putfield 102, 3) := by decide +kernel
theorem d_Mdl_locate_5 : decode b_Mdl_locate 5 = .ok (.iload_n 1, 1) := by decide +kernel
theorem d_Mdl_locate_6 : decode b_Mdl_locate 6 = .ok (.iconst 0, 1) := by decide +kernel
theorem d_Mdl_locate_7 : decode b_Mdl_locate 7 = .ok (.iconst 5, 1) := by decide +kernel
theorem d_Mdl_locate_8 : decode b_Mdl_locate 8 = .ok (.invokestatic 106, 3) := by decide +kernel
theorem d_Mdl_locate_11 : decode b_Mdl_locate 11 = .ok (.ifCond .eq 18, 3) := by decide +kernel
theorem d_Mdl_locate_14 : decode b_Mdl_locate 14 = .ok (.dload_n 3, 1) := by decide +kernel
theorem d_Mdl_locate_15 : decode b_Mdl_locate 15 = .ok (.invokestatic 194, 3) := by decide +kernel
theorem d_Mdl_locate_18 : decode b_Mdl_locate 18 = .ok (.ifCond .eq 11, 3) := by decide +kernel
theorem d_Mdl_locate_21 : decode b_Mdl_locate 21 = .ok (.dload 5, 2) := by decide +kernel
theorem d_Mdl_locate_23 : decode b_Mdl_locate 23 = .ok (.invokestatic 194, 3) := by decide +kernel
theorem d_Mdl_locate_26 : decode b_Mdl_locate 26 = .ok (.ifCond .ne 10, 3) := by decide +kernel
theorem d_Mdl_locate_29 : decode b_Mdl_locate 29 = .ok (.aload_n 0, 1) := by decide +kernel
theorem d_Mdl_locate_30 : decode b_Mdl_locate 30 = .ok (.iconst 1, 1) := by decide +kernel
theorem d_Mdl_locate_31 : decode b_Mdl_locate 31 = .ok (.invokevirtual 110, 3) := by decide +kernel
theorem d_Mdl_locate_34 : decode b_Mdl_locate 34 = .ok (.i2d, 1) := by decide +kernel
theorem d_Mdl_locate_35 : decode b_Mdl_locate 35 = .ok (.dreturn, 1) := by decide +kernel
theorem d_Mdl_locate_36 : decode b_Mdl_locate 36 = .ok (.iload_n 1, 1) := by decide +kernel
theorem d_Mdl_locate_37 : decode b_Mdl_locate 37 = .ok (.istore 7, 2) := by decide +kernel
theorem d_Mdl_locate_39 : decode b_Mdl_locate 39 = .ok (.iload 7, 2) := by decide +kernel
theorem d_Mdl_locate_41 : decode b_Mdl_locate 41 = .ok (.ifCond .le 15, 3) := by decide +kernel
theorem d_Mdl_locate_44 : decode b_Mdl_locate 44 = .ok (.aload_n 0, 1) := by decide +kernel
theorem d_Mdl_locate_45 : decode b_Mdl_locate 45 = .ok (.getfield 83, 3) := by decide +kernel
theorem d_Mdl_locate_48 : decode b_Mdl_locate 48 = .ok (.iload 7, 2) := by decide +kernel
theorem d_Mdl_locate_50 : decode b_Mdl_locate 50 = .ok (.iaload, 1) := by decide +kernel
theorem d_Mdl_locate_51 : decode b_Mdl_locate 51 = .ok (.istore 7, 2) := by decide +kernel
theorem d_Mdl_locate_53 : decode b_Mdl_locate 53 = .ok (.goto (-14), 3) := by decide +kernel
theorem d_Mdl_locate_56 : decode b_Mdl_locate 56 = .ok (.iload 7, 2) := by decide +kernel
theorem d_Mdl_locate_58 : decode b_Mdl_locate 58 = .ok (.ifCond .ge 10, 3) := by decide +kernel
theorem d_Mdl_locate_61 : decode b_Mdl_locate 61 = .ok (.aload_n 0, 1) := by decide +kernel
theorem d_Mdl_locate_62 : decode b_Mdl_locate 62 = .ok (.iconst 2, 1) := by decide +kernel
theorem d_Mdl_locate_63 : decode b_Mdl_locate 63 = .ok (.invokevirtual 110, 3) := by decide +kernel
theorem d_Mdl_locate_66 : decode b_Mdl_locate 66 = .ok (.i2d, 1) := by decide +kernel
theorem d_Mdl_locate_67 : decode b_Mdl_locate 67 = .ok (.dreturn, 1) := by decide +kernel
theorem d_Mdl_locate_68 : decode b_Mdl_locate 68 = .ok (.aload_n 0, 1) := by decide +kernel
theorem d_Mdl_locate_69 : decode b_Mdl_locate 69 = .ok (.dload_n 3, 1) := by decide +kernel
theorem d_Mdl_locate_70 : decode b_Mdl_locate 70 = .ok (.ldc2_w 192, 3) := by decide +kernel
theorem d_Mdl_locate_73 : decode b_Mdl_locate 73 = .ok (.dmul, 1) := by decide +kernel
theorem d_Mdl_locate_74 : decode b_Mdl_locate 74 = .ok (.d2l, 1) := by decide +kernel
theorem d_Mdl_locate_75 : decode b_Mdl_locate 75 = .ok (.putfield 203, 3) := by decide +kernel
theorem d_Mdl_locate_78 : decode b_Mdl_locate 78 = .ok (.aload_n 0, 1) := by decide +kernel
theorem d_Mdl_locate_79 : decode b_Mdl_locate 79 = .ok (.dload 5, 2) := by decide +kernel
theorem d_Mdl_locate_81 : decode b_Mdl_locate 81 = .ok (.ldc2_w 192, 3) := by decide +kernel
theorem d_Mdl_locate_84 : decode b_Mdl_locate 84 = .ok (.dmul, 1) := by decide +kernel
theorem d_Mdl_locate_85 : decode b_Mdl_locate 85 = .ok (.d2l, 1) := by decide +kernel
theorem d_Mdl_locate_86 : decode b_Mdl_locate 86 = .ok (.putfield 207, 3) := by decide +kernel
theorem d_Mdl_locate_89 : decode b_Mdl_locate 89 = .ok (.iload_n 1, 1) := by decide +kernel
theorem d_Mdl_locate_90 : decode b_Mdl_locate 90 = .ok (.istore 7, 2) := by decide +kernel
theorem d_Mdl_locate_92 : decode b_Mdl_locate 92 = .ok (.iload 7, 2) := by decide +kernel
theorem d_Mdl_locate_94 : decode b_Mdl_locate 94 = .ok (.ifCond .le 32, 3) := by decide +kernel
theorem d_Mdl_locate_97 : decode b_Mdl_locate 97 = .ok (.aload_n 0, 1) := by decide +kernel
theorem d_Mdl_locate_98 : decode b_Mdl_locate 98 = .ok (.iload 7, 2) := by decide +kernel
theorem d_Mdl_locate_100 : decode b_Mdl_locate 100 = .ok (.iload_n 2, 1) := by decide +kernel
theorem d_Mdl_locate_101 : decode b_Mdl_locate 101 = .ok (.invokevirtual 210, 3) := by decide +kernel
theorem d_Mdl_locate_104 : decode b_Mdl_locate 104 = .ok (.ifCond .ne 10, 3) := by decide +kernel
theorem d_Mdl_locate_107 : decode b_Mdl_locate 107 = .ok (.aload_n 0, 1) := by decide +kernel
theorem d_Mdl_locate_108 : decode b_Mdl_locate 108 = .ok (.iconst 3, 1) := by decide +kernel
theorem d_Mdl_locate_109 : decode b_Mdl_locate 109 = .ok (.invokevirtual 110, 3) := by decide +kernel
theorem d_Mdl_locate_112 : decode b_Mdl_locate 112 = .ok (.i2d, 1) := by decide +kernel
theorem d_Mdl_locate_113 : decode b_Mdl_locate 113 = .ok (.dreturn, 1) := by decide +kernel
theorem d_Mdl_locate_114 : decode b_Mdl_locate 114 = .ok (.aload_n 0, 1) := by decide +kernel
theorem d_Mdl_locate_115 : decode b_Mdl_locate 115 = .ok (.getfield 83, 3) := by decide +kernel
theorem d_Mdl_locate_118 : decode b_Mdl_locate 118 = .ok (.iload 7, 2) := by decide +kernel
theorem d_Mdl_locate_120 : decode b_Mdl_locate 120 = .ok (.iaload, 1) := by decide +kernel
theorem d_Mdl_locate_121 : decode b_Mdl_locate 121 = .ok (.istore 7, 2) := by decide +kernel
theorem d_Mdl_locate_123 : decode b_Mdl_locate 123 = .ok (.goto (-31), 3) := by decide +kernel
theorem d_Mdl_locate_126 : decode b_Mdl_locate 126 = .ok (.aload_n 0, 1) := by decide +kernel
theorem d_Mdl_locate_127 : decode b_Mdl_locate 127 = .ok (.aload_n 0, 1) := by decide +kernel
theorem d_Mdl_locate_128 : decode b_Mdl_locate 128 = .ok (.getfield 207, 3) := by decide +kernel
theorem d_Mdl_locate_131 : decode b_Mdl_locate 131 = .ok (.l2d, 1) := by decide +kernel
theorem d_Mdl_locate_132 : decode b_Mdl_locate 132 = .ok (.ldc2_w 214, 3) := by decide +kernel
theorem d_Mdl_locate_135 : decode b_Mdl_locate 135 = .ok (.dmul, 1) := by decide +kernel
theorem d_Mdl_locate_136 : decode b_Mdl_locate 136 = .ok (.putfield 216, 3) := by decide +kernel
theorem d_Mdl_locate_139 : decode b_Mdl_locate 139 = .ok (.aload_n 0, 1) := by decide +kernel
theorem d_Mdl_locate_140 : decode b_Mdl_locate 140 = .ok (.getfield 203, 3) := by decide +kernel
theorem d_Mdl_locate_143 : decode b_Mdl_locate 143 = .ok (.l2d, 1) := by decide +kernel
theorem d_Mdl_locate_144 : decode b_Mdl_locate 144 = .ok (.ldc2_w 214, 3) := by decide +kernel
theorem d_Mdl_locate_147 : decode b_Mdl_locate 147 = .ok (.dmul, 1) := by decide +kernel
theorem d_Mdl_locate_148 : decode b_Mdl_locate 148 = .ok (.dreturn, 1) := by decide +kernel
theorem d_Mdl_rise_0 : decode b_Mdl_rise 0 = .ok (.iconst 4, 1) := by decide +kernel
theorem d_Mdl_rise_1 : decode b_Mdl_rise 1 = .ok (.iload_n 1, 1) := by decide +kernel
theorem d_Mdl_rise_2 : decode b_Mdl_rise 2 = .ok (.imul, 1) := by decide +kernel
theorem d_Mdl_rise_3 : decode b_Mdl_rise 3 = .ok (.istore_n 3, 1) := by decide +kernel
theorem d_Mdl_rise_4 : decode b_Mdl_rise 4 = .ok (.iload_n 3, 1) := by decide +kernel
theorem d_Mdl_rise_5 : decode b_Mdl_rise 5 = .ok (.aload_n 0, 1) := by decide +kernel
theorem d_Mdl_rise_6 : decode b_Mdl_rise 6 = .ok (.getfield 86, 3) := by decide +kernel
theorem d_Mdl_rise_9 : decode b_Mdl_rise 9 = .ok (.iload_n 1, 1) := by decide +kernel
theorem d_Mdl_rise_10 : decode b_Mdl_rise 10 = .ok (.iaload, 1) := by decide +kernel
theorem d_Mdl_rise_11 : decode b_Mdl_rise 11 = .ok (.iadd, 1) := by decide +kernel
theorem d_Mdl_rise_12 : decode b_Mdl_rise 12 = .ok (.iconst 1, 1) := by decide +kernel
theorem d_Mdl_rise_13 : decode b_Mdl_rise 13 = .ok (.isub, 1) := by decide +kernel
theorem d_Mdl_rise_14 : decode b_Mdl_rise 14 = .ok (.istore 4, 2) := by decide +kernel
theorem d_Mdl_rise_16 : decode b_Mdl_rise 16 = .ok (.aload_n 0, 1) := by decide +kernel
theorem d_Mdl_rise_17 : decode b_Mdl_rise 17 = .ok (.getfield 86, 3) := by decide +kernel
theorem d_Mdl_rise_20 : decode b_Mdl_rise 20 = .ok (.iload_n 1, 1) := by decide +kernel
theorem d_Mdl_rise_21 : decode b_Mdl_rise 21 = .ok (.iaload, 1) := by decide +kernel
theorem d_Mdl_rise_22 : decode b_Mdl_rise 22 = .ok (.ifCond .eq 24, 3) := by decide +kernel
theorem d_Mdl_rise_25 : decode b_Mdl_rise 25 = .ok (.iload_n 2, 1) := by decide +kernel
theorem d_Mdl_rise_26 : decode b_Mdl_rise 26 = .ok (.aload_n 0, 1) := by decide +kernel
theorem d_Mdl_rise_27 : decode b_Mdl_rise 27 = .ok (.getfield 89, 3) := by decide +kernel
theorem d_Mdl_rise_30 : decode b_Mdl_rise 30 = .ok (.iload_n 3, 1) := by decide +kernel
theorem d_Mdl_rise_31 : decode b_Mdl_rise 31 = .ok (.iaload, 1) := by decide +kernel
theorem d_Mdl_rise_32 : decode b_Mdl_rise 32 = .ok (.if_icmp .lt 14, 3) := by decide +kernel
theorem d_Mdl_rise_35 : decode b_Mdl_rise 35 = .ok (.iload_n 2, 1) := by decide +kernel
theorem d_Mdl_rise_36 : decode b_Mdl_rise 36 = .ok (.aload_n 0, 1) := by decide +kernel
theorem d_Mdl_rise_37 : decode b_Mdl_rise 37 = .ok (.getfield 89, 3) := by decide +kernel
theorem d_Mdl_rise_40 : decode b_Mdl_rise 40 = .ok (.iload 4, 2) := by decide +kernel
theorem d_Mdl_rise_42 : decode b_Mdl_rise 42 = .ok (.iaload, 1) := by decide +kernel
theorem d_Mdl_rise_43 : decode b_Mdl_rise 43 = .ok (.if_icmp .le 5, 3) := by decide +kernel
theorem d_Mdl_rise_46 : decode b_Mdl_rise 46 = .ok (.iconst 0, 1) := by decide +kernel
theorem d_Mdl_rise_47 : decode b_Mdl_rise 47 = .ok (.ireturn, 1) := by decide +kernel
theorem d_Mdl_rise_48 : decode b_Mdl_rise 48 = .ok (.iload_n 3, 1) := by decide +kernel
theorem d_Mdl_rise_49 : decode b_Mdl_rise 49 = .ok (.iload 4, 2) := by decide +kernel
theorem d_Mdl_rise_51 : decode b_Mdl_rise 51 = .ok (.if_icmp .ge 21, 3) := by decide +kernel
theorem d_Mdl_rise_54 : decode b_Mdl_rise 54 = .ok (.aload_n 0, 1) := by decide +kernel
theorem d_Mdl_rise_55 : decode b_Mdl_rise 55 = .ok (.getfield 89, 3) := by decide +kernel
theorem d_Mdl_rise_58 : decode b_Mdl_rise 58 = .ok (.iload_n 3, 1) := by decide +kernel
theorem d_Mdl_rise_59 : decode b_Mdl_rise 59 = .ok (.iconst 1, 1) := by decide +kernel
theorem d_Mdl_rise_60 : decode b_Mdl_rise 60 = .ok (.iadd, 1) := by decide +kernel
theorem d_Mdl_rise_61 : decode b_Mdl_rise 61 = .ok (.iaload, 1) := by decide +kernel
theorem d_Mdl_rise_62 : decode b_Mdl_rise 62 = .ok (.iload_n 2, 1) := by decide +kernel
theorem d_Mdl_rise_63 : decode b_Mdl_rise 63 = .ok (.if_icmp .gt 9, 3) := by decide +kernel
theorem d_Mdl_rise_66 : decode b_Mdl_rise 66 = .ok (.iinc 3 1, 3) := by decide +kernel
theorem d_Mdl_rise_69 : decode b_Mdl_rise 69 = .ok (.goto (-21), 3) := by decide +kernel
theorem d_Mdl_rise_72 : decode b_Mdl_rise 72 = .ok (.aload_n 0, 1) := by decide +kernel
theorem d_Mdl_rise_73 : decode b_Mdl_rise 73 = .ok (.getfield 92, 3) := by decide +kernel
theorem d_Mdl_rise_76 : decode b_Mdl_rise 76 = .ok (.iload_n 3, 1) := by decide +kernel
theorem d_Mdl_rise_77 : decode b_Mdl_rise 77 = .ok (.laload, 1) := by decide +kernel
theorem d_Mdl_rise_78 : decode b_Mdl_rise 78 = .ok (.lstore 5, 2) := by decide +kernel
theorem d_Mdl_rise_80 : decode b_Mdl_rise 80 = .ok (.aload_n 0, 1) := by decide +kernel
theorem d_Mdl_rise_81 : decode b_Mdl_rise 81 = .ok (.getfield 96, 3) := by decide +kernel
theorem d_Mdl_rise_84 : decode b_Mdl_rise 84 = .ok (.iload_n 3, 1) := by decide +kernel
theorem d_Mdl_rise_85 : decode b_Mdl_rise 85 = .ok (.laload, 1) := by decide +kernel
theorem d_Mdl_rise_86 : decode b_Mdl_rise 86 = .ok (.lstore 7, 2) := by decide +kernel
theorem d_Mdl_rise_88 : decode b_Mdl_rise 88 = .ok (.aload_n 0, 1) := by decide +kernel
theorem d_Mdl_rise_89 : decode b_Mdl_rise 89 = .ok (.getfield 89, 3) := by decide +kernel
theorem d_Mdl_rise_92 : decode b_Mdl_rise 92 = .ok (.iload_n 3, 1) := by decide +kernel
theorem d_Mdl_rise_93 : decode b_Mdl_rise 93 = .ok (.iaload, 1) := by decide +kernel
theorem d_Mdl_rise_94 : decode b_Mdl_rise 94 = .ok (.iload_n 2, 1) := by decide +kernel
theorem d_Mdl_rise_95 : decode b_Mdl_rise 95 = .ok (.if_icmp .eq 91, 3) := by decide +kernel
theorem d_Mdl_rise_98 : decode b_Mdl_rise 98 = .ok (.aload_n 0, 1) := by decide +kernel
theorem d_Mdl_rise_99 : decode b_Mdl_rise 99 = .ok (.getfield 92, 3) := by decide +kernel
theorem d_Mdl_rise_102 : decode b_Mdl_rise 102 = .ok (.iload_n 3, 1) := by decide +kernel
theorem d_Mdl_rise_103 : decode b_Mdl_rise 103 = .ok (.laload, 1) := by decide +kernel
theorem d_Mdl_rise_104 : decode b_Mdl_rise 104 = .ok (.aload_n 0, 1) := by decide +kernel
theorem d_Mdl_rise_105 : decode b_Mdl_rise 105 = .ok (.getfield 92, 3) := by decide +kernel
theorem d_Mdl_rise_108 : decode b_Mdl_rise 108 = .ok (.iload_n 3, 1) := by decide +kernel
theorem d_Mdl_rise_109 : decode b_Mdl_rise 109 = .ok (.iconst 1, 1) := by decide +kernel
theorem d_Mdl_rise_110 : decode b_Mdl_rise 110 = .ok (.iadd, 1) := by decide +kernel
theorem d_Mdl_rise_111 : decode b_Mdl_rise 111 = .ok (.laload, 1) := by decide +kernel
theorem d_Mdl_rise_112 : decode b_Mdl_rise 112 = .ok (.iload_n 2, 1) := by decide +kernel
theorem d_Mdl_rise_113 : decode b_Mdl_rise 113 = .ok (.aload_n 0, 1) := by decide +kernel
theorem d_Mdl_rise_114 : decode b_Mdl_rise 114 = .ok (.getfield 89, 3) := by decide +kernel
theorem d_Mdl_rise_117 : decode b_Mdl_rise 117 = .ok (.iload_n 3, 1) := by decide +kernel
theorem d_Mdl_rise_118 : decode b_Mdl_rise 118 = .ok (.iaload, 1) := by decide +kernel
theorem d_Mdl_rise_119 : decode b_Mdl_rise 119 = .ok (.isub, 1) := by decide +kernel
theorem d_Mdl_rise_120 : decode b_Mdl_rise 120 = .ok (.i2l, 1) := by decide +kernel
theorem d_Mdl_rise_121 : decode b_Mdl_rise 121 = .ok (.aload_n 0, 1) := by decide +kernel
theorem d_Mdl_rise_122 : decode b_Mdl_rise 122 = .ok (.getfield 89, 3) := by decide +kernel
theorem d_Mdl_rise_125 : decode b_Mdl_rise 125 = .ok (.iload_n 3, 1) := by decide +kernel
theorem d_Mdl_rise_126 : decode b_Mdl_rise 126 = .ok (.iconst 1, 1) := by decide +kernel
theorem d_Mdl_rise_127 : decode b_Mdl_rise 127 = .ok (.iadd, 1) := by decide +kernel
theorem d_Mdl_rise_128 : decode b_Mdl_rise 128 = .ok (.iaload, 1) := by decide +kernel
theorem d_Mdl_rise_129 : decode b_Mdl_rise 129 = .ok (.aload_n 0, 1) := by decide +kernel
theorem d_Mdl_rise_130 : decode b_Mdl_rise 130 = .ok (.getfield 89, 3) := by decide +kernel
theorem d_Mdl_rise_133 : decode b_Mdl_rise 133 = .ok (.iload_n 3, 1) := by decide +kernel
theorem d_Mdl_rise_134 : decode b_Mdl_rise 134 = .ok (.iaload, 1) := by decide +kernel
theorem d_Mdl_rise_135 : decode b_Mdl_rise 135 = .ok (.isub, 1) := by decide +kernel
theorem d_Mdl_rise_136 : decode b_Mdl_rise 136 = .ok (.i2l, 1) := by decide +kernel
theorem d_Mdl_rise_137 : decode b_Mdl_rise 137 = .ok (.invokestatic 199, 3) := by decide +kernel
theorem d_Mdl_rise_140 : decode b_Mdl_rise 140 = .ok (.lstore 5, 2) := by decide +kernel
theorem d_Mdl_rise_142 : decode b_Mdl_rise 142 = .ok (.aload_n 0, 1) := by decide +kernel
theorem d_Mdl_rise_143 : decode b_Mdl_rise 143 = .ok (.getfield 96, 3) := by decide +kernel
theorem d_Mdl_rise_146 : decode b_Mdl_rise 146 = .ok (.iload_n 3, 1) := by decide +kernel
theorem d_Mdl_rise_147 : decode b_Mdl_rise 147 = .ok (.laload, 1) := by decide +kernel
theorem d_Mdl_rise_148 : decode b_Mdl_rise 148 = .ok (.aload_n 0, 1) := by decide +kernel
theorem d_Mdl_rise_149 : decode b_Mdl_rise 149 = .ok (.getfield 96, 3) := by decide +kernel
theorem d_Mdl_rise_152 : decode b_Mdl_rise 152 = .ok (.iload_n 3, 1) := by decide +kernel
theorem d_Mdl_rise_153 : decode b_Mdl_rise 153 = .ok (.iconst 1, 1) := by decide +kernel
theorem d_Mdl_rise_154 : decode b_Mdl_rise 154 = .ok (.iadd, 1) := by decide +kernel
theorem d_Mdl_rise_155 : decode b_Mdl_rise 155 = .ok (.laload, 1) := by decide +kernel
theorem d_Mdl_rise_156 : decode b_Mdl_rise 156 = .ok (.iload_n 2, 1) := by decide +kernel
theorem d_Mdl_rise_157 : decode b_Mdl_rise 157 = .ok (.aload_n 0, 1) := by decide +kernel
theorem d_Mdl_rise_158 : decode b_Mdl_rise 158 = .ok (.getfield 89, 3) := by decide +kernel
theorem d_Mdl_rise_161 : decode b_Mdl_rise 161 = .ok (.iload_n 3, 1) := by decide +kernel
theorem d_Mdl_rise_162 : decode b_Mdl_rise 162 = .ok (.iaload, 1) := by decide +kernel
theorem d_Mdl_rise_163 : decode b_Mdl_rise 163 = .ok (.isub, 1) := by decide +kernel
theorem d_Mdl_rise_164 : decode b_Mdl_rise 164 = .ok (.i2l, 1) := by decide +kernel
theorem d_Mdl_rise_165 : decode b_Mdl_rise 165 = .ok (.aload_n 0, 1) := by decide +kernel
theorem d_Mdl_rise_166 : decode b_Mdl_rise 166 = .ok (.getfield 89, 3) := by decide +kernel
theorem d_Mdl_rise_169 : decode b_Mdl_rise 169 = .ok (.iload_n 3, 1) := by decide +kernel
theorem d_Mdl_rise_170 : decode b_Mdl_rise 170 = .ok (.iconst 1, 1) := by decide +kernel
theorem d_Mdl_rise_171 : decode b_Mdl_rise 171 = .ok (.iadd, 1) := by decide +kernel
theorem d_Mdl_rise_172 : decode b_Mdl_rise 172 = .ok (.iaload, 1) := by decide +kernel
theorem d_Mdl_rise_173 : decode b_Mdl_rise 173 = .ok (.aload_n 0, 1) := by decide +kernel
theorem d_Mdl_rise_174 : decode b_Mdl_rise 174 = .ok (.getfield 89, 3) := by decide +kernel
theorem d_Mdl_rise_177 : decode b_Mdl_rise 177 = .ok (.iload_n 3, 1) := by decide +kernel
theorem d_Mdl_rise_178 : decode b_Mdl_rise 178 = .ok (.iaload, 1) := by decide +kernel
theorem d_Mdl_rise_179 : decode b_Mdl_rise 179 = .ok (.isub, 1) := by decide +kernel
theorem d_Mdl_rise_180 : decode b_Mdl_rise 180 = .ok (.i2l, 1) := by decide +kernel
theorem d_Mdl_rise_181 : decode b_Mdl_rise 181 = .ok (.invokestatic 199, 3) := by decide +kernel
theorem d_Mdl_rise_184 : decode b_Mdl_rise 184 = .ok (.lstore 7, 2) := by decide +kernel
theorem d_Mdl_rise_186 : decode b_Mdl_rise 186 = .ok (.aload_n 0, 1) := by decide +kernel
theorem d_Mdl_rise_187 : decode b_Mdl_rise 187 = .ok (.getfield 203, 3) := by decide +kernel
theorem d_Mdl_rise_190 : decode b_Mdl_rise 190 = .ok (.lstore 9, 2) := by decide +kernel
theorem d_Mdl_rise_192 : decode b_Mdl_rise 192 = .ok (.aload_n 0, 1) := by decide +kernel
theorem d_Mdl_rise_193 : decode b_Mdl_rise 193 = .ok (.getfield 207, 3) := by decide +kernel
theorem d_Mdl_rise_196 : decode b_Mdl_rise 196 = .ok (.lstore 11, 2) := by decide +kernel
theorem d_Mdl_rise_198 : decode b_Mdl_rise 198 = .ok (.aload_n 0, 1) := by decide +kernel
theorem d_Mdl_rise_199 : decode b_Mdl_rise 199 = .ok (.getfield 99, 3) := by decide +kernel
theorem d_Mdl_rise_202 : decode b_Mdl_rise 202 = .ok (.iload_n 3, 1) := by decide +kernel
theorem d_Mdl_rise_203 : decode b_Mdl_rise 203 = .ok (.iaload, 1) := by decide +kernel
theorem d_Mdl_rise_204 : decode b_Mdl_rise 204 = .ok (.istore 13, 2) := by decide +kernel
theorem d_Mdl_rise_206 : decode b_Mdl_rise 206 = .ok (.aload_n 0, 1) := by decide +kernel
theorem d_Mdl_rise_207 : decode b_Mdl_rise 207 = .ok (.lload 5, 2) := by decide +kernel
theorem d_Mdl_rise_209 : decode b_Mdl_rise 209 = .ok (.iload 13, 2) := by decide +kernel
theorem d_Mdl_rise_211 : decode b_Mdl_rise 211 = .ok (.ifCond .ne 8, 3) := by decide +kernel
theorem d_Mdl_rise_214 : decode b_Mdl_rise 214 = .ok (.lload 9, 2) := by decide +kernel
theorem d_Mdl_rise_216 : decode b_Mdl_rise 216 = .ok (.goto 29, 3) := by decide +kernel
theorem d_Mdl_rise_219 : decode b_Mdl_rise 219 = .ok (.iload 13, 2) := by decide +kernel
theorem d_Mdl_rise_221 : decode b_Mdl_rise 221 = .ok (.iconst 1, 1) := by decide +kernel
theorem d_Mdl_rise_222 : decode b_Mdl_rise 222 = .ok (.if_icmp .ne 9, 3) := by decide +kernel
theorem d_Mdl_rise_225 : decode b_Mdl_rise 225 = .ok (.lload 11, 2) := by decide +kernel
theorem d_Mdl_rise_227 : decode b_Mdl_rise 227 = .ok (.lneg, 1) := by decide +kernel
theorem d_Mdl_rise_228 : decode b_Mdl_rise 228 = .ok (.goto 17, 3) := by decide +kernel
theorem d_Mdl_rise_231 : decode b_Mdl_rise 231 = .ok (.iload 13, 2) := by decide +kernel
theorem d_Mdl_rise_233 : decode b_Mdl_rise 233 = .ok (.iconst 2, 1) := by decide +kernel
theorem d_Mdl_rise_234 : decode b_Mdl_rise 234 = .ok (.if_icmp .ne 9, 3) := by decide +kernel
theorem d_Mdl_rise_237 : decode b_Mdl_rise 237 = .ok (.lload 9, 2) := by decide +kernel
theorem d_Mdl_rise_239 : decode b_Mdl_rise 239 = .ok (.lneg, 1) := by decide +kernel
theorem d_Mdl_rise_240 : decode b_Mdl_rise 240 = .ok (.goto 5, 3) := by decide +kernel
theorem d_Mdl_rise_243 : decode b_Mdl_rise 243 = .ok (.lload 11, 2) := by decide +kernel
theorem d_Mdl_rise_245 : decode b_Mdl_rise 245 = .ok (.ladd, 1) := by decide +kernel
theorem d_Mdl_rise_246 : decode b_Mdl_rise 246 = .ok (.putfield 203, 3) := by decide +kernel
theorem d_Mdl_rise_249 : decode b_Mdl_rise 249 = .ok (.aload_n 0, 1) := by decide +kernel
theorem d_Mdl_rise_250 : decode b_Mdl_rise 250 = .ok (.lload 7, 2) := by decide +kernel
theorem d_Mdl_rise_252 : decode b_Mdl_rise 252 = .ok (.iload 13, 2) := by decide +kernel
theorem d_Mdl_rise_254 : decode b_Mdl_rise 254 = .ok (.ifCond .ne 8, 3) := by decide +kernel
theorem d_Mdl_rise_257 : decode b_Mdl_rise 257 = .ok (.lload 11, 2) := by decide +kernel
theorem d_Mdl_rise_259 : decode b_Mdl_rise 259 = .ok (.goto 29, 3) := by decide +kernel
theorem d_Mdl_rise_262 : decode b_Mdl_rise 262 = .ok (.iload 13, 2) := by decide +kernel
theorem d_Mdl_rise_264 : decode b_Mdl_rise 264 = .ok (.iconst 1, 1) := by decide +kernel
theorem d_Mdl_rise_265 : decode b_Mdl_rise 265 = .ok (.if_icmp .ne 8, 3) := by decide +kernel
theorem d_Mdl_rise_268 : decode b_Mdl_rise 268 = .ok (.lload 9, 2) := by decide +kernel
theorem d_Mdl_rise_270 : decode b_Mdl_rise 270 = .ok (.goto 18, 3) := by decide +kernel
theorem d_Mdl_rise_273 : decode b_Mdl_rise 273 = .ok (.iload 13, 2) := by decide +kernel
theorem d_Mdl_rise_275 : decode b_Mdl_rise 275 = .ok (.iconst 2, 1) := by decide +kernel
theorem d_Mdl_rise_276 : decode b_Mdl_rise 276 = .ok (.if_icmp .ne 9, 3) := by decide +kernel
theorem d_Mdl_rise_279 : decode b_Mdl_rise 279 = .ok (.lload 11, 2) := by decide +kernel
theorem d_Mdl_rise_281 : decode b_Mdl_rise 281 = .ok (.lneg, 1) := by decide +kernel
theorem d_Mdl_rise_282 : decode b_Mdl_rise 282 = .ok (.goto 6, 3) := by decide +kernel
theorem d_Mdl_rise_285 : decode b_Mdl_rise 285 = .ok (.lload 9, 2) := by decide +kernel
theorem d_Mdl_rise_287 : decode b_Mdl_rise 287 = .ok (.lneg, 1) := by decide +kernel
theorem d_Mdl_rise_288 : decode b_Mdl_rise 288 = .ok (.ladd, 1) := by decide +kernel
theorem d_Mdl_rise_289 : decode b_Mdl_rise 289 = .ok (.putfield 207, 3) := by decide +kernel
theorem d_Mdl_rise_292 : decode b_Mdl_rise 292 = .ok (.iconst 1, 1) := by decide +kernel
theorem d_Mdl_rise_293 : decode b_Mdl_rise 293 = .ok (.ireturn, 1) := by decide +kernel
theorem d_Mdl_between_0 : decode b_Mdl_between 0 = .ok (.lload_n 2, 1) := by decide +kernel
theorem d_Mdl_between_1 : decode b_Mdl_between 1 = .ok (.lload_n 0, 1) := by decide +kernel
theorem d_Mdl_between_2 : decode b_Mdl_between 2 = .ok (.lsub, 1) := by decide +kernel
theorem d_Mdl_between_3 : decode b_Mdl_between 3 = .ok (.lload 4, 2) := by decide +kernel
theorem d_Mdl_between_5 : decode b_Mdl_between 5 = .ok (.lmul, 1) := by decide +kernel
theorem d_Mdl_between_6 : decode b_Mdl_between 6 = .ok (.lstore 8, 2) := by decide +kernel
theorem d_Mdl_between_8 : decode b_Mdl_between 8 = .ok (.lload_n 0, 1) := by decide +kernel
theorem d_Mdl_between_9 : decode b_Mdl_between 9 = .ok (.lload 8, 2) := by decide +kernel
theorem d_Mdl_between_11 : decode b_Mdl_between 11 = .ok (.lload 6, 2) := by decide +kernel
theorem d_Mdl_between_13 : decode b_Mdl_between 13 = .ok (.ldiv, 1) := by decide +kernel
theorem d_Mdl_between_14 : decode b_Mdl_between 14 = .ok (.ladd, 1) := by decide +kernel
theorem d_Mdl_between_15 : decode b_Mdl_between 15 = .ok (.lload 8, 2) := by decide +kernel
theorem d_Mdl_between_17 : decode b_Mdl_between 17 = .ok (.lload 6, 2) := by decide +kernel
theorem d_Mdl_between_19 : decode b_Mdl_between 19 = .ok (.lrem, 1) := by decide +kernel
theorem d_Mdl_between_20 : decode b_Mdl_between 20 = .ok (.lconst 0, 1) := by decide +kernel
theorem d_Mdl_between_21 : decode b_Mdl_between 21 = .ok (.lcmp, 1) := by decide +kernel
theorem d_Mdl_between_22 : decode b_Mdl_between 22 = .ok (.ifCond .ge 7, 3) := by decide +kernel
theorem d_Mdl_between_25 : decode b_Mdl_between 25 = .ok (.iconst 1, 1) := by decide +kernel
theorem d_Mdl_between_26 : decode b_Mdl_between 26 = .ok (.goto 4, 3) := by decide +kernel
theorem d_Mdl_between_29 : decode b_Mdl_between 29 = .ok (.iconst 0, 1) := by decide +kernel
theorem d_Mdl_between_30 : decode b_Mdl_between 30 = .ok (.i2l, 1) := by decide +kernel
theorem d_Mdl_between_31 : decode b_Mdl_between 31 = .ok (.lsub, 1) := by decide +kernel
theorem d_Mdl_between_32 : decode b_Mdl_between 32 = .ok (.lreturn, 1) := by decide +kernel
theorem d_Mdl_lastY_0 : decode b_Mdl_lastY 0 = .ok (.aload_n 0, 1) := by decide +kernel
theorem d_Mdl_lastY_1 : decode b_Mdl_lastY 1 = .ok (.iconst 0, 1) := by decide +kernel
theorem d_Mdl_lastY_2 : decode b_Mdl_lastY 2 = .ok (.putfield 102, 3) := by decide +kernel
theorem d_Mdl_lastY_5 : decode b_Mdl_lastY 5 = .ok (.aload_n 0, 1) := by decide +kernel
theorem d_Mdl_lastY_6 : decode b_Mdl_lastY 6 = .ok (.getfield 216, 3) := by decide +kernel
theorem d_Mdl_lastY_9 : decode b_Mdl_lastY 9 = .ok (.dreturn, 1) := by decide +kernel
theorem d_Mdl_count_0 : decode b_Mdl_count 0 = .ok (.aload_n 0, 1) := by decide +kernel
theorem d_Mdl_count_1 : decode b_Mdl_count 1 = .ok (.iconst 0, 1) := by decide +kernel
theorem d_Mdl_count_2 : decode b_Mdl_count 2 = .ok (.putfield 102, 3) := by decide +kernel
theorem d_Mdl_count_5 : decode b_Mdl_count 5 = .ok (.iload_n 1, 1) := by decide +kernel
theorem d_Mdl_count_6 : decode b_Mdl_count 6 = .ok (.tableswitch 85 0 6 #[42, 47, 52, 57, 62, 75, 80], 42) := by decide +kernel
theorem d_Mdl_count_48 : decode b_Mdl_count 48 = .ok (.aload_n 0, 1) := by decide +kernel
theorem d_Mdl_count_49 : decode b_Mdl_count 49 = .ok (.getfield 128, 3) := by decide +kernel
theorem d_Mdl_count_52 : decode b_Mdl_count 52 = .ok (.ireturn, 1) := by decide +kernel
theorem d_Mdl_count_53 : decode b_Mdl_count 53 = .ok (.aload_n 0, 1) := by decide +kernel
theorem d_Mdl_count_54 : decode b_Mdl_count 54 = .ok (.getfield 122, 3) := by decide +kernel
theorem d_Mdl_count_57 : decode b_Mdl_count 57 = .ok (.ireturn, 1) := by decide +kernel
theorem d_Mdl_count_58 : decode b_Mdl_count 58 = .ok (.aload_n 0, 1) := by decide +kernel
theorem d_Mdl_count_59 : decode b_Mdl_count 59 = .ok (.getfield 125, 3) := by decide +kernel
theorem d_Mdl_count_62 : decode b_Mdl_count 62 = .ok (.ireturn, 1) := by decide +kernel
theorem d_Mdl_count_63 : decode b_Mdl_count 63 = .ok (.aload_n 0, 1) := by decide +kernel
theorem d_Mdl_count_64 : decode b_Mdl_count 64 = .ok (.getfield 135, 3) := by decide +kernel
theorem d_Mdl_count_67 : decode b_Mdl_count 67 = .ok (.ireturn, 1) := by decide +kernel
theorem d_Mdl_count_68 : decode b_Mdl_count 68 = .ok (.aload_n 0, 1) := by decide +kernel
theorem d_Mdl_count_69 : decode b_Mdl_count 69 = .ok (.getfield 156, 3) := by decide +kernel
theorem d_Mdl_count_72 : decode b_Mdl_count 72 = .ok (.ifCond .eq 7, 3) := by decide +kernel
theorem d_Mdl_count_75 : decode b_Mdl_count 75 = .ok (.iconst 1, 1) := by decide +kernel
theorem d_Mdl_count_76 : decode b_Mdl_count 76 = .ok (.goto 4, 3) := by decide +kernel
theorem d_Mdl_count_79 : decode b_Mdl_count 79 = .ok (.iconst 0, 1) := by decide +kernel
theorem d_Mdl_count_80 : decode b_Mdl_count 80 = .ok (.ireturn, 1) := by decide +kernel
theorem d_Mdl_count_81 : decode b_Mdl_count 81 = .ok (.aload_n 0, 1) := by decide +kernel
theorem d_Mdl_count_82 : decode b_Mdl_count 82 = .ok (.getfield 172, 3) := by decide +kernel
theorem d_Mdl_count_85 : decode b_Mdl_count 85 = .ok (.ireturn, 1) := by decide +kernel
theorem d_Mdl_count_86 : decode b_Mdl_count 86 = .ok (.aload_n 0, 1) := by decide +kernel
theorem d_Mdl_count_87 : decode b_Mdl_count 87 = .ok (.getfield 175, 3) := by decide +kernel
theorem d_Mdl_count_90 : decode b_Mdl_count 90 = .ok (.ireturn, 1) := by decide +kernel
theorem d_Mdl_count_91 : decode b_Mdl_count 91 = .ok (.aload_n 0, 1) := by decide +kernel
theorem d_Mdl_count_92 : decode b_Mdl_count 92 = .ok (.iconst 1, 1) := by decide +kernel
theorem d_Mdl_count_93 : decode b_Mdl_count 93 = .ok (.invokevirtual 110, 3) := by decide +kernel
theorem d_Mdl_count_96 : decode b_Mdl_count 96 = .ok (.ireturn, 1) := by decide +kernel
