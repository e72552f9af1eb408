theorem d_M_init_0 : decode prog_8_method_1_code 0 = .ok (.aload_n 0, 1) := by decide +kernel
theorem d_M_init_1 : decode prog_8_method_1_code 1 = .ok (.invokespecial 1, 3) := by decide +kernel
theorem d_M_init_4 : decode prog_8_method_1_code 4 = .ok (.aload_n 0, 1) := by decide +kernel
theorem d_M_init_5 : decode prog_8_method_1_code 5 = .ok (.iconst 1, 1) := by decide +kernel
theorem d_M_init_6 : decode prog_8_method_1_code 6 = .ok (.putfield 7, 3) := by decide +kernel
theorem d_M_init_9 : decode prog_8_method_1_code 9 = .ok (.aload_n 0, 1) := by decide +kernel
theorem d_M_init_10 : decode prog_8_method_1_code 10 = .ok (.iconst 4, 1) := by decide +kernel
theorem d_M_init_11 : decode prog_8_method_1_code 11 = .ok (.newarray .boolean, 2) := by decide +kernel
theorem d_M_init_13 : decode prog_8_method_1_code 13 = .ok (.putfield 13, 3) := by decide +kernel
theorem d_M_init_16 : decode prog_8_method_1_code 16 = .ok (.aload_n 0, 1) := by decide +kernel
theorem d_M_init_17 : decode prog_8_method_1_code 17 = .ok (.sipush 520, 3) := by decide +kernel
theorem d_M_init_20 : decode prog_8_method_1_code 20 = .ok (.newarray .int, 2) := by decide +kernel
theorem d_M_init_22 : decode prog_8_method_1_code 22 = .ok (.putfield 17, 3) := by decide +kernel
theorem d_M_init_25 : decode prog_8_method_1_code 25 = .ok (.aload_n 0, 1) := by decide +kernel
theorem d_M_init_26 : decode prog_8_method_1_code 26 = .ok (.sipush 520, 3) := by decide +kernel
theorem d_M_init_29 : decode prog_8_method_1_code 29 = .ok (.newarray .int, 2) := by decide +kernel
theorem d_M_init_31 : decode prog_8_method_1_code 31 = .ok (.putfield 21, 3) := by decide +kernel
theorem d_M_init_34 : decode prog_8_method_1_code 34 = .ok (.aload_n 0, 1) := by decide +kernel
theorem d_M_init_35 : decode prog_8_method_1_code 35 = .ok (.sipush 520, 3) := by decide +kernel
theorem d_M_init_38 : decode prog_8_method_1_code 38 = .ok (.newarray .int, 2) := by decide +kernel
theorem d_M_init_40 : decode prog_8_method_1_code 40 = .ok (.putfield 24, 3) := by decide +kernel
theorem d_M_init_43 : decode prog_8_method_1_code 43 = .ok (.aload_n 0, 1) := by decide +kernel
theorem d_M_init_44 : decode prog_8_method_1_code 44 = .ok (.sipush 520, 3) := by decide +kernel
theorem d_M_init_47 : decode prog_8_method_1_code 47 = .ok (.newarray .int, 2) := by decide +kernel
theorem d_M_init_49 : decode prog_8_method_1_code 49 = .ok (.putfield 27, 3) := by decide +kernel
theorem d_M_init_52 : decode prog_8_method_1_code 52 = .ok (.aload_n 0, 1) := by decide +kernel
theorem d_M_init_53 : decode prog_8_method_1_code 53 = .ok (.sipush 520, 3) := by decide +kernel
theorem d_M_init_56 : decode prog_8_method_1_code 56 = .ok (.newarray .boolean, 2) := by decide +kernel
theorem d_M_init_58 : decode prog_8_method_1_code 58 = .ok (.putfield 30, 3) := by decide +kernel
theorem d_M_init_61 : decode prog_8_method_1_code 61 = .ok (.aload_n 0, 1) := by decide +kernel
theorem d_M_init_62 : decode prog_8_method_1_code 62 = .ok (.iconst 4, 1) := by decide +kernel
theorem d_M_init_63 : decode prog_8_method_1_code 63 = .ok (.newarray .int, 2) := by decide +kernel
theorem d_M_init_65 : decode prog_8_method_1_code 65 = .ok (.putfield 33, 3) := by decide +kernel
theorem d_M_init_68 : decode prog_8_method_1_code 68 = .ok (.aload_n 0, 1) := by decide +kernel
theorem d_M_init_69 : decode prog_8_method_1_code 69 = .ok (.iconst 4, 1) := by decide +kernel
theorem d_M_init_70 : decode prog_8_method_1_code 70 = .ok (.newarray .int, 2) := by decide +kernel
theorem d_M_init_72 : decode prog_8_method_1_code 72 = .ok (.putfield 36, 3) := by decide +kernel
theorem d_M_init_75 : decode prog_8_method_1_code 75 = .ok (.aload_n 0, 1) := by decide +kernel
theorem d_M_init_76 : decode prog_8_method_1_code 76 = .ok (.iconst 4, 1) := by decide +kernel
theorem d_M_init_77 : decode prog_8_method_1_code 77 = .ok (.newarray .boolean, 2) := by decide +kernel
theorem d_M_init_79 : decode prog_8_method_1_code 79 = .ok (.putfield 39, 3) := by decide +kernel
theorem d_M_init_82 : decode prog_8_method_1_code 82 = .ok (.aload_n 0, 1) := by decide +kernel
theorem d_M_init_83 : decode prog_8_method_1_code 83 = .ok (.iconst 4, 1) := by decide +kernel
theorem d_M_init_84 : decode prog_8_method_1_code 84 = .ok (.newarray .int, 2) := by decide +kernel
theorem d_M_init_86 : decode prog_8_method_1_code 86 = .ok (.putfield 42, 3) := by decide +kernel
theorem d_M_init_89 : decode prog_8_method_1_code 89 = .ok (.aload_n 0, 1) := by decide +kernel
theorem d_M_init_90 : decode prog_8_method_1_code 90 = .ok (.iconst 4, 1) := by decide +kernel
theorem d_M_init_91 : decode prog_8_method_1_code 91 = .ok (.newarray .int, 2) := by decide +kernel
theorem d_M_init_93 : decode prog_8_method_1_code 93 = .ok (.putfield 45, 3) := by decide +kernel
theorem d_M_init_96 : decode prog_8_method_1_code 96 = .ok (.aload_n 0, 1) := by decide +kernel
theorem d_M_init_97 : decode prog_8_method_1_code 97 = .ok (.iconst 4, 1) := by decide +kernel
theorem d_M_init_98 : decode prog_8_method_1_code 98 = .ok (.newarray .int, 2) := by decide +kernel
theorem d_M_init_100 : decode prog_8_method_1_code 100 = .ok (.putfield 48, 3) := by decide +kernel
theorem d_M_init_103 : decode prog_8_method_1_code 103 = .ok (.aload_n 0, 1) := by decide +kernel
theorem d_M_init_104 : decode prog_8_method_1_code 104 = .ok (.iconst 4, 1) := by decide +kernel
theorem d_M_init_105 : decode prog_8_method_1_code 105 = .ok (.newarray .boolean, 2) := by decide +kernel
theorem d_M_init_107 : decode prog_8_method_1_code 107 = .ok (.putfield 51, 3) := by decide +kernel
theorem d_M_init_110 : decode prog_8_method_1_code 110 = .ok (.aload_n 0, 1) := by decide +kernel
theorem d_M_init_111 : decode prog_8_method_1_code 111 = .ok (.bipush 16, 2) := by decide +kernel
theorem d_M_init_113 : decode prog_8_method_1_code 113 = .ok (.newarray .boolean, 2) := by decide +kernel
theorem d_M_init_115 : decode prog_8_method_1_code 115 = .ok (.putfield 54, 3) := by decide +kernel
theorem d_M_init_118 : decode prog_8_method_1_code 118 = .ok (.aload_n 0, 1) := by decide +kernel
theorem d_M_init_119 : decode prog_8_method_1_code 119 = .ok (.bipush 16, 2) := by decide +kernel
theorem d_M_init_121 : decode prog_8_method_1_code 121 = .ok (.newarray .int, 2) := by decide +kernel
theorem d_M_init_123 : decode prog_8_method_1_code 123 = .ok (.putfield 57, 3) := by decide +kernel
theorem d_M_init_126 : decode prog_8_method_1_code 126 = .ok (.aload_n 0, 1) := by decide +kernel
theorem d_M_init_127 : decode prog_8_method_1_code 127 = .ok (.bipush 16, 2) := by decide +kernel
theorem d_M_init_129 : decode prog_8_method_1_code 129 = .ok (.newarray .int, 2) := by decide +kernel
theorem d_M_init_131 : decode prog_8_method_1_code 131 = .ok (.putfield 60, 3) := by decide +kernel
theorem d_M_init_134 : decode prog_8_method_1_code 134 = .ok (.aload_n 0, 1) := by decide +kernel
theorem d_M_init_135 : decode prog_8_method_1_code 135 = .ok (.iconst 4, 1) := by decide +kernel
theorem d_M_init_136 : decode prog_8_method_1_code 136 = .ok (.newarray .int, 2) := by decide +kernel
theorem d_M_init_138 : decode prog_8_method_1_code 138 = .ok (.putfield 63, 3) := by decide +kernel
theorem d_M_init_141 : decode prog_8_method_1_code 141 = .ok (.aload_n 0, 1) := by decide +kernel
theorem d_M_init_142 : decode prog_8_method_1_code 142 = .ok (.bipush 8, 2) := by decide +kernel
theorem d_M_init_144 : decode prog_8_method_1_code 144 = .ok (.newarray .int, 2) := by decide +kernel
theorem d_M_init_146 : decode prog_8_method_1_code 146 = .ok (.putfield 66, 3) := by decide +kernel
theorem d_M_init_149 : decode prog_8_method_1_code 149 = .ok (.aload_n 0, 1) := by decide +kernel
theorem d_M_init_150 : decode prog_8_method_1_code 150 = .ok (.bipush 8, 2) := by decide +kernel
theorem d_M_init_152 : decode prog_8_method_1_code 152 = .ok (.newarray .int, 2) := by decide +kernel
theorem d_M_init_154 : decode prog_8_method_1_code 154 = .ok (.putfield 69, 3) := by decide +kernel
theorem d_M_init_157 : decode prog_8_method_1_code 157 = .ok (.aload_n 0, 1) := by decide +kernel
theorem d_M_init_158 : decode prog_8_method_1_code 158 = .ok (.bipush 8, 2) := by decide +kernel
theorem d_M_init_160 : decode prog_8_method_1_code 160 = .ok (.newarray .int, 2) := by decide +kernel
theorem d_M_init_162 : decode prog_8_method_1_code 162 = .ok (.putfield 72, 3) := by decide +kernel
theorem d_M_init_165 : decode prog_8_method_1_code 165 = .ok (.aload_n 0, 1) := by decide +kernel
theorem d_M_init_166 : decode prog_8_method_1_code 166 = .ok (.bipush 8, 2) := by decide +kernel
theorem d_M_init_168 : decode prog_8_method_1_code 168 = .ok (.newarray .int, 2) := by decide +kernel
theorem d_M_init_170 : decode prog_8_method_1_code 170 = .ok (.putfield 75, 3) := by decide +kernel
theorem d_M_init_173 : decode prog_8_method_1_code 173 = .ok (.aload_n 0, 1) := by decide +kernel
theorem d_M_init_174 : decode prog_8_method_1_code 174 = .ok (.bipush 8, 2) := by decide +kernel
theorem d_M_init_176 : decode prog_8_method_1_code 176 = .ok (.newarray .int, 2) := by decide +kernel
theorem d_M_init_178 : decode prog_8_method_1_code 178 = .ok (.putfield 78, 3) := by decide +kernel
theorem d_M_init_181 : decode prog_8_method_1_code 181 = .ok (.aload_n 0, 1) := by decide +kernel
theorem d_M_init_182 : decode prog_8_method_1_code 182 = .ok (.bipush 8, 2) := by decide +kernel
theorem d_M_init_184 : decode prog_8_method_1_code 184 = .ok (.newarray .int, 2) := by decide +kernel
theorem d_M_init_186 : decode prog_8_method_1_code 186 = .ok (.putfield 81, 3) := by decide +kernel
theorem d_M_init_189 : decode prog_8_method_1_code 189 = .ok (.aload_n 0, 1) := by decide +kernel
theorem d_M_init_190 : decode prog_8_method_1_code 190 = .ok (.bipush 8, 2) := by decide +kernel
theorem d_M_init_192 : decode prog_8_method_1_code 192 = .ok (.newarray .int, 2) := by decide +kernel
theorem d_M_init_194 : decode prog_8_method_1_code 194 = .ok (.putfield 84, 3) := by decide +kernel
theorem d_M_init_197 : decode prog_8_method_1_code 197 = .ok (.aload_n 0, 1) := by decide +kernel
theorem d_M_init_198 : decode prog_8_method_1_code 198 = .ok (.bipush 8, 2) := by decide +kernel
theorem d_M_init_200 : decode prog_8_method_1_code 200 = .ok (.newarray .int, 2) := by decide +kernel
theorem d_M_init_202 : decode prog_8_method_1_code 202 = .ok (.putfield 87, 3) := by decide +kernel
theorem d_M_init_205 : decode prog_8_method_1_code 205 = .ok (.aload_n 0, 1) := by decide +kernel
theorem d_M_init_206 : decode prog_8_method_1_code 206 = .ok (.bipush 8, 2) := by decide +kernel
theorem d_M_init_208 : decode prog_8_method_1_code 208 = .ok (.newarray .int, 2) := by decide +kernel
theorem d_M_init_210 : decode prog_8_method_1_code 210 = .ok (.putfield 90, 3) := by decide +kernel
theorem d_M_init_213 : decode prog_8_method_1_code 213 = .ok (.aload_n 0, 1) := by decide +kernel
theorem d_M_init_214 : decode prog_8_method_1_code 214 = .ok (.iload_n 1, 1) := by decide +kernel
theorem d_M_init_215 : decode prog_8_method_1_code 215 = .ok (.iconst 1, 1) := by decide +kernel
theorem d_M_init_216 : decode prog_8_method_1_code 216 = .ok (.if_icmp .ge 7, 3) := by decide +kernel
theorem d_M_init_219 : decode prog_8_method_1_code 219 = .ok (.iconst 1, 1) := by decide +kernel
theorem d_M_init_220 : decode prog_8_method_1_code 220 = .ok (.goto 15, 3) := by decide +kernel
theorem d_M_init_223 : decode prog_8_method_1_code 223 = .ok (.iload_n 1, 1) := by decide +kernel
theorem d_M_init_224 : decode prog_8_method_1_code 224 = .ok (.bipush 20, 2) := by decide +kernel
theorem d_M_init_226 : decode prog_8_method_1_code 226 = .ok (.if_icmp .le 8, 3) := by decide +kernel
theorem d_M_init_229 : decode prog_8_method_1_code 229 = .ok (.bipush 20, 2) := by decide +kernel
theorem d_M_init_231 : decode prog_8_method_1_code 231 = .ok (.goto 4, 3) := by decide +kernel
theorem d_M_init_234 : decode prog_8_method_1_code 234 = .ok (.iload_n 1, 1) := by decide +kernel
theorem d_M_init_235 : decode prog_8_method_1_code 235 = .ok (.putfield 93, 3) := by decide +kernel
theorem d_M_init_238 : decode prog_8_method_1_code 238 = .ok (.aload_n 0, 1) := by decide +kernel
theorem d_M_init_239 : decode prog_8_method_1_code 239 = .ok (.iload_n 2, 1) := by decide +kernel
theorem d_M_init_240 : decode prog_8_method_1_code 240 = .ok (.iconst 1, 1) := by decide +kernel
theorem d_M_init_241 : decode prog_8_method_1_code 241 = .ok (.if_icmp .ge 7, 3) := by decide +kernel
theorem d_M_init_244 : decode prog_8_method_1_code 244 = .ok (.iconst 1, 1) := by decide +kernel
theorem d_M_init_245 : decode prog_8_method_1_code 245 = .ok (.goto 13, 3) := by decide +kernel
theorem d_M_init_248 : decode prog_8_method_1_code 248 = .ok (.iload_n 2, 1) := by decide +kernel
theorem d_M_init_249 : decode prog_8_method_1_code 249 = .ok (.iconst 3, 1) := by decide +kernel
theorem d_M_init_250 : decode prog_8_method_1_code 250 = .ok (.if_icmp .le 7, 3) := by decide +kernel
theorem d_M_init_253 : decode prog_8_method_1_code 253 = .ok (.iconst 3, 1) := by decide +kernel
theorem d_M_init_254 : decode prog_8_method_1_code 254 = .ok (.goto 4, 3) := by decide +kernel
theorem d_M_init_257 : decode prog_8_method_1_code 257 = .ok (.iload_n 2, 1) := by decide +kernel
theorem d_M_init_258 : decode prog_8_method_1_code 258 = .ok (.putfield 96, 3) := by decide +kernel
theorem d_M_init_261 : decode prog_8_method_1_code 261 = .ok (.aload_n 0, 1) := by decide +kernel
theorem d_M_init_262 : decode prog_8_method_1_code 262 = .ok (.iload_n 3, 1) := by decide +kernel
theorem d_M_init_263 : decode prog_8_method_1_code 263 = .ok (.iconst 1, 1) := by decide +kernel
theorem d_M_init_264 : decode prog_8_method_1_code 264 = .ok (.if_icmp .ge 7, 3) := by decide +kernel
theorem d_M_init_267 : decode prog_8_method_1_code 267 = .ok (.iconst 1, 1) := by decide +kernel
theorem d_M_init_268 : decode prog_8_method_1_code 268 = .ok (.goto 13, 3) := by decide +kernel
theorem d_M_init_271 : decode prog_8_method_1_code 271 = .ok (.iload_n 3, 1) := by decide +kernel
theorem d_M_init_272 : decode prog_8_method_1_code 272 = .ok (.iconst 3, 1) := by decide +kernel
theorem d_M_init_273 : decode prog_8_method_1_code 273 = .ok (.if_icmp .le 7, 3) := by decide +kernel
theorem d_M_init_276 : decode prog_8_method_1_code 276 = .ok (.iconst 3, 1) := by decide +kernel
theorem d_M_init_277 : decode prog_8_method_1_code 277 = .ok (.goto 4, 3) := by decide +kernel
theorem d_M_init_280 : decode prog_8_method_1_code 280 = .ok (.iload_n 3, 1) := by decide +kernel
theorem d_M_init_281 : decode prog_8_method_1_code 281 = .ok (.putfield 99, 3) := by decide +kernel
theorem d_M_init_284 : decode prog_8_method_1_code 284 = .ok (.iconst 0, 1) := by decide +kernel
theorem d_M_init_285 : decode prog_8_method_1_code 285 = .ok (.istore 4, 2) := by decide +kernel
theorem d_M_init_287 : decode prog_8_method_1_code 287 = .ok (.iload 4, 2) := by decide +kernel
theorem d_M_init_289 : decode prog_8_method_1_code 289 = .ok (.iconst 4, 1) := by decide +kernel
theorem d_M_init_290 : decode prog_8_method_1_code 290 = .ok (.if_icmp .ge 33, 3) := by decide +kernel
theorem d_M_init_293 : decode prog_8_method_1_code 293 = .ok (.aload_n 0, 1) := by decide +kernel
theorem d_M_init_294 : decode prog_8_method_1_code 294 = .ok (.getfield 39, 3) := by decide +kernel
theorem d_M_init_297 : decode prog_8_method_1_code 297 = .ok (.iload 4, 2) := by decide +kernel
theorem d_M_init_299 : decode prog_8_method_1_code 299 = .ok (.iconst 1, 1) := by decide +kernel
theorem d_M_init_300 : decode prog_8_method_1_code 300 = .ok (.bastore, 1) := by decide +kernel
theorem d_M_init_301 : decode prog_8_method_1_code 301 = .ok (.aload_n 0, 1) := by decide +kernel
theorem d_M_init_302 : decode prog_8_method_1_code 302 = .ok (.getfield 13, 3) := by decide +kernel
theorem d_M_init_305 : decode prog_8_method_1_code 305 = .ok (.iload 4, 2) := by decide +kernel
theorem d_M_init_307 : decode prog_8_method_1_code 307 = .ok (.iconst 1, 1) := by decide +kernel
theorem d_M_init_308 : decode prog_8_method_1_code 308 = .ok (.bastore, 1) := by decide +kernel
theorem d_M_init_309 : decode prog_8_method_1_code 309 = .ok (.aload_n 0, 1) := by decide +kernel
theorem d_M_init_310 : decode prog_8_method_1_code 310 = .ok (.getfield 42, 3) := by decide +kernel
theorem d_M_init_313 : decode prog_8_method_1_code 313 = .ok (.iload 4, 2) := by decide +kernel
theorem d_M_init_315 : decode prog_8_method_1_code 315 = .ok (.iconst 1, 1) := by decide +kernel
theorem d_M_init_316 : decode prog_8_method_1_code 316 = .ok (.iastore, 1) := by decide +kernel
theorem d_M_init_317 : decode prog_8_method_1_code 317 = .ok (.iinc 4 1, 3) := by decide +kernel
theorem d_M_init_320 : decode prog_8_method_1_code 320 = .ok (.goto (-33), 3) := by decide +kernel
theorem d_M_init_323 : decode prog_8_method_1_code 323 = .ok (.aload_n 0, 1) := by decide +kernel
theorem d_M_init_324 : decode prog_8_method_1_code 324 = .ok (.iconst 0, 1) := by decide +kernel
theorem d_M_init_325 : decode prog_8_method_1_code 325 = .ok (.invokevirtual 102, 3) := by decide +kernel
theorem d_M_init_328 : decode prog_8_method_1_code 328 = .ok (.return_, 1) := by decide +kernel
theorem d_M_takeOver_0 : decode prog_8_method_4_code 0 = .ok (.aload_n 0, 1) := by decide +kernel
theorem d_M_takeOver_1 : decode prog_8_method_4_code 1 = .ok (.getfield 63, 3) := by decide +kernel
theorem d_M_takeOver_4 : decode prog_8_method_4_code 4 = .ok (.iload_n 1, 1) := by decide +kernel
theorem d_M_takeOver_5 : decode prog_8_method_4_code 5 = .ok (.aload_n 0, 1) := by decide +kernel
theorem d_M_takeOver_6 : decode prog_8_method_4_code 6 = .ok (.getfield 21, 3) := by decide +kernel
theorem d_M_takeOver_9 : decode prog_8_method_4_code 9 = .ok (.aload_n 0, 1) := by decide +kernel
theorem d_M_takeOver_10 : decode prog_8_method_4_code 10 = .ok (.getfield 33, 3) := by decide +kernel
theorem d_M_takeOver_13 : decode prog_8_method_4_code 13 = .ok (.iload_n 1, 1) := by decide +kernel
theorem d_M_takeOver_14 : decode prog_8_method_4_code 14 = .ok (.iaload, 1) := by decide +kernel
theorem d_M_takeOver_15 : decode prog_8_method_4_code 15 = .ok (.iaload, 1) := by decide +kernel
theorem d_M_takeOver_16 : decode prog_8_method_4_code 16 = .ok (.iastore, 1) := by decide +kernel
theorem d_M_takeOver_17 : decode prog_8_method_4_code 17 = .ok (.iconst 0, 1) := by decide +kernel
theorem d_M_takeOver_18 : decode prog_8_method_4_code 18 = .ok (.istore_n 2, 1) := by decide +kernel
theorem d_M_takeOver_19 : decode prog_8_method_4_code 19 = .ok (.iload_n 2, 1) := by decide +kernel
theorem d_M_takeOver_20 : decode prog_8_method_4_code 20 = .ok (.iconst 4, 1) := by decide +kernel
theorem d_M_takeOver_21 : decode prog_8_method_4_code 21 = .ok (.if_icmp .ge 50, 3) := by decide +kernel
theorem d_M_takeOver_24 : decode prog_8_method_4_code 24 = .ok (.aload_n 0, 1) := by decide +kernel
theorem d_M_takeOver_25 : decode prog_8_method_4_code 25 = .ok (.getfield 54, 3) := by decide +kernel
theorem d_M_takeOver_28 : decode prog_8_method_4_code 28 = .ok (.iconst 4, 1) := by decide +kernel
theorem d_M_takeOver_29 : decode prog_8_method_4_code 29 = .ok (.iload_n 1, 1) := by decide +kernel
theorem d_M_takeOver_30 : decode prog_8_method_4_code 30 = .ok (.imul, 1) := by decide +kernel
theorem d_M_takeOver_31 : decode prog_8_method_4_code 31 = .ok (.iload_n 2, 1) := by decide +kernel
theorem d_M_takeOver_32 : decode prog_8_method_4_code 32 = .ok (.iadd, 1) := by decide +kernel
theorem d_M_takeOver_33 : decode prog_8_method_4_code 33 = .ok (.aload_n 0, 1) := by decide +kernel
theorem d_M_takeOver_34 : decode prog_8_method_4_code 34 = .ok (.getfield 13, 3) := by decide +kernel
theorem d_M_takeOver_37 : decode prog_8_method_4_code 37 = .ok (.iload_n 2, 1) := by decide +kernel
theorem d_M_takeOver_38 : decode prog_8_method_4_code 38 = .ok (.baload, 1) := by decide +kernel
theorem d_M_takeOver_39 : decode prog_8_method_4_code 39 = .ok (.bastore, 1) := by decide +kernel
theorem d_M_takeOver_40 : decode prog_8_method_4_code 40 = .ok (.aload_n 0, 1) := by decide +kernel
theorem d_M_takeOver_41 : decode prog_8_method_4_code 41 = .ok (.getfield 57, 3) := by decide +kernel
theorem d_M_takeOver_44 : decode prog_8_method_4_code 44 = .ok (.iconst 4, 1) := by decide +kernel
theorem d_M_takeOver_45 : decode prog_8_method_4_code 45 = .ok (.iload_n 1, 1) := by decide +kernel
theorem d_M_takeOver_46 : decode prog_8_method_4_code 46 = .ok (.imul, 1) := by decide +kernel
theorem d_M_takeOver_47 : decode prog_8_method_4_code 47 = .ok (.iload_n 2, 1) := by decide +kernel
theorem d_M_takeOver_48 : decode prog_8_method_4_code 48 = .ok (.iadd, 1) := by decide +kernel
theorem d_M_takeOver_49 : decode prog_8_method_4_code 49 = .ok (.iconst (-1), 1) := by decide +kernel
theorem d_M_takeOver_50 : decode prog_8_method_4_code 50 = .ok (.iastore, 1) := by decide +kernel
theorem d_M_takeOver_51 : decode prog_8_method_4_code 51 = .ok (.aload_n 0, 1) := by decide +kernel
theorem d_M_takeOver_52 : decode prog_8_method_4_code 52 = .ok (.getfield 60, 3) := by decide +kernel
theorem d_M_takeOver_55 : decode prog_8_method_4_code 55 = .ok (.iconst 4, 1) := by decide +kernel
theorem d_M_takeOver_56 : decode prog_8_method_4_code 56 = .ok (.iload_n 1, 1) := by decide +kernel
theorem d_M_takeOver_57 : decode prog_8_method_4_code 57 = .ok (.imul, 1) := by decide +kernel
theorem d_M_takeOver_58 : decode prog_8_method_4_code 58 = .ok (.iload_n 2, 1) := by decide +kernel
theorem d_M_takeOver_59 : decode prog_8_method_4_code 59 = .ok (.iadd, 1) := by decide +kernel
theorem d_M_takeOver_60 : decode prog_8_method_4_code 60 = .ok (.aload_n 0, 1) := by decide +kernel
theorem d_M_takeOver_61 : decode prog_8_method_4_code 61 = .ok (.getfield 110, 3) := by decide +kernel
theorem d_M_takeOver_64 : decode prog_8_method_4_code 64 = .ok (.iastore, 1) := by decide +kernel
theorem d_M_takeOver_65 : decode prog_8_method_4_code 65 = .ok (.iinc 2 1, 3) := by decide +kernel
theorem d_M_takeOver_68 : decode prog_8_method_4_code 68 = .ok (.goto (-49), 3) := by decide +kernel
theorem d_M_takeOver_71 : decode prog_8_method_4_code 71 = .ok (.return_, 1) := by decide +kernel
theorem d_M_produce_0 : decode prog_8_method_10_code 0 = .ok (.aload_n 0, 1) := by decide +kernel
theorem d_M_produce_1 : decode prog_8_method_10_code 1 = .ok (.iload_n 1, 1) := by decide +kernel
theorem d_M_produce_2 : decode prog_8_method_10_code 2 = .ok (.invokevirtual 123, 3) := by decide +kernel
theorem d_M_produce_5 : decode prog_8_method_10_code 5 = .ok (.ifCond .eq 13, 3) := by decide +kernel
theorem d_M_produce_8 : decode prog_8_method_10_code 8 = .ok (.aload_n 0, 1) := by decide +kernel
theorem d_M_produce_9 : decode prog_8_method_10_code 9 = .ok (.iload_n 1, 1) := by decide +kernel
theorem d_M_produce_10 : decode prog_8_method_10_code 10 = .ok (.iload_n 2, 1) := by decide +kernel
theorem d_M_produce_11 : decode prog_8_method_10_code 11 = .ok (.iconst 0, 1) := by decide +kernel
theorem d_M_produce_12 : decode prog_8_method_10_code 12 = .ok (.invokevirtual 126, 3) := by decide +kernel
theorem d_M_produce_15 : decode prog_8_method_10_code 15 = .ok (.goto 4, 3) := by decide +kernel
theorem d_M_produce_18 : decode prog_8_method_10_code 18 = .ok (.iconst (-1), 1) := by decide +kernel
theorem d_M_produce_19 : decode prog_8_method_10_code 19 = .ok (.ireturn, 1) := by decide +kernel
theorem d_M_leads_0 : decode prog_8_method_3_code 0 = .ok (.iload_n 1, 1) := by decide +kernel
theorem d_M_leads_1 : decode prog_8_method_3_code 1 = .ok (.invokestatic 106, 3) := by decide +kernel
theorem d_M_leads_4 : decode prog_8_method_3_code 4 = .ok (.ifCond .eq 26, 3) := by decide +kernel
theorem d_M_leads_7 : decode prog_8_method_3_code 7 = .ok (.aload_n 0, 1) := by decide +kernel
theorem d_M_leads_8 : decode prog_8_method_3_code 8 = .ok (.getfield 39, 3) := by decide +kernel
theorem d_M_leads_11 : decode prog_8_method_3_code 11 = .ok (.iload_n 1, 1) := by decide +kernel
theorem d_M_leads_12 : decode prog_8_method_3_code 12 = .ok (.baload, 1) := by decide +kernel
theorem d_M_leads_13 : decode prog_8_method_3_code 13 = .ok (.ifCond .eq 17, 3) := by decide +kernel
theorem d_M_leads_16 : decode prog_8_method_3_code 16 = .ok (.aload_n 0, 1) := by decide +kernel
theorem d_M_leads_17 : decode prog_8_method_3_code 17 = .ok (.getfield 45, 3) := by decide +kernel
theorem d_M_leads_20 : decode prog_8_method_3_code 20 = .ok (.iload_n 1, 1) := by decide +kernel
theorem d_M_leads_21 : decode prog_8_method_3_code 21 = .ok (.iaload, 1) := by decide +kernel
theorem d_M_leads_22 : decode prog_8_method_3_code 22 = .ok (.iload_n 1, 1) := by decide +kernel
theorem d_M_leads_23 : decode prog_8_method_3_code 23 = .ok (.if_icmp .ne 7, 3) := by decide +kernel
theorem d_M_leads_26 : decode prog_8_method_3_code 26 = .ok (.iconst 1, 1) := by decide +kernel
theorem d_M_leads_27 : decode prog_8_method_3_code 27 = .ok (.goto 4, 3) := by decide +kernel
theorem d_M_leads_30 : decode prog_8_method_3_code 30 = .ok (.iconst 0, 1) := by decide +kernel
theorem d_M_leads_31 : decode prog_8_method_3_code 31 = .ok (.ireturn, 1) := by decide +kernel
theorem d_M_isBroker_0 : decode prog_8_method_2_code 0 = .ok (.iload_n 0, 1) := by decide +kernel
theorem d_M_isBroker_1 : decode prog_8_method_2_code 1 = .ok (.ifCond .lt 12, 3) := by decide +kernel
theorem d_M_isBroker_4 : decode prog_8_method_2_code 4 = .ok (.iload_n 0, 1) := by decide +kernel
theorem d_M_isBroker_5 : decode prog_8_method_2_code 5 = .ok (.iconst 4, 1) := by decide +kernel
theorem d_M_isBroker_6 : decode prog_8_method_2_code 6 = .ok (.if_icmp .ge 7, 3) := by decide +kernel
theorem d_M_isBroker_9 : decode prog_8_method_2_code 9 = .ok (.iconst 1, 1) := by decide +kernel
theorem d_M_isBroker_10 : decode prog_8_method_2_code 10 = .ok (.goto 4, 3) := by decide +kernel
theorem d_M_isBroker_13 : decode prog_8_method_2_code 13 = .ok (.iconst 0, 1) := by decide +kernel
theorem d_M_isBroker_14 : decode prog_8_method_2_code 14 = .ok (.ireturn, 1) := by decide +kernel
theorem d_M_append_0 : decode prog_8_method_9_code 0 = .ok (.aload_n 0, 1) := by decide +kernel
theorem d_M_append_1 : decode prog_8_method_9_code 1 = .ok (.getfield 21, 3) := by decide +kernel
theorem d_M_append_4 : decode prog_8_method_9_code 4 = .ok (.aload_n 0, 1) := by decide +kernel
theorem d_M_append_5 : decode prog_8_method_9_code 5 = .ok (.getfield 33, 3) := by decide +kernel
theorem d_M_append_8 : decode prog_8_method_9_code 8 = .ok (.iload_n 1, 1) := by decide +kernel
theorem d_M_append_9 : decode prog_8_method_9_code 9 = .ok (.iaload, 1) := by decide +kernel
theorem d_M_append_10 : decode prog_8_method_9_code 10 = .ok (.iaload, 1) := by decide +kernel
theorem d_M_append_11 : decode prog_8_method_9_code 11 = .ok (.bipush 40, 2) := by decide +kernel
theorem d_M_append_13 : decode prog_8_method_9_code 13 = .ok (.if_icmp .lt 6, 3) := by decide +kernel
theorem d_M_append_16 : decode prog_8_method_9_code 16 = .ok (.bipush (-2), 2) := by decide +kernel
theorem d_M_append_18 : decode prog_8_method_9_code 18 = .ok (.ireturn, 1) := by decide +kernel
theorem d_M_append_19 : decode prog_8_method_9_code 19 = .ok (.aload_n 0, 1) := by decide +kernel
theorem d_M_append_20 : decode prog_8_method_9_code 20 = .ok (.iload_n 1, 1) := by decide +kernel
theorem d_M_append_21 : decode prog_8_method_9_code 21 = .ok (.invokevirtual 113, 3) := by decide +kernel
theorem d_M_append_24 : decode prog_8_method_9_code 24 = .ok (.aload_n 0, 1) := by decide +kernel
theorem d_M_append_25 : decode prog_8_method_9_code 25 = .ok (.getfield 99, 3) := by decide +kernel
theorem d_M_append_28 : decode prog_8_method_9_code 28 = .ok (.if_icmp .ge 6, 3) := by decide +kernel
theorem d_M_append_31 : decode prog_8_method_9_code 31 = .ok (.bipush (-3), 2) := by decide +kernel
theorem d_M_append_33 : decode prog_8_method_9_code 33 = .ok (.ireturn, 1) := by decide +kernel
theorem d_M_append_34 : decode prog_8_method_9_code 34 = .ok (.aload_n 0, 1) := by decide +kernel
theorem d_M_append_35 : decode prog_8_method_9_code 35 = .ok (.dup, 1) := by decide +kernel
theorem d_M_append_36 : decode prog_8_method_9_code 36 = .ok (.getfield 117, 3) := by decide +kernel
theorem d_M_append_39 : decode prog_8_method_9_code 39 = .ok (.iconst 1, 1) := by decide +kernel
theorem d_M_append_40 : decode prog_8_method_9_code 40 = .ok (.iadd, 1) := by decide +kernel
theorem d_M_append_41 : decode prog_8_method_9_code 41 = .ok (.putfield 117, 3) := by decide +kernel
theorem d_M_append_44 : decode prog_8_method_9_code 44 = .ok (.aload_n 0, 1) := by decide +kernel
theorem d_M_append_45 : decode prog_8_method_9_code 45 = .ok (.getfield 17, 3) := by decide +kernel
theorem d_M_append_48 : decode prog_8_method_9_code 48 = .ok (.aload_n 0, 1) := by decide +kernel
theorem d_M_append_49 : decode prog_8_method_9_code 49 = .ok (.getfield 117, 3) := by decide +kernel
theorem d_M_append_52 : decode prog_8_method_9_code 52 = .ok (.aload_n 0, 1) := by decide +kernel
theorem d_M_append_53 : decode prog_8_method_9_code 53 = .ok (.getfield 33, 3) := by decide +kernel
theorem d_M_append_56 : decode prog_8_method_9_code 56 = .ok (.iload_n 1, 1) := by decide +kernel
theorem d_M_append_57 : decode prog_8_method_9_code 57 = .ok (.iaload, 1) := by decide +kernel
theorem d_M_append_58 : decode prog_8_method_9_code 58 = .ok (.iastore, 1) := by decide +kernel
theorem d_M_append_59 : decode prog_8_method_9_code 59 = .ok (.aload_n 0, 1) := by decide +kernel
theorem d_M_append_60 : decode prog_8_method_9_code 60 = .ok (.getfield 21, 3) := by decide +kernel
theorem d_M_append_63 : decode prog_8_method_9_code 63 = .ok (.aload_n 0, 1) := by decide +kernel
theorem d_M_append_64 : decode prog_8_method_9_code 64 = .ok (.getfield 117, 3) := by decide +kernel
theorem d_M_append_67 : decode prog_8_method_9_code 67 = .ok (.aload_n 0, 1) := by decide +kernel
theorem d_M_append_68 : decode prog_8_method_9_code 68 = .ok (.getfield 21, 3) := by decide +kernel
theorem d_M_append_71 : decode prog_8_method_9_code 71 = .ok (.aload_n 0, 1) := by decide +kernel
theorem d_M_append_72 : decode prog_8_method_9_code 72 = .ok (.getfield 33, 3) := by decide +kernel
theorem d_M_append_75 : decode prog_8_method_9_code 75 = .ok (.iload_n 1, 1) := by decide +kernel
theorem d_M_append_76 : decode prog_8_method_9_code 76 = .ok (.iaload, 1) := by decide +kernel
theorem d_M_append_77 : decode prog_8_method_9_code 77 = .ok (.iaload, 1) := by decide +kernel
theorem d_M_append_78 : decode prog_8_method_9_code 78 = .ok (.iconst 1, 1) := by decide +kernel
theorem d_M_append_79 : decode prog_8_method_9_code 79 = .ok (.iadd, 1) := by decide +kernel
theorem d_M_append_80 : decode prog_8_method_9_code 80 = .ok (.iastore, 1) := by decide +kernel
theorem d_M_append_81 : decode prog_8_method_9_code 81 = .ok (.aload_n 0, 1) := by decide +kernel
theorem d_M_append_82 : decode prog_8_method_9_code 82 = .ok (.getfield 24, 3) := by decide +kernel
theorem d_M_append_85 : decode prog_8_method_9_code 85 = .ok (.aload_n 0, 1) := by decide +kernel
theorem d_M_append_86 : decode prog_8_method_9_code 86 = .ok (.getfield 117, 3) := by decide +kernel
theorem d_M_append_89 : decode prog_8_method_9_code 89 = .ok (.aload_n 0, 1) := by decide +kernel
theorem d_M_append_90 : decode prog_8_method_9_code 90 = .ok (.getfield 42, 3) := by decide +kernel
theorem d_M_append_93 : decode prog_8_method_9_code 93 = .ok (.iload_n 1, 1) := by decide +kernel
theorem d_M_append_94 : decode prog_8_method_9_code 94 = .ok (.iaload, 1) := by decide +kernel
theorem d_M_append_95 : decode prog_8_method_9_code 95 = .ok (.iastore, 1) := by decide +kernel
theorem d_M_append_96 : decode prog_8_method_9_code 96 = .ok (.aload_n 0, 1) := by decide +kernel
theorem d_M_append_97 : decode prog_8_method_9_code 97 = .ok (.getfield 27, 3) := by decide +kernel
theorem d_M_append_100 : decode prog_8_method_9_code 100 = .ok (.aload_n 0, 1) := by decide +kernel
theorem d_M_append_101 : decode prog_8_method_9_code 101 = .ok (.getfield 117, 3) := by decide +kernel
theorem d_M_append_104 : decode prog_8_method_9_code 104 = .ok (.iload_n 2, 1) := by decide +kernel
theorem d_M_append_105 : decode prog_8_method_9_code 105 = .ok (.iastore, 1) := by decide +kernel
theorem d_M_append_106 : decode prog_8_method_9_code 106 = .ok (.aload_n 0, 1) := by decide +kernel
theorem d_M_append_107 : decode prog_8_method_9_code 107 = .ok (.getfield 30, 3) := by decide +kernel
theorem d_M_append_110 : decode prog_8_method_9_code 110 = .ok (.aload_n 0, 1) := by decide +kernel
theorem d_M_append_111 : decode prog_8_method_9_code 111 = .ok (.getfield 117, 3) := by decide +kernel
theorem d_M_append_114 : decode prog_8_method_9_code 114 = .ok (.iload_n 3, 1) := by decide +kernel
theorem d_M_append_115 : decode prog_8_method_9_code 115 = .ok (.bastore, 1) := by decide +kernel
theorem d_M_append_116 : decode prog_8_method_9_code 116 = .ok (.aload_n 0, 1) := by decide +kernel
theorem d_M_append_117 : decode prog_8_method_9_code 117 = .ok (.getfield 33, 3) := by decide +kernel
theorem d_M_append_120 : decode prog_8_method_9_code 120 = .ok (.iload_n 1, 1) := by decide +kernel
theorem d_M_append_121 : decode prog_8_method_9_code 121 = .ok (.aload_n 0, 1) := by decide +kernel
theorem d_M_append_122 : decode prog_8_method_9_code 122 = .ok (.getfield 117, 3) := by decide +kernel
theorem d_M_append_125 : decode prog_8_method_9_code 125 = .ok (.iastore, 1) := by decide +kernel
theorem d_M_append_126 : decode prog_8_method_9_code 126 = .ok (.aload_n 0, 1) := by decide +kernel
theorem d_M_append_127 : decode prog_8_method_9_code 127 = .ok (.iload_n 1, 1) := by decide +kernel
theorem d_M_append_128 : decode prog_8_method_9_code 128 = .ok (.invokevirtual 120, 3) := by decide +kernel
theorem d_M_append_131 : decode prog_8_method_9_code 131 = .ok (.aload_n 0, 1) := by decide +kernel
theorem d_M_append_132 : decode prog_8_method_9_code 132 = .ok (.getfield 21, 3) := by decide +kernel
theorem d_M_append_135 : decode prog_8_method_9_code 135 = .ok (.aload_n 0, 1) := by decide +kernel
theorem d_M_append_136 : decode prog_8_method_9_code 136 = .ok (.getfield 117, 3) := by decide +kernel
theorem d_M_append_139 : decode prog_8_method_9_code 139 = .ok (.iaload, 1) := by decide +kernel
theorem d_M_append_140 : decode prog_8_method_9_code 140 = .ok (.iconst 1, 1) := by decide +kernel
theorem d_M_append_141 : decode prog_8_method_9_code 141 = .ok (.isub, 1) := by decide +kernel
theorem d_M_append_142 : decode prog_8_method_9_code 142 = .ok (.ireturn, 1) := by decide +kernel
theorem d_M_syncSize_0 : decode prog_8_method_5_code 0 = .ok (.iconst 0, 1) := by decide +kernel
theorem d_M_syncSize_1 : decode prog_8_method_5_code 1 = .ok (.istore_n 2, 1) := by decide +kernel
theorem d_M_syncSize_2 : decode prog_8_method_5_code 2 = .ok (.iconst 0, 1) := by decide +kernel
theorem d_M_syncSize_3 : decode prog_8_method_5_code 3 = .ok (.istore_n 3, 1) := by decide +kernel
theorem d_M_syncSize_4 : decode prog_8_method_5_code 4 = .ok (.iload_n 3, 1) := by decide +kernel
theorem d_M_syncSize_5 : decode prog_8_method_5_code 5 = .ok (.iconst 4, 1) := by decide +kernel
theorem d_M_syncSize_6 : decode prog_8_method_5_code 6 = .ok (.if_icmp .ge 30, 3) := by decide +kernel
theorem d_M_syncSize_9 : decode prog_8_method_5_code 9 = .ok (.iload_n 2, 1) := by decide +kernel
theorem d_M_syncSize_10 : decode prog_8_method_5_code 10 = .ok (.aload_n 0, 1) := by decide +kernel
theorem d_M_syncSize_11 : decode prog_8_method_5_code 11 = .ok (.getfield 54, 3) := by decide +kernel
theorem d_M_syncSize_14 : decode prog_8_method_5_code 14 = .ok (.iconst 4, 1) := by decide +kernel
theorem d_M_syncSize_15 : decode prog_8_method_5_code 15 = .ok (.iload_n 1, 1) := by decide +kernel
theorem d_M_syncSize_16 : decode prog_8_method_5_code 16 = .ok (.imul, 1) := by decide +kernel
theorem d_M_syncSize_17 : decode prog_8_method_5_code 17 = .ok (.iload_n 3, 1) := by decide +kernel
theorem d_M_syncSize_18 : decode prog_8_method_5_code 18 = .ok (.iadd, 1) := by decide +kernel
theorem d_M_syncSize_19 : decode prog_8_method_5_code 19 = .ok (.baload, 1) := by decide +kernel
theorem d_M_syncSize_20 : decode prog_8_method_5_code 20 = .ok (.ifCond .eq 7, 3) := by decide +kernel
theorem d_M_syncSize_23 : decode prog_8_method_5_code 23 = .ok (.iconst 1, 1) := by decide +kernel
theorem d_M_syncSize_24 : decode prog_8_method_5_code 24 = .ok (.goto 4, 3) := by decide +kernel
theorem d_M_syncSize_27 : decode prog_8_method_5_code 27 = .ok (.iconst 0, 1) := by decide +kernel
theorem d_M_syncSize_28 : decode prog_8_method_5_code 28 = .ok (.iadd, 1) := by decide +kernel
theorem d_M_syncSize_29 : decode prog_8_method_5_code 29 = .ok (.istore_n 2, 1) := by decide +kernel
theorem d_M_syncSize_30 : decode prog_8_method_5_code 30 = .ok (.iinc 3 1, 3) := by decide +kernel
theorem d_M_syncSize_33 : decode prog_8_method_5_code 33 = .ok (.goto (-29), 3) := by decide +kernel
theorem d_M_syncSize_36 : decode prog_8_method_5_code 36 = .ok (.iload_n 2, 1) := by decide +kernel
theorem d_M_syncSize_37 : decode prog_8_method_5_code 37 = .ok (.ireturn, 1) := by decide +kernel
theorem d_M_rise_0 : decode prog_8_method_6_code 0 = .ok (.aload_n 0, 1) := by decide +kernel
theorem d_M_rise_1 : decode prog_8_method_6_code 1 = .ok (.getfield 21, 3) := by decide +kernel
theorem d_M_rise_4 : decode prog_8_method_6_code 4 = .ok (.aload_n 0, 1) := by decide +kernel
theorem d_M_rise_5 : decode prog_8_method_6_code 5 = .ok (.getfield 33, 3) := by decide +kernel
theorem d_M_rise_8 : decode prog_8_method_6_code 8 = .ok (.iload_n 1, 1) := by decide +kernel
theorem d_M_rise_9 : decode prog_8_method_6_code 9 = .ok (.iaload, 1) := by decide +kernel
theorem d_M_rise_10 : decode prog_8_method_6_code 10 = .ok (.iaload, 1) := by decide +kernel
theorem d_M_rise_11 : decode prog_8_method_6_code 11 = .ok (.istore_n 2, 1) := by decide +kernel
theorem d_M_rise_12 : decode prog_8_method_6_code 12 = .ok (.iconst 0, 1) := by decide +kernel
theorem d_M_rise_13 : decode prog_8_method_6_code 13 = .ok (.istore_n 3, 1) := by decide +kernel
theorem d_M_rise_14 : decode prog_8_method_6_code 14 = .ok (.iload_n 3, 1) := by decide +kernel
theorem d_M_rise_15 : decode prog_8_method_6_code 15 = .ok (.iconst 4, 1) := by decide +kernel
theorem d_M_rise_16 : decode prog_8_method_6_code 16 = .ok (.if_icmp .ge 68, 3) := by decide +kernel
theorem d_M_rise_19 : decode prog_8_method_6_code 19 = .ok (.iload_n 3, 1) := by decide +kernel
theorem d_M_rise_20 : decode prog_8_method_6_code 20 = .ok (.iload_n 1, 1) := by decide +kernel
theorem d_M_rise_21 : decode prog_8_method_6_code 21 = .ok (.if_icmp .eq 34, 3) := by decide +kernel
theorem d_M_rise_24 : decode prog_8_method_6_code 24 = .ok (.aload_n 0, 1) := by decide +kernel
theorem d_M_rise_25 : decode prog_8_method_6_code 25 = .ok (.getfield 54, 3) := by decide +kernel
theorem d_M_rise_28 : decode prog_8_method_6_code 28 = .ok (.iconst 4, 1) := by decide +kernel
theorem d_M_rise_29 : decode prog_8_method_6_code 29 = .ok (.iload_n 1, 1) := by decide +kernel
theorem d_M_rise_30 : decode prog_8_method_6_code 30 = .ok (.imul, 1) := by decide +kernel
theorem d_M_rise_31 : decode prog_8_method_6_code 31 = .ok (.iload_n 3, 1) := by decide +kernel
theorem d_M_rise_32 : decode prog_8_method_6_code 32 = .ok (.iadd, 1) := by decide +kernel
theorem d_M_rise_33 : decode prog_8_method_6_code 33 = .ok (.baload, 1) := by decide +kernel
theorem d_M_rise_34 : decode prog_8_method_6_code 34 = .ok (.ifCond .eq 21, 3) := by decide +kernel
theorem d_M_rise_37 : decode prog_8_method_6_code 37 = .ok (.aload_n 0, 1) := by decide +kernel
theorem d_M_rise_38 : decode prog_8_method_6_code 38 = .ok (.getfield 57, 3) := by decide +kernel
theorem d_M_rise_41 : decode prog_8_method_6_code 41 = .ok (.iconst 4, 1) := by decide +kernel
theorem d_M_rise_42 : decode prog_8_method_6_code 42 = .ok (.iload_n 1, 1) := by decide +kernel
theorem d_M_rise_43 : decode prog_8_method_6_code 43 = .ok (.imul, 1) := by decide +kernel
theorem d_M_rise_44 : decode prog_8_method_6_code 44 = .ok (.iload_n 3, 1) := by decide +kernel
theorem d_M_rise_45 : decode prog_8_method_6_code 45 = .ok (.iadd, 1) := by decide +kernel
theorem d_M_rise_46 : decode prog_8_method_6_code 46 = .ok (.iaload, 1) := by decide +kernel
theorem d_M_rise_47 : decode prog_8_method_6_code 47 = .ok (.iload_n 2, 1) := by decide +kernel
theorem d_M_rise_48 : decode prog_8_method_6_code 48 = .ok (.if_icmp .ge 7, 3) := by decide +kernel
theorem d_M_rise_51 : decode prog_8_method_6_code 51 = .ok (.iconst 1, 1) := by decide +kernel
theorem d_M_rise_52 : decode prog_8_method_6_code 52 = .ok (.goto 4, 3) := by decide +kernel
theorem d_M_rise_55 : decode prog_8_method_6_code 55 = .ok (.iconst 0, 1) := by decide +kernel
theorem d_M_rise_56 : decode prog_8_method_6_code 56 = .ok (.istore 4, 2) := by decide +kernel
theorem d_M_rise_58 : decode prog_8_method_6_code 58 = .ok (.iload 4, 2) := by decide +kernel
theorem d_M_rise_60 : decode prog_8_method_6_code 60 = .ok (.ifCond .eq 16, 3) := by decide +kernel
theorem d_M_rise_63 : decode prog_8_method_6_code 63 = .ok (.aload_n 0, 1) := by decide +kernel
theorem d_M_rise_64 : decode prog_8_method_6_code 64 = .ok (.getfield 57, 3) := by decide +kernel
theorem d_M_rise_67 : decode prog_8_method_6_code 67 = .ok (.iconst 4, 1) := by decide +kernel
theorem d_M_rise_68 : decode prog_8_method_6_code 68 = .ok (.iload_n 1, 1) := by decide +kernel
theorem d_M_rise_69 : decode prog_8_method_6_code 69 = .ok (.imul, 1) := by decide +kernel
theorem d_M_rise_70 : decode prog_8_method_6_code 70 = .ok (.iload_n 3, 1) := by decide +kernel
theorem d_M_rise_71 : decode prog_8_method_6_code 71 = .ok (.iadd, 1) := by decide +kernel
theorem d_M_rise_72 : decode prog_8_method_6_code 72 = .ok (.iaload, 1) := by decide +kernel
theorem d_M_rise_73 : decode prog_8_method_6_code 73 = .ok (.goto 4, 3) := by decide +kernel
theorem d_M_rise_76 : decode prog_8_method_6_code 76 = .ok (.iload_n 2, 1) := by decide +kernel
theorem d_M_rise_77 : decode prog_8_method_6_code 77 = .ok (.istore_n 2, 1) := by decide +kernel
theorem d_M_rise_78 : decode prog_8_method_6_code 78 = .ok (.iinc 3 1, 3) := by decide +kernel
theorem d_M_rise_81 : decode prog_8_method_6_code 81 = .ok (.goto (-67), 3) := by decide +kernel
theorem d_M_rise_84 : decode prog_8_method_6_code 84 = .ok (.aload_n 0, 1) := by decide +kernel
theorem d_M_rise_85 : decode prog_8_method_6_code 85 = .ok (.getfield 36, 3) := by decide +kernel
theorem d_M_rise_88 : decode prog_8_method_6_code 88 = .ok (.iload_n 1, 1) := by decide +kernel
theorem d_M_rise_89 : decode prog_8_method_6_code 89 = .ok (.iload_n 2, 1) := by decide +kernel
theorem d_M_rise_90 : decode prog_8_method_6_code 90 = .ok (.aload_n 0, 1) := by decide +kernel
theorem d_M_rise_91 : decode prog_8_method_6_code 91 = .ok (.getfield 36, 3) := by decide +kernel
theorem d_M_rise_94 : decode prog_8_method_6_code 94 = .ok (.iload_n 1, 1) := by decide +kernel
theorem d_M_rise_95 : decode prog_8_method_6_code 95 = .ok (.iaload, 1) := by decide +kernel
theorem d_M_rise_96 : decode prog_8_method_6_code 96 = .ok (.if_icmp .le 7, 3) := by decide +kernel
theorem d_M_rise_99 : decode prog_8_method_6_code 99 = .ok (.iload_n 2, 1) := by decide +kernel
theorem d_M_rise_100 : decode prog_8_method_6_code 100 = .ok (.goto 9, 3) := by decide +kernel
theorem d_M_rise_103 : decode prog_8_method_6_code 103 = .ok (.aload_n 0, 1) := by decide +kernel
theorem d_M_rise_104 : decode prog_8_method_6_code 104 = .ok (.getfield 36, 3) := by decide +kernel
theorem d_M_rise_107 : decode prog_8_method_6_code 107 = .ok (.iload_n 1, 1) := by decide +kernel
theorem d_M_rise_108 : decode prog_8_method_6_code 108 = .ok (.iaload, 1) := by decide +kernel
theorem d_M_rise_109 : decode prog_8_method_6_code 109 = .ok (.iastore, 1) := by decide +kernel
theorem d_M_rise_110 : decode prog_8_method_6_code 110 = .ok (.return_, 1) := by decide +kernel
theorem d_M_commit_0 : decode prog_8_method_11_code 0 = .ok (.aload_n 0, 1) := by decide +kernel
theorem d_M_commit_1 : decode prog_8_method_11_code 1 = .ok (.iload_n 1, 1) := by decide +kernel
theorem d_M_commit_2 : decode prog_8_method_11_code 2 = .ok (.invokevirtual 123, 3) := by decide +kernel
theorem d_M_commit_5 : decode prog_8_method_11_code 5 = .ok (.ifCond .ne 5, 3) := by decide +kernel
theorem d_M_commit_8 : decode prog_8_method_11_code 8 = .ok (.iconst (-1), 1) := by decide +kernel
theorem d_M_commit_9 : decode prog_8_method_11_code 9 = .ok (.ireturn, 1) := by decide +kernel
theorem d_M_commit_10 : decode prog_8_method_11_code 10 = .ok (.iload_n 2, 1) := by decide +kernel
theorem d_M_commit_11 : decode prog_8_method_11_code 11 = .ok (.ifCond .lt 13, 3) := by decide +kernel
theorem d_M_commit_14 : decode prog_8_method_11_code 14 = .ok (.iload_n 2, 1) := by decide +kernel
theorem d_M_commit_15 : decode prog_8_method_11_code 15 = .ok (.aload_n 0, 1) := by decide +kernel
theorem d_M_commit_16 : decode prog_8_method_11_code 16 = .ok (.getfield 36, 3) := by decide +kernel
theorem d_M_commit_19 : decode prog_8_method_11_code 19 = .ok (.iload_n 1, 1) := by decide +kernel
theorem d_M_commit_20 : decode prog_8_method_11_code 20 = .ok (.iaload, 1) := by decide +kernel
theorem d_M_commit_21 : decode prog_8_method_11_code 21 = .ok (.if_icmp .le 7, 3) := by decide +kernel
theorem d_M_commit_24 : decode prog_8_method_11_code 24 = .ok (.iconst (-1), 1) := by decide +kernel
theorem d_M_commit_25 : decode prog_8_method_11_code 25 = .ok (.goto 10, 3) := by decide +kernel
theorem d_M_commit_28 : decode prog_8_method_11_code 28 = .ok (.aload_n 0, 1) := by decide +kernel
theorem d_M_commit_29 : decode prog_8_method_11_code 29 = .ok (.iload_n 1, 1) := by decide +kernel
theorem d_M_commit_30 : decode prog_8_method_11_code 30 = .ok (.iload_n 2, 1) := by decide +kernel
theorem d_M_commit_31 : decode prog_8_method_11_code 31 = .ok (.iconst 1, 1) := by decide +kernel
theorem d_M_commit_32 : decode prog_8_method_11_code 32 = .ok (.invokevirtual 126, 3) := by decide +kernel
theorem d_M_commit_35 : decode prog_8_method_11_code 35 = .ok (.ireturn, 1) := by decide +kernel
theorem d_M_readable_0 : decode prog_8_method_13_code 0 = .ok (.aload_n 0, 1) := by decide +kernel
theorem d_M_readable_1 : decode prog_8_method_13_code 1 = .ok (.iload_n 1, 1) := by decide +kernel
theorem d_M_readable_2 : decode prog_8_method_13_code 2 = .ok (.iload_n 2, 1) := by decide +kernel
theorem d_M_readable_3 : decode prog_8_method_13_code 3 = .ok (.invokevirtual 134, 3) := by decide +kernel
theorem d_M_readable_6 : decode prog_8_method_13_code 6 = .ok (.istore_n 3, 1) := by decide +kernel
theorem d_M_readable_7 : decode prog_8_method_13_code 7 = .ok (.aload_n 0, 1) := by decide +kernel
theorem d_M_readable_8 : decode prog_8_method_13_code 8 = .ok (.iload_n 1, 1) := by decide +kernel
theorem d_M_readable_9 : decode prog_8_method_13_code 9 = .ok (.invokevirtual 123, 3) := by decide +kernel
theorem d_M_readable_12 : decode prog_8_method_13_code 12 = .ok (.ifCond .eq 17, 3) := by decide +kernel
theorem d_M_readable_15 : decode prog_8_method_13_code 15 = .ok (.iload_n 3, 1) := by decide +kernel
theorem d_M_readable_16 : decode prog_8_method_13_code 16 = .ok (.ifCond .eq 13, 3) := by decide +kernel
theorem d_M_readable_19 : decode prog_8_method_13_code 19 = .ok (.iload_n 2, 1) := by decide +kernel
theorem d_M_readable_20 : decode prog_8_method_13_code 20 = .ok (.aload_n 0, 1) := by decide +kernel
theorem d_M_readable_21 : decode prog_8_method_13_code 21 = .ok (.getfield 36, 3) := by decide +kernel
theorem d_M_readable_24 : decode prog_8_method_13_code 24 = .ok (.iload_n 1, 1) := by decide +kernel
theorem d_M_readable_25 : decode prog_8_method_13_code 25 = .ok (.iaload, 1) := by decide +kernel
theorem d_M_readable_26 : decode prog_8_method_13_code 26 = .ok (.if_icmp .lt 5, 3) := by decide +kernel
theorem d_M_readable_29 : decode prog_8_method_13_code 29 = .ok (.iconst 0, 1) := by decide +kernel
theorem d_M_readable_30 : decode prog_8_method_13_code 30 = .ok (.ireturn, 1) := by decide +kernel
theorem d_M_readable_31 : decode prog_8_method_13_code 31 = .ok (.aload_n 0, 1) := by decide +kernel
theorem d_M_readable_32 : decode prog_8_method_13_code 32 = .ok (.getfield 30, 3) := by decide +kernel
theorem d_M_readable_35 : decode prog_8_method_13_code 35 = .ok (.iload_n 3, 1) := by decide +kernel
theorem d_M_readable_36 : decode prog_8_method_13_code 36 = .ok (.baload, 1) := by decide +kernel
theorem d_M_readable_37 : decode prog_8_method_13_code 37 = .ok (.ifCond .eq 7, 3) := by decide +kernel
theorem d_M_readable_40 : decode prog_8_method_13_code 40 = .ok (.iconst 2, 1) := by decide +kernel
theorem d_M_readable_41 : decode prog_8_method_13_code 41 = .ok (.goto 4, 3) := by decide +kernel
theorem d_M_readable_44 : decode prog_8_method_13_code 44 = .ok (.iconst 1, 1) := by decide +kernel
theorem d_M_readable_45 : decode prog_8_method_13_code 45 = .ok (.ireturn, 1) := by decide +kernel
theorem d_M_recordAt_0 : decode prog_8_method_12_code 0 = .ok (.iload_n 1, 1) := by decide +kernel
theorem d_M_recordAt_1 : decode prog_8_method_12_code 1 = .ok (.invokestatic 106, 3) := by decide +kernel
theorem d_M_recordAt_4 : decode prog_8_method_12_code 4 = .ok (.ifCond .eq 7, 3) := by decide +kernel
theorem d_M_recordAt_7 : decode prog_8_method_12_code 7 = .ok (.iload_n 2, 1) := by decide +kernel
theorem d_M_recordAt_8 : decode prog_8_method_12_code 8 = .ok (.ifCond .ge 5, 3) := by decide +kernel
theorem d_M_recordAt_11 : decode prog_8_method_12_code 11 = .ok (.iconst 0, 1) := by decide +kernel
theorem d_M_recordAt_12 : decode prog_8_method_12_code 12 = .ok (.ireturn, 1) := by decide +kernel
theorem d_M_recordAt_13 : decode prog_8_method_12_code 13 = .ok (.iload_n 2, 1) := by decide +kernel
theorem d_M_recordAt_14 : decode prog_8_method_12_code 14 = .ok (.aload_n 0, 1) := by decide +kernel
theorem d_M_recordAt_15 : decode prog_8_method_12_code 15 = .ok (.getfield 21, 3) := by decide +kernel
theorem d_M_recordAt_18 : decode prog_8_method_12_code 18 = .ok (.aload_n 0, 1) := by decide +kernel
theorem d_M_recordAt_19 : decode prog_8_method_12_code 19 = .ok (.getfield 33, 3) := by decide +kernel
theorem d_M_recordAt_22 : decode prog_8_method_12_code 22 = .ok (.iload_n 1, 1) := by decide +kernel
theorem d_M_recordAt_23 : decode prog_8_method_12_code 23 = .ok (.iaload, 1) := by decide +kernel
theorem d_M_recordAt_24 : decode prog_8_method_12_code 24 = .ok (.iaload, 1) := by decide +kernel
theorem d_M_recordAt_25 : decode prog_8_method_12_code 25 = .ok (.if_icmp .ge 14, 3) := by decide +kernel
theorem d_M_recordAt_28 : decode prog_8_method_12_code 28 = .ok (.aload_n 0, 1) := by decide +kernel
theorem d_M_recordAt_29 : decode prog_8_method_12_code 29 = .ok (.iload_n 1, 1) := by decide +kernel
theorem d_M_recordAt_30 : decode prog_8_method_12_code 30 = .ok (.iload_n 2, 1) := by decide +kernel
theorem d_M_recordAt_31 : decode prog_8_method_12_code 31 = .ok (.iconst 1, 1) := by decide +kernel
theorem d_M_recordAt_32 : decode prog_8_method_12_code 32 = .ok (.iadd, 1) := by decide +kernel
theorem d_M_recordAt_33 : decode prog_8_method_12_code 33 = .ok (.invokevirtual 130, 3) := by decide +kernel
theorem d_M_recordAt_36 : decode prog_8_method_12_code 36 = .ok (.goto 4, 3) := by decide +kernel
theorem d_M_recordAt_39 : decode prog_8_method_12_code 39 = .ok (.iconst 0, 1) := by decide +kernel
theorem d_M_recordAt_40 : decode prog_8_method_12_code 40 = .ok (.ireturn, 1) := by decide +kernel
theorem d_M_upTo_0 : decode prog_8_method_7_code 0 = .ok (.aload_n 0, 1) := by decide +kernel
theorem d_M_upTo_1 : decode prog_8_method_7_code 1 = .ok (.getfield 33, 3) := by decide +kernel
theorem d_M_upTo_4 : decode prog_8_method_7_code 4 = .ok (.iload_n 1, 1) := by decide +kernel
theorem d_M_upTo_5 : decode prog_8_method_7_code 5 = .ok (.iaload, 1) := by decide +kernel
theorem d_M_upTo_6 : decode prog_8_method_7_code 6 = .ok (.istore_n 3, 1) := by decide +kernel
theorem d_M_upTo_7 : decode prog_8_method_7_code 7 = .ok (.aload_n 0, 1) := by decide +kernel
theorem d_M_upTo_8 : decode prog_8_method_7_code 8 = .ok (.getfield 21, 3) := by decide +kernel
theorem d_M_upTo_11 : decode prog_8_method_7_code 11 = .ok (.iload_n 3, 1) := by decide +kernel
theorem d_M_upTo_12 : decode prog_8_method_7_code 12 = .ok (.iaload, 1) := by decide +kernel
theorem d_M_upTo_13 : decode prog_8_method_7_code 13 = .ok (.iload_n 2, 1) := by decide +kernel
theorem d_M_upTo_14 : decode prog_8_method_7_code 14 = .ok (.if_icmp .le 13, 3) := by decide +kernel
theorem d_M_upTo_17 : decode prog_8_method_7_code 17 = .ok (.aload_n 0, 1) := by decide +kernel
theorem d_M_upTo_18 : decode prog_8_method_7_code 18 = .ok (.getfield 17, 3) := by decide +kernel
theorem d_M_upTo_21 : decode prog_8_method_7_code 21 = .ok (.iload_n 3, 1) := by decide +kernel
theorem d_M_upTo_22 : decode prog_8_method_7_code 22 = .ok (.iaload, 1) := by decide +kernel
theorem d_M_upTo_23 : decode prog_8_method_7_code 23 = .ok (.istore_n 3, 1) := by decide +kernel
theorem d_M_upTo_24 : decode prog_8_method_7_code 24 = .ok (.goto (-17), 3) := by decide +kernel
theorem d_M_upTo_27 : decode prog_8_method_7_code 27 = .ok (.iload_n 3, 1) := by decide +kernel
theorem d_M_upTo_28 : decode prog_8_method_7_code 28 = .ok (.ireturn, 1) := by decide +kernel
theorem d_M_committed_0 : decode prog_8_method_14_code 0 = .ok (.aload_n 0, 1) := by decide +kernel
theorem d_M_committed_1 : decode prog_8_method_14_code 1 = .ok (.iload_n 1, 1) := by decide +kernel
theorem d_M_committed_2 : decode prog_8_method_14_code 2 = .ok (.invokevirtual 123, 3) := by decide +kernel
theorem d_M_committed_5 : decode prog_8_method_14_code 5 = .ok (.ifCond .ne 5, 3) := by decide +kernel
theorem d_M_committed_8 : decode prog_8_method_14_code 8 = .ok (.iconst (-1), 1) := by decide +kernel
theorem d_M_committed_9 : decode prog_8_method_14_code 9 = .ok (.ireturn, 1) := by decide +kernel
theorem d_M_committed_10 : decode prog_8_method_14_code 10 = .ok (.aload_n 0, 1) := by decide +kernel
theorem d_M_committed_11 : decode prog_8_method_14_code 11 = .ok (.iload_n 1, 1) := by decide +kernel
theorem d_M_committed_12 : decode prog_8_method_14_code 12 = .ok (.aload_n 0, 1) := by decide +kernel
theorem d_M_committed_13 : decode prog_8_method_14_code 13 = .ok (.getfield 36, 3) := by decide +kernel
theorem d_M_committed_16 : decode prog_8_method_14_code 16 = .ok (.iload_n 1, 1) := by decide +kernel
theorem d_M_committed_17 : decode prog_8_method_14_code 17 = .ok (.iaload, 1) := by decide +kernel
theorem d_M_committed_18 : decode prog_8_method_14_code 18 = .ok (.invokevirtual 130, 3) := by decide +kernel
theorem d_M_committed_21 : decode prog_8_method_14_code 21 = .ok (.istore_n 2, 1) := by decide +kernel
theorem d_M_committed_22 : decode prog_8_method_14_code 22 = .ok (.iload_n 2, 1) := by decide +kernel
theorem d_M_committed_23 : decode prog_8_method_14_code 23 = .ok (.ifCond .le 22, 3) := by decide +kernel
theorem d_M_committed_26 : decode prog_8_method_14_code 26 = .ok (.aload_n 0, 1) := by decide +kernel
theorem d_M_committed_27 : decode prog_8_method_14_code 27 = .ok (.getfield 30, 3) := by decide +kernel
theorem d_M_committed_30 : decode prog_8_method_14_code 30 = .ok (.iload_n 2, 1) := by decide +kernel
theorem d_M_committed_31 : decode prog_8_method_14_code 31 = .ok (.baload, 1) := by decide +kernel
theorem d_M_committed_32 : decode prog_8_method_14_code 32 = .ok (.ifCond .ne 13, 3) := by decide +kernel
theorem d_M_committed_35 : decode prog_8_method_14_code 35 = .ok (.aload_n 0, 1) := by decide +kernel
theorem d_M_committed_36 : decode prog_8_method_14_code 36 = .ok (.getfield 17, 3) := by decide +kernel
theorem d_M_committed_39 : decode prog_8_method_14_code 39 = .ok (.iload_n 2, 1) := by decide +kernel
theorem d_M_committed_40 : decode prog_8_method_14_code 40 = .ok (.iaload, 1) := by decide +kernel
theorem d_M_committed_41 : decode prog_8_method_14_code 41 = .ok (.istore_n 2, 1) := by decide +kernel
theorem d_M_committed_42 : decode prog_8_method_14_code 42 = .ok (.goto (-20), 3) := by decide +kernel
theorem d_M_committed_45 : decode prog_8_method_14_code 45 = .ok (.iload_n 2, 1) := by decide +kernel
theorem d_M_committed_46 : decode prog_8_method_14_code 46 = .ok (.ifCond .le 12, 3) := by decide +kernel
theorem d_M_committed_49 : decode prog_8_method_14_code 49 = .ok (.aload_n 0, 1) := by decide +kernel
theorem d_M_committed_50 : decode prog_8_method_14_code 50 = .ok (.getfield 27, 3) := by decide +kernel
theorem d_M_committed_53 : decode prog_8_method_14_code 53 = .ok (.iload_n 2, 1) := by decide +kernel
theorem d_M_committed_54 : decode prog_8_method_14_code 54 = .ok (.iaload, 1) := by decide +kernel
theorem d_M_committed_55 : decode prog_8_method_14_code 55 = .ok (.goto 4, 3) := by decide +kernel
theorem d_M_committed_58 : decode prog_8_method_14_code 58 = .ok (.iconst (-1), 1) := by decide +kernel
theorem d_M_committed_59 : decode prog_8_method_14_code 59 = .ok (.ireturn, 1) := by decide +kernel
theorem d_M_epochAt_0 : decode prog_8_method_15_code 0 = .ok (.aload_n 0, 1) := by decide +kernel
theorem d_M_epochAt_1 : decode prog_8_method_15_code 1 = .ok (.iload_n 1, 1) := by decide +kernel
theorem d_M_epochAt_2 : decode prog_8_method_15_code 2 = .ok (.iload_n 2, 1) := by decide +kernel
theorem d_M_epochAt_3 : decode prog_8_method_15_code 3 = .ok (.invokevirtual 134, 3) := by decide +kernel
theorem d_M_epochAt_6 : decode prog_8_method_15_code 6 = .ok (.istore_n 3, 1) := by decide +kernel
theorem d_M_epochAt_7 : decode prog_8_method_15_code 7 = .ok (.aload_n 0, 1) := by decide +kernel
theorem d_M_epochAt_8 : decode prog_8_method_15_code 8 = .ok (.getfield 30, 3) := by decide +kernel
theorem d_M_epochAt_11 : decode prog_8_method_15_code 11 = .ok (.iload_n 3, 1) := by decide +kernel
theorem d_M_epochAt_12 : decode prog_8_method_15_code 12 = .ok (.baload, 1) := by decide +kernel
theorem d_M_epochAt_13 : decode prog_8_method_15_code 13 = .ok (.ifCond .eq 13, 3) := by decide +kernel
theorem d_M_epochAt_16 : decode prog_8_method_15_code 16 = .ok (.aload_n 0, 1) := by decide +kernel
theorem d_M_epochAt_17 : decode prog_8_method_15_code 17 = .ok (.getfield 24, 3) := by decide +kernel
theorem d_M_epochAt_20 : decode prog_8_method_15_code 20 = .ok (.iload_n 3, 1) := by decide +kernel
theorem d_M_epochAt_21 : decode prog_8_method_15_code 21 = .ok (.iaload, 1) := by decide +kernel
theorem d_M_epochAt_22 : decode prog_8_method_15_code 22 = .ok (.ineg, 1) := by decide +kernel
theorem d_M_epochAt_23 : decode prog_8_method_15_code 23 = .ok (.goto 9, 3) := by decide +kernel
theorem d_M_epochAt_26 : decode prog_8_method_15_code 26 = .ok (.aload_n 0, 1) := by decide +kernel
theorem d_M_epochAt_27 : decode prog_8_method_15_code 27 = .ok (.getfield 24, 3) := by decide +kernel
theorem d_M_epochAt_30 : decode prog_8_method_15_code 30 = .ok (.iload_n 3, 1) := by decide +kernel
theorem d_M_epochAt_31 : decode prog_8_method_15_code 31 = .ok (.iaload, 1) := by decide +kernel
theorem d_M_epochAt_32 : decode prog_8_method_15_code 32 = .ok (.ireturn, 1) := by decide +kernel
theorem d_M_valueAt_0 : decode prog_8_method_16_code 0 = .ok (.aload_n 0, 1) := by decide +kernel
theorem d_M_valueAt_1 : decode prog_8_method_16_code 1 = .ok (.iload_n 1, 1) := by decide +kernel
theorem d_M_valueAt_2 : decode prog_8_method_16_code 2 = .ok (.iload_n 2, 1) := by decide +kernel
theorem d_M_valueAt_3 : decode prog_8_method_16_code 3 = .ok (.invokevirtual 134, 3) := by decide +kernel
theorem d_M_valueAt_6 : decode prog_8_method_16_code 6 = .ok (.istore_n 3, 1) := by decide +kernel
theorem d_M_valueAt_7 : decode prog_8_method_16_code 7 = .ok (.aload_n 0, 1) := by decide +kernel
theorem d_M_valueAt_8 : decode prog_8_method_16_code 8 = .ok (.getfield 27, 3) := by decide +kernel
theorem d_M_valueAt_11 : decode prog_8_method_16_code 11 = .ok (.iload_n 3, 1) := by decide +kernel
theorem d_M_valueAt_12 : decode prog_8_method_16_code 12 = .ok (.iaload, 1) := by decide +kernel
theorem d_M_valueAt_13 : decode prog_8_method_16_code 13 = .ok (.ireturn, 1) := by decide +kernel
theorem d_M_fetch_0 : decode prog_8_method_21_code 0 = .ok (.iload_n 1, 1) := by decide +kernel
theorem d_M_fetch_1 : decode prog_8_method_21_code 1 = .ok (.invokestatic 106, 3) := by decide +kernel
theorem d_M_fetch_4 : decode prog_8_method_21_code 4 = .ok (.ifCond .eq 11, 3) := by decide +kernel
theorem d_M_fetch_7 : decode prog_8_method_21_code 7 = .ok (.aload_n 0, 1) := by decide +kernel
theorem d_M_fetch_8 : decode prog_8_method_21_code 8 = .ok (.iload_n 1, 1) := by decide +kernel
theorem d_M_fetch_9 : decode prog_8_method_21_code 9 = .ok (.invokevirtual 123, 3) := by decide +kernel
theorem d_M_fetch_12 : decode prog_8_method_21_code 12 = .ok (.ifCond .eq 5, 3) := by decide +kernel
theorem d_M_fetch_15 : decode prog_8_method_21_code 15 = .ok (.iconst 0, 1) := by decide +kernel
theorem d_M_fetch_16 : decode prog_8_method_21_code 16 = .ok (.ireturn, 1) := by decide +kernel
theorem d_M_fetch_17 : decode prog_8_method_21_code 17 = .ok (.aload_n 0, 1) := by decide +kernel
theorem d_M_fetch_18 : decode prog_8_method_21_code 18 = .ok (.getfield 39, 3) := by decide +kernel
theorem d_M_fetch_21 : decode prog_8_method_21_code 21 = .ok (.iload_n 1, 1) := by decide +kernel
theorem d_M_fetch_22 : decode prog_8_method_21_code 22 = .ok (.baload, 1) := by decide +kernel
theorem d_M_fetch_23 : decode prog_8_method_21_code 23 = .ok (.ifCond .eq 12, 3) := by decide +kernel
theorem d_M_fetch_26 : decode prog_8_method_21_code 26 = .ok (.aload_n 0, 1) := by decide +kernel
theorem d_M_fetch_27 : decode prog_8_method_21_code 27 = .ok (.getfield 45, 3) := by decide +kernel
theorem d_M_fetch_30 : decode prog_8_method_21_code 30 = .ok (.iload_n 1, 1) := by decide +kernel
theorem d_M_fetch_31 : decode prog_8_method_21_code 31 = .ok (.iaload, 1) := by decide +kernel
theorem d_M_fetch_32 : decode prog_8_method_21_code 32 = .ok (.ifCond .ge 5, 3) := by decide +kernel
theorem d_M_fetch_35 : decode prog_8_method_21_code 35 = .ok (.iconst 0, 1) := by decide +kernel
theorem d_M_fetch_36 : decode prog_8_method_21_code 36 = .ok (.ireturn, 1) := by decide +kernel
theorem d_M_fetch_37 : decode prog_8_method_21_code 37 = .ok (.aload_n 0, 1) := by decide +kernel
theorem d_M_fetch_38 : decode prog_8_method_21_code 38 = .ok (.getfield 48, 3) := by decide +kernel
theorem d_M_fetch_41 : decode prog_8_method_21_code 41 = .ok (.iload_n 1, 1) := by decide +kernel
theorem d_M_fetch_42 : decode prog_8_method_21_code 42 = .ok (.dup2, 1) := by decide +kernel
theorem d_M_fetch_43 : decode prog_8_method_21_code 43 = .ok (.iaload, 1) := by decide +kernel
theorem d_M_fetch_44 : decode prog_8_method_21_code 44 = .ok (.iconst 1, 1) := by decide +kernel
theorem d_M_fetch_45 : decode prog_8_method_21_code 45 = .ok (.iadd, 1) := by decide +kernel
theorem d_M_fetch_46 : decode prog_8_method_21_code 46 = .ok (.iastore, 1) := by decide +kernel
theorem d_M_fetch_47 : decode prog_8_method_21_code 47 = .ok (.aload_n 0, 1) := by decide +kernel
theorem d_M_fetch_48 : decode prog_8_method_21_code 48 = .ok (.getfield 51, 3) := by decide +kernel
theorem d_M_fetch_51 : decode prog_8_method_21_code 51 = .ok (.iload_n 1, 1) := by decide +kernel
theorem d_M_fetch_52 : decode prog_8_method_21_code 52 = .ok (.iconst 1, 1) := by decide +kernel
theorem d_M_fetch_53 : decode prog_8_method_21_code 53 = .ok (.bastore, 1) := by decide +kernel
theorem d_M_fetch_54 : decode prog_8_method_21_code 54 = .ok (.aload_n 0, 1) := by decide +kernel
theorem d_M_fetch_55 : decode prog_8_method_21_code 55 = .ok (.iconst 0, 1) := by decide +kernel
theorem d_M_fetch_56 : decode prog_8_method_21_code 56 = .ok (.iload_n 1, 1) := by decide +kernel
theorem d_M_fetch_57 : decode prog_8_method_21_code 57 = .ok (.aload_n 0, 1) := by decide +kernel
theorem d_M_fetch_58 : decode prog_8_method_21_code 58 = .ok (.getfield 45, 3) := by decide +kernel
theorem d_M_fetch_61 : decode prog_8_method_21_code 61 = .ok (.iload_n 1, 1) := by decide +kernel
theorem d_M_fetch_62 : decode prog_8_method_21_code 62 = .ok (.iaload, 1) := by decide +kernel
theorem d_M_fetch_63 : decode prog_8_method_21_code 63 = .ok (.aload_n 0, 1) := by decide +kernel
theorem d_M_fetch_64 : decode prog_8_method_21_code 64 = .ok (.getfield 42, 3) := by decide +kernel
theorem d_M_fetch_67 : decode prog_8_method_21_code 67 = .ok (.iload_n 1, 1) := by decide +kernel
theorem d_M_fetch_68 : decode prog_8_method_21_code 68 = .ok (.iaload, 1) := by decide +kernel
theorem d_M_fetch_69 : decode prog_8_method_21_code 69 = .ok (.aload_n 0, 1) := by decide +kernel
theorem d_M_fetch_70 : decode prog_8_method_21_code 70 = .ok (.getfield 48, 3) := by decide +kernel
theorem d_M_fetch_73 : decode prog_8_method_21_code 73 = .ok (.iload_n 1, 1) := by decide +kernel
theorem d_M_fetch_74 : decode prog_8_method_21_code 74 = .ok (.iaload, 1) := by decide +kernel
theorem d_M_fetch_75 : decode prog_8_method_21_code 75 = .ok (.aload_n 0, 1) := by decide +kernel
theorem d_M_fetch_76 : decode prog_8_method_21_code 76 = .ok (.getfield 21, 3) := by decide +kernel
theorem d_M_fetch_79 : decode prog_8_method_21_code 79 = .ok (.aload_n 0, 1) := by decide +kernel
theorem d_M_fetch_80 : decode prog_8_method_21_code 80 = .ok (.getfield 33, 3) := by decide +kernel
theorem d_M_fetch_83 : decode prog_8_method_21_code 83 = .ok (.iload_n 1, 1) := by decide +kernel
theorem d_M_fetch_84 : decode prog_8_method_21_code 84 = .ok (.iaload, 1) := by decide +kernel
theorem d_M_fetch_85 : decode prog_8_method_21_code 85 = .ok (.iaload, 1) := by decide +kernel
theorem d_M_fetch_86 : decode prog_8_method_21_code 86 = .ok (.aload_n 0, 1) := by decide +kernel
theorem d_M_fetch_87 : decode prog_8_method_21_code 87 = .ok (.getfield 24, 3) := by decide +kernel
theorem d_M_fetch_90 : decode prog_8_method_21_code 90 = .ok (.aload_n 0, 1) := by decide +kernel
theorem d_M_fetch_91 : decode prog_8_method_21_code 91 = .ok (.getfield 33, 3) := by decide +kernel
theorem d_M_fetch_94 : decode prog_8_method_21_code 94 = .ok (.iload_n 1, 1) := by decide +kernel
theorem d_M_fetch_95 : decode prog_8_method_21_code 95 = .ok (.iaload, 1) := by decide +kernel
theorem d_M_fetch_96 : decode prog_8_method_21_code 96 = .ok (.iaload, 1) := by decide +kernel
theorem d_M_fetch_97 : decode prog_8_method_21_code 97 = .ok (.invokevirtual 144, 3) := by decide +kernel
theorem d_M_fetch_100 : decode prog_8_method_21_code 100 = .ok (.istore_n 2, 1) := by decide +kernel
theorem d_M_fetch_101 : decode prog_8_method_21_code 101 = .ok (.iconst 1, 1) := by decide +kernel
theorem d_M_fetch_102 : decode prog_8_method_21_code 102 = .ok (.ireturn, 1) := by decide +kernel
theorem d_M_send_0 : decode prog_8_method_18_code 0 = .ok (.aload_n 0, 1) := by decide +kernel
theorem d_M_send_1 : decode prog_8_method_18_code 1 = .ok (.getfield 137, 3) := by decide +kernel
theorem d_M_send_4 : decode prog_8_method_18_code 4 = .ok (.bipush 8, 2) := by decide +kernel
theorem d_M_send_6 : decode prog_8_method_18_code 6 = .ok (.if_icmp .lt 5, 3) := by decide +kernel
theorem d_M_send_9 : decode prog_8_method_18_code 9 = .ok (.iconst 0, 1) := by decide +kernel
theorem d_M_send_10 : decode prog_8_method_18_code 10 = .ok (.ireturn, 1) := by decide +kernel
theorem d_M_send_11 : decode prog_8_method_18_code 11 = .ok (.aload_n 0, 1) := by decide +kernel
theorem d_M_send_12 : decode prog_8_method_18_code 12 = .ok (.getfield 66, 3) := by decide +kernel
theorem d_M_send_15 : decode prog_8_method_18_code 15 = .ok (.aload_n 0, 1) := by decide +kernel
theorem d_M_send_16 : decode prog_8_method_18_code 16 = .ok (.getfield 137, 3) := by decide +kernel
theorem d_M_send_19 : decode prog_8_method_18_code 19 = .ok (.iload_n 1, 1) := by decide +kernel
theorem d_M_send_20 : decode prog_8_method_18_code 20 = .ok (.iastore, 1) := by decide +kernel
theorem d_M_send_21 : decode prog_8_method_18_code 21 = .ok (.aload_n 0, 1) := by decide +kernel
theorem d_M_send_22 : decode prog_8_method_18_code 22 = .ok (.getfield 69, 3) := by decide +kernel
theorem d_M_send_25 : decode prog_8_method_18_code 25 = .ok (.aload_n 0, 1) := by decide +kernel
theorem d_M_send_26 : decode prog_8_method_18_code 26 = .ok (.getfield 137, 3) := by decide +kernel
theorem d_M_send_29 : decode prog_8_method_18_code 29 = .ok (.iload_n 2, 1) := by decide +kernel
theorem d_M_send_30 : decode prog_8_method_18_code 30 = .ok (.iastore, 1) := by decide +kernel
theorem d_M_send_31 : decode prog_8_method_18_code 31 = .ok (.aload_n 0, 1) := by decide +kernel
theorem d_M_send_32 : decode prog_8_method_18_code 32 = .ok (.getfield 72, 3) := by decide +kernel
theorem d_M_send_35 : decode prog_8_method_18_code 35 = .ok (.aload_n 0, 1) := by decide +kernel
theorem d_M_send_36 : decode prog_8_method_18_code 36 = .ok (.getfield 137, 3) := by decide +kernel
theorem d_M_send_39 : decode prog_8_method_18_code 39 = .ok (.iload_n 3, 1) := by decide +kernel
theorem d_M_send_40 : decode prog_8_method_18_code 40 = .ok (.iastore, 1) := by decide +kernel
theorem d_M_send_41 : decode prog_8_method_18_code 41 = .ok (.aload_n 0, 1) := by decide +kernel
theorem d_M_send_42 : decode prog_8_method_18_code 42 = .ok (.getfield 75, 3) := by decide +kernel
theorem d_M_send_45 : decode prog_8_method_18_code 45 = .ok (.aload_n 0, 1) := by decide +kernel
theorem d_M_send_46 : decode prog_8_method_18_code 46 = .ok (.getfield 137, 3) := by decide +kernel
theorem d_M_send_49 : decode prog_8_method_18_code 49 = .ok (.iload 4, 2) := by decide +kernel
theorem d_M_send_51 : decode prog_8_method_18_code 51 = .ok (.iastore, 1) := by decide +kernel
theorem d_M_send_52 : decode prog_8_method_18_code 52 = .ok (.aload_n 0, 1) := by decide +kernel
theorem d_M_send_53 : decode prog_8_method_18_code 53 = .ok (.getfield 78, 3) := by decide +kernel
theorem d_M_send_56 : decode prog_8_method_18_code 56 = .ok (.aload_n 0, 1) := by decide +kernel
theorem d_M_send_57 : decode prog_8_method_18_code 57 = .ok (.getfield 137, 3) := by decide +kernel
theorem d_M_send_60 : decode prog_8_method_18_code 60 = .ok (.iload 5, 2) := by decide +kernel
theorem d_M_send_62 : decode prog_8_method_18_code 62 = .ok (.iastore, 1) := by decide +kernel
theorem d_M_send_63 : decode prog_8_method_18_code 63 = .ok (.aload_n 0, 1) := by decide +kernel
theorem d_M_send_64 : decode prog_8_method_18_code 64 = .ok (.getfield 81, 3) := by decide +kernel
theorem d_M_send_67 : decode prog_8_method_18_code 67 = .ok (.aload_n 0, 1) := by decide +kernel
theorem d_M_send_68 : decode prog_8_method_18_code 68 = .ok (.getfield 137, 3) := by decide +kernel
theorem d_M_send_71 : decode prog_8_method_18_code 71 = .ok (.iload 6, 2) := by decide +kernel
theorem d_M_send_73 : decode prog_8_method_18_code 73 = .ok (.iastore, 1) := by decide +kernel
theorem d_M_send_74 : decode prog_8_method_18_code 74 = .ok (.aload_n 0, 1) := by decide +kernel
theorem d_M_send_75 : decode prog_8_method_18_code 75 = .ok (.getfield 84, 3) := by decide +kernel
theorem d_M_send_78 : decode prog_8_method_18_code 78 = .ok (.aload_n 0, 1) := by decide +kernel
theorem d_M_send_79 : decode prog_8_method_18_code 79 = .ok (.getfield 137, 3) := by decide +kernel
theorem d_M_send_82 : decode prog_8_method_18_code 82 = .ok (.iload 7, 2) := by decide +kernel
theorem d_M_send_84 : decode prog_8_method_18_code 84 = .ok (.iastore, 1) := by decide +kernel
theorem d_M_send_85 : decode prog_8_method_18_code 85 = .ok (.aload_n 0, 1) := by decide +kernel
theorem d_M_send_86 : decode prog_8_method_18_code 86 = .ok (.getfield 87, 3) := by decide +kernel
theorem d_M_send_89 : decode prog_8_method_18_code 89 = .ok (.aload_n 0, 1) := by decide +kernel
theorem d_M_send_90 : decode prog_8_method_18_code 90 = .ok (.getfield 137, 3) := by decide +kernel
theorem d_M_send_93 : decode prog_8_method_18_code 93 = .ok (.iconst 0, 1) := by decide +kernel
theorem d_M_send_94 : decode prog_8_method_18_code 94 = .ok (.iastore, 1) := by decide +kernel
theorem d_M_send_95 : decode prog_8_method_18_code 95 = .ok (.aload_n 0, 1) := by decide +kernel
theorem d_M_send_96 : decode prog_8_method_18_code 96 = .ok (.dup, 1) := by decide +kernel
theorem d_M_send_97 : decode prog_8_method_18_code 97 = .ok (.getfield 137, 3) := by decide +kernel
theorem d_M_send_100 : decode prog_8_method_18_code 100 = .ok (.iconst 1, 1) := by decide +kernel
theorem d_M_send_101 : decode prog_8_method_18_code 101 = .ok (.iadd, 1) := by decide +kernel
theorem d_M_send_102 : decode prog_8_method_18_code 102 = .ok (.putfield 137, 3) := by decide +kernel
theorem d_M_send_105 : decode prog_8_method_18_code 105 = .ok (.iconst 1, 1) := by decide +kernel
theorem d_M_send_106 : decode prog_8_method_18_code 106 = .ok (.ireturn, 1) := by decide +kernel
theorem d_M_lose_0 : decode prog_8_method_22_code 0 = .ok (.aload_n 0, 1) := by decide +kernel
theorem d_M_lose_1 : decode prog_8_method_22_code 1 = .ok (.iload_n 1, 1) := by decide +kernel
theorem d_M_lose_2 : decode prog_8_method_22_code 2 = .ok (.invokevirtual 148, 3) := by decide +kernel
theorem d_M_lose_5 : decode prog_8_method_22_code 5 = .ok (.ifCond .ne 5, 3) := by decide +kernel
theorem d_M_lose_8 : decode prog_8_method_22_code 8 = .ok (.iconst 0, 1) := by decide +kernel
theorem d_M_lose_9 : decode prog_8_method_22_code 9 = .ok (.ireturn, 1) := by decide +kernel
theorem d_M_lose_10 : decode prog_8_method_22_code 10 = .ok (.aload_n 0, 1) := by decide +kernel
theorem d_M_lose_11 : decode prog_8_method_22_code 11 = .ok (.iload_n 1, 1) := by decide +kernel
theorem d_M_lose_12 : decode prog_8_method_22_code 12 = .ok (.invokevirtual 151, 3) := by decide +kernel
theorem d_M_lose_15 : decode prog_8_method_22_code 15 = .ok (.iconst 1, 1) := by decide +kernel
theorem d_M_lose_16 : decode prog_8_method_22_code 16 = .ok (.ireturn, 1) := by decide +kernel
theorem d_M_isMessage_0 : decode prog_8_method_17_code 0 = .ok (.iload_n 1, 1) := by decide +kernel
theorem d_M_isMessage_1 : decode prog_8_method_17_code 1 = .ok (.ifCond .lt 15, 3) := by decide +kernel
theorem d_M_isMessage_4 : decode prog_8_method_17_code 4 = .ok (.iload_n 1, 1) := by decide +kernel
theorem d_M_isMessage_5 : decode prog_8_method_17_code 5 = .ok (.aload_n 0, 1) := by decide +kernel
theorem d_M_isMessage_6 : decode prog_8_method_17_code 6 = .ok (.getfield 137, 3) := by decide +kernel
theorem d_M_isMessage_9 : decode prog_8_method_17_code 9 = .ok (.if_icmp .ge 7, 3) := by decide +kernel
theorem d_M_isMessage_12 : decode prog_8_method_17_code 12 = .ok (.iconst 1, 1) := by decide +kernel
theorem d_M_isMessage_13 : decode prog_8_method_17_code 13 = .ok (.goto 4, 3) := by decide +kernel
theorem d_M_isMessage_16 : decode prog_8_method_17_code 16 = .ok (.iconst 0, 1) := by decide +kernel
theorem d_M_isMessage_17 : decode prog_8_method_17_code 17 = .ok (.ireturn, 1) := by decide +kernel
theorem d_M_remove_0 : decode prog_8_method_20_code 0 = .ok (.iload_n 1, 1) := by decide +kernel
theorem d_M_remove_1 : decode prog_8_method_20_code 1 = .ok (.iconst 1, 1) := by decide +kernel
theorem d_M_remove_2 : decode prog_8_method_20_code 2 = .ok (.iadd, 1) := by decide +kernel
theorem d_M_remove_3 : decode prog_8_method_20_code 3 = .ok (.istore_n 2, 1) := by decide +kernel
theorem d_M_remove_4 : decode prog_8_method_20_code 4 = .ok (.iload_n 2, 1) := by decide +kernel
theorem d_M_remove_5 : decode prog_8_method_20_code 5 = .ok (.aload_n 0, 1) := by decide +kernel
theorem d_M_remove_6 : decode prog_8_method_20_code 6 = .ok (.getfield 137, 3) := by decide +kernel
theorem d_M_remove_9 : decode prog_8_method_20_code 9 = .ok (.if_icmp .ge 17, 3) := by decide +kernel
theorem d_M_remove_12 : decode prog_8_method_20_code 12 = .ok (.aload_n 0, 1) := by decide +kernel
theorem d_M_remove_13 : decode prog_8_method_20_code 13 = .ok (.iload_n 2, 1) := by decide +kernel
theorem d_M_remove_14 : decode prog_8_method_20_code 14 = .ok (.iload_n 2, 1) := by decide +kernel
theorem d_M_remove_15 : decode prog_8_method_20_code 15 = .ok (.iconst 1, 1) := by decide +kernel
theorem d_M_remove_16 : decode prog_8_method_20_code 16 = .ok (.isub, 1) := by decide +kernel
theorem d_M_remove_17 : decode prog_8_method_20_code 17 = .ok (.invokevirtual 140, 3) := by decide +kernel
theorem d_M_remove_20 : decode prog_8_method_20_code 20 = .ok (.iinc 2 1, 3) := by decide +kernel
theorem d_M_remove_23 : decode prog_8_method_20_code 23 = .ok (.goto (-19), 3) := by decide +kernel
theorem d_M_remove_26 : decode prog_8_method_20_code 26 = .ok (.aload_n 0, 1) := by decide +kernel
theorem d_M_remove_27 : decode prog_8_method_20_code 27 = .ok (.dup, 1) := by decide +kernel
theorem d_M_remove_28 : decode prog_8_method_20_code 28 = .ok (.getfield 137, 3) := by decide +kernel
theorem d_M_remove_31 : decode prog_8_method_20_code 31 = .ok (.iconst 1, 1) := by decide +kernel
theorem d_M_remove_32 : decode prog_8_method_20_code 32 = .ok (.isub, 1) := by decide +kernel
theorem d_M_remove_33 : decode prog_8_method_20_code 33 = .ok (.putfield 137, 3) := by decide +kernel
theorem d_M_remove_36 : decode prog_8_method_20_code 36 = .ok (.return_, 1) := by decide +kernel
theorem d_M_move_0 : decode prog_8_method_19_code 0 = .ok (.aload_n 0, 1) := by decide +kernel
theorem d_M_move_1 : decode prog_8_method_19_code 1 = .ok (.getfield 66, 3) := by decide +kernel
theorem d_M_move_4 : decode prog_8_method_19_code 4 = .ok (.iload_n 2, 1) := by decide +kernel
theorem d_M_move_5 : decode prog_8_method_19_code 5 = .ok (.aload_n 0, 1) := by decide +kernel
theorem d_M_move_6 : decode prog_8_method_19_code 6 = .ok (.getfield 66, 3) := by decide +kernel
theorem d_M_move_9 : decode prog_8_method_19_code 9 = .ok (.iload_n 1, 1) := by decide +kernel
theorem d_M_move_10 : decode prog_8_method_19_code 10 = .ok (.iaload, 1) := by decide +kernel
theorem d_M_move_11 : decode prog_8_method_19_code 11 = .ok (.iastore, 1) := by decide +kernel
theorem d_M_move_12 : decode prog_8_method_19_code 12 = .ok (.aload_n 0, 1) := by decide +kernel
theorem d_M_move_13 : decode prog_8_method_19_code 13 = .ok (.getfield 69, 3) := by decide +kernel
theorem d_M_move_16 : decode prog_8_method_19_code 16 = .ok (.iload_n 2, 1) := by decide +kernel
theorem d_M_move_17 : decode prog_8_method_19_code 17 = .ok (.aload_n 0, 1) := by decide +kernel
theorem d_M_move_18 : decode prog_8_method_19_code 18 = .ok (.getfield 69, 3) := by decide +kernel
theorem d_M_move_21 : decode prog_8_method_19_code 21 = .ok (.iload_n 1, 1) := by decide +kernel
theorem d_M_move_22 : decode prog_8_method_19_code 22 = .ok (.iaload, 1) := by decide +kernel
theorem d_M_move_23 : decode prog_8_method_19_code 23 = .ok (.iastore, 1) := by decide +kernel
theorem d_M_move_24 : decode prog_8_method_19_code 24 = .ok (.aload_n 0, 1) := by decide +kernel
theorem d_M_move_25 : decode prog_8_method_19_code 25 = .ok (.getfield 72, 3) := by decide +kernel
theorem d_M_move_28 : decode prog_8_method_19_code 28 = .ok (.iload_n 2, 1) := by decide +kernel
theorem d_M_move_29 : decode prog_8_method_19_code 29 = .ok (.aload_n 0, 1) := by decide +kernel
theorem d_M_move_30 : decode prog_8_method_19_code 30 = .ok (.getfield 72, 3) := by decide +kernel
theorem d_M_move_33 : decode prog_8_method_19_code 33 = .ok (.iload_n 1, 1) := by decide +kernel
theorem d_M_move_34 : decode prog_8_method_19_code 34 = .ok (.iaload, 1) := by decide +kernel
theorem d_M_move_35 : decode prog_8_method_19_code 35 = .ok (.iastore, 1) := by decide +kernel
theorem d_M_move_36 : decode prog_8_method_19_code 36 = .ok (.aload_n 0, 1) := by decide +kernel
theorem d_M_move_37 : decode prog_8_method_19_code 37 = .ok (.getfield 75, 3) := by decide +kernel
theorem d_M_move_40 : decode prog_8_method_19_code 40 = .ok (.iload_n 2, 1) := by decide +kernel
theorem d_M_move_41 : decode prog_8_method_19_code 41 = .ok (.aload_n 0, 1) := by decide +kernel
theorem d_M_move_42 : decode prog_8_method_19_code 42 = .ok (.getfield 75, 3) := by decide +kernel
theorem d_M_move_45 : decode prog_8_method_19_code 45 = .ok (.iload_n 1, 1) := by decide +kernel
theorem d_M_move_46 : decode prog_8_method_19_code 46 = .ok (.iaload, 1) := by decide +kernel
theorem d_M_move_47 : decode prog_8_method_19_code 47 = .ok (.iastore, 1) := by decide +kernel
theorem d_M_move_48 : decode prog_8_method_19_code 48 = .ok (.aload_n 0, 1) := by decide +kernel
theorem d_M_move_49 : decode prog_8_method_19_code 49 = .ok (.getfield 78, 3) := by decide +kernel
theorem d_M_move_52 : decode prog_8_method_19_code 52 = .ok (.iload_n 2, 1) := by decide +kernel
theorem d_M_move_53 : decode prog_8_method_19_code 53 = .ok (.aload_n 0, 1) := by decide +kernel
theorem d_M_move_54 : decode prog_8_method_19_code 54 = .ok (.getfield 78, 3) := by decide +kernel
theorem d_M_move_57 : decode prog_8_method_19_code 57 = .ok (.iload_n 1, 1) := by decide +kernel
theorem d_M_move_58 : decode prog_8_method_19_code 58 = .ok (.iaload, 1) := by decide +kernel
theorem d_M_move_59 : decode prog_8_method_19_code 59 = .ok (.iastore, 1) := by decide +kernel
theorem d_M_move_60 : decode prog_8_method_19_code 60 = .ok (.aload_n 0, 1) := by decide +kernel
theorem d_M_move_61 : decode prog_8_method_19_code 61 = .ok (.getfield 81, 3) := by decide +kernel
theorem d_M_move_64 : decode prog_8_method_19_code 64 = .ok (.iload_n 2, 1) := by decide +kernel
theorem d_M_move_65 : decode prog_8_method_19_code 65 = .ok (.aload_n 0, 1) := by decide +kernel
theorem d_M_move_66 : decode prog_8_method_19_code 66 = .ok (.getfield 81, 3) := by decide +kernel
theorem d_M_move_69 : decode prog_8_method_19_code 69 = .ok (.iload_n 1, 1) := by decide +kernel
theorem d_M_move_70 : decode prog_8_method_19_code 70 = .ok (.iaload, 1) := by decide +kernel
theorem d_M_move_71 : decode prog_8_method_19_code 71 = .ok (.iastore, 1) := by decide +kernel
theorem d_M_move_72 : decode prog_8_method_19_code 72 = .ok (.aload_n 0, 1) := by decide +kernel
theorem d_M_move_73 : decode prog_8_method_19_code 73 = .ok (.getfield 84, 3) := by decide +kernel
theorem d_M_move_76 : decode prog_8_method_19_code 76 = .ok (.iload_n 2, 1) := by decide +kernel
theorem d_M_move_77 : decode prog_8_method_19_code 77 = .ok (.aload_n 0, 1) := by decide +kernel
theorem d_M_move_78 : decode prog_8_method_19_code 78 = .ok (.getfield 84, 3) := by decide +kernel
theorem d_M_move_81 : decode prog_8_method_19_code 81 = .ok (.iload_n 1, 1) := by decide +kernel
theorem d_M_move_82 : decode prog_8_method_19_code 82 = .ok (.iaload, 1) := by decide +kernel
theorem d_M_move_83 : decode prog_8_method_19_code 83 = .ok (.iastore, 1) := by decide +kernel
theorem d_M_move_84 : decode prog_8_method_19_code 84 = .ok (.aload_n 0, 1) := by decide +kernel
theorem d_M_move_85 : decode prog_8_method_19_code 85 = .ok (.getfield 87, 3) := by decide +kernel
theorem d_M_move_88 : decode prog_8_method_19_code 88 = .ok (.iload_n 2, 1) := by decide +kernel
theorem d_M_move_89 : decode prog_8_method_19_code 89 = .ok (.aload_n 0, 1) := by decide +kernel
theorem d_M_move_90 : decode prog_8_method_19_code 90 = .ok (.getfield 87, 3) := by decide +kernel
theorem d_M_move_93 : decode prog_8_method_19_code 93 = .ok (.iload_n 1, 1) := by decide +kernel
theorem d_M_move_94 : decode prog_8_method_19_code 94 = .ok (.iaload, 1) := by decide +kernel
theorem d_M_move_95 : decode prog_8_method_19_code 95 = .ok (.iastore, 1) := by decide +kernel
theorem d_M_move_96 : decode prog_8_method_19_code 96 = .ok (.return_, 1) := by decide +kernel
theorem d_M_flight_0 : decode prog_8_method_23_code 0 = .ok (.aload_n 0, 1) := by decide +kernel
theorem d_M_flight_1 : decode prog_8_method_23_code 1 = .ok (.getfield 137, 3) := by decide +kernel
theorem d_M_flight_4 : decode prog_8_method_23_code 4 = .ok (.ireturn, 1) := by decide +kernel
theorem d_M_message_0 : decode prog_8_method_24_code 0 = .ok (.aload_n 0, 1) := by decide +kernel
theorem d_M_message_1 : decode prog_8_method_24_code 1 = .ok (.iload_n 1, 1) := by decide +kernel
theorem d_M_message_2 : decode prog_8_method_24_code 2 = .ok (.invokevirtual 148, 3) := by decide +kernel
theorem d_M_message_5 : decode prog_8_method_24_code 5 = .ok (.ifCond .ne 5, 3) := by decide +kernel
theorem d_M_message_8 : decode prog_8_method_24_code 8 = .ok (.iconst (-1), 1) := by decide +kernel
theorem d_M_message_9 : decode prog_8_method_24_code 9 = .ok (.ireturn, 1) := by decide +kernel
theorem d_M_message_10 : decode prog_8_method_24_code 10 = .ok (.iload_n 2, 1) := by decide +kernel
theorem d_M_message_11 : decode prog_8_method_24_code 11 = .ok (.tableswitch 90 0 6 #[41, 48, 55, 62, 69, 76, 83], 41) := by decide +kernel
theorem d_M_message_52 : decode prog_8_method_24_code 52 = .ok (.aload_n 0, 1) := by decide +kernel
theorem d_M_message_53 : decode prog_8_method_24_code 53 = .ok (.getfield 66, 3) := by decide +kernel
theorem d_M_message_56 : decode prog_8_method_24_code 56 = .ok (.iload_n 1, 1) := by decide +kernel
theorem d_M_message_57 : decode prog_8_method_24_code 57 = .ok (.iaload, 1) := by decide +kernel
theorem d_M_message_58 : decode prog_8_method_24_code 58 = .ok (.ireturn, 1) := by decide +kernel
theorem d_M_message_59 : decode prog_8_method_24_code 59 = .ok (.aload_n 0, 1) := by decide +kernel
theorem d_M_message_60 : decode prog_8_method_24_code 60 = .ok (.getfield 69, 3) := by decide +kernel
theorem d_M_message_63 : decode prog_8_method_24_code 63 = .ok (.iload_n 1, 1) := by decide +kernel
theorem d_M_message_64 : decode prog_8_method_24_code 64 = .ok (.iaload, 1) := by decide +kernel
theorem d_M_message_65 : decode prog_8_method_24_code 65 = .ok (.ireturn, 1) := by decide +kernel
theorem d_M_message_66 : decode prog_8_method_24_code 66 = .ok (.aload_n 0, 1) := by decide +kernel
theorem d_M_message_67 : decode prog_8_method_24_code 67 = .ok (.getfield 72, 3) := by decide +kernel
theorem d_M_message_70 : decode prog_8_method_24_code 70 = .ok (.iload_n 1, 1) := by decide +kernel
theorem d_M_message_71 : decode prog_8_method_24_code 71 = .ok (.iaload, 1) := by decide +kernel
theorem d_M_message_72 : decode prog_8_method_24_code 72 = .ok (.ireturn, 1) := by decide +kernel
theorem d_M_message_73 : decode prog_8_method_24_code 73 = .ok (.aload_n 0, 1) := by decide +kernel
theorem d_M_message_74 : decode prog_8_method_24_code 74 = .ok (.getfield 75, 3) := by decide +kernel
theorem d_M_message_77 : decode prog_8_method_24_code 77 = .ok (.iload_n 1, 1) := by decide +kernel
theorem d_M_message_78 : decode prog_8_method_24_code 78 = .ok (.iaload, 1) := by decide +kernel
theorem d_M_message_79 : decode prog_8_method_24_code 79 = .ok (.ireturn, 1) := by decide +kernel
theorem d_M_message_80 : decode prog_8_method_24_code 80 = .ok (.aload_n 0, 1) := by decide +kernel
theorem d_M_message_81 : decode prog_8_method_24_code 81 = .ok (.getfield 78, 3) := by decide +kernel
theorem d_M_message_84 : decode prog_8_method_24_code 84 = .ok (.iload_n 1, 1) := by decide +kernel
theorem d_M_message_85 : decode prog_8_method_24_code 85 = .ok (.iaload, 1) := by decide +kernel
theorem d_M_message_86 : decode prog_8_method_24_code 86 = .ok (.ireturn, 1) := by decide +kernel
theorem d_M_message_87 : decode prog_8_method_24_code 87 = .ok (.aload_n 0, 1) := by decide +kernel
theorem d_M_message_88 : decode prog_8_method_24_code 88 = .ok (.getfield 81, 3) := by decide +kernel
theorem d_M_message_91 : decode prog_8_method_24_code 91 = .ok (.iload_n 1, 1) := by decide +kernel
theorem d_M_message_92 : decode prog_8_method_24_code 92 = .ok (.iaload, 1) := by decide +kernel
theorem d_M_message_93 : decode prog_8_method_24_code 93 = .ok (.ireturn, 1) := by decide +kernel
theorem d_M_message_94 : decode prog_8_method_24_code 94 = .ok (.aload_n 0, 1) := by decide +kernel
theorem d_M_message_95 : decode prog_8_method_24_code 95 = .ok (.getfield 84, 3) := by decide +kernel
theorem d_M_message_98 : decode prog_8_method_24_code 98 = .ok (.iload_n 1, 1) := by decide +kernel
theorem d_M_message_99 : decode prog_8_method_24_code 99 = .ok (.iaload, 1) := by decide +kernel
theorem d_M_message_100 : decode prog_8_method_24_code 100 = .ok (.ireturn, 1) := by decide +kernel
theorem d_M_message_101 : decode prog_8_method_24_code 101 = .ok (.iconst (-1), 1) := by decide +kernel
theorem d_M_message_102 : decode prog_8_method_24_code 102 = .ok (.ireturn, 1) := by decide +kernel
theorem d_M_deliver_0 : decode prog_8_method_25_code 0 = .ok (.aload_n 0, 1) := by decide +kernel
theorem d_M_deliver_1 : decode prog_8_method_25_code 1 = .ok (.iload_n 1, 1) := by decide +kernel
theorem d_M_deliver_2 : decode prog_8_method_25_code 2 = .ok (.invokevirtual 148, 3) := by decide +kernel
theorem d_M_deliver_5 : decode prog_8_method_25_code 5 = .ok (.ifCond .ne 5, 3) := by decide +kernel
theorem d_M_deliver_8 : decode prog_8_method_25_code 8 = .ok (.iconst 0, 1) := by decide +kernel
theorem d_M_deliver_9 : decode prog_8_method_25_code 9 = .ok (.ireturn, 1) := by decide +kernel
theorem d_M_deliver_10 : decode prog_8_method_25_code 10 = .ok (.iconst 0, 1) := by decide +kernel
theorem d_M_deliver_11 : decode prog_8_method_25_code 11 = .ok (.istore_n 2, 1) := by decide +kernel
theorem d_M_deliver_12 : decode prog_8_method_25_code 12 = .ok (.iload_n 2, 1) := by decide +kernel
theorem d_M_deliver_13 : decode prog_8_method_25_code 13 = .ok (.bipush 7, 2) := by decide +kernel
theorem d_M_deliver_15 : decode prog_8_method_25_code 15 = .ok (.if_icmp .ge 21, 3) := by decide +kernel
theorem d_M_deliver_18 : decode prog_8_method_25_code 18 = .ok (.aload_n 0, 1) := by decide +kernel
theorem d_M_deliver_19 : decode prog_8_method_25_code 19 = .ok (.getfield 90, 3) := by decide +kernel
theorem d_M_deliver_22 : decode prog_8_method_25_code 22 = .ok (.iload_n 2, 1) := by decide +kernel
theorem d_M_deliver_23 : decode prog_8_method_25_code 23 = .ok (.aload_n 0, 1) := by decide +kernel
theorem d_M_deliver_24 : decode prog_8_method_25_code 24 = .ok (.iload_n 1, 1) := by decide +kernel
theorem d_M_deliver_25 : decode prog_8_method_25_code 25 = .ok (.iload_n 2, 1) := by decide +kernel
theorem d_M_deliver_26 : decode prog_8_method_25_code 26 = .ok (.invokevirtual 154, 3) := by decide +kernel
theorem d_M_deliver_29 : decode prog_8_method_25_code 29 = .ok (.iastore, 1) := by decide +kernel
theorem d_M_deliver_30 : decode prog_8_method_25_code 30 = .ok (.iinc 2 1, 3) := by decide +kernel
theorem d_M_deliver_33 : decode prog_8_method_25_code 33 = .ok (.goto (-21), 3) := by decide +kernel
theorem d_M_deliver_36 : decode prog_8_method_25_code 36 = .ok (.aload_n 0, 1) := by decide +kernel
theorem d_M_deliver_37 : decode prog_8_method_25_code 37 = .ok (.getfield 90, 3) := by decide +kernel
theorem d_M_deliver_40 : decode prog_8_method_25_code 40 = .ok (.bipush 7, 2) := by decide +kernel
theorem d_M_deliver_42 : decode prog_8_method_25_code 42 = .ok (.aload_n 0, 1) := by decide +kernel
theorem d_M_deliver_43 : decode prog_8_method_25_code 43 = .ok (.getfield 87, 3) := by decide +kernel
theorem d_M_deliver_46 : decode prog_8_method_25_code 46 = .ok (.iload_n 1, 1) := by decide +kernel
theorem d_M_deliver_47 : decode prog_8_method_25_code 47 = .ok (.iaload, 1) := by decide +kernel
theorem d_M_deliver_48 : decode prog_8_method_25_code 48 = .ok (.iastore, 1) := by decide +kernel
theorem d_M_deliver_49 : decode prog_8_method_25_code 49 = .ok (.aload_n 0, 1) := by decide +kernel
theorem d_M_deliver_50 : decode prog_8_method_25_code 50 = .ok (.iload_n 1, 1) := by decide +kernel
theorem d_M_deliver_51 : decode prog_8_method_25_code 51 = .ok (.invokevirtual 151, 3) := by decide +kernel
theorem d_M_deliver_54 : decode prog_8_method_25_code 54 = .ok (.aload_n 0, 1) := by decide +kernel
theorem d_M_deliver_55 : decode prog_8_method_25_code 55 = .ok (.getfield 90, 3) := by decide +kernel
theorem d_M_deliver_58 : decode prog_8_method_25_code 58 = .ok (.iconst 2, 1) := by decide +kernel
theorem d_M_deliver_59 : decode prog_8_method_25_code 59 = .ok (.iaload, 1) := by decide +kernel
theorem d_M_deliver_60 : decode prog_8_method_25_code 60 = .ok (.istore_n 2, 1) := by decide +kernel
theorem d_M_deliver_61 : decode prog_8_method_25_code 61 = .ok (.aload_n 0, 1) := by decide +kernel
theorem d_M_deliver_62 : decode prog_8_method_25_code 62 = .ok (.getfield 90, 3) := by decide +kernel
theorem d_M_deliver_65 : decode prog_8_method_25_code 65 = .ok (.iconst 0, 1) := by decide +kernel
theorem d_M_deliver_66 : decode prog_8_method_25_code 66 = .ok (.iaload, 1) := by decide +kernel
theorem d_M_deliver_67 : decode prog_8_method_25_code 67 = .ok (.ifCond .ne 50, 3) := by decide +kernel
theorem d_M_deliver_70 : decode prog_8_method_25_code 70 = .ok (.aload_n 0, 1) := by decide +kernel
theorem d_M_deliver_71 : decode prog_8_method_25_code 71 = .ok (.iload_n 2, 1) := by decide +kernel
theorem d_M_deliver_72 : decode prog_8_method_25_code 72 = .ok (.invokevirtual 123, 3) := by decide +kernel
theorem d_M_deliver_75 : decode prog_8_method_25_code 75 = .ok (.ifCond .eq 42, 3) := by decide +kernel
theorem d_M_deliver_78 : decode prog_8_method_25_code 78 = .ok (.aload_n 0, 1) := by decide +kernel
theorem d_M_deliver_79 : decode prog_8_method_25_code 79 = .ok (.getfield 42, 3) := by decide +kernel
theorem d_M_deliver_82 : decode prog_8_method_25_code 82 = .ok (.iload_n 2, 1) := by decide +kernel
theorem d_M_deliver_83 : decode prog_8_method_25_code 83 = .ok (.iaload, 1) := by decide +kernel
theorem d_M_deliver_84 : decode prog_8_method_25_code 84 = .ok (.aload_n 0, 1) := by decide +kernel
theorem d_M_deliver_85 : decode prog_8_method_25_code 85 = .ok (.getfield 90, 3) := by decide +kernel
theorem d_M_deliver_88 : decode prog_8_method_25_code 88 = .ok (.iconst 3, 1) := by decide +kernel
theorem d_M_deliver_89 : decode prog_8_method_25_code 89 = .ok (.iaload, 1) := by decide +kernel
theorem d_M_deliver_90 : decode prog_8_method_25_code 90 = .ok (.if_icmp .ne 27, 3) := by decide +kernel
theorem d_M_deliver_93 : decode prog_8_method_25_code 93 = .ok (.aload_n 0, 1) := by decide +kernel
theorem d_M_deliver_94 : decode prog_8_method_25_code 94 = .ok (.iload_n 2, 1) := by decide +kernel
theorem d_M_deliver_95 : decode prog_8_method_25_code 95 = .ok (.aload_n 0, 1) := by decide +kernel
theorem d_M_deliver_96 : decode prog_8_method_25_code 96 = .ok (.getfield 90, 3) := by decide +kernel
theorem d_M_deliver_99 : decode prog_8_method_25_code 99 = .ok (.iconst 1, 1) := by decide +kernel
theorem d_M_deliver_100 : decode prog_8_method_25_code 100 = .ok (.iaload, 1) := by decide +kernel
theorem d_M_deliver_101 : decode prog_8_method_25_code 101 = .ok (.aload_n 0, 1) := by decide +kernel
theorem d_M_deliver_102 : decode prog_8_method_25_code 102 = .ok (.getfield 90, 3) := by decide +kernel
theorem d_M_deliver_105 : decode prog_8_method_25_code 105 = .ok (.iconst 5, 1) := by decide +kernel
theorem d_M_deliver_106 : decode prog_8_method_25_code 106 = .ok (.iaload, 1) := by decide +kernel
theorem d_M_deliver_107 : decode prog_8_method_25_code 107 = .ok (.aload_n 0, 1) := by decide +kernel
theorem d_M_deliver_108 : decode prog_8_method_25_code 108 = .ok (.getfield 90, 3) := by decide +kernel
theorem d_M_deliver_111 : decode prog_8_method_25_code 111 = .ok (.bipush 6, 2) := by decide +kernel
theorem d_M_deliver_113 : decode prog_8_method_25_code 113 = .ok (.iaload, 1) := by decide +kernel
theorem d_M_deliver_114 : decode prog_8_method_25_code 114 = .ok (.invokevirtual 157, 3) := by decide +kernel
theorem d_M_deliver_117 : decode prog_8_method_25_code 117 = .ok (.aload_n 0, 1) := by decide +kernel
theorem d_M_deliver_118 : decode prog_8_method_25_code 118 = .ok (.getfield 90, 3) := by decide +kernel
theorem d_M_deliver_121 : decode prog_8_method_25_code 121 = .ok (.iconst 0, 1) := by decide +kernel
theorem d_M_deliver_122 : decode prog_8_method_25_code 122 = .ok (.iaload, 1) := by decide +kernel
theorem d_M_deliver_123 : decode prog_8_method_25_code 123 = .ok (.ifCond .le 63, 3) := by decide +kernel
theorem d_M_deliver_126 : decode prog_8_method_25_code 126 = .ok (.aload_n 0, 1) := by decide +kernel
theorem d_M_deliver_127 : decode prog_8_method_25_code 127 = .ok (.getfield 39, 3) := by decide +kernel
theorem d_M_deliver_130 : decode prog_8_method_25_code 130 = .ok (.iload_n 2, 1) := by decide +kernel
theorem d_M_deliver_131 : decode prog_8_method_25_code 131 = .ok (.baload, 1) := by decide +kernel
theorem d_M_deliver_132 : decode prog_8_method_25_code 132 = .ok (.ifCond .eq 54, 3) := by decide +kernel
theorem d_M_deliver_135 : decode prog_8_method_25_code 135 = .ok (.aload_n 0, 1) := by decide +kernel
theorem d_M_deliver_136 : decode prog_8_method_25_code 136 = .ok (.getfield 42, 3) := by decide +kernel
theorem d_M_deliver_139 : decode prog_8_method_25_code 139 = .ok (.iload_n 2, 1) := by decide +kernel
theorem d_M_deliver_140 : decode prog_8_method_25_code 140 = .ok (.iaload, 1) := by decide +kernel
theorem d_M_deliver_141 : decode prog_8_method_25_code 141 = .ok (.aload_n 0, 1) := by decide +kernel
theorem d_M_deliver_142 : decode prog_8_method_25_code 142 = .ok (.getfield 90, 3) := by decide +kernel
theorem d_M_deliver_145 : decode prog_8_method_25_code 145 = .ok (.iconst 3, 1) := by decide +kernel
theorem d_M_deliver_146 : decode prog_8_method_25_code 146 = .ok (.iaload, 1) := by decide +kernel
theorem d_M_deliver_147 : decode prog_8_method_25_code 147 = .ok (.if_icmp .ne 39, 3) := by decide +kernel
theorem d_M_deliver_150 : decode prog_8_method_25_code 150 = .ok (.aload_n 0, 1) := by decide +kernel
theorem d_M_deliver_151 : decode prog_8_method_25_code 151 = .ok (.iload_n 2, 1) := by decide +kernel
theorem d_M_deliver_152 : decode prog_8_method_25_code 152 = .ok (.invokevirtual 123, 3) := by decide +kernel
theorem d_M_deliver_155 : decode prog_8_method_25_code 155 = .ok (.ifCond .ne 31, 3) := by decide +kernel
theorem d_M_deliver_158 : decode prog_8_method_25_code 158 = .ok (.aload_n 0, 1) := by decide +kernel
theorem d_M_deliver_159 : decode prog_8_method_25_code 159 = .ok (.getfield 51, 3) := by decide +kernel
theorem d_M_deliver_162 : decode prog_8_method_25_code 162 = .ok (.iload_n 2, 1) := by decide +kernel
theorem d_M_deliver_163 : decode prog_8_method_25_code 163 = .ok (.baload, 1) := by decide +kernel
theorem d_M_deliver_164 : decode prog_8_method_25_code 164 = .ok (.ifCond .eq 22, 3) := by decide +kernel
theorem d_M_deliver_167 : decode prog_8_method_25_code 167 = .ok (.aload_n 0, 1) := by decide +kernel
theorem d_M_deliver_168 : decode prog_8_method_25_code 168 = .ok (.getfield 48, 3) := by decide +kernel
theorem d_M_deliver_171 : decode prog_8_method_25_code 171 = .ok (.iload_n 2, 1) := by decide +kernel
theorem d_M_deliver_172 : decode prog_8_method_25_code 172 = .ok (.iaload, 1) := by decide +kernel
theorem d_M_deliver_173 : decode prog_8_method_25_code 173 = .ok (.aload_n 0, 1) := by decide +kernel
theorem d_M_deliver_174 : decode prog_8_method_25_code 174 = .ok (.getfield 90, 3) := by decide +kernel
theorem d_M_deliver_177 : decode prog_8_method_25_code 177 = .ok (.iconst 4, 1) := by decide +kernel
theorem d_M_deliver_178 : decode prog_8_method_25_code 178 = .ok (.iaload, 1) := by decide +kernel
theorem d_M_deliver_179 : decode prog_8_method_25_code 179 = .ok (.if_icmp .ne 7, 3) := by decide +kernel
theorem d_M_deliver_182 : decode prog_8_method_25_code 182 = .ok (.iconst 1, 1) := by decide +kernel
theorem d_M_deliver_183 : decode prog_8_method_25_code 183 = .ok (.goto 4, 3) := by decide +kernel
theorem d_M_deliver_186 : decode prog_8_method_25_code 186 = .ok (.iconst 0, 1) := by decide +kernel
theorem d_M_deliver_187 : decode prog_8_method_25_code 187 = .ok (.istore_n 3, 1) := by decide +kernel
theorem d_M_deliver_188 : decode prog_8_method_25_code 188 = .ok (.iload_n 3, 1) := by decide +kernel
theorem d_M_deliver_189 : decode prog_8_method_25_code 189 = .ok (.ifCond .eq 33, 3) := by decide +kernel
theorem d_M_deliver_192 : decode prog_8_method_25_code 192 = .ok (.aload_n 0, 1) := by decide +kernel
theorem d_M_deliver_193 : decode prog_8_method_25_code 193 = .ok (.getfield 51, 3) := by decide +kernel
theorem d_M_deliver_196 : decode prog_8_method_25_code 196 = .ok (.iload_n 2, 1) := by decide +kernel
theorem d_M_deliver_197 : decode prog_8_method_25_code 197 = .ok (.iconst 0, 1) := by decide +kernel
theorem d_M_deliver_198 : decode prog_8_method_25_code 198 = .ok (.bastore, 1) := by decide +kernel
theorem d_M_deliver_199 : decode prog_8_method_25_code 199 = .ok (.aload_n 0, 1) := by decide +kernel
theorem d_M_deliver_200 : decode prog_8_method_25_code 200 = .ok (.getfield 90, 3) := by decide +kernel
theorem d_M_deliver_203 : decode prog_8_method_25_code 203 = .ok (.iconst 0, 1) := by decide +kernel
theorem d_M_deliver_204 : decode prog_8_method_25_code 204 = .ok (.iaload, 1) := by decide +kernel
theorem d_M_deliver_205 : decode prog_8_method_25_code 205 = .ok (.iconst 1, 1) := by decide +kernel
theorem d_M_deliver_206 : decode prog_8_method_25_code 206 = .ok (.if_icmp .ne 11, 3) := by decide +kernel
theorem d_M_deliver_209 : decode prog_8_method_25_code 209 = .ok (.aload_n 0, 1) := by decide +kernel
theorem d_M_deliver_210 : decode prog_8_method_25_code 210 = .ok (.iload_n 2, 1) := by decide +kernel
theorem d_M_deliver_211 : decode prog_8_method_25_code 211 = .ok (.invokevirtual 161, 3) := by decide +kernel
theorem d_M_deliver_214 : decode prog_8_method_25_code 214 = .ok (.goto 8, 3) := by decide +kernel
theorem d_M_deliver_217 : decode prog_8_method_25_code 217 = .ok (.aload_n 0, 1) := by decide +kernel
theorem d_M_deliver_218 : decode prog_8_method_25_code 218 = .ok (.iload_n 2, 1) := by decide +kernel
theorem d_M_deliver_219 : decode prog_8_method_25_code 219 = .ok (.invokevirtual 164, 3) := by decide +kernel
theorem d_M_deliver_222 : decode prog_8_method_25_code 222 = .ok (.iconst 1, 1) := by decide +kernel
theorem d_M_deliver_223 : decode prog_8_method_25_code 223 = .ok (.ireturn, 1) := by decide +kernel
theorem d_M_answer_0 : decode prog_8_method_26_code 0 = .ok (.iload_n 3, 1) := by decide +kernel
theorem d_M_answer_1 : decode prog_8_method_26_code 1 = .ok (.aload_n 0, 1) := by decide +kernel
theorem d_M_answer_2 : decode prog_8_method_26_code 2 = .ok (.getfield 21, 3) := by decide +kernel
theorem d_M_answer_5 : decode prog_8_method_26_code 5 = .ok (.aload_n 0, 1) := by decide +kernel
theorem d_M_answer_6 : decode prog_8_method_26_code 6 = .ok (.getfield 33, 3) := by decide +kernel
theorem d_M_answer_9 : decode prog_8_method_26_code 9 = .ok (.iload_n 1, 1) := by decide +kernel
theorem d_M_answer_10 : decode prog_8_method_26_code 10 = .ok (.iaload, 1) := by decide +kernel
theorem d_M_answer_11 : decode prog_8_method_26_code 11 = .ok (.iaload, 1) := by decide +kernel
theorem d_M_answer_12 : decode prog_8_method_26_code 12 = .ok (.if_icmp .le 7, 3) := by decide +kernel
theorem d_M_answer_15 : decode prog_8_method_26_code 15 = .ok (.iconst 0, 1) := by decide +kernel
theorem d_M_answer_16 : decode prog_8_method_26_code 16 = .ok (.goto 9, 3) := by decide +kernel
theorem d_M_answer_19 : decode prog_8_method_26_code 19 = .ok (.aload_n 0, 1) := by decide +kernel
theorem d_M_answer_20 : decode prog_8_method_26_code 20 = .ok (.iload_n 1, 1) := by decide +kernel
theorem d_M_answer_21 : decode prog_8_method_26_code 21 = .ok (.iload_n 3, 1) := by decide +kernel
theorem d_M_answer_22 : decode prog_8_method_26_code 22 = .ok (.invokevirtual 130, 3) := by decide +kernel
theorem d_M_answer_25 : decode prog_8_method_26_code 25 = .ok (.istore 5, 2) := by decide +kernel
theorem d_M_answer_27 : decode prog_8_method_26_code 27 = .ok (.aload_n 0, 1) := by decide +kernel
theorem d_M_answer_28 : decode prog_8_method_26_code 28 = .ok (.getfield 21, 3) := by decide +kernel
theorem d_M_answer_31 : decode prog_8_method_26_code 31 = .ok (.iload 5, 2) := by decide +kernel
theorem d_M_answer_33 : decode prog_8_method_26_code 33 = .ok (.iaload, 1) := by decide +kernel
theorem d_M_answer_34 : decode prog_8_method_26_code 34 = .ok (.iload_n 3, 1) := by decide +kernel
theorem d_M_answer_35 : decode prog_8_method_26_code 35 = .ok (.if_icmp .ne 15, 3) := by decide +kernel
theorem d_M_answer_38 : decode prog_8_method_26_code 38 = .ok (.aload_n 0, 1) := by decide +kernel
theorem d_M_answer_39 : decode prog_8_method_26_code 39 = .ok (.getfield 24, 3) := by decide +kernel
theorem d_M_answer_42 : decode prog_8_method_26_code 42 = .ok (.iload 5, 2) := by decide +kernel
theorem d_M_answer_44 : decode prog_8_method_26_code 44 = .ok (.iaload, 1) := by decide +kernel
theorem d_M_answer_45 : decode prog_8_method_26_code 45 = .ok (.iload 4, 2) := by decide +kernel
theorem d_M_answer_47 : decode prog_8_method_26_code 47 = .ok (.if_icmp .eq 48, 3) := by decide +kernel
theorem d_M_answer_50 : decode prog_8_method_26_code 50 = .ok (.aload_n 0, 1) := by decide +kernel
theorem d_M_answer_51 : decode prog_8_method_26_code 51 = .ok (.iload_n 1, 1) := by decide +kernel
theorem d_M_answer_52 : decode prog_8_method_26_code 52 = .ok (.iload 4, 2) := by decide +kernel
theorem d_M_answer_54 : decode prog_8_method_26_code 54 = .ok (.invokevirtual 167, 3) := by decide +kernel
theorem d_M_answer_57 : decode prog_8_method_26_code 57 = .ok (.istore 5, 2) := by decide +kernel
theorem d_M_answer_59 : decode prog_8_method_26_code 59 = .ok (.aload_n 0, 1) := by decide +kernel
theorem d_M_answer_60 : decode prog_8_method_26_code 60 = .ok (.iconst 1, 1) := by decide +kernel
theorem d_M_answer_61 : decode prog_8_method_26_code 61 = .ok (.iload_n 1, 1) := by decide +kernel
theorem d_M_answer_62 : decode prog_8_method_26_code 62 = .ok (.iload_n 2, 1) := by decide +kernel
theorem d_M_answer_63 : decode prog_8_method_26_code 63 = .ok (.aload_n 0, 1) := by decide +kernel
theorem d_M_answer_64 : decode prog_8_method_26_code 64 = .ok (.getfield 42, 3) := by decide +kernel
theorem d_M_answer_67 : decode prog_8_method_26_code 67 = .ok (.iload_n 1, 1) := by decide +kernel
theorem d_M_answer_68 : decode prog_8_method_26_code 68 = .ok (.iaload, 1) := by decide +kernel
theorem d_M_answer_69 : decode prog_8_method_26_code 69 = .ok (.aload_n 0, 1) := by decide +kernel
theorem d_M_answer_70 : decode prog_8_method_26_code 70 = .ok (.getfield 90, 3) := by decide +kernel
theorem d_M_answer_73 : decode prog_8_method_26_code 73 = .ok (.iconst 4, 1) := by decide +kernel
theorem d_M_answer_74 : decode prog_8_method_26_code 74 = .ok (.iaload, 1) := by decide +kernel
theorem d_M_answer_75 : decode prog_8_method_26_code 75 = .ok (.aload_n 0, 1) := by decide +kernel
theorem d_M_answer_76 : decode prog_8_method_26_code 76 = .ok (.getfield 21, 3) := by decide +kernel
theorem d_M_answer_79 : decode prog_8_method_26_code 79 = .ok (.iload 5, 2) := by decide +kernel
theorem d_M_answer_81 : decode prog_8_method_26_code 81 = .ok (.iaload, 1) := by decide +kernel
theorem d_M_answer_82 : decode prog_8_method_26_code 82 = .ok (.aload_n 0, 1) := by decide +kernel
theorem d_M_answer_83 : decode prog_8_method_26_code 83 = .ok (.getfield 24, 3) := by decide +kernel
theorem d_M_answer_86 : decode prog_8_method_26_code 86 = .ok (.iload 5, 2) := by decide +kernel
theorem d_M_answer_88 : decode prog_8_method_26_code 88 = .ok (.iaload, 1) := by decide +kernel
theorem d_M_answer_89 : decode prog_8_method_26_code 89 = .ok (.invokevirtual 144, 3) := by decide +kernel
theorem d_M_answer_92 : decode prog_8_method_26_code 92 = .ok (.istore 6, 2) := by decide +kernel
theorem d_M_answer_94 : decode prog_8_method_26_code 94 = .ok (.return_, 1) := by decide +kernel
theorem d_M_answer_95 : decode prog_8_method_26_code 95 = .ok (.iconst 4, 1) := by decide +kernel
theorem d_M_answer_96 : decode prog_8_method_26_code 96 = .ok (.iload_n 1, 1) := by decide +kernel
theorem d_M_answer_97 : decode prog_8_method_26_code 97 = .ok (.imul, 1) := by decide +kernel
theorem d_M_answer_98 : decode prog_8_method_26_code 98 = .ok (.iload_n 2, 1) := by decide +kernel
theorem d_M_answer_99 : decode prog_8_method_26_code 99 = .ok (.iadd, 1) := by decide +kernel
theorem d_M_answer_100 : decode prog_8_method_26_code 100 = .ok (.istore 6, 2) := by decide +kernel
theorem d_M_answer_102 : decode prog_8_method_26_code 102 = .ok (.aload_n 0, 1) := by decide +kernel
theorem d_M_answer_103 : decode prog_8_method_26_code 103 = .ok (.getfield 57, 3) := by decide +kernel
theorem d_M_answer_106 : decode prog_8_method_26_code 106 = .ok (.iload 6, 2) := by decide +kernel
theorem d_M_answer_108 : decode prog_8_method_26_code 108 = .ok (.iload_n 3, 1) := by decide +kernel
theorem d_M_answer_109 : decode prog_8_method_26_code 109 = .ok (.aload_n 0, 1) := by decide +kernel
theorem d_M_answer_110 : decode prog_8_method_26_code 110 = .ok (.getfield 57, 3) := by decide +kernel
theorem d_M_answer_113 : decode prog_8_method_26_code 113 = .ok (.iload 6, 2) := by decide +kernel
theorem d_M_answer_115 : decode prog_8_method_26_code 115 = .ok (.iaload, 1) := by decide +kernel
theorem d_M_answer_116 : decode prog_8_method_26_code 116 = .ok (.if_icmp .le 7, 3) := by decide +kernel
theorem d_M_answer_119 : decode prog_8_method_26_code 119 = .ok (.iload_n 3, 1) := by decide +kernel
theorem d_M_answer_120 : decode prog_8_method_26_code 120 = .ok (.goto 10, 3) := by decide +kernel
theorem d_M_answer_123 : decode prog_8_method_26_code 123 = .ok (.aload_n 0, 1) := by decide +kernel
theorem d_M_answer_124 : decode prog_8_method_26_code 124 = .ok (.getfield 57, 3) := by decide +kernel
theorem d_M_answer_127 : decode prog_8_method_26_code 127 = .ok (.iload 6, 2) := by decide +kernel
theorem d_M_answer_129 : decode prog_8_method_26_code 129 = .ok (.iaload, 1) := by decide +kernel
theorem d_M_answer_130 : decode prog_8_method_26_code 130 = .ok (.iastore, 1) := by decide +kernel
theorem d_M_answer_131 : decode prog_8_method_26_code 131 = .ok (.aload_n 0, 1) := by decide +kernel
theorem d_M_answer_132 : decode prog_8_method_26_code 132 = .ok (.getfield 60, 3) := by decide +kernel
theorem d_M_answer_135 : decode prog_8_method_26_code 135 = .ok (.iload 6, 2) := by decide +kernel
theorem d_M_answer_137 : decode prog_8_method_26_code 137 = .ok (.iload 5, 2) := by decide +kernel
theorem d_M_answer_139 : decode prog_8_method_26_code 139 = .ok (.aload_n 0, 1) := by decide +kernel
theorem d_M_answer_140 : decode prog_8_method_26_code 140 = .ok (.getfield 33, 3) := by decide +kernel
theorem d_M_answer_143 : decode prog_8_method_26_code 143 = .ok (.iload_n 1, 1) := by decide +kernel
theorem d_M_answer_144 : decode prog_8_method_26_code 144 = .ok (.iaload, 1) := by decide +kernel
theorem d_M_answer_145 : decode prog_8_method_26_code 145 = .ok (.if_icmp .ne 10, 3) := by decide +kernel
theorem d_M_answer_148 : decode prog_8_method_26_code 148 = .ok (.aload_n 0, 1) := by decide +kernel
theorem d_M_answer_149 : decode prog_8_method_26_code 149 = .ok (.getfield 110, 3) := by decide +kernel
theorem d_M_answer_152 : decode prog_8_method_26_code 152 = .ok (.goto 10, 3) := by decide +kernel
theorem d_M_answer_155 : decode prog_8_method_26_code 155 = .ok (.aload_n 0, 1) := by decide +kernel
theorem d_M_answer_156 : decode prog_8_method_26_code 156 = .ok (.getfield 60, 3) := by decide +kernel
theorem d_M_answer_159 : decode prog_8_method_26_code 159 = .ok (.iload 6, 2) := by decide +kernel
theorem d_M_answer_161 : decode prog_8_method_26_code 161 = .ok (.iaload, 1) := by decide +kernel
theorem d_M_answer_162 : decode prog_8_method_26_code 162 = .ok (.iastore, 1) := by decide +kernel
theorem d_M_answer_163 : decode prog_8_method_26_code 163 = .ok (.aload_n 0, 1) := by decide +kernel
theorem d_M_answer_164 : decode prog_8_method_26_code 164 = .ok (.iload_n 1, 1) := by decide +kernel
theorem d_M_answer_165 : decode prog_8_method_26_code 165 = .ok (.invokevirtual 120, 3) := by decide +kernel
theorem d_M_answer_168 : decode prog_8_method_26_code 168 = .ok (.iload_n 3, 1) := by decide +kernel
theorem d_M_answer_169 : decode prog_8_method_26_code 169 = .ok (.aload_n 0, 1) := by decide +kernel
theorem d_M_answer_170 : decode prog_8_method_26_code 170 = .ok (.getfield 96, 3) := by decide +kernel
theorem d_M_answer_173 : decode prog_8_method_26_code 173 = .ok (.iadd, 1) := by decide +kernel
theorem d_M_answer_174 : decode prog_8_method_26_code 174 = .ok (.aload_n 0, 1) := by decide +kernel
theorem d_M_answer_175 : decode prog_8_method_26_code 175 = .ok (.getfield 21, 3) := by decide +kernel
theorem d_M_answer_178 : decode prog_8_method_26_code 178 = .ok (.aload_n 0, 1) := by decide +kernel
theorem d_M_answer_179 : decode prog_8_method_26_code 179 = .ok (.getfield 33, 3) := by decide +kernel
theorem d_M_answer_182 : decode prog_8_method_26_code 182 = .ok (.iload_n 1, 1) := by decide +kernel
theorem d_M_answer_183 : decode prog_8_method_26_code 183 = .ok (.iaload, 1) := by decide +kernel
theorem d_M_answer_184 : decode prog_8_method_26_code 184 = .ok (.iaload, 1) := by decide +kernel
theorem d_M_answer_185 : decode prog_8_method_26_code 185 = .ok (.if_icmp .ge 12, 3) := by decide +kernel
theorem d_M_answer_188 : decode prog_8_method_26_code 188 = .ok (.iload_n 3, 1) := by decide +kernel
theorem d_M_answer_189 : decode prog_8_method_26_code 189 = .ok (.aload_n 0, 1) := by decide +kernel
theorem d_M_answer_190 : decode prog_8_method_26_code 190 = .ok (.getfield 96, 3) := by decide +kernel
theorem d_M_answer_193 : decode prog_8_method_26_code 193 = .ok (.iadd, 1) := by decide +kernel
theorem d_M_answer_194 : decode prog_8_method_26_code 194 = .ok (.goto 14, 3) := by decide +kernel
theorem d_M_answer_197 : decode prog_8_method_26_code 197 = .ok (.aload_n 0, 1) := by decide +kernel
theorem d_M_answer_198 : decode prog_8_method_26_code 198 = .ok (.getfield 21, 3) := by decide +kernel
theorem d_M_answer_201 : decode prog_8_method_26_code 201 = .ok (.aload_n 0, 1) := by decide +kernel
theorem d_M_answer_202 : decode prog_8_method_26_code 202 = .ok (.getfield 33, 3) := by decide +kernel
theorem d_M_answer_205 : decode prog_8_method_26_code 205 = .ok (.iload_n 1, 1) := by decide +kernel
theorem d_M_answer_206 : decode prog_8_method_26_code 206 = .ok (.iaload, 1) := by decide +kernel
theorem d_M_answer_207 : decode prog_8_method_26_code 207 = .ok (.iaload, 1) := by decide +kernel
theorem d_M_answer_208 : decode prog_8_method_26_code 208 = .ok (.istore 7, 2) := by decide +kernel
theorem d_M_answer_210 : decode prog_8_method_26_code 210 = .ok (.aload_n 0, 1) := by decide +kernel
theorem d_M_answer_211 : decode prog_8_method_26_code 211 = .ok (.iconst 2, 1) := by decide +kernel
theorem d_M_answer_212 : decode prog_8_method_26_code 212 = .ok (.iload_n 1, 1) := by decide +kernel
theorem d_M_answer_213 : decode prog_8_method_26_code 213 = .ok (.iload_n 2, 1) := by decide +kernel
theorem d_M_answer_214 : decode prog_8_method_26_code 214 = .ok (.aload_n 0, 1) := by decide +kernel
theorem d_M_answer_215 : decode prog_8_method_26_code 215 = .ok (.getfield 42, 3) := by decide +kernel
theorem d_M_answer_218 : decode prog_8_method_26_code 218 = .ok (.iload_n 1, 1) := by decide +kernel
theorem d_M_answer_219 : decode prog_8_method_26_code 219 = .ok (.iaload, 1) := by decide +kernel
theorem d_M_answer_220 : decode prog_8_method_26_code 220 = .ok (.aload_n 0, 1) := by decide +kernel
theorem d_M_answer_221 : decode prog_8_method_26_code 221 = .ok (.getfield 90, 3) := by decide +kernel
theorem d_M_answer_224 : decode prog_8_method_26_code 224 = .ok (.iconst 4, 1) := by decide +kernel
theorem d_M_answer_225 : decode prog_8_method_26_code 225 = .ok (.iaload, 1) := by decide +kernel
theorem d_M_answer_226 : decode prog_8_method_26_code 226 = .ok (.iload 7, 2) := by decide +kernel
theorem d_M_answer_228 : decode prog_8_method_26_code 228 = .ok (.iload_n 3, 1) := by decide +kernel
theorem d_M_answer_229 : decode prog_8_method_26_code 229 = .ok (.isub, 1) := by decide +kernel
theorem d_M_answer_230 : decode prog_8_method_26_code 230 = .ok (.aload_n 0, 1) := by decide +kernel
theorem d_M_answer_231 : decode prog_8_method_26_code 231 = .ok (.getfield 36, 3) := by decide +kernel
theorem d_M_answer_234 : decode prog_8_method_26_code 234 = .ok (.iload_n 1, 1) := by decide +kernel
theorem d_M_answer_235 : decode prog_8_method_26_code 235 = .ok (.iaload, 1) := by decide +kernel
theorem d_M_answer_236 : decode prog_8_method_26_code 236 = .ok (.invokevirtual 144, 3) := by decide +kernel
theorem d_M_answer_239 : decode prog_8_method_26_code 239 = .ok (.ifCond .eq 21, 3) := by decide +kernel
theorem d_M_answer_242 : decode prog_8_method_26_code 242 = .ok (.aload_n 0, 1) := by decide +kernel
theorem d_M_answer_243 : decode prog_8_method_26_code 243 = .ok (.getfield 87, 3) := by decide +kernel
theorem d_M_answer_246 : decode prog_8_method_26_code 246 = .ok (.aload_n 0, 1) := by decide +kernel
theorem d_M_answer_247 : decode prog_8_method_26_code 247 = .ok (.getfield 137, 3) := by decide +kernel
theorem d_M_answer_250 : decode prog_8_method_26_code 250 = .ok (.iconst 1, 1) := by decide +kernel
theorem d_M_answer_251 : decode prog_8_method_26_code 251 = .ok (.isub, 1) := by decide +kernel
theorem d_M_answer_252 : decode prog_8_method_26_code 252 = .ok (.aload_n 0, 1) := by decide +kernel
theorem d_M_answer_253 : decode prog_8_method_26_code 253 = .ok (.iload_n 1, 1) := by decide +kernel
theorem d_M_answer_254 : decode prog_8_method_26_code 254 = .ok (.iload 7, 2) := by decide +kernel
theorem d_M_answer_256 : decode prog_8_method_26_code 256 = .ok (.invokevirtual 130, 3) := by decide +kernel
theorem d_M_answer_259 : decode prog_8_method_26_code 259 = .ok (.iastore, 1) := by decide +kernel
theorem d_M_answer_260 : decode prog_8_method_26_code 260 = .ok (.return_, 1) := by decide +kernel
theorem d_M_underEpoch_0 : decode prog_8_method_8_code 0 = .ok (.aload_n 0, 1) := by decide +kernel
theorem d_M_underEpoch_1 : decode prog_8_method_8_code 1 = .ok (.getfield 33, 3) := by decide +kernel
theorem d_M_underEpoch_4 : decode prog_8_method_8_code 4 = .ok (.iload_n 1, 1) := by decide +kernel
theorem d_M_underEpoch_5 : decode prog_8_method_8_code 5 = .ok (.iaload, 1) := by decide +kernel
theorem d_M_underEpoch_6 : decode prog_8_method_8_code 6 = .ok (.istore_n 3, 1) := by decide +kernel
theorem d_M_underEpoch_7 : decode prog_8_method_8_code 7 = .ok (.iload_n 3, 1) := by decide +kernel
theorem d_M_underEpoch_8 : decode prog_8_method_8_code 8 = .ok (.ifCond .le 23, 3) := by decide +kernel
theorem d_M_underEpoch_11 : decode prog_8_method_8_code 11 = .ok (.aload_n 0, 1) := by decide +kernel
theorem d_M_underEpoch_12 : decode prog_8_method_8_code 12 = .ok (.getfield 24, 3) := by decide +kernel
theorem d_M_underEpoch_15 : decode prog_8_method_8_code 15 = .ok (.iload_n 3, 1) := by decide +kernel
theorem d_M_underEpoch_16 : decode prog_8_method_8_code 16 = .ok (.iaload, 1) := by decide +kernel
theorem d_M_underEpoch_17 : decode prog_8_method_8_code 17 = .ok (.iload_n 2, 1) := by decide +kernel
theorem d_M_underEpoch_18 : decode prog_8_method_8_code 18 = .ok (.if_icmp .le 13, 3) := by decide +kernel
theorem d_M_underEpoch_21 : decode prog_8_method_8_code 21 = .ok (.aload_n 0, 1) := by decide +kernel
theorem d_M_underEpoch_22 : decode prog_8_method_8_code 22 = .ok (.getfield 17, 3) := by decide +kernel
theorem d_M_underEpoch_25 : decode prog_8_method_8_code 25 = .ok (.iload_n 3, 1) := by decide +kernel
theorem d_M_underEpoch_26 : decode prog_8_method_8_code 26 = .ok (.iaload, 1) := by decide +kernel
theorem d_M_underEpoch_27 : decode prog_8_method_8_code 27 = .ok (.istore_n 3, 1) := by decide +kernel
theorem d_M_underEpoch_28 : decode prog_8_method_8_code 28 = .ok (.goto (-21), 3) := by decide +kernel
theorem d_M_underEpoch_31 : decode prog_8_method_8_code 31 = .ok (.iload_n 3, 1) := by decide +kernel
theorem d_M_underEpoch_32 : decode prog_8_method_8_code 32 = .ok (.ireturn, 1) := by decide +kernel
theorem d_M_cut_0 : decode prog_8_method_27_code 0 = .ok (.aload_n 0, 1) := by decide +kernel
theorem d_M_cut_1 : decode prog_8_method_27_code 1 = .ok (.iload_n 1, 1) := by decide +kernel
theorem d_M_cut_2 : decode prog_8_method_27_code 2 = .ok (.aload_n 0, 1) := by decide +kernel
theorem d_M_cut_3 : decode prog_8_method_27_code 3 = .ok (.getfield 90, 3) := by decide +kernel
theorem d_M_cut_6 : decode prog_8_method_27_code 6 = .ok (.bipush 6, 2) := by decide +kernel
theorem d_M_cut_8 : decode prog_8_method_27_code 8 = .ok (.iaload, 1) := by decide +kernel
theorem d_M_cut_9 : decode prog_8_method_27_code 9 = .ok (.invokevirtual 167, 3) := by decide +kernel
theorem d_M_cut_12 : decode prog_8_method_27_code 12 = .ok (.istore_n 2, 1) := by decide +kernel
theorem d_M_cut_13 : decode prog_8_method_27_code 13 = .ok (.aload_n 0, 1) := by decide +kernel
theorem d_M_cut_14 : decode prog_8_method_27_code 14 = .ok (.getfield 33, 3) := by decide +kernel
theorem d_M_cut_17 : decode prog_8_method_27_code 17 = .ok (.iload_n 1, 1) := by decide +kernel
theorem d_M_cut_18 : decode prog_8_method_27_code 18 = .ok (.aload_n 0, 1) := by decide +kernel
theorem d_M_cut_19 : decode prog_8_method_27_code 19 = .ok (.getfield 21, 3) := by decide +kernel
theorem d_M_cut_22 : decode prog_8_method_27_code 22 = .ok (.iload_n 2, 1) := by decide +kernel
theorem d_M_cut_23 : decode prog_8_method_27_code 23 = .ok (.iaload, 1) := by decide +kernel
theorem d_M_cut_24 : decode prog_8_method_27_code 24 = .ok (.aload_n 0, 1) := by decide +kernel
theorem d_M_cut_25 : decode prog_8_method_27_code 25 = .ok (.getfield 90, 3) := by decide +kernel
theorem d_M_cut_28 : decode prog_8_method_27_code 28 = .ok (.iconst 5, 1) := by decide +kernel
theorem d_M_cut_29 : decode prog_8_method_27_code 29 = .ok (.iaload, 1) := by decide +kernel
theorem d_M_cut_30 : decode prog_8_method_27_code 30 = .ok (.if_icmp .ge 7, 3) := by decide +kernel
theorem d_M_cut_33 : decode prog_8_method_27_code 33 = .ok (.iload_n 2, 1) := by decide +kernel
theorem d_M_cut_34 : decode prog_8_method_27_code 34 = .ok (.goto 14, 3) := by decide +kernel
theorem d_M_cut_37 : decode prog_8_method_27_code 37 = .ok (.aload_n 0, 1) := by decide +kernel
theorem d_M_cut_38 : decode prog_8_method_27_code 38 = .ok (.iload_n 1, 1) := by decide +kernel
theorem d_M_cut_39 : decode prog_8_method_27_code 39 = .ok (.aload_n 0, 1) := by decide +kernel
theorem d_M_cut_40 : decode prog_8_method_27_code 40 = .ok (.getfield 90, 3) := by decide +kernel
theorem d_M_cut_43 : decode prog_8_method_27_code 43 = .ok (.iconst 5, 1) := by decide +kernel
theorem d_M_cut_44 : decode prog_8_method_27_code 44 = .ok (.iaload, 1) := by decide +kernel
theorem d_M_cut_45 : decode prog_8_method_27_code 45 = .ok (.invokevirtual 130, 3) := by decide +kernel
theorem d_M_cut_48 : decode prog_8_method_27_code 48 = .ok (.iastore, 1) := by decide +kernel
theorem d_M_cut_49 : decode prog_8_method_27_code 49 = .ok (.return_, 1) := by decide +kernel
theorem d_M_extend_0 : decode prog_8_method_28_code 0 = .ok (.aload_n 0, 1) := by decide +kernel
theorem d_M_extend_1 : decode prog_8_method_28_code 1 = .ok (.getfield 33, 3) := by decide +kernel
theorem d_M_extend_4 : decode prog_8_method_28_code 4 = .ok (.iload_n 1, 1) := by decide +kernel
theorem d_M_extend_5 : decode prog_8_method_28_code 5 = .ok (.aload_n 0, 1) := by decide +kernel
theorem d_M_extend_6 : decode prog_8_method_28_code 6 = .ok (.getfield 90, 3) := by decide +kernel
theorem d_M_extend_9 : decode prog_8_method_28_code 9 = .ok (.iconst 5, 1) := by decide +kernel
theorem d_M_extend_10 : decode prog_8_method_28_code 10 = .ok (.iaload, 1) := by decide +kernel
theorem d_M_extend_11 : decode prog_8_method_28_code 11 = .ok (.ifCond .le 13, 3) := by decide +kernel
theorem d_M_extend_14 : decode prog_8_method_28_code 14 = .ok (.aload_n 0, 1) := by decide +kernel
theorem d_M_extend_15 : decode prog_8_method_28_code 15 = .ok (.getfield 90, 3) := by decide +kernel
theorem d_M_extend_18 : decode prog_8_method_28_code 18 = .ok (.bipush 7, 2) := by decide +kernel
theorem d_M_extend_20 : decode prog_8_method_28_code 20 = .ok (.iaload, 1) := by decide +kernel
theorem d_M_extend_21 : decode prog_8_method_28_code 21 = .ok (.goto 9, 3) := by decide +kernel
theorem d_M_extend_24 : decode prog_8_method_28_code 24 = .ok (.aload_n 0, 1) := by decide +kernel
theorem d_M_extend_25 : decode prog_8_method_28_code 25 = .ok (.getfield 33, 3) := by decide +kernel
theorem d_M_extend_28 : decode prog_8_method_28_code 28 = .ok (.iload_n 1, 1) := by decide +kernel
theorem d_M_extend_29 : decode prog_8_method_28_code 29 = .ok (.iaload, 1) := by decide +kernel
theorem d_M_extend_30 : decode prog_8_method_28_code 30 = .ok (.iastore, 1) := by decide +kernel
theorem d_M_extend_31 : decode prog_8_method_28_code 31 = .ok (.aload_n 0, 1) := by decide +kernel
theorem d_M_extend_32 : decode prog_8_method_28_code 32 = .ok (.getfield 21, 3) := by decide +kernel
theorem d_M_extend_35 : decode prog_8_method_28_code 35 = .ok (.aload_n 0, 1) := by decide +kernel
theorem d_M_extend_36 : decode prog_8_method_28_code 36 = .ok (.getfield 33, 3) := by decide +kernel
theorem d_M_extend_39 : decode prog_8_method_28_code 39 = .ok (.iload_n 1, 1) := by decide +kernel
theorem d_M_extend_40 : decode prog_8_method_28_code 40 = .ok (.iaload, 1) := by decide +kernel
theorem d_M_extend_41 : decode prog_8_method_28_code 41 = .ok (.iaload, 1) := by decide +kernel
theorem d_M_extend_42 : decode prog_8_method_28_code 42 = .ok (.istore_n 2, 1) := by decide +kernel
theorem d_M_extend_43 : decode prog_8_method_28_code 43 = .ok (.aload_n 0, 1) := by decide +kernel
theorem d_M_extend_44 : decode prog_8_method_28_code 44 = .ok (.getfield 90, 3) := by decide +kernel
theorem d_M_extend_47 : decode prog_8_method_28_code 47 = .ok (.bipush 6, 2) := by decide +kernel
theorem d_M_extend_49 : decode prog_8_method_28_code 49 = .ok (.iaload, 1) := by decide +kernel
theorem d_M_extend_50 : decode prog_8_method_28_code 50 = .ok (.iload_n 2, 1) := by decide +kernel
theorem d_M_extend_51 : decode prog_8_method_28_code 51 = .ok (.if_icmp .ge 13, 3) := by decide +kernel
theorem d_M_extend_54 : decode prog_8_method_28_code 54 = .ok (.aload_n 0, 1) := by decide +kernel
theorem d_M_extend_55 : decode prog_8_method_28_code 55 = .ok (.getfield 90, 3) := by decide +kernel
theorem d_M_extend_58 : decode prog_8_method_28_code 58 = .ok (.bipush 6, 2) := by decide +kernel
theorem d_M_extend_60 : decode prog_8_method_28_code 60 = .ok (.iaload, 1) := by decide +kernel
theorem d_M_extend_61 : decode prog_8_method_28_code 61 = .ok (.goto 4, 3) := by decide +kernel
theorem d_M_extend_64 : decode prog_8_method_28_code 64 = .ok (.iload_n 2, 1) := by decide +kernel
theorem d_M_extend_65 : decode prog_8_method_28_code 65 = .ok (.istore_n 3, 1) := by decide +kernel
theorem d_M_extend_66 : decode prog_8_method_28_code 66 = .ok (.aload_n 0, 1) := by decide +kernel
theorem d_M_extend_67 : decode prog_8_method_28_code 67 = .ok (.getfield 36, 3) := by decide +kernel
theorem d_M_extend_70 : decode prog_8_method_28_code 70 = .ok (.iload_n 1, 1) := by decide +kernel
theorem d_M_extend_71 : decode prog_8_method_28_code 71 = .ok (.iload_n 3, 1) := by decide +kernel
theorem d_M_extend_72 : decode prog_8_method_28_code 72 = .ok (.aload_n 0, 1) := by decide +kernel
theorem d_M_extend_73 : decode prog_8_method_28_code 73 = .ok (.getfield 36, 3) := by decide +kernel
theorem d_M_extend_76 : decode prog_8_method_28_code 76 = .ok (.iload_n 1, 1) := by decide +kernel
theorem d_M_extend_77 : decode prog_8_method_28_code 77 = .ok (.iaload, 1) := by decide +kernel
theorem d_M_extend_78 : decode prog_8_method_28_code 78 = .ok (.if_icmp .le 7, 3) := by decide +kernel
theorem d_M_extend_81 : decode prog_8_method_28_code 81 = .ok (.iload_n 3, 1) := by decide +kernel
theorem d_M_extend_82 : decode prog_8_method_28_code 82 = .ok (.goto 9, 3) := by decide +kernel
theorem d_M_extend_85 : decode prog_8_method_28_code 85 = .ok (.aload_n 0, 1) := by decide +kernel
theorem d_M_extend_86 : decode prog_8_method_28_code 86 = .ok (.getfield 36, 3) := by decide +kernel
theorem d_M_extend_89 : decode prog_8_method_28_code 89 = .ok (.iload_n 1, 1) := by decide +kernel
theorem d_M_extend_90 : decode prog_8_method_28_code 90 = .ok (.iaload, 1) := by decide +kernel
theorem d_M_extend_91 : decode prog_8_method_28_code 91 = .ok (.iastore, 1) := by decide +kernel
theorem d_M_extend_92 : decode prog_8_method_28_code 92 = .ok (.return_, 1) := by decide +kernel
theorem d_M_review_0 : decode prog_8_method_30_code 0 = .ok (.aload_n 0, 1) := by decide +kernel
theorem d_M_review_1 : decode prog_8_method_30_code 1 = .ok (.iload_n 1, 1) := by decide +kernel
theorem d_M_review_2 : decode prog_8_method_30_code 2 = .ok (.invokevirtual 123, 3) := by decide +kernel
theorem d_M_review_5 : decode prog_8_method_30_code 5 = .ok (.ifCond .ne 5, 3) := by decide +kernel
theorem d_M_review_8 : decode prog_8_method_30_code 8 = .ok (.iconst (-1), 1) := by decide +kernel
theorem d_M_review_9 : decode prog_8_method_30_code 9 = .ok (.ireturn, 1) := by decide +kernel
theorem d_M_review_10 : decode prog_8_method_30_code 10 = .ok (.aload_n 0, 1) := by decide +kernel
theorem d_M_review_11 : decode prog_8_method_30_code 11 = .ok (.getfield 42, 3) := by decide +kernel
theorem d_M_review_14 : decode prog_8_method_30_code 14 = .ok (.iload_n 1, 1) := by decide +kernel
theorem d_M_review_15 : decode prog_8_method_30_code 15 = .ok (.iaload, 1) := by decide +kernel
theorem d_M_review_16 : decode prog_8_method_30_code 16 = .ok (.aload_n 0, 1) := by decide +kernel
theorem d_M_review_17 : decode prog_8_method_30_code 17 = .ok (.getfield 7, 3) := by decide +kernel
theorem d_M_review_20 : decode prog_8_method_30_code 20 = .ok (.if_icmp .eq 5, 3) := by decide +kernel
theorem d_M_review_23 : decode prog_8_method_30_code 23 = .ok (.iconst (-1), 1) := by decide +kernel
theorem d_M_review_24 : decode prog_8_method_30_code 24 = .ok (.ireturn, 1) := by decide +kernel
theorem d_M_review_25 : decode prog_8_method_30_code 25 = .ok (.iconst 0, 1) := by decide +kernel
theorem d_M_review_26 : decode prog_8_method_30_code 26 = .ok (.istore_n 2, 1) := by decide +kernel
theorem d_M_review_27 : decode prog_8_method_30_code 27 = .ok (.iload_n 2, 1) := by decide +kernel
theorem d_M_review_28 : decode prog_8_method_30_code 28 = .ok (.iconst 4, 1) := by decide +kernel
theorem d_M_review_29 : decode prog_8_method_30_code 29 = .ok (.if_icmp .ge 112, 3) := by decide +kernel
theorem d_M_review_32 : decode prog_8_method_30_code 32 = .ok (.iconst 4, 1) := by decide +kernel
theorem d_M_review_33 : decode prog_8_method_30_code 33 = .ok (.iload_n 1, 1) := by decide +kernel
theorem d_M_review_34 : decode prog_8_method_30_code 34 = .ok (.imul, 1) := by decide +kernel
theorem d_M_review_35 : decode prog_8_method_30_code 35 = .ok (.iload_n 2, 1) := by decide +kernel
theorem d_M_review_36 : decode prog_8_method_30_code 36 = .ok (.iadd, 1) := by decide +kernel
theorem d_M_review_37 : decode prog_8_method_30_code 37 = .ok (.istore_n 3, 1) := by decide +kernel
theorem d_M_review_38 : decode prog_8_method_30_code 38 = .ok (.aload_n 0, 1) := by decide +kernel
theorem d_M_review_39 : decode prog_8_method_30_code 39 = .ok (.getfield 110, 3) := by decide +kernel
theorem d_M_review_42 : decode prog_8_method_30_code 42 = .ok (.aload_n 0, 1) := by decide +kernel
theorem d_M_review_43 : decode prog_8_method_30_code 43 = .ok (.getfield 60, 3) := by decide +kernel
theorem d_M_review_46 : decode prog_8_method_30_code 46 = .ok (.iload_n 3, 1) := by decide +kernel
theorem d_M_review_47 : decode prog_8_method_30_code 47 = .ok (.iaload, 1) := by decide +kernel
theorem d_M_review_48 : decode prog_8_method_30_code 48 = .ok (.isub, 1) := by decide +kernel
theorem d_M_review_49 : decode prog_8_method_30_code 49 = .ok (.aload_n 0, 1) := by decide +kernel
theorem d_M_review_50 : decode prog_8_method_30_code 50 = .ok (.getfield 93, 3) := by decide +kernel
theorem d_M_review_53 : decode prog_8_method_30_code 53 = .ok (.if_icmp .gt 7, 3) := by decide +kernel
theorem d_M_review_56 : decode prog_8_method_30_code 56 = .ok (.iconst 1, 1) := by decide +kernel
theorem d_M_review_57 : decode prog_8_method_30_code 57 = .ok (.goto 4, 3) := by decide +kernel
theorem d_M_review_60 : decode prog_8_method_30_code 60 = .ok (.iconst 0, 1) := by decide +kernel
theorem d_M_review_61 : decode prog_8_method_30_code 61 = .ok (.istore 4, 2) := by decide +kernel
theorem d_M_review_63 : decode prog_8_method_30_code 63 = .ok (.iload_n 2, 1) := by decide +kernel
theorem d_M_review_64 : decode prog_8_method_30_code 64 = .ok (.iload_n 1, 1) := by decide +kernel
theorem d_M_review_65 : decode prog_8_method_30_code 65 = .ok (.if_icmp .eq 47, 3) := by decide +kernel
theorem d_M_review_68 : decode prog_8_method_30_code 68 = .ok (.iload 4, 2) := by decide +kernel
theorem d_M_review_70 : decode prog_8_method_30_code 70 = .ok (.ifCond .eq 46, 3) := by decide +kernel
theorem d_M_review_73 : decode prog_8_method_30_code 73 = .ok (.aload_n 0, 1) := by decide +kernel
theorem d_M_review_74 : decode prog_8_method_30_code 74 = .ok (.getfield 54, 3) := by decide +kernel
theorem d_M_review_77 : decode prog_8_method_30_code 77 = .ok (.iload_n 3, 1) := by decide +kernel
theorem d_M_review_78 : decode prog_8_method_30_code 78 = .ok (.baload, 1) := by decide +kernel
theorem d_M_review_79 : decode prog_8_method_30_code 79 = .ok (.ifCond .ne 33, 3) := by decide +kernel
theorem d_M_review_82 : decode prog_8_method_30_code 82 = .ok (.aload_n 0, 1) := by decide +kernel
theorem d_M_review_83 : decode prog_8_method_30_code 83 = .ok (.getfield 57, 3) := by decide +kernel
theorem d_M_review_86 : decode prog_8_method_30_code 86 = .ok (.iload_n 3, 1) := by decide +kernel
theorem d_M_review_87 : decode prog_8_method_30_code 87 = .ok (.iaload, 1) := by decide +kernel
theorem d_M_review_88 : decode prog_8_method_30_code 88 = .ok (.aload_n 0, 1) := by decide +kernel
theorem d_M_review_89 : decode prog_8_method_30_code 89 = .ok (.getfield 36, 3) := by decide +kernel
theorem d_M_review_92 : decode prog_8_method_30_code 92 = .ok (.iload_n 1, 1) := by decide +kernel
theorem d_M_review_93 : decode prog_8_method_30_code 93 = .ok (.iaload, 1) := by decide +kernel
theorem d_M_review_94 : decode prog_8_method_30_code 94 = .ok (.if_icmp .lt 22, 3) := by decide +kernel
theorem d_M_review_97 : decode prog_8_method_30_code 97 = .ok (.aload_n 0, 1) := by decide +kernel
theorem d_M_review_98 : decode prog_8_method_30_code 98 = .ok (.getfield 57, 3) := by decide +kernel
theorem d_M_review_101 : decode prog_8_method_30_code 101 = .ok (.iload_n 3, 1) := by decide +kernel
theorem d_M_review_102 : decode prog_8_method_30_code 102 = .ok (.iaload, 1) := by decide +kernel
theorem d_M_review_103 : decode prog_8_method_30_code 103 = .ok (.aload_n 0, 1) := by decide +kernel
theorem d_M_review_104 : decode prog_8_method_30_code 104 = .ok (.getfield 63, 3) := by decide +kernel
theorem d_M_review_107 : decode prog_8_method_30_code 107 = .ok (.iload_n 1, 1) := by decide +kernel
theorem d_M_review_108 : decode prog_8_method_30_code 108 = .ok (.iaload, 1) := by decide +kernel
theorem d_M_review_109 : decode prog_8_method_30_code 109 = .ok (.if_icmp .lt 7, 3) := by decide +kernel
theorem d_M_review_112 : decode prog_8_method_30_code 112 = .ok (.iconst 1, 1) := by decide +kernel
theorem d_M_review_113 : decode prog_8_method_30_code 113 = .ok (.goto 4, 3) := by decide +kernel
theorem d_M_review_116 : decode prog_8_method_30_code 116 = .ok (.iconst 0, 1) := by decide +kernel
theorem d_M_review_117 : decode prog_8_method_30_code 117 = .ok (.istore 5, 2) := by decide +kernel
theorem d_M_review_119 : decode prog_8_method_30_code 119 = .ok (.aload_n 0, 1) := by decide +kernel
theorem d_M_review_120 : decode prog_8_method_30_code 120 = .ok (.getfield 54, 3) := by decide +kernel
theorem d_M_review_123 : decode prog_8_method_30_code 123 = .ok (.iload_n 3, 1) := by decide +kernel
theorem d_M_review_124 : decode prog_8_method_30_code 124 = .ok (.iload 5, 2) := by decide +kernel
theorem d_M_review_126 : decode prog_8_method_30_code 126 = .ok (.bastore, 1) := by decide +kernel
theorem d_M_review_127 : decode prog_8_method_30_code 127 = .ok (.aload_n 0, 1) := by decide +kernel
theorem d_M_review_128 : decode prog_8_method_30_code 128 = .ok (.getfield 13, 3) := by decide +kernel
theorem d_M_review_131 : decode prog_8_method_30_code 131 = .ok (.iload_n 2, 1) := by decide +kernel
theorem d_M_review_132 : decode prog_8_method_30_code 132 = .ok (.iload 5, 2) := by decide +kernel
theorem d_M_review_134 : decode prog_8_method_30_code 134 = .ok (.bastore, 1) := by decide +kernel
theorem d_M_review_135 : decode prog_8_method_30_code 135 = .ok (.iinc 2 1, 3) := by decide +kernel
theorem d_M_review_138 : decode prog_8_method_30_code 138 = .ok (.goto (-111), 3) := by decide +kernel
theorem d_M_review_141 : decode prog_8_method_30_code 141 = .ok (.aload_n 0, 1) := by decide +kernel
theorem d_M_review_142 : decode prog_8_method_30_code 142 = .ok (.iload_n 1, 1) := by decide +kernel
theorem d_M_review_143 : decode prog_8_method_30_code 143 = .ok (.invokevirtual 120, 3) := by decide +kernel
theorem d_M_review_146 : decode prog_8_method_30_code 146 = .ok (.aload_n 0, 1) := by decide +kernel
theorem d_M_review_147 : decode prog_8_method_30_code 147 = .ok (.iconst 1, 1) := by decide +kernel
theorem d_M_review_148 : decode prog_8_method_30_code 148 = .ok (.iconst 0, 1) := by decide +kernel
theorem d_M_review_149 : decode prog_8_method_30_code 149 = .ok (.invokevirtual 170, 3) := by decide +kernel
theorem d_M_review_152 : decode prog_8_method_30_code 152 = .ok (.ireturn, 1) := by decide +kernel
theorem d_M_bits_0 : decode prog_8_method_29_code 0 = .ok (.iconst 0, 1) := by decide +kernel
theorem d_M_bits_1 : decode prog_8_method_29_code 1 = .ok (.istore_n 3, 1) := by decide +kernel
theorem d_M_bits_2 : decode prog_8_method_29_code 2 = .ok (.iconst 3, 1) := by decide +kernel
theorem d_M_bits_3 : decode prog_8_method_29_code 3 = .ok (.istore 4, 2) := by decide +kernel
theorem d_M_bits_5 : decode prog_8_method_29_code 5 = .ok (.iload 4, 2) := by decide +kernel
theorem d_M_bits_7 : decode prog_8_method_29_code 7 = .ok (.ifCond .lt 51, 3) := by decide +kernel
theorem d_M_bits_10 : decode prog_8_method_29_code 10 = .ok (.iload_n 1, 1) := by decide +kernel
theorem d_M_bits_11 : decode prog_8_method_29_code 11 = .ok (.ifCond .eq 13, 3) := by decide +kernel
theorem d_M_bits_14 : decode prog_8_method_29_code 14 = .ok (.aload_n 0, 1) := by decide +kernel
theorem d_M_bits_15 : decode prog_8_method_29_code 15 = .ok (.getfield 13, 3) := by decide +kernel
theorem d_M_bits_18 : decode prog_8_method_29_code 18 = .ok (.iload 4, 2) := by decide +kernel
theorem d_M_bits_20 : decode prog_8_method_29_code 20 = .ok (.baload, 1) := by decide +kernel
theorem d_M_bits_21 : decode prog_8_method_29_code 21 = .ok (.goto 14, 3) := by decide +kernel
theorem d_M_bits_24 : decode prog_8_method_29_code 24 = .ok (.aload_n 0, 1) := by decide +kernel
theorem d_M_bits_25 : decode prog_8_method_29_code 25 = .ok (.getfield 54, 3) := by decide +kernel
theorem d_M_bits_28 : decode prog_8_method_29_code 28 = .ok (.iconst 4, 1) := by decide +kernel
theorem d_M_bits_29 : decode prog_8_method_29_code 29 = .ok (.iload_n 2, 1) := by decide +kernel
theorem d_M_bits_30 : decode prog_8_method_29_code 30 = .ok (.imul, 1) := by decide +kernel
theorem d_M_bits_31 : decode prog_8_method_29_code 31 = .ok (.iload 4, 2) := by decide +kernel
theorem d_M_bits_33 : decode prog_8_method_29_code 33 = .ok (.iadd, 1) := by decide +kernel
theorem d_M_bits_34 : decode prog_8_method_29_code 34 = .ok (.baload, 1) := by decide +kernel
theorem d_M_bits_35 : decode prog_8_method_29_code 35 = .ok (.istore 5, 2) := by decide +kernel
theorem d_M_bits_37 : decode prog_8_method_29_code 37 = .ok (.iconst 2, 1) := by decide +kernel
theorem d_M_bits_38 : decode prog_8_method_29_code 38 = .ok (.iload_n 3, 1) := by decide +kernel
theorem d_M_bits_39 : decode prog_8_method_29_code 39 = .ok (.imul, 1) := by decide +kernel
theorem d_M_bits_40 : decode prog_8_method_29_code 40 = .ok (.iload 5, 2) := by decide +kernel
theorem d_M_bits_42 : decode prog_8_method_29_code 42 = .ok (.ifCond .eq 7, 3) := by decide +kernel
theorem d_M_bits_45 : decode prog_8_method_29_code 45 = .ok (.iconst 1, 1) := by decide +kernel
theorem d_M_bits_46 : decode prog_8_method_29_code 46 = .ok (.goto 4, 3) := by decide +kernel
theorem d_M_bits_49 : decode prog_8_method_29_code 49 = .ok (.iconst 0, 1) := by decide +kernel
theorem d_M_bits_50 : decode prog_8_method_29_code 50 = .ok (.iadd, 1) := by decide +kernel
theorem d_M_bits_51 : decode prog_8_method_29_code 51 = .ok (.istore_n 3, 1) := by decide +kernel
theorem d_M_bits_52 : decode prog_8_method_29_code 52 = .ok (.iinc 4 (-1), 3) := by decide +kernel
theorem d_M_bits_55 : decode prog_8_method_29_code 55 = .ok (.goto (-50), 3) := by decide +kernel
theorem d_M_bits_58 : decode prog_8_method_29_code 58 = .ok (.iload_n 3, 1) := by decide +kernel
theorem d_M_bits_59 : decode prog_8_method_29_code 59 = .ok (.ireturn, 1) := by decide +kernel
theorem d_M_learn_0 : decode prog_8_method_31_code 0 = .ok (.iload_n 1, 1) := by decide +kernel
theorem d_M_learn_1 : decode prog_8_method_31_code 1 = .ok (.invokestatic 106, 3) := by decide +kernel
theorem d_M_learn_4 : decode prog_8_method_31_code 4 = .ok (.ifCond .ne 5, 3) := by decide +kernel
theorem d_M_learn_7 : decode prog_8_method_31_code 7 = .ok (.iconst 0, 1) := by decide +kernel
theorem d_M_learn_8 : decode prog_8_method_31_code 8 = .ok (.ireturn, 1) := by decide +kernel
theorem d_M_learn_9 : decode prog_8_method_31_code 9 = .ok (.aload_n 0, 1) := by decide +kernel
theorem d_M_learn_10 : decode prog_8_method_31_code 10 = .ok (.getfield 39, 3) := by decide +kernel
theorem d_M_learn_13 : decode prog_8_method_31_code 13 = .ok (.iload_n 1, 1) := by decide +kernel
theorem d_M_learn_14 : decode prog_8_method_31_code 14 = .ok (.baload, 1) := by decide +kernel
theorem d_M_learn_15 : decode prog_8_method_31_code 15 = .ok (.ifCond .eq 16, 3) := by decide +kernel
theorem d_M_learn_18 : decode prog_8_method_31_code 18 = .ok (.aload_n 0, 1) := by decide +kernel
theorem d_M_learn_19 : decode prog_8_method_31_code 19 = .ok (.getfield 42, 3) := by decide +kernel
theorem d_M_learn_22 : decode prog_8_method_31_code 22 = .ok (.iload_n 1, 1) := by decide +kernel
theorem d_M_learn_23 : decode prog_8_method_31_code 23 = .ok (.iaload, 1) := by decide +kernel
theorem d_M_learn_24 : decode prog_8_method_31_code 24 = .ok (.aload_n 0, 1) := by decide +kernel
theorem d_M_learn_25 : decode prog_8_method_31_code 25 = .ok (.getfield 7, 3) := by decide +kernel
theorem d_M_learn_28 : decode prog_8_method_31_code 28 = .ok (.if_icmp .ne 5, 3) := by decide +kernel
theorem d_M_learn_31 : decode prog_8_method_31_code 31 = .ok (.iconst 0, 1) := by decide +kernel
theorem d_M_learn_32 : decode prog_8_method_31_code 32 = .ok (.ireturn, 1) := by decide +kernel
theorem d_M_learn_33 : decode prog_8_method_31_code 33 = .ok (.aload_n 0, 1) := by decide +kernel
theorem d_M_learn_34 : decode prog_8_method_31_code 34 = .ok (.getfield 42, 3) := by decide +kernel
theorem d_M_learn_37 : decode prog_8_method_31_code 37 = .ok (.iload_n 1, 1) := by decide +kernel
theorem d_M_learn_38 : decode prog_8_method_31_code 38 = .ok (.aload_n 0, 1) := by decide +kernel
theorem d_M_learn_39 : decode prog_8_method_31_code 39 = .ok (.getfield 7, 3) := by decide +kernel
theorem d_M_learn_42 : decode prog_8_method_31_code 42 = .ok (.iastore, 1) := by decide +kernel
theorem d_M_learn_43 : decode prog_8_method_31_code 43 = .ok (.aload_n 0, 1) := by decide +kernel
theorem d_M_learn_44 : decode prog_8_method_31_code 44 = .ok (.getfield 45, 3) := by decide +kernel
theorem d_M_learn_47 : decode prog_8_method_31_code 47 = .ok (.iload_n 1, 1) := by decide +kernel
theorem d_M_learn_48 : decode prog_8_method_31_code 48 = .ok (.aload_n 0, 1) := by decide +kernel
theorem d_M_learn_49 : decode prog_8_method_31_code 49 = .ok (.getfield 174, 3) := by decide +kernel
theorem d_M_learn_52 : decode prog_8_method_31_code 52 = .ok (.iastore, 1) := by decide +kernel
theorem d_M_learn_53 : decode prog_8_method_31_code 53 = .ok (.aload_n 0, 1) := by decide +kernel
theorem d_M_learn_54 : decode prog_8_method_31_code 54 = .ok (.getfield 51, 3) := by decide +kernel
theorem d_M_learn_57 : decode prog_8_method_31_code 57 = .ok (.iload_n 1, 1) := by decide +kernel
theorem d_M_learn_58 : decode prog_8_method_31_code 58 = .ok (.iconst 0, 1) := by decide +kernel
theorem d_M_learn_59 : decode prog_8_method_31_code 59 = .ok (.bastore, 1) := by decide +kernel
theorem d_M_learn_60 : decode prog_8_method_31_code 60 = .ok (.aload_n 0, 1) := by decide +kernel
theorem d_M_learn_61 : decode prog_8_method_31_code 61 = .ok (.getfield 174, 3) := by decide +kernel
theorem d_M_learn_64 : decode prog_8_method_31_code 64 = .ok (.iload_n 1, 1) := by decide +kernel
theorem d_M_learn_65 : decode prog_8_method_31_code 65 = .ok (.if_icmp .ne 8, 3) := by decide +kernel
theorem d_M_learn_68 : decode prog_8_method_31_code 68 = .ok (.aload_n 0, 1) := by decide +kernel
theorem d_M_learn_69 : decode prog_8_method_31_code 69 = .ok (.iload_n 1, 1) := by decide +kernel
theorem d_M_learn_70 : decode prog_8_method_31_code 70 = .ok (.invokevirtual 102, 3) := by decide +kernel
theorem d_M_learn_73 : decode prog_8_method_31_code 73 = .ok (.iconst 1, 1) := by decide +kernel
theorem d_M_learn_74 : decode prog_8_method_31_code 74 = .ok (.ireturn, 1) := by decide +kernel
theorem d_M_crash_0 : decode prog_8_method_32_code 0 = .ok (.iload_n 1, 1) := by decide +kernel
theorem d_M_crash_1 : decode prog_8_method_32_code 1 = .ok (.invokestatic 106, 3) := by decide +kernel
theorem d_M_crash_4 : decode prog_8_method_32_code 4 = .ok (.ifCond .ne 5, 3) := by decide +kernel
theorem d_M_crash_7 : decode prog_8_method_32_code 7 = .ok (.iconst 0, 1) := by decide +kernel
theorem d_M_crash_8 : decode prog_8_method_32_code 8 = .ok (.ireturn, 1) := by decide +kernel
theorem d_M_crash_9 : decode prog_8_method_32_code 9 = .ok (.aload_n 0, 1) := by decide +kernel
theorem d_M_crash_10 : decode prog_8_method_32_code 10 = .ok (.getfield 39, 3) := by decide +kernel
theorem d_M_crash_13 : decode prog_8_method_32_code 13 = .ok (.iload_n 1, 1) := by decide +kernel
theorem d_M_crash_14 : decode prog_8_method_32_code 14 = .ok (.baload, 1) := by decide +kernel
theorem d_M_crash_15 : decode prog_8_method_32_code 15 = .ok (.ifCond .ne 5, 3) := by decide +kernel
theorem d_M_crash_18 : decode prog_8_method_32_code 18 = .ok (.iconst 0, 1) := by decide +kernel
theorem d_M_crash_19 : decode prog_8_method_32_code 19 = .ok (.ireturn, 1) := by decide +kernel
theorem d_M_crash_20 : decode prog_8_method_32_code 20 = .ok (.aload_n 0, 1) := by decide +kernel
theorem d_M_crash_21 : decode prog_8_method_32_code 21 = .ok (.getfield 39, 3) := by decide +kernel
theorem d_M_crash_24 : decode prog_8_method_32_code 24 = .ok (.iload_n 1, 1) := by decide +kernel
theorem d_M_crash_25 : decode prog_8_method_32_code 25 = .ok (.iconst 0, 1) := by decide +kernel
theorem d_M_crash_26 : decode prog_8_method_32_code 26 = .ok (.bastore, 1) := by decide +kernel
theorem d_M_crash_27 : decode prog_8_method_32_code 27 = .ok (.aload_n 0, 1) := by decide +kernel
theorem d_M_crash_28 : decode prog_8_method_32_code 28 = .ok (.getfield 42, 3) := by decide +kernel
theorem d_M_crash_31 : decode prog_8_method_32_code 31 = .ok (.iload_n 1, 1) := by decide +kernel
theorem d_M_crash_32 : decode prog_8_method_32_code 32 = .ok (.iconst 0, 1) := by decide +kernel
theorem d_M_crash_33 : decode prog_8_method_32_code 33 = .ok (.iastore, 1) := by decide +kernel
theorem d_M_crash_34 : decode prog_8_method_32_code 34 = .ok (.aload_n 0, 1) := by decide +kernel
theorem d_M_crash_35 : decode prog_8_method_32_code 35 = .ok (.getfield 45, 3) := by decide +kernel
theorem d_M_crash_38 : decode prog_8_method_32_code 38 = .ok (.iload_n 1, 1) := by decide +kernel
theorem d_M_crash_39 : decode prog_8_method_32_code 39 = .ok (.iconst (-1), 1) := by decide +kernel
theorem d_M_crash_40 : decode prog_8_method_32_code 40 = .ok (.iastore, 1) := by decide +kernel
theorem d_M_crash_41 : decode prog_8_method_32_code 41 = .ok (.aload_n 0, 1) := by decide +kernel
theorem d_M_crash_42 : decode prog_8_method_32_code 42 = .ok (.getfield 51, 3) := by decide +kernel
theorem d_M_crash_45 : decode prog_8_method_32_code 45 = .ok (.iload_n 1, 1) := by decide +kernel
theorem d_M_crash_46 : decode prog_8_method_32_code 46 = .ok (.iconst 0, 1) := by decide +kernel
theorem d_M_crash_47 : decode prog_8_method_32_code 47 = .ok (.bastore, 1) := by decide +kernel
theorem d_M_crash_48 : decode prog_8_method_32_code 48 = .ok (.iconst 1, 1) := by decide +kernel
theorem d_M_crash_49 : decode prog_8_method_32_code 49 = .ok (.ireturn, 1) := by decide +kernel
theorem d_M_restart_0 : decode prog_8_method_33_code 0 = .ok (.iload_n 1, 1) := by decide +kernel
theorem d_M_restart_1 : decode prog_8_method_33_code 1 = .ok (.invokestatic 106, 3) := by decide +kernel
theorem d_M_restart_4 : decode prog_8_method_33_code 4 = .ok (.ifCond .ne 5, 3) := by decide +kernel
theorem d_M_restart_7 : decode prog_8_method_33_code 7 = .ok (.iconst 0, 1) := by decide +kernel
theorem d_M_restart_8 : decode prog_8_method_33_code 8 = .ok (.ireturn, 1) := by decide +kernel
theorem d_M_restart_9 : decode prog_8_method_33_code 9 = .ok (.aload_n 0, 1) := by decide +kernel
theorem d_M_restart_10 : decode prog_8_method_33_code 10 = .ok (.getfield 39, 3) := by decide +kernel
theorem d_M_restart_13 : decode prog_8_method_33_code 13 = .ok (.iload_n 1, 1) := by decide +kernel
theorem d_M_restart_14 : decode prog_8_method_33_code 14 = .ok (.baload, 1) := by decide +kernel
theorem d_M_restart_15 : decode prog_8_method_33_code 15 = .ok (.istore_n 2, 1) := by decide +kernel
theorem d_M_restart_16 : decode prog_8_method_33_code 16 = .ok (.aload_n 0, 1) := by decide +kernel
theorem d_M_restart_17 : decode prog_8_method_33_code 17 = .ok (.getfield 39, 3) := by decide +kernel
theorem d_M_restart_20 : decode prog_8_method_33_code 20 = .ok (.iload_n 1, 1) := by decide +kernel
theorem d_M_restart_21 : decode prog_8_method_33_code 21 = .ok (.iconst 1, 1) := by decide +kernel
theorem d_M_restart_22 : decode prog_8_method_33_code 22 = .ok (.bastore, 1) := by decide +kernel
theorem d_M_restart_23 : decode prog_8_method_33_code 23 = .ok (.iload_n 2, 1) := by decide +kernel
theorem d_M_restart_24 : decode prog_8_method_33_code 24 = .ok (.ifCond .ne 7, 3) := by decide +kernel
theorem d_M_restart_27 : decode prog_8_method_33_code 27 = .ok (.iconst 1, 1) := by decide +kernel
theorem d_M_restart_28 : decode prog_8_method_33_code 28 = .ok (.goto 4, 3) := by decide +kernel
theorem d_M_restart_31 : decode prog_8_method_33_code 31 = .ok (.iconst 0, 1) := by decide +kernel
theorem d_M_restart_32 : decode prog_8_method_33_code 32 = .ok (.ireturn, 1) := by decide +kernel
theorem d_M_govern_0 : decode prog_8_method_35_code 0 = .ok (.iconst (-1), 1) := by decide +kernel
theorem d_M_govern_1 : decode prog_8_method_35_code 1 = .ok (.istore_n 2, 1) := by decide +kernel
theorem d_M_govern_2 : decode prog_8_method_35_code 2 = .ok (.iconst 0, 1) := by decide +kernel
theorem d_M_govern_3 : decode prog_8_method_35_code 3 = .ok (.istore_n 3, 1) := by decide +kernel
theorem d_M_govern_4 : decode prog_8_method_35_code 4 = .ok (.iconst 3, 1) := by decide +kernel
theorem d_M_govern_5 : decode prog_8_method_35_code 5 = .ok (.istore 4, 2) := by decide +kernel
theorem d_M_govern_7 : decode prog_8_method_35_code 7 = .ok (.iload 4, 2) := by decide +kernel
theorem d_M_govern_9 : decode prog_8_method_35_code 9 = .ok (.ifCond .lt 65, 3) := by decide +kernel
theorem d_M_govern_12 : decode prog_8_method_35_code 12 = .ok (.aload_n 0, 1) := by decide +kernel
theorem d_M_govern_13 : decode prog_8_method_35_code 13 = .ok (.iload 4, 2) := by decide +kernel
theorem d_M_govern_15 : decode prog_8_method_35_code 15 = .ok (.iload_n 1, 1) := by decide +kernel
theorem d_M_govern_16 : decode prog_8_method_35_code 16 = .ok (.invokevirtual 177, 3) := by decide +kernel
theorem d_M_govern_19 : decode prog_8_method_35_code 19 = .ok (.istore 5, 2) := by decide +kernel
theorem d_M_govern_21 : decode prog_8_method_35_code 21 = .ok (.aload_n 0, 1) := by decide +kernel
theorem d_M_govern_22 : decode prog_8_method_35_code 22 = .ok (.getfield 13, 3) := by decide +kernel
theorem d_M_govern_25 : decode prog_8_method_35_code 25 = .ok (.iload 4, 2) := by decide +kernel
theorem d_M_govern_27 : decode prog_8_method_35_code 27 = .ok (.baload, 1) := by decide +kernel
theorem d_M_govern_28 : decode prog_8_method_35_code 28 = .ok (.ifCond .eq 13, 3) := by decide +kernel
theorem d_M_govern_31 : decode prog_8_method_35_code 31 = .ok (.iload 5, 2) := by decide +kernel
theorem d_M_govern_33 : decode prog_8_method_35_code 33 = .ok (.ifCond .eq 8, 3) := by decide +kernel
theorem d_M_govern_36 : decode prog_8_method_35_code 36 = .ok (.iload 4, 2) := by decide +kernel
theorem d_M_govern_38 : decode prog_8_method_35_code 38 = .ok (.goto 4, 3) := by decide +kernel
theorem d_M_govern_41 : decode prog_8_method_35_code 41 = .ok (.iload_n 2, 1) := by decide +kernel
theorem d_M_govern_42 : decode prog_8_method_35_code 42 = .ok (.istore_n 2, 1) := by decide +kernel
theorem d_M_govern_43 : decode prog_8_method_35_code 43 = .ok (.iload_n 3, 1) := by decide +kernel
theorem d_M_govern_44 : decode prog_8_method_35_code 44 = .ok (.ifCond .ne 18, 3) := by decide +kernel
theorem d_M_govern_47 : decode prog_8_method_35_code 47 = .ok (.aload_n 0, 1) := by decide +kernel
theorem d_M_govern_48 : decode prog_8_method_35_code 48 = .ok (.getfield 13, 3) := by decide +kernel
theorem d_M_govern_51 : decode prog_8_method_35_code 51 = .ok (.iload 4, 2) := by decide +kernel
theorem d_M_govern_53 : decode prog_8_method_35_code 53 = .ok (.baload, 1) := by decide +kernel
theorem d_M_govern_54 : decode prog_8_method_35_code 54 = .ok (.ifCond .eq 12, 3) := by decide +kernel
theorem d_M_govern_57 : decode prog_8_method_35_code 57 = .ok (.iload 5, 2) := by decide +kernel
theorem d_M_govern_59 : decode prog_8_method_35_code 59 = .ok (.ifCond .ne 7, 3) := by decide +kernel
theorem d_M_govern_62 : decode prog_8_method_35_code 62 = .ok (.iconst 1, 1) := by decide +kernel
theorem d_M_govern_63 : decode prog_8_method_35_code 63 = .ok (.goto 4, 3) := by decide +kernel
theorem d_M_govern_66 : decode prog_8_method_35_code 66 = .ok (.iconst 0, 1) := by decide +kernel
theorem d_M_govern_67 : decode prog_8_method_35_code 67 = .ok (.istore_n 3, 1) := by decide +kernel
theorem d_M_govern_68 : decode prog_8_method_35_code 68 = .ok (.iinc 4 (-1), 3) := by decide +kernel
theorem d_M_govern_71 : decode prog_8_method_35_code 71 = .ok (.goto (-64), 3) := by decide +kernel
theorem d_M_govern_74 : decode prog_8_method_35_code 74 = .ok (.aload_n 0, 1) := by decide +kernel
theorem d_M_govern_75 : decode prog_8_method_35_code 75 = .ok (.getfield 174, 3) := by decide +kernel
theorem d_M_govern_78 : decode prog_8_method_35_code 78 = .ok (.ifCond .lt 7, 3) := by decide +kernel
theorem d_M_govern_81 : decode prog_8_method_35_code 81 = .ok (.iconst 1, 1) := by decide +kernel
theorem d_M_govern_82 : decode prog_8_method_35_code 82 = .ok (.goto 4, 3) := by decide +kernel
theorem d_M_govern_85 : decode prog_8_method_35_code 85 = .ok (.iconst 0, 1) := by decide +kernel
theorem d_M_govern_86 : decode prog_8_method_35_code 86 = .ok (.istore 4, 2) := by decide +kernel
theorem d_M_govern_88 : decode prog_8_method_35_code 88 = .ok (.iload_n 2, 1) := by decide +kernel
theorem d_M_govern_89 : decode prog_8_method_35_code 89 = .ok (.ifCond .ge 33, 3) := by decide +kernel
theorem d_M_govern_92 : decode prog_8_method_35_code 92 = .ok (.aload_n 0, 1) := by decide +kernel
theorem d_M_govern_93 : decode prog_8_method_35_code 93 = .ok (.iconst (-1), 1) := by decide +kernel
theorem d_M_govern_94 : decode prog_8_method_35_code 94 = .ok (.putfield 174, 3) := by decide +kernel
theorem d_M_govern_97 : decode prog_8_method_35_code 97 = .ok (.aload_n 0, 1) := by decide +kernel
theorem d_M_govern_98 : decode prog_8_method_35_code 98 = .ok (.iload 4, 2) := by decide +kernel
theorem d_M_govern_100 : decode prog_8_method_35_code 100 = .ok (.ifCond .eq 12, 3) := by decide +kernel
theorem d_M_govern_103 : decode prog_8_method_35_code 103 = .ok (.aload_n 0, 1) := by decide +kernel
theorem d_M_govern_104 : decode prog_8_method_35_code 104 = .ok (.getfield 7, 3) := by decide +kernel
theorem d_M_govern_107 : decode prog_8_method_35_code 107 = .ok (.iconst 1, 1) := by decide +kernel
theorem d_M_govern_108 : decode prog_8_method_35_code 108 = .ok (.iadd, 1) := by decide +kernel
theorem d_M_govern_109 : decode prog_8_method_35_code 109 = .ok (.goto 7, 3) := by decide +kernel
theorem d_M_govern_112 : decode prog_8_method_35_code 112 = .ok (.aload_n 0, 1) := by decide +kernel
theorem d_M_govern_113 : decode prog_8_method_35_code 113 = .ok (.getfield 7, 3) := by decide +kernel
theorem d_M_govern_116 : decode prog_8_method_35_code 116 = .ok (.putfield 7, 3) := by decide +kernel
theorem d_M_govern_119 : decode prog_8_method_35_code 119 = .ok (.iload 4, 2) := by decide +kernel
theorem d_M_govern_121 : decode prog_8_method_35_code 121 = .ok (.ireturn, 1) := by decide +kernel
theorem d_M_govern_122 : decode prog_8_method_35_code 122 = .ok (.iload 4, 2) := by decide +kernel
theorem d_M_govern_124 : decode prog_8_method_35_code 124 = .ok (.ifCond .eq 19, 3) := by decide +kernel
theorem d_M_govern_127 : decode prog_8_method_35_code 127 = .ok (.aload_n 0, 1) := by decide +kernel
theorem d_M_govern_128 : decode prog_8_method_35_code 128 = .ok (.aload_n 0, 1) := by decide +kernel
theorem d_M_govern_129 : decode prog_8_method_35_code 129 = .ok (.getfield 174, 3) := by decide +kernel
theorem d_M_govern_132 : decode prog_8_method_35_code 132 = .ok (.iload_n 1, 1) := by decide +kernel
theorem d_M_govern_133 : decode prog_8_method_35_code 133 = .ok (.invokevirtual 177, 3) := by decide +kernel
theorem d_M_govern_136 : decode prog_8_method_35_code 136 = .ok (.ifCond .eq 7, 3) := by decide +kernel
theorem d_M_govern_139 : decode prog_8_method_35_code 139 = .ok (.iconst 1, 1) := by decide +kernel
theorem d_M_govern_140 : decode prog_8_method_35_code 140 = .ok (.goto 4, 3) := by decide +kernel
theorem d_M_govern_143 : decode prog_8_method_35_code 143 = .ok (.iconst 0, 1) := by decide +kernel
theorem d_M_govern_144 : decode prog_8_method_35_code 144 = .ok (.istore 5, 2) := by decide +kernel
theorem d_M_govern_146 : decode prog_8_method_35_code 146 = .ok (.iload 5, 2) := by decide +kernel
theorem d_M_govern_148 : decode prog_8_method_35_code 148 = .ok (.ifCond .eq 9, 3) := by decide +kernel
theorem d_M_govern_151 : decode prog_8_method_35_code 151 = .ok (.iload_n 3, 1) := by decide +kernel
theorem d_M_govern_152 : decode prog_8_method_35_code 152 = .ok (.ifCond .ne 5, 3) := by decide +kernel
theorem d_M_govern_155 : decode prog_8_method_35_code 155 = .ok (.iconst 0, 1) := by decide +kernel
theorem d_M_govern_156 : decode prog_8_method_35_code 156 = .ok (.ireturn, 1) := by decide +kernel
theorem d_M_govern_157 : decode prog_8_method_35_code 157 = .ok (.aload_n 0, 1) := by decide +kernel
theorem d_M_govern_158 : decode prog_8_method_35_code 158 = .ok (.iload 5, 2) := by decide +kernel
theorem d_M_govern_160 : decode prog_8_method_35_code 160 = .ok (.ifCond .eq 10, 3) := by decide +kernel
theorem d_M_govern_163 : decode prog_8_method_35_code 163 = .ok (.aload_n 0, 1) := by decide +kernel
theorem d_M_govern_164 : decode prog_8_method_35_code 164 = .ok (.getfield 174, 3) := by decide +kernel
theorem d_M_govern_167 : decode prog_8_method_35_code 167 = .ok (.goto 4, 3) := by decide +kernel
theorem d_M_govern_170 : decode prog_8_method_35_code 170 = .ok (.iload_n 2, 1) := by decide +kernel
theorem d_M_govern_171 : decode prog_8_method_35_code 171 = .ok (.putfield 174, 3) := by decide +kernel
theorem d_M_govern_174 : decode prog_8_method_35_code 174 = .ok (.iconst 0, 1) := by decide +kernel
theorem d_M_govern_175 : decode prog_8_method_35_code 175 = .ok (.istore 6, 2) := by decide +kernel
theorem d_M_govern_177 : decode prog_8_method_35_code 177 = .ok (.iload 6, 2) := by decide +kernel
theorem d_M_govern_179 : decode prog_8_method_35_code 179 = .ok (.iconst 4, 1) := by decide +kernel
theorem d_M_govern_180 : decode prog_8_method_35_code 180 = .ok (.if_icmp .ge 41, 3) := by decide +kernel
theorem d_M_govern_183 : decode prog_8_method_35_code 183 = .ok (.aload_n 0, 1) := by decide +kernel
theorem d_M_govern_184 : decode prog_8_method_35_code 184 = .ok (.getfield 13, 3) := by decide +kernel
theorem d_M_govern_187 : decode prog_8_method_35_code 187 = .ok (.iload 6, 2) := by decide +kernel
theorem d_M_govern_189 : decode prog_8_method_35_code 189 = .ok (.aload_n 0, 1) := by decide +kernel
theorem d_M_govern_190 : decode prog_8_method_35_code 190 = .ok (.getfield 13, 3) := by decide +kernel
theorem d_M_govern_193 : decode prog_8_method_35_code 193 = .ok (.iload 6, 2) := by decide +kernel
theorem d_M_govern_195 : decode prog_8_method_35_code 195 = .ok (.baload, 1) := by decide +kernel
theorem d_M_govern_196 : decode prog_8_method_35_code 196 = .ok (.ifCond .eq 17, 3) := by decide +kernel
theorem d_M_govern_199 : decode prog_8_method_35_code 199 = .ok (.aload_n 0, 1) := by decide +kernel
theorem d_M_govern_200 : decode prog_8_method_35_code 200 = .ok (.iload 6, 2) := by decide +kernel
theorem d_M_govern_202 : decode prog_8_method_35_code 202 = .ok (.iload_n 1, 1) := by decide +kernel
theorem d_M_govern_203 : decode prog_8_method_35_code 203 = .ok (.invokevirtual 177, 3) := by decide +kernel
theorem d_M_govern_206 : decode prog_8_method_35_code 206 = .ok (.ifCond .eq 7, 3) := by decide +kernel
theorem d_M_govern_209 : decode prog_8_method_35_code 209 = .ok (.iconst 1, 1) := by decide +kernel
theorem d_M_govern_210 : decode prog_8_method_35_code 210 = .ok (.goto 4, 3) := by decide +kernel
theorem d_M_govern_213 : decode prog_8_method_35_code 213 = .ok (.iconst 0, 1) := by decide +kernel
theorem d_M_govern_214 : decode prog_8_method_35_code 214 = .ok (.bastore, 1) := by decide +kernel
theorem d_M_govern_215 : decode prog_8_method_35_code 215 = .ok (.iinc 6 1, 3) := by decide +kernel
theorem d_M_govern_218 : decode prog_8_method_35_code 218 = .ok (.goto (-41), 3) := by decide +kernel
theorem d_M_govern_221 : decode prog_8_method_35_code 221 = .ok (.aload_n 0, 1) := by decide +kernel
theorem d_M_govern_222 : decode prog_8_method_35_code 222 = .ok (.dup, 1) := by decide +kernel
theorem d_M_govern_223 : decode prog_8_method_35_code 223 = .ok (.getfield 7, 3) := by decide +kernel
theorem d_M_govern_226 : decode prog_8_method_35_code 226 = .ok (.iconst 1, 1) := by decide +kernel
theorem d_M_govern_227 : decode prog_8_method_35_code 227 = .ok (.iadd, 1) := by decide +kernel
theorem d_M_govern_228 : decode prog_8_method_35_code 228 = .ok (.putfield 7, 3) := by decide +kernel
theorem d_M_govern_231 : decode prog_8_method_35_code 231 = .ok (.iconst 1, 1) := by decide +kernel
theorem d_M_govern_232 : decode prog_8_method_35_code 232 = .ok (.ireturn, 1) := by decide +kernel
theorem d_M_alive_0 : decode prog_8_method_34_code 0 = .ok (.aload_n 0, 1) := by decide +kernel
theorem d_M_alive_1 : decode prog_8_method_34_code 1 = .ok (.getfield 39, 3) := by decide +kernel
theorem d_M_alive_4 : decode prog_8_method_34_code 4 = .ok (.iload_n 1, 1) := by decide +kernel
theorem d_M_alive_5 : decode prog_8_method_34_code 5 = .ok (.baload, 1) := by decide +kernel
theorem d_M_alive_6 : decode prog_8_method_34_code 6 = .ok (.ifCond .eq 15, 3) := by decide +kernel
theorem d_M_alive_9 : decode prog_8_method_34_code 9 = .ok (.iload_n 2, 1) := by decide +kernel
theorem d_M_alive_10 : decode prog_8_method_34_code 10 = .ok (.iload_n 1, 1) := by decide +kernel
theorem d_M_alive_11 : decode prog_8_method_34_code 11 = .ok (.ishr, 1) := by decide +kernel
theorem d_M_alive_12 : decode prog_8_method_34_code 12 = .ok (.iconst 1, 1) := by decide +kernel
theorem d_M_alive_13 : decode prog_8_method_34_code 13 = .ok (.iand, 1) := by decide +kernel
theorem d_M_alive_14 : decode prog_8_method_34_code 14 = .ok (.ifCond .ne 7, 3) := by decide +kernel
theorem d_M_alive_17 : decode prog_8_method_34_code 17 = .ok (.iconst 1, 1) := by decide +kernel
theorem d_M_alive_18 : decode prog_8_method_34_code 18 = .ok (.goto 4, 3) := by decide +kernel
theorem d_M_alive_21 : decode prog_8_method_34_code 21 = .ok (.iconst 0, 1) := by decide +kernel
theorem d_M_alive_22 : decode prog_8_method_34_code 22 = .ok (.ireturn, 1) := by decide +kernel
theorem d_M_tick_0 : decode prog_8_method_36_code 0 = .ok (.iload_n 1, 1) := by decide +kernel
theorem d_M_tick_1 : decode prog_8_method_36_code 1 = .ok (.ifCond .lt 9, 3) := by decide +kernel
theorem d_M_tick_4 : decode prog_8_method_36_code 4 = .ok (.iload_n 1, 1) := by decide +kernel
theorem d_M_tick_5 : decode prog_8_method_36_code 5 = .ok (.bipush 50, 2) := by decide +kernel
theorem d_M_tick_7 : decode prog_8_method_36_code 7 = .ok (.if_icmp .le 5, 3) := by decide +kernel
theorem d_M_tick_10 : decode prog_8_method_36_code 10 = .ok (.iconst 0, 1) := by decide +kernel
theorem d_M_tick_11 : decode prog_8_method_36_code 11 = .ok (.ireturn, 1) := by decide +kernel
theorem d_M_tick_12 : decode prog_8_method_36_code 12 = .ok (.aload_n 0, 1) := by decide +kernel
theorem d_M_tick_13 : decode prog_8_method_36_code 13 = .ok (.dup, 1) := by decide +kernel
theorem d_M_tick_14 : decode prog_8_method_36_code 14 = .ok (.getfield 110, 3) := by decide +kernel
theorem d_M_tick_17 : decode prog_8_method_36_code 17 = .ok (.iload_n 1, 1) := by decide +kernel
theorem d_M_tick_18 : decode prog_8_method_36_code 18 = .ok (.iadd, 1) := by decide +kernel
theorem d_M_tick_19 : decode prog_8_method_36_code 19 = .ok (.putfield 110, 3) := by decide +kernel
theorem d_M_tick_22 : decode prog_8_method_36_code 22 = .ok (.iconst 1, 1) := by decide +kernel
theorem d_M_tick_23 : decode prog_8_method_36_code 23 = .ok (.ireturn, 1) := by decide +kernel
theorem d_M_controller_0 : decode prog_8_method_37_code 0 = .ok (.iload_n 1, 1) := by decide +kernel
theorem d_M_controller_1 : decode prog_8_method_37_code 1 = .ok (.ifCond .ne 10, 3) := by decide +kernel
theorem d_M_controller_4 : decode prog_8_method_37_code 4 = .ok (.aload_n 0, 1) := by decide +kernel
theorem d_M_controller_5 : decode prog_8_method_37_code 5 = .ok (.getfield 7, 3) := by decide +kernel
theorem d_M_controller_8 : decode prog_8_method_37_code 8 = .ok (.goto 30, 3) := by decide +kernel
theorem d_M_controller_11 : decode prog_8_method_37_code 11 = .ok (.iload_n 1, 1) := by decide +kernel
theorem d_M_controller_12 : decode prog_8_method_37_code 12 = .ok (.iconst 1, 1) := by decide +kernel
theorem d_M_controller_13 : decode prog_8_method_37_code 13 = .ok (.if_icmp .ne 10, 3) := by decide +kernel
theorem d_M_controller_16 : decode prog_8_method_37_code 16 = .ok (.aload_n 0, 1) := by decide +kernel
theorem d_M_controller_17 : decode prog_8_method_37_code 17 = .ok (.getfield 174, 3) := by decide +kernel
theorem d_M_controller_20 : decode prog_8_method_37_code 20 = .ok (.goto 18, 3) := by decide +kernel
theorem d_M_controller_23 : decode prog_8_method_37_code 23 = .ok (.iload_n 1, 1) := by decide +kernel
theorem d_M_controller_24 : decode prog_8_method_37_code 24 = .ok (.iconst 2, 1) := by decide +kernel
theorem d_M_controller_25 : decode prog_8_method_37_code 25 = .ok (.if_icmp .ne 12, 3) := by decide +kernel
theorem d_M_controller_28 : decode prog_8_method_37_code 28 = .ok (.aload_n 0, 1) := by decide +kernel
theorem d_M_controller_29 : decode prog_8_method_37_code 29 = .ok (.iconst 1, 1) := by decide +kernel
theorem d_M_controller_30 : decode prog_8_method_37_code 30 = .ok (.iconst 0, 1) := by decide +kernel
theorem d_M_controller_31 : decode prog_8_method_37_code 31 = .ok (.invokevirtual 170, 3) := by decide +kernel
theorem d_M_controller_34 : decode prog_8_method_37_code 34 = .ok (.goto 4, 3) := by decide +kernel
theorem d_M_controller_37 : decode prog_8_method_37_code 37 = .ok (.iconst (-1), 1) := by decide +kernel
theorem d_M_controller_38 : decode prog_8_method_37_code 38 = .ok (.ireturn, 1) := by decide +kernel
theorem d_M_broker_0 : decode prog_8_method_38_code 0 = .ok (.iload_n 1, 1) := by decide +kernel
theorem d_M_broker_1 : decode prog_8_method_38_code 1 = .ok (.invokestatic 106, 3) := by decide +kernel
theorem d_M_broker_4 : decode prog_8_method_38_code 4 = .ok (.ifCond .ne 5, 3) := by decide +kernel
theorem d_M_broker_7 : decode prog_8_method_38_code 7 = .ok (.iconst (-1), 1) := by decide +kernel
theorem d_M_broker_8 : decode prog_8_method_38_code 8 = .ok (.ireturn, 1) := by decide +kernel
theorem d_M_broker_9 : decode prog_8_method_38_code 9 = .ok (.iload_n 2, 1) := by decide +kernel
theorem d_M_broker_10 : decode prog_8_method_38_code 10 = .ok (.tableswitch 116 0 6 #[42, 57, 64, 71, 90, 102, 109], 42) := by decide +kernel
theorem d_M_broker_52 : decode prog_8_method_38_code 52 = .ok (.aload_n 0, 1) := by decide +kernel
theorem d_M_broker_53 : decode prog_8_method_38_code 53 = .ok (.getfield 39, 3) := by decide +kernel
theorem d_M_broker_56 : decode prog_8_method_38_code 56 = .ok (.iload_n 1, 1) := by decide +kernel
theorem d_M_broker_57 : decode prog_8_method_38_code 57 = .ok (.baload, 1) := by decide +kernel
theorem d_M_broker_58 : decode prog_8_method_38_code 58 = .ok (.ifCond .eq 7, 3) := by decide +kernel
theorem d_M_broker_61 : decode prog_8_method_38_code 61 = .ok (.iconst 1, 1) := by decide +kernel
theorem d_M_broker_62 : decode prog_8_method_38_code 62 = .ok (.goto 4, 3) := by decide +kernel
theorem d_M_broker_65 : decode prog_8_method_38_code 65 = .ok (.iconst 0, 1) := by decide +kernel
theorem d_M_broker_66 : decode prog_8_method_38_code 66 = .ok (.ireturn, 1) := by decide +kernel
theorem d_M_broker_67 : decode prog_8_method_38_code 67 = .ok (.aload_n 0, 1) := by decide +kernel
theorem d_M_broker_68 : decode prog_8_method_38_code 68 = .ok (.getfield 42, 3) := by decide +kernel
theorem d_M_broker_71 : decode prog_8_method_38_code 71 = .ok (.iload_n 1, 1) := by decide +kernel
theorem d_M_broker_72 : decode prog_8_method_38_code 72 = .ok (.iaload, 1) := by decide +kernel
theorem d_M_broker_73 : decode prog_8_method_38_code 73 = .ok (.ireturn, 1) := by decide +kernel
theorem d_M_broker_74 : decode prog_8_method_38_code 74 = .ok (.aload_n 0, 1) := by decide +kernel
theorem d_M_broker_75 : decode prog_8_method_38_code 75 = .ok (.getfield 45, 3) := by decide +kernel
theorem d_M_broker_78 : decode prog_8_method_38_code 78 = .ok (.iload_n 1, 1) := by decide +kernel
theorem d_M_broker_79 : decode prog_8_method_38_code 79 = .ok (.iaload, 1) := by decide +kernel
theorem d_M_broker_80 : decode prog_8_method_38_code 80 = .ok (.ireturn, 1) := by decide +kernel
theorem d_M_broker_81 : decode prog_8_method_38_code 81 = .ok (.aload_n 0, 1) := by decide +kernel
theorem d_M_broker_82 : decode prog_8_method_38_code 82 = .ok (.iload_n 1, 1) := by decide +kernel
theorem d_M_broker_83 : decode prog_8_method_38_code 83 = .ok (.invokevirtual 123, 3) := by decide +kernel
theorem d_M_broker_86 : decode prog_8_method_38_code 86 = .ok (.ifCond .eq 12, 3) := by decide +kernel
theorem d_M_broker_89 : decode prog_8_method_38_code 89 = .ok (.aload_n 0, 1) := by decide +kernel
theorem d_M_broker_90 : decode prog_8_method_38_code 90 = .ok (.iconst 0, 1) := by decide +kernel
theorem d_M_broker_91 : decode prog_8_method_38_code 91 = .ok (.iload_n 1, 1) := by decide +kernel
theorem d_M_broker_92 : decode prog_8_method_38_code 92 = .ok (.invokevirtual 170, 3) := by decide +kernel
theorem d_M_broker_95 : decode prog_8_method_38_code 95 = .ok (.goto 4, 3) := by decide +kernel
theorem d_M_broker_98 : decode prog_8_method_38_code 98 = .ok (.iconst 0, 1) := by decide +kernel
theorem d_M_broker_99 : decode prog_8_method_38_code 99 = .ok (.ireturn, 1) := by decide +kernel
theorem d_M_broker_100 : decode prog_8_method_38_code 100 = .ok (.aload_n 0, 1) := by decide +kernel
theorem d_M_broker_101 : decode prog_8_method_38_code 101 = .ok (.getfield 21, 3) := by decide +kernel
theorem d_M_broker_104 : decode prog_8_method_38_code 104 = .ok (.aload_n 0, 1) := by decide +kernel
theorem d_M_broker_105 : decode prog_8_method_38_code 105 = .ok (.getfield 33, 3) := by decide +kernel
theorem d_M_broker_108 : decode prog_8_method_38_code 108 = .ok (.iload_n 1, 1) := by decide +kernel
theorem d_M_broker_109 : decode prog_8_method_38_code 109 = .ok (.iaload, 1) := by decide +kernel
theorem d_M_broker_110 : decode prog_8_method_38_code 110 = .ok (.iaload, 1) := by decide +kernel
theorem d_M_broker_111 : decode prog_8_method_38_code 111 = .ok (.ireturn, 1) := by decide +kernel
theorem d_M_broker_112 : decode prog_8_method_38_code 112 = .ok (.aload_n 0, 1) := by decide +kernel
theorem d_M_broker_113 : decode prog_8_method_38_code 113 = .ok (.getfield 36, 3) := by decide +kernel
theorem d_M_broker_116 : decode prog_8_method_38_code 116 = .ok (.iload_n 1, 1) := by decide +kernel
theorem d_M_broker_117 : decode prog_8_method_38_code 117 = .ok (.iaload, 1) := by decide +kernel
theorem d_M_broker_118 : decode prog_8_method_38_code 118 = .ok (.ireturn, 1) := by decide +kernel
theorem d_M_broker_119 : decode prog_8_method_38_code 119 = .ok (.aload_n 0, 1) := by decide +kernel
theorem d_M_broker_120 : decode prog_8_method_38_code 120 = .ok (.getfield 48, 3) := by decide +kernel
theorem d_M_broker_123 : decode prog_8_method_38_code 123 = .ok (.iload_n 1, 1) := by decide +kernel
theorem d_M_broker_124 : decode prog_8_method_38_code 124 = .ok (.iaload, 1) := by decide +kernel
theorem d_M_broker_125 : decode prog_8_method_38_code 125 = .ok (.ireturn, 1) := by decide +kernel
theorem d_M_broker_126 : decode prog_8_method_38_code 126 = .ok (.iconst (-1), 1) := by decide +kernel
theorem d_M_broker_127 : decode prog_8_method_38_code 127 = .ok (.ireturn, 1) := by decide +kernel
