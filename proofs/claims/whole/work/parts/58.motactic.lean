/-! ===== the model: tactic, the open goals move ===== -/
theorem dMO_tactic_0 : decode prog_13_method_62_code 0 = .ok (.iload_n 1, 1) := by decide +kernel
theorem dMO_tactic_1 : decode prog_13_method_62_code 1 = .ok (.iconst 2, 1) := by decide +kernel
theorem dMO_tactic_2 : decode prog_13_method_62_code 2 = .ok (.if_icmp .eq (9), 3) := by decide +kernel
theorem dMO_tactic_5 : decode prog_13_method_62_code 5 = .ok (.iload_n 1, 1) := by decide +kernel
theorem dMO_tactic_6 : decode prog_13_method_62_code 6 = .ok (.bipush (6), 2) := by decide +kernel
theorem dMO_tactic_8 : decode prog_13_method_62_code 8 = .ok (.if_icmp .ne (11), 3) := by decide +kernel
theorem dMO_tactic_11 : decode prog_13_method_62_code 11 = .ok (.aload_n 0, 1) := by decide +kernel
theorem dMO_tactic_12 : decode prog_13_method_62_code 12 = .ok (.iload_n 2, 1) := by decide +kernel
theorem dMO_tactic_13 : decode prog_13_method_62_code 13 = .ok (.invokevirtual 200, 3) := by decide +kernel
theorem dMO_tactic_16 : decode prog_13_method_62_code 16 = .ok (.goto (37), 3) := by decide +kernel
theorem dMO_tactic_19 : decode prog_13_method_62_code 19 = .ok (.iload_n 1, 1) := by decide +kernel
theorem dMO_tactic_20 : decode prog_13_method_62_code 20 = .ok (.iconst 4, 1) := by decide +kernel
theorem dMO_tactic_21 : decode prog_13_method_62_code 21 = .ok (.if_icmp .ne (13), 3) := by decide +kernel
theorem dMO_tactic_24 : decode prog_13_method_62_code 24 = .ok (.iload_n 2, 1) := by decide +kernel
theorem dMO_tactic_25 : decode prog_13_method_62_code 25 = .ok (.iconst 0, 1) := by decide +kernel
theorem dMO_tactic_26 : decode prog_13_method_62_code 26 = .ok (.bipush (7), 2) := by decide +kernel
theorem dMO_tactic_28 : decode prog_13_method_62_code 28 = .ok (.invokestatic 102, 3) := by decide +kernel
theorem dMO_tactic_31 : decode prog_13_method_62_code 31 = .ok (.goto (22), 3) := by decide +kernel
theorem dMO_tactic_34 : decode prog_13_method_62_code 34 = .ok (.iload_n 1, 1) := by decide +kernel
theorem dMO_tactic_35 : decode prog_13_method_62_code 35 = .ok (.bipush (8), 2) := by decide +kernel
theorem dMO_tactic_37 : decode prog_13_method_62_code 37 = .ok (.if_icmp .ne (11), 3) := by decide +kernel
theorem dMO_tactic_40 : decode prog_13_method_62_code 40 = .ok (.aload_n 0, 1) := by decide +kernel
theorem dMO_tactic_41 : decode prog_13_method_62_code 41 = .ok (.iload_n 2, 1) := by decide +kernel
theorem dMO_tactic_42 : decode prog_13_method_62_code 42 = .ok (.invokevirtual 219, 3) := by decide +kernel
theorem dMO_tactic_45 : decode prog_13_method_62_code 45 = .ok (.ifCond .eq (7), 3) := by decide +kernel
theorem dMO_tactic_48 : decode prog_13_method_62_code 48 = .ok (.iconst 1, 1) := by decide +kernel
theorem dMO_tactic_49 : decode prog_13_method_62_code 49 = .ok (.goto (4), 3) := by decide +kernel
theorem dMO_tactic_52 : decode prog_13_method_62_code 52 = .ok (.iconst 0, 1) := by decide +kernel
theorem dMO_tactic_53 : decode prog_13_method_62_code 53 = .ok (.istore_n 3, 1) := by decide +kernel
theorem dMO_tactic_54 : decode prog_13_method_62_code 54 = .ok (.iload_n 1, 1) := by decide +kernel
theorem dMO_tactic_55 : decode prog_13_method_62_code 55 = .ok (.iconst 0, 1) := by decide +kernel
theorem dMO_tactic_56 : decode prog_13_method_62_code 56 = .ok (.bipush (8), 2) := by decide +kernel
theorem dMO_tactic_58 : decode prog_13_method_62_code 58 = .ok (.invokestatic 102, 3) := by decide +kernel
theorem dMO_tactic_61 : decode prog_13_method_62_code 61 = .ok (.ifCond .eq (14), 3) := by decide +kernel
theorem dMO_tactic_64 : decode prog_13_method_62_code 64 = .ok (.aload_n 0, 1) := by decide +kernel
theorem dMO_tactic_65 : decode prog_13_method_62_code 65 = .ok (.getfield 273, 3) := by decide +kernel
theorem dMO_tactic_68 : decode prog_13_method_62_code 68 = .ok (.ifCond .eq (7), 3) := by decide +kernel
theorem dMO_tactic_71 : decode prog_13_method_62_code 71 = .ok (.iload_n 3, 1) := by decide +kernel
theorem dMO_tactic_72 : decode prog_13_method_62_code 72 = .ok (.ifCond .ne (5), 3) := by decide +kernel
theorem dMO_tactic_75 : decode prog_13_method_62_code 75 = .ok (.iconst (-1), 1) := by decide +kernel
theorem dMO_tactic_76 : decode prog_13_method_62_code 76 = .ok (.ireturn, 1) := by decide +kernel
theorem dMO_tactic_77 : decode prog_13_method_62_code 77 = .ok (.aload_n 0, 1) := by decide +kernel
theorem dMO_tactic_78 : decode prog_13_method_62_code 78 = .ok (.getfield 67, 3) := by decide +kernel
theorem dMO_tactic_81 : decode prog_13_method_62_code 81 = .ok (.iconst 0, 1) := by decide +kernel
theorem dMO_tactic_82 : decode prog_13_method_62_code 82 = .ok (.iaload, 1) := by decide +kernel
theorem dMO_tactic_83 : decode prog_13_method_62_code 83 = .ok (.istore 4, 2) := by decide +kernel
theorem dMO_tactic_85 : decode prog_13_method_62_code 85 = .ok (.aload_n 0, 1) := by decide +kernel
theorem dMO_tactic_86 : decode prog_13_method_62_code 86 = .ok (.iload_n 1, 1) := by decide +kernel
theorem dMO_tactic_87 : decode prog_13_method_62_code 87 = .ok (.iload_n 2, 1) := by decide +kernel
theorem dMO_tactic_88 : decode prog_13_method_62_code 88 = .ok (.iload 4, 2) := by decide +kernel
theorem dMO_tactic_90 : decode prog_13_method_62_code 90 = .ok (.invokevirtual 284, 3) := by decide +kernel
theorem dMO_tactic_93 : decode prog_13_method_62_code 93 = .ok (.ifCond .ne (6), 3) := by decide +kernel
theorem dMO_tactic_96 : decode prog_13_method_62_code 96 = .ok (.bipush (-4), 2) := by decide +kernel
theorem dMO_tactic_98 : decode prog_13_method_62_code 98 = .ok (.ireturn, 1) := by decide +kernel
theorem dMO_tactic_99 : decode prog_13_method_62_code 99 = .ok (.aload_n 0, 1) := by decide +kernel
theorem dMO_tactic_100 : decode prog_13_method_62_code 100 = .ok (.iconst 0, 1) := by decide +kernel
theorem dMO_tactic_101 : decode prog_13_method_62_code 101 = .ok (.putfield 124, 3) := by decide +kernel
theorem dMO_tactic_104 : decode prog_13_method_62_code 104 = .ok (.aload_n 0, 1) := by decide +kernel
theorem dMO_tactic_105 : decode prog_13_method_62_code 105 = .ok (.iload_n 1, 1) := by decide +kernel
theorem dMO_tactic_106 : decode prog_13_method_62_code 106 = .ok (.iload_n 2, 1) := by decide +kernel
theorem dMO_tactic_107 : decode prog_13_method_62_code 107 = .ok (.aload_n 0, 1) := by decide +kernel
theorem dMO_tactic_108 : decode prog_13_method_62_code 108 = .ok (.getfield 46, 3) := by decide +kernel
theorem dMO_tactic_111 : decode prog_13_method_62_code 111 = .ok (.iload 4, 2) := by decide +kernel
theorem dMO_tactic_113 : decode prog_13_method_62_code 113 = .ok (.iaload, 1) := by decide +kernel
theorem dMO_tactic_114 : decode prog_13_method_62_code 114 = .ok (.invokevirtual 287, 3) := by decide +kernel
theorem dMO_tactic_117 : decode prog_13_method_62_code 117 = .ok (.istore 5, 2) := by decide +kernel
theorem dMO_tactic_119 : decode prog_13_method_62_code 119 = .ok (.iload_n 1, 1) := by decide +kernel
theorem dMO_tactic_120 : decode prog_13_method_62_code 120 = .ok (.bipush (7), 2) := by decide +kernel
theorem dMO_tactic_122 : decode prog_13_method_62_code 122 = .ok (.if_icmp .ne (7), 3) := by decide +kernel
theorem dMO_tactic_125 : decode prog_13_method_62_code 125 = .ok (.iconst 2, 1) := by decide +kernel
theorem dMO_tactic_126 : decode prog_13_method_62_code 126 = .ok (.goto (4), 3) := by decide +kernel
theorem dMO_tactic_129 : decode prog_13_method_62_code 129 = .ok (.iconst 0, 1) := by decide +kernel
theorem dMO_tactic_130 : decode prog_13_method_62_code 130 = .ok (.istore 6, 2) := by decide +kernel
theorem dMO_tactic_132 : decode prog_13_method_62_code 132 = .ok (.aload_n 0, 1) := by decide +kernel
theorem dMO_tactic_133 : decode prog_13_method_62_code 133 = .ok (.getfield 46, 3) := by decide +kernel
theorem dMO_tactic_136 : decode prog_13_method_62_code 136 = .ok (.iload 4, 2) := by decide +kernel
theorem dMO_tactic_138 : decode prog_13_method_62_code 138 = .ok (.iaload, 1) := by decide +kernel
theorem dMO_tactic_139 : decode prog_13_method_62_code 139 = .ok (.istore 7, 2) := by decide +kernel
theorem dMO_tactic_141 : decode prog_13_method_62_code 141 = .ok (.iload_n 1, 1) := by decide +kernel
theorem dMO_tactic_142 : decode prog_13_method_62_code 142 = .ok (.bipush (7), 2) := by decide +kernel
theorem dMO_tactic_144 : decode prog_13_method_62_code 144 = .ok (.if_icmp .ne (70), 3) := by decide +kernel
theorem dMO_tactic_147 : decode prog_13_method_62_code 147 = .ok (.aload_n 0, 1) := by decide +kernel
theorem dMO_tactic_148 : decode prog_13_method_62_code 148 = .ok (.bipush (65), 2) := by decide +kernel
theorem dMO_tactic_150 : decode prog_13_method_62_code 150 = .ok (.iconst 0, 1) := by decide +kernel
theorem dMO_tactic_151 : decode prog_13_method_62_code 151 = .ok (.invokevirtual 145, 3) := by decide +kernel
theorem dMO_tactic_154 : decode prog_13_method_62_code 154 = .ok (.istore 8, 2) := by decide +kernel
theorem dMO_tactic_156 : decode prog_13_method_62_code 156 = .ok (.aload_n 0, 1) := by decide +kernel
theorem dMO_tactic_157 : decode prog_13_method_62_code 157 = .ok (.bipush (64), 2) := by decide +kernel
theorem dMO_tactic_159 : decode prog_13_method_62_code 159 = .ok (.iconst 0, 1) := by decide +kernel
theorem dMO_tactic_160 : decode prog_13_method_62_code 160 = .ok (.invokevirtual 145, 3) := by decide +kernel
theorem dMO_tactic_163 : decode prog_13_method_62_code 163 = .ok (.istore 9, 2) := by decide +kernel
theorem dMO_tactic_165 : decode prog_13_method_62_code 165 = .ok (.aload_n 0, 1) := by decide +kernel
theorem dMO_tactic_166 : decode prog_13_method_62_code 166 = .ok (.getfield 49, 3) := by decide +kernel
theorem dMO_tactic_169 : decode prog_13_method_62_code 169 = .ok (.iload 4, 2) := by decide +kernel
theorem dMO_tactic_171 : decode prog_13_method_62_code 171 = .ok (.iaload, 1) := by decide +kernel
theorem dMO_tactic_172 : decode prog_13_method_62_code 172 = .ok (.bipush (6), 2) := by decide +kernel
theorem dMO_tactic_174 : decode prog_13_method_62_code 174 = .ok (.if_icmp .ne (40), 3) := by decide +kernel
theorem dMO_tactic_177 : decode prog_13_method_62_code 177 = .ok (.iload 9, 2) := by decide +kernel
theorem dMO_tactic_179 : decode prog_13_method_62_code 179 = .ok (.ifCond .lt (30), 3) := by decide +kernel
theorem dMO_tactic_182 : decode prog_13_method_62_code 182 = .ok (.iload 8, 2) := by decide +kernel
theorem dMO_tactic_184 : decode prog_13_method_62_code 184 = .ok (.ifCond .lt (25), 3) := by decide +kernel
theorem dMO_tactic_187 : decode prog_13_method_62_code 187 = .ok (.aload_n 0, 1) := by decide +kernel
theorem dMO_tactic_188 : decode prog_13_method_62_code 188 = .ok (.iload 4, 2) := by decide +kernel
theorem dMO_tactic_190 : decode prog_13_method_62_code 190 = .ok (.iload 9, 2) := by decide +kernel
theorem dMO_tactic_192 : decode prog_13_method_62_code 192 = .ok (.invokevirtual 278, 3) := by decide +kernel
theorem dMO_tactic_195 : decode prog_13_method_62_code 195 = .ok (.ifCond .eq (14), 3) := by decide +kernel
theorem dMO_tactic_198 : decode prog_13_method_62_code 198 = .ok (.aload_n 0, 1) := by decide +kernel
theorem dMO_tactic_199 : decode prog_13_method_62_code 199 = .ok (.iload 4, 2) := by decide +kernel
theorem dMO_tactic_201 : decode prog_13_method_62_code 201 = .ok (.iload 8, 2) := by decide +kernel
theorem dMO_tactic_203 : decode prog_13_method_62_code 203 = .ok (.invokevirtual 278, 3) := by decide +kernel
theorem dMO_tactic_206 : decode prog_13_method_62_code 206 = .ok (.ifCond .ne (8), 3) := by decide +kernel
theorem dMO_tactic_209 : decode prog_13_method_62_code 209 = .ok (.aload_n 0, 1) := by decide +kernel
theorem dMO_tactic_210 : decode prog_13_method_62_code 210 = .ok (.iconst 1, 1) := by decide +kernel
theorem dMO_tactic_211 : decode prog_13_method_62_code 211 = .ok (.putfield 124, 3) := by decide +kernel
theorem dMO_tactic_214 : decode prog_13_method_62_code 214 = .ok (.aload_n 0, 1) := by decide +kernel
theorem dMO_tactic_215 : decode prog_13_method_62_code 215 = .ok (.getfield 124, 3) := by decide +kernel
theorem dMO_tactic_218 : decode prog_13_method_62_code 218 = .ok (.ifCond .eq (6), 3) := by decide +kernel
theorem dMO_tactic_221 : decode prog_13_method_62_code 221 = .ok (.bipush (-5), 2) := by decide +kernel
theorem dMO_tactic_223 : decode prog_13_method_62_code 223 = .ok (.ireturn, 1) := by decide +kernel
theorem dMO_tactic_224 : decode prog_13_method_62_code 224 = .ok (.aload_n 0, 1) := by decide +kernel
theorem dMO_tactic_225 : decode prog_13_method_62_code 225 = .ok (.getfield 117, 3) := by decide +kernel
theorem dMO_tactic_228 : decode prog_13_method_62_code 228 = .ok (.istore 8, 2) := by decide +kernel
theorem dMO_tactic_230 : decode prog_13_method_62_code 230 = .ok (.iload 5, 2) := by decide +kernel
theorem dMO_tactic_232 : decode prog_13_method_62_code 232 = .ok (.ifCond .le (12), 3) := by decide +kernel
theorem dMO_tactic_235 : decode prog_13_method_62_code 235 = .ok (.aload_n 0, 1) := by decide +kernel
theorem dMO_tactic_236 : decode prog_13_method_62_code 236 = .ok (.bipush (64), 2) := by decide +kernel
theorem dMO_tactic_238 : decode prog_13_method_62_code 238 = .ok (.invokevirtual 197, 3) := by decide +kernel
theorem dMO_tactic_241 : decode prog_13_method_62_code 241 = .ok (.goto (4), 3) := by decide +kernel
theorem dMO_tactic_244 : decode prog_13_method_62_code 244 = .ok (.iconst 0, 1) := by decide +kernel
theorem dMO_tactic_245 : decode prog_13_method_62_code 245 = .ok (.istore 9, 2) := by decide +kernel
theorem dMO_tactic_247 : decode prog_13_method_62_code 247 = .ok (.iload 5, 2) := by decide +kernel
theorem dMO_tactic_249 : decode prog_13_method_62_code 249 = .ok (.iconst 1, 1) := by decide +kernel
theorem dMO_tactic_250 : decode prog_13_method_62_code 250 = .ok (.if_icmp .le (12), 3) := by decide +kernel
theorem dMO_tactic_253 : decode prog_13_method_62_code 253 = .ok (.aload_n 0, 1) := by decide +kernel
theorem dMO_tactic_254 : decode prog_13_method_62_code 254 = .ok (.bipush (65), 2) := by decide +kernel
theorem dMO_tactic_256 : decode prog_13_method_62_code 256 = .ok (.invokevirtual 197, 3) := by decide +kernel
theorem dMO_tactic_259 : decode prog_13_method_62_code 259 = .ok (.goto (4), 3) := by decide +kernel
theorem dMO_tactic_262 : decode prog_13_method_62_code 262 = .ok (.iconst 0, 1) := by decide +kernel
theorem dMO_tactic_263 : decode prog_13_method_62_code 263 = .ok (.istore 10, 2) := by decide +kernel
theorem dMO_tactic_265 : decode prog_13_method_62_code 265 = .ok (.iload 9, 2) := by decide +kernel
theorem dMO_tactic_267 : decode prog_13_method_62_code 267 = .ok (.bipush (64), 2) := by decide +kernel
theorem dMO_tactic_269 : decode prog_13_method_62_code 269 = .ok (.if_icmp .eq (22), 3) := by decide +kernel
theorem dMO_tactic_272 : decode prog_13_method_62_code 272 = .ok (.iload 10, 2) := by decide +kernel
theorem dMO_tactic_274 : decode prog_13_method_62_code 274 = .ok (.bipush (64), 2) := by decide +kernel
theorem dMO_tactic_276 : decode prog_13_method_62_code 276 = .ok (.if_icmp .eq (15), 3) := by decide +kernel
theorem dMO_tactic_279 : decode prog_13_method_62_code 279 = .ok (.aload_n 0, 1) := by decide +kernel
theorem dMO_tactic_280 : decode prog_13_method_62_code 280 = .ok (.getfield 270, 3) := by decide +kernel
theorem dMO_tactic_283 : decode prog_13_method_62_code 283 = .ok (.iload 5, 2) := by decide +kernel
theorem dMO_tactic_285 : decode prog_13_method_62_code 285 = .ok (.iadd, 1) := by decide +kernel
theorem dMO_tactic_286 : decode prog_13_method_62_code 286 = .ok (.bipush (30), 2) := by decide +kernel
theorem dMO_tactic_288 : decode prog_13_method_62_code 288 = .ok (.if_icmp .le (12), 3) := by decide +kernel
theorem dMO_tactic_291 : decode prog_13_method_62_code 291 = .ok (.aload_n 0, 1) := by decide +kernel
theorem dMO_tactic_292 : decode prog_13_method_62_code 292 = .ok (.iload 8, 2) := by decide +kernel
theorem dMO_tactic_294 : decode prog_13_method_62_code 294 = .ok (.putfield 117, 3) := by decide +kernel
theorem dMO_tactic_297 : decode prog_13_method_62_code 297 = .ok (.bipush (-6), 2) := by decide +kernel
theorem dMO_tactic_299 : decode prog_13_method_62_code 299 = .ok (.ireturn, 1) := by decide +kernel
theorem dMO_tactic_300 : decode prog_13_method_62_code 300 = .ok (.aload_n 0, 1) := by decide +kernel
theorem dMO_tactic_301 : decode prog_13_method_62_code 301 = .ok (.getfield 55, 3) := by decide +kernel
theorem dMO_tactic_304 : decode prog_13_method_62_code 304 = .ok (.iload 4, 2) := by decide +kernel
theorem dMO_tactic_306 : decode prog_13_method_62_code 306 = .ok (.iload_n 1, 1) := by decide +kernel
theorem dMO_tactic_307 : decode prog_13_method_62_code 307 = .ok (.iastore, 1) := by decide +kernel
theorem dMO_tactic_308 : decode prog_13_method_62_code 308 = .ok (.aload_n 0, 1) := by decide +kernel
theorem dMO_tactic_309 : decode prog_13_method_62_code 309 = .ok (.getfield 58, 3) := by decide +kernel
theorem dMO_tactic_312 : decode prog_13_method_62_code 312 = .ok (.iload 4, 2) := by decide +kernel
theorem dMO_tactic_314 : decode prog_13_method_62_code 314 = .ok (.iload_n 2, 1) := by decide +kernel
theorem dMO_tactic_315 : decode prog_13_method_62_code 315 = .ok (.iastore, 1) := by decide +kernel
theorem dMO_tactic_316 : decode prog_13_method_62_code 316 = .ok (.aload_n 0, 1) := by decide +kernel
theorem dMO_tactic_317 : decode prog_13_method_62_code 317 = .ok (.getfield 61, 3) := by decide +kernel
theorem dMO_tactic_320 : decode prog_13_method_62_code 320 = .ok (.iload 4, 2) := by decide +kernel
theorem dMO_tactic_322 : decode prog_13_method_62_code 322 = .ok (.aload_n 0, 1) := by decide +kernel
theorem dMO_tactic_323 : decode prog_13_method_62_code 323 = .ok (.getfield 270, 3) := by decide +kernel
theorem dMO_tactic_326 : decode prog_13_method_62_code 326 = .ok (.iastore, 1) := by decide +kernel
theorem dMO_tactic_327 : decode prog_13_method_62_code 327 = .ok (.aload_n 0, 1) := by decide +kernel
theorem dMO_tactic_328 : decode prog_13_method_62_code 328 = .ok (.getfield 64, 3) := by decide +kernel
theorem dMO_tactic_331 : decode prog_13_method_62_code 331 = .ok (.iload 4, 2) := by decide +kernel
theorem dMO_tactic_333 : decode prog_13_method_62_code 333 = .ok (.iload 5, 2) := by decide +kernel
theorem dMO_tactic_335 : decode prog_13_method_62_code 335 = .ok (.iastore, 1) := by decide +kernel
theorem dMO_tactic_336 : decode prog_13_method_62_code 336 = .ok (.aload_n 0, 1) := by decide +kernel
theorem dMO_tactic_337 : decode prog_13_method_62_code 337 = .ok (.getfield 70, 3) := by decide +kernel
theorem dMO_tactic_340 : decode prog_13_method_62_code 340 = .ok (.aload_n 0, 1) := by decide +kernel
theorem dMO_tactic_341 : decode prog_13_method_62_code 341 = .ok (.dup, 1) := by decide +kernel
theorem dMO_tactic_342 : decode prog_13_method_62_code 342 = .ok (.getfield 275, 3) := by decide +kernel
theorem dMO_tactic_345 : decode prog_13_method_62_code 345 = .ok (.dup_x1, 1) := by decide +kernel
theorem dMO_tactic_346 : decode prog_13_method_62_code 346 = .ok (.iconst 1, 1) := by decide +kernel
theorem dMO_tactic_347 : decode prog_13_method_62_code 347 = .ok (.iadd, 1) := by decide +kernel
theorem dMO_tactic_348 : decode prog_13_method_62_code 348 = .ok (.putfield 275, 3) := by decide +kernel
theorem dMO_tactic_351 : decode prog_13_method_62_code 351 = .ok (.iload 4, 2) := by decide +kernel
theorem dMO_tactic_353 : decode prog_13_method_62_code 353 = .ok (.iastore, 1) := by decide +kernel
theorem dMO_tactic_354 : decode prog_13_method_62_code 354 = .ok (.aload_n 0, 1) := by decide +kernel
theorem dMO_tactic_355 : decode prog_13_method_62_code 355 = .ok (.getfield 273, 3) := by decide +kernel
theorem dMO_tactic_358 : decode prog_13_method_62_code 358 = .ok (.iconst 1, 1) := by decide +kernel
theorem dMO_tactic_359 : decode prog_13_method_62_code 359 = .ok (.isub, 1) := by decide +kernel
theorem dMO_tactic_360 : decode prog_13_method_62_code 360 = .ok (.istore 11, 2) := by decide +kernel
theorem dMO_tactic_362 : decode prog_13_method_62_code 362 = .ok (.iload 11, 2) := by decide +kernel
theorem dMO_tactic_364 : decode prog_13_method_62_code 364 = .ok (.ifCond .le (31), 3) := by decide +kernel
theorem dMO_tactic_367 : decode prog_13_method_62_code 367 = .ok (.iload 5, 2) := by decide +kernel
theorem dMO_tactic_369 : decode prog_13_method_62_code 369 = .ok (.iconst 2, 1) := by decide +kernel
theorem dMO_tactic_370 : decode prog_13_method_62_code 370 = .ok (.if_icmp .ne (19), 3) := by decide +kernel
theorem dMO_tactic_373 : decode prog_13_method_62_code 373 = .ok (.aload_n 0, 1) := by decide +kernel
theorem dMO_tactic_374 : decode prog_13_method_62_code 374 = .ok (.getfield 67, 3) := by decide +kernel
theorem dMO_tactic_377 : decode prog_13_method_62_code 377 = .ok (.iload 11, 2) := by decide +kernel
theorem dMO_tactic_379 : decode prog_13_method_62_code 379 = .ok (.iconst 1, 1) := by decide +kernel
theorem dMO_tactic_380 : decode prog_13_method_62_code 380 = .ok (.iadd, 1) := by decide +kernel
theorem dMO_tactic_381 : decode prog_13_method_62_code 381 = .ok (.aload_n 0, 1) := by decide +kernel
theorem dMO_tactic_382 : decode prog_13_method_62_code 382 = .ok (.getfield 67, 3) := by decide +kernel
theorem dMO_tactic_385 : decode prog_13_method_62_code 385 = .ok (.iload 11, 2) := by decide +kernel
theorem dMO_tactic_387 : decode prog_13_method_62_code 387 = .ok (.iaload, 1) := by decide +kernel
theorem dMO_tactic_388 : decode prog_13_method_62_code 388 = .ok (.iastore, 1) := by decide +kernel
theorem dMO_tactic_389 : decode prog_13_method_62_code 389 = .ok (.iinc 11 (-1), 3) := by decide +kernel
theorem dMO_tactic_392 : decode prog_13_method_62_code 392 = .ok (.goto (-30), 3) := by decide +kernel
theorem dMO_tactic_395 : decode prog_13_method_62_code 395 = .ok (.iconst 1, 1) := by decide +kernel
theorem dMO_tactic_396 : decode prog_13_method_62_code 396 = .ok (.istore 11, 2) := by decide +kernel
theorem dMO_tactic_398 : decode prog_13_method_62_code 398 = .ok (.iload 11, 2) := by decide +kernel
theorem dMO_tactic_400 : decode prog_13_method_62_code 400 = .ok (.aload_n 0, 1) := by decide +kernel
theorem dMO_tactic_401 : decode prog_13_method_62_code 401 = .ok (.getfield 273, 3) := by decide +kernel
theorem dMO_tactic_404 : decode prog_13_method_62_code 404 = .ok (.if_icmp .ge (30), 3) := by decide +kernel
theorem dMO_tactic_407 : decode prog_13_method_62_code 407 = .ok (.iload 5, 2) := by decide +kernel
theorem dMO_tactic_409 : decode prog_13_method_62_code 409 = .ok (.ifCond .ne (19), 3) := by decide +kernel
theorem dMO_tactic_412 : decode prog_13_method_62_code 412 = .ok (.aload_n 0, 1) := by decide +kernel
theorem dMO_tactic_413 : decode prog_13_method_62_code 413 = .ok (.getfield 67, 3) := by decide +kernel
theorem dMO_tactic_416 : decode prog_13_method_62_code 416 = .ok (.iload 11, 2) := by decide +kernel
theorem dMO_tactic_418 : decode prog_13_method_62_code 418 = .ok (.iconst 1, 1) := by decide +kernel
theorem dMO_tactic_419 : decode prog_13_method_62_code 419 = .ok (.isub, 1) := by decide +kernel
theorem dMO_tactic_420 : decode prog_13_method_62_code 420 = .ok (.aload_n 0, 1) := by decide +kernel
theorem dMO_tactic_421 : decode prog_13_method_62_code 421 = .ok (.getfield 67, 3) := by decide +kernel
theorem dMO_tactic_424 : decode prog_13_method_62_code 424 = .ok (.iload 11, 2) := by decide +kernel
theorem dMO_tactic_426 : decode prog_13_method_62_code 426 = .ok (.iaload, 1) := by decide +kernel
theorem dMO_tactic_427 : decode prog_13_method_62_code 427 = .ok (.iastore, 1) := by decide +kernel
theorem dMO_tactic_428 : decode prog_13_method_62_code 428 = .ok (.iinc 11 (1), 3) := by decide +kernel
theorem dMO_tactic_431 : decode prog_13_method_62_code 431 = .ok (.goto (-33), 3) := by decide +kernel
theorem dMO_tactic_434 : decode prog_13_method_62_code 434 = .ok (.aload_n 0, 1) := by decide +kernel
theorem dMO_tactic_435 : decode prog_13_method_62_code 435 = .ok (.dup, 1) := by decide +kernel
theorem dMO_tactic_436 : decode prog_13_method_62_code 436 = .ok (.getfield 273, 3) := by decide +kernel
theorem dMO_tactic_439 : decode prog_13_method_62_code 439 = .ok (.iload 5, 2) := by decide +kernel
theorem dMO_tactic_441 : decode prog_13_method_62_code 441 = .ok (.iconst 1, 1) := by decide +kernel
theorem dMO_tactic_442 : decode prog_13_method_62_code 442 = .ok (.isub, 1) := by decide +kernel
theorem dMO_tactic_443 : decode prog_13_method_62_code 443 = .ok (.iadd, 1) := by decide +kernel
theorem dMO_tactic_444 : decode prog_13_method_62_code 444 = .ok (.putfield 273, 3) := by decide +kernel
theorem dMO_tactic_447 : decode prog_13_method_62_code 447 = .ok (.iload 5, 2) := by decide +kernel
theorem dMO_tactic_449 : decode prog_13_method_62_code 449 = .ok (.ifCond .le (33), 3) := by decide +kernel
theorem dMO_tactic_452 : decode prog_13_method_62_code 452 = .ok (.aload_n 0, 1) := by decide +kernel
theorem dMO_tactic_453 : decode prog_13_method_62_code 453 = .ok (.iload 4, 2) := by decide +kernel
theorem dMO_tactic_455 : decode prog_13_method_62_code 455 = .ok (.iconst 0, 1) := by decide +kernel
theorem dMO_tactic_456 : decode prog_13_method_62_code 456 = .ok (.iload 6, 2) := by decide +kernel
theorem dMO_tactic_458 : decode prog_13_method_62_code 458 = .ok (.ifCond .le (8), 3) := by decide +kernel
theorem dMO_tactic_461 : decode prog_13_method_62_code 461 = .ok (.iload 10, 2) := by decide +kernel
theorem dMO_tactic_463 : decode prog_13_method_62_code 463 = .ok (.goto (5), 3) := by decide +kernel
theorem dMO_tactic_466 : decode prog_13_method_62_code 466 = .ok (.iload 9, 2) := by decide +kernel
theorem dMO_tactic_468 : decode prog_13_method_62_code 468 = .ok (.iload 6, 2) := by decide +kernel
theorem dMO_tactic_470 : decode prog_13_method_62_code 470 = .ok (.ifCond .le (8), 3) := by decide +kernel
theorem dMO_tactic_473 : decode prog_13_method_62_code 473 = .ok (.iload 9, 2) := by decide +kernel
theorem dMO_tactic_475 : decode prog_13_method_62_code 475 = .ok (.goto (4), 3) := by decide +kernel
theorem dMO_tactic_478 : decode prog_13_method_62_code 478 = .ok (.iconst (-1), 1) := by decide +kernel
theorem dMO_tactic_479 : decode prog_13_method_62_code 479 = .ok (.invokevirtual 290, 3) := by decide +kernel
theorem dMO_tactic_482 : decode prog_13_method_62_code 482 = .ok (.iload 5, 2) := by decide +kernel
theorem dMO_tactic_484 : decode prog_13_method_62_code 484 = .ok (.iconst 1, 1) := by decide +kernel
theorem dMO_tactic_485 : decode prog_13_method_62_code 485 = .ok (.if_icmp .le (33), 3) := by decide +kernel
theorem dMO_tactic_488 : decode prog_13_method_62_code 488 = .ok (.aload_n 0, 1) := by decide +kernel
theorem dMO_tactic_489 : decode prog_13_method_62_code 489 = .ok (.iload 4, 2) := by decide +kernel
theorem dMO_tactic_491 : decode prog_13_method_62_code 491 = .ok (.iconst 1, 1) := by decide +kernel
theorem dMO_tactic_492 : decode prog_13_method_62_code 492 = .ok (.iload 6, 2) := by decide +kernel
theorem dMO_tactic_494 : decode prog_13_method_62_code 494 = .ok (.ifCond .le (8), 3) := by decide +kernel
theorem dMO_tactic_497 : decode prog_13_method_62_code 497 = .ok (.iload 9, 2) := by decide +kernel
theorem dMO_tactic_499 : decode prog_13_method_62_code 499 = .ok (.goto (5), 3) := by decide +kernel
theorem dMO_tactic_502 : decode prog_13_method_62_code 502 = .ok (.iload 10, 2) := by decide +kernel
theorem dMO_tactic_504 : decode prog_13_method_62_code 504 = .ok (.iload 6, 2) := by decide +kernel
theorem dMO_tactic_506 : decode prog_13_method_62_code 506 = .ok (.ifCond .le (8), 3) := by decide +kernel
theorem dMO_tactic_509 : decode prog_13_method_62_code 509 = .ok (.iload 10, 2) := by decide +kernel
theorem dMO_tactic_511 : decode prog_13_method_62_code 511 = .ok (.goto (4), 3) := by decide +kernel
theorem dMO_tactic_514 : decode prog_13_method_62_code 514 = .ok (.iconst (-1), 1) := by decide +kernel
theorem dMO_tactic_515 : decode prog_13_method_62_code 515 = .ok (.invokevirtual 290, 3) := by decide +kernel
theorem dMO_tactic_518 : decode prog_13_method_62_code 518 = .ok (.aload_n 0, 1) := by decide +kernel
theorem dMO_tactic_519 : decode prog_13_method_62_code 519 = .ok (.getfield 273, 3) := by decide +kernel
theorem dMO_tactic_522 : decode prog_13_method_62_code 522 = .ok (.ireturn, 1) := by decide +kernel
theorem l_MO_tac1 {G : sd_G} {o : Nat} {h0 : sd_H} {nx g k0 k1 both : Nat} {Q : sd_Q} (hB : G.2.1 ≤ o) : ∀ (j : Nat) (D : fx_D), j + 1 < 30 → (∀ D' : fx_D, mo_f20 D D' → (∀ i, 1 ≤ i → i ≤ j → D'.1 20 (i + 1) = D.1 20 i) → (∀ i, j + 1 < i → D'.1 20 i = D.1 20 i) → sd_W G mMO_tactic 7 0 0 Q 395 [(0, .ref (o + 0)), (4, .int (nI g)), (5, .int (nI 2)), (6, .int (nI both)), (9, .int (nI k0)), (10, .int (nI k1))] [] (fx_h G.1.2 mo_S o D' h0) nx 0 0) → sd_W G mMO_tactic 7 0 0 Q 362 [(0, .ref (o + 0)), (4, .int (nI g)), (5, .int (nI 2)), (6, .int (nI both)), (9, .int (nI k0)), (10, .int (nI k1)), (11, .int (nI j))] [] (fx_h G.1.2 mo_S o D h0) nx 0 0 := by
  intro j
  induction j with
  | zero =>
    intro D hj K
    refine sd_iload dMO_tactic_362 rfl ?_
    refine nn_if_le 395 dMO_tactic_364 (by decide) (by decide) (fun _ => ?_) (fun c => absurd c (by decide))
    refine sd_locp (al' := [(0, .ref (o + (0))), (4, .int (nI (g))), (5, .int (nI (2))), (6, .int (nI (both))), (9, .int (nI (k0))), (10, .int (nI (k1)))]) [0, 1, 2, 3, 4, 5] rfl ?_
    exact K D (mo_f20.rf D) (fun i a b ↦ absurd a (by omega)) (fun i a ↦ rfl)
  | succ j ih =>
    intro D hj K
    refine sd_iload dMO_tactic_362 rfl ?_
    refine nn_if_le 395 dMO_tactic_364 (by decide) (by omega) (fun c364 => ?_) (fun c364 => ?_)
    ·
      exact absurd c364 (by omega)
    ·
      refine sd_iload dMO_tactic_367 rfl ?_
      refine sd_iconst (v := nI 2) dMO_tactic_369 (by decide) ?_
      refine nn_icmp_ne 389 dMO_tactic_370 (by decide) (by decide) (by decide) (fun c => absurd c (by decide)) (fun _ => ?_)
      refine sd_aload_n dMO_tactic_373 rfl rfl ?_
      refine fx_getr 10 24 (20) dMO_tactic_374 fMO_67 rfl rfl ?_
      refine sd_iload dMO_tactic_377 rfl ?_
      refine sd_iconst (v := nI 1) dMO_tactic_379 (by decide) ?_
      refine nn_iadd dMO_tactic_380 ?_
      refine sd_aload_n dMO_tactic_381 rfl rfl ?_
      refine fx_getr 10 24 (20) dMO_tactic_382 fMO_67 rfl rfl ?_
      refine sd_iload dMO_tactic_385 rfl ?_
      refine fx_iald (j + 1) dMO_tactic_387 rfl rfl (by omega) (by decide) ?_
      refine fx_iast ((j + 1) + 1) dMO_tactic_388 rfl rfl (by omega) (by decide) hB ?_
      refine nn_idec dMO_tactic_389 rfl (by omega) (by decide) ?_
      refine sd_goto 362 dMO_tactic_392 (by decide) ?_
      refine sd_locp (al' := [(0, .ref (o + (0))), (4, .int (nI (g))), (5, .int (nI (2))), (6, .int (nI (both))), (9, .int (nI (k0))), (10, .int (nI (k1))), (11, .int (nI (j + 1 - 1)))]) [1, 2, 3, 4, 5, 6, 0] rfl ?_
      rw [Nat.add_sub_cancel]
      refine ih _ (by omega) (fun D' a1 a2 a3 ↦ K D' ((mo_f20.ua D).tr a1) (fun i b1 b2 ↦ ?_) (fun i b1 ↦ ?_))
      · by_cases e : i = j + 1
        · subst e
          rw [a3 _ (by omega), ua_at, if_pos rfl]
        · rw [a2 i b1 (by omega), ua_at, if_neg (by omega)]
      · rw [a3 i (by omega), ua_at, if_neg (by omega)]
theorem l_MO_tac1i {G : sd_G} {o : Nat} {h0 : sd_H} {nx g k0 k1 both : Nat} {Q : sd_Q} {many : Nat} (hm : many < 2) : ∀ (j : Nat) (D : fx_D), j < 30 → (sd_W G mMO_tactic 7 0 0 Q 395 [(0, .ref (o + 0)), (4, .int (nI g)), (5, .int (nI many)), (6, .int (nI both)), (9, .int (nI k0)), (10, .int (nI k1))] [] (fx_h G.1.2 mo_S o D h0) nx 0 0) → sd_W G mMO_tactic 7 0 0 Q 362 [(0, .ref (o + 0)), (4, .int (nI g)), (5, .int (nI many)), (6, .int (nI both)), (9, .int (nI k0)), (10, .int (nI k1)), (11, .int (nI j))] [] (fx_h G.1.2 mo_S o D h0) nx 0 0 := by
  intro j
  induction j with
  | zero =>
    intro D hj K
    refine sd_iload dMO_tactic_362 rfl ?_
    refine nn_if_le 395 dMO_tactic_364 (by decide) (by decide) (fun _ => ?_) (fun c => absurd c (by decide))
    refine sd_locp (al' := [(0, .ref (o + (0))), (4, .int (nI (g))), (5, .int (nI (many))), (6, .int (nI (both))), (9, .int (nI (k0))), (10, .int (nI (k1)))]) [0, 1, 2, 3, 4, 5] rfl ?_
    exact K
  | succ j ih =>
    intro D hj K
    refine sd_iload dMO_tactic_362 rfl ?_
    refine nn_if_le 395 dMO_tactic_364 (by decide) (by omega) (fun c364 => ?_) (fun c364 => ?_)
    ·
      exact absurd c364 (by omega)
    ·
      refine sd_iload dMO_tactic_367 rfl ?_
      refine sd_iconst (v := nI 2) dMO_tactic_369 (by decide) ?_
      refine nn_icmp_ne 389 dMO_tactic_370 (by decide) (by omega) (by omega) (fun c370 => ?_) (fun c370 => ?_)
      ·
        refine nn_idec dMO_tactic_389 rfl (by omega) (by decide) ?_
        refine sd_goto 362 dMO_tactic_392 (by decide) ?_
        refine sd_locp (al' := [(0, .ref (o + (0))), (4, .int (nI (g))), (5, .int (nI (many))), (6, .int (nI (both))), (9, .int (nI (k0))), (10, .int (nI (k1))), (11, .int (nI (j + 1 - 1)))]) [1, 2, 3, 4, 5, 6, 0] rfl ?_
        rw [Nat.add_sub_cancel]
        exact ih D (by omega) K
      ·
        exact absurd c370 (by omega)
theorem l_MO_tac2 {G : sd_G} {o : Nat} {h0 : sd_H} {nx g k0 k1 both : Nat} {Q : sd_Q} {n : Nat} (hB : G.2.1 ≤ o) (hn : n ≤ 30) : ∀ (m j : Nat) (D : fx_D), n = j + m → 1 ≤ j → D.2.1 0 28 = nI n → (∀ D' : fx_D, mo_f20 D D' → (∀ i, j ≤ i → i < n → D'.1 20 (i - 1) = D.1 20 i) → (∀ i, i + 1 < j → D'.1 20 i = D.1 20 i) → sd_W G mMO_tactic 7 0 0 Q 434 [(0, .ref (o + 0)), (4, .int (nI g)), (5, .int (nI 0)), (6, .int (nI both)), (9, .int (nI k0)), (10, .int (nI k1))] [] (fx_h G.1.2 mo_S o D' h0) nx 0 0) → sd_W G mMO_tactic 7 0 0 Q 398 [(0, .ref (o + 0)), (4, .int (nI g)), (5, .int (nI 0)), (6, .int (nI both)), (9, .int (nI k0)), (10, .int (nI k1)), (11, .int (nI j))] [] (fx_h G.1.2 mo_S o D h0) nx 0 0 := by
  intro m
  induction m with
  | zero =>
    intro j D hj h1 hf K
    refine sd_iload dMO_tactic_398 rfl ?_
    refine sd_aload_n dMO_tactic_400 rfl rfl ?_
    refine fx_getiv (v := (nI (n))) 10 28 dMO_tactic_401 fMO_273 rfl rfl (hf) ?_
    refine nn_icmp_ge 434 dMO_tactic_404 (by decide) (by omega) (by omega) (fun c404 => ?_) (fun c404 => ?_)
    ·
      refine sd_locp (al' := [(0, .ref (o + (0))), (4, .int (nI (g))), (5, .int (nI (0))), (6, .int (nI (both))), (9, .int (nI (k0))), (10, .int (nI (k1)))]) [0, 1, 2, 3, 4, 5] rfl ?_
      exact K D (mo_f20.rf D) (fun i a b ↦ absurd a (by omega)) (fun i a ↦ rfl)
    ·
      exact absurd c404 (by omega)
  | succ m ih =>
    intro j D hj h1 hf K
    refine sd_iload dMO_tactic_398 rfl ?_
    refine sd_aload_n dMO_tactic_400 rfl rfl ?_
    refine fx_getiv (v := (nI (n))) 10 28 dMO_tactic_401 fMO_273 rfl rfl (hf) ?_
    refine nn_icmp_ge 434 dMO_tactic_404 (by decide) (by omega) (by omega) (fun c404 => ?_) (fun c404 => ?_)
    ·
      exact absurd c404 (by omega)
    ·
      refine sd_iload dMO_tactic_407 rfl ?_
      refine nn_if_ne 428 dMO_tactic_409 (by decide) (by decide) (fun c => absurd c (by decide)) (fun _ => ?_)
      refine sd_aload_n dMO_tactic_412 rfl rfl ?_
      refine fx_getr 10 24 (20) dMO_tactic_413 fMO_67 rfl rfl ?_
      refine sd_iload dMO_tactic_416 rfl ?_
      refine sd_iconst (v := nI 1) dMO_tactic_418 (by decide) ?_
      refine nn_isub dMO_tactic_419 (by omega) ?_
      refine sd_aload_n dMO_tactic_420 rfl rfl ?_
      refine fx_getr 10 24 (20) dMO_tactic_421 fMO_67 rfl rfl ?_
      refine sd_iload dMO_tactic_424 rfl ?_
      refine fx_iald (j) dMO_tactic_426 rfl rfl (by omega) (by decide) ?_
      refine fx_iast (j - 1) dMO_tactic_427 rfl rfl (by omega) (by decide) hB ?_
      refine nn_iinc 1 dMO_tactic_428 rfl (by decide) ?_
      refine sd_goto 398 dMO_tactic_431 (by decide) ?_
      refine sd_locp (al' := [(0, .ref (o + (0))), (4, .int (nI (g))), (5, .int (nI (0))), (6, .int (nI (both))), (9, .int (nI (k0))), (10, .int (nI (k1))), (11, .int (nI (j + 1)))]) [1, 2, 3, 4, 5, 6, 0] rfl ?_
      refine ih (j + 1) _ (by omega) (by omega) hf (fun D' a1 a2 a3 ↦ K D' ((mo_f20.ua D).tr a1) (fun i b1 b2 ↦ ?_) (fun i b1 ↦ ?_))
      · by_cases e : i = j
        · subst e
          rw [a3 _ (by omega), ua_at, if_pos rfl]
        · rw [a2 i (by omega) b2, ua_at, if_neg (by omega)]
      · rw [a3 i (by omega), ua_at, if_neg (by omega)]
theorem l_MO_tac2i {G : sd_G} {o : Nat} {h0 : sd_H} {nx g k0 k1 both : Nat} {Q : sd_Q} {n many : Nat} (hm : many ≠ 0) (hm3 : many < 3) (hn : n ≤ 30) : ∀ (m j : Nat) (D : fx_D), (n = j + m ∨ m = 0 ∧ n ≤ j ∧ j < 40) → D.2.1 0 28 = nI n → (sd_W G mMO_tactic 7 0 0 Q 434 [(0, .ref (o + 0)), (4, .int (nI g)), (5, .int (nI many)), (6, .int (nI both)), (9, .int (nI k0)), (10, .int (nI k1))] [] (fx_h G.1.2 mo_S o D h0) nx 0 0) → sd_W G mMO_tactic 7 0 0 Q 398 [(0, .ref (o + 0)), (4, .int (nI g)), (5, .int (nI many)), (6, .int (nI both)), (9, .int (nI k0)), (10, .int (nI k1)), (11, .int (nI j))] [] (fx_h G.1.2 mo_S o D h0) nx 0 0 := by
  intro m
  induction m with
  | zero =>
    intro j D hj hf K
    refine sd_iload dMO_tactic_398 rfl ?_
    refine sd_aload_n dMO_tactic_400 rfl rfl ?_
    refine fx_getiv (v := (nI (n))) 10 28 dMO_tactic_401 fMO_273 rfl rfl (hf) ?_
    refine nn_icmp_ge 434 dMO_tactic_404 (by decide) (by omega) (by omega) (fun c404 => ?_) (fun c404 => ?_)
    ·
      refine sd_locp (al' := [(0, .ref (o + (0))), (4, .int (nI (g))), (5, .int (nI (many))), (6, .int (nI (both))), (9, .int (nI (k0))), (10, .int (nI (k1)))]) [0, 1, 2, 3, 4, 5] rfl ?_
      exact K
    ·
      exact absurd c404 (by omega)
  | succ m ih =>
    intro j D hj hf K
    refine sd_iload dMO_tactic_398 rfl ?_
    refine sd_aload_n dMO_tactic_400 rfl rfl ?_
    refine fx_getiv (v := (nI (n))) 10 28 dMO_tactic_401 fMO_273 rfl rfl (hf) ?_
    refine nn_icmp_ge 434 dMO_tactic_404 (by decide) (by omega) (by omega) (fun c404 => ?_) (fun c404 => ?_)
    ·
      exact absurd c404 (by omega)
    ·
      refine sd_iload dMO_tactic_407 rfl ?_
      refine nn_if_ne 428 dMO_tactic_409 (by decide) (by omega) (fun c409 => ?_) (fun c409 => ?_)
      ·
        refine nn_iinc 1 dMO_tactic_428 rfl (by decide) ?_
        refine sd_goto 398 dMO_tactic_431 (by decide) ?_
        refine sd_locp (al' := [(0, .ref (o + (0))), (4, .int (nI (g))), (5, .int (nI (many))), (6, .int (nI (both))), (9, .int (nI (k0))), (10, .int (nI (k1))), (11, .int (nI (j + 1)))]) [1, 2, 3, 4, 5, 6, 0] rfl ?_
        exact ih (j + 1) D (by omega) hf K
      ·
        exact absurd c409 hm
theorem h_MO_tac {G : sd_G} {o : Nat} {D : fx_D} {h0 : sd_H} {nx g k0 k1 both many k N d n : Nat} {y : Int32} {Q : sd_Q} (hB : G.2.1 ≤ o) (hg : g < 30) (hd : d < 30) (hn : n < 30) (d27 : D.2.1 0 27 = nI N) (d28 : D.2.1 0 28 = nI (n + 1)) (d29 : D.2.1 0 29 = nI d) (kk : sd_W G mMO_tactic 7 0 0 Q 362 [(0, .ref (o + 0)), (4, .int (nI g)), (5, .int (nI many)), (6, .int (nI both)), (9, .int (nI k0)), (10, .int (nI k1)), (11, .int (nI (n + 1 - 1)))] [] (fx_h G.1.2 mo_S o (tk_D D g k N many d y) h0) nx 0 0) : sd_W G mMO_tactic 7 0 0 Q 300 [(0, .ref (o + 0)), (1, .int (nI k)), (2, .int y), (4, .int (nI g)), (5, .int (nI many)), (6, .int (nI both)), (9, .int (nI k0)), (10, .int (nI k1))] [] (fx_h G.1.2 mo_S o D h0) nx 0 0 := by
  refine sd_aload_n dMO_tactic_300 rfl rfl ?_
  refine fx_getr 10 20 (16) dMO_tactic_301 fMO_55 rfl rfl ?_
  refine sd_iload dMO_tactic_304 rfl ?_
  refine sd_iload_n dMO_tactic_306 rfl rfl ?_
  refine fx_iast (g) dMO_tactic_307 rfl rfl (by omega) (by decide) hB ?_
  refine sd_aload_n dMO_tactic_308 rfl rfl ?_
  refine fx_getr 10 21 (17) dMO_tactic_309 fMO_58 rfl rfl ?_
  refine sd_iload dMO_tactic_312 rfl ?_
  refine sd_iload_n dMO_tactic_314 rfl rfl ?_
  refine fx_iast (g) dMO_tactic_315 rfl rfl (by omega) (by decide) hB ?_
  refine sd_aload_n dMO_tactic_316 rfl rfl ?_
  refine fx_getr 10 22 (18) dMO_tactic_317 fMO_61 rfl rfl ?_
  refine sd_iload dMO_tactic_320 rfl ?_
  refine sd_aload_n dMO_tactic_322 rfl rfl ?_
  refine fx_getiv (v := (nI (N))) 10 27 dMO_tactic_323 fMO_270 rfl rfl ((by simpa [fx_ua] using d27)) ?_
  refine fx_iast (g) dMO_tactic_326 rfl rfl (by omega) (by decide) hB ?_
  refine sd_aload_n dMO_tactic_327 rfl rfl ?_
  refine fx_getr 10 23 (19) dMO_tactic_328 fMO_64 rfl rfl ?_
  refine sd_iload dMO_tactic_331 rfl ?_
  refine sd_iload dMO_tactic_333 rfl ?_
  refine fx_iast (g) dMO_tactic_335 rfl rfl (by omega) (by decide) hB ?_
  refine sd_aload_n dMO_tactic_336 rfl rfl ?_
  refine fx_getr 10 25 (21) dMO_tactic_337 fMO_70 rfl rfl ?_
  refine sd_aload_n dMO_tactic_340 rfl rfl ?_
  refine sd_dup dMO_tactic_341 rfl ?_
  refine fx_getiv (v := (nI (d))) 10 29 dMO_tactic_342 fMO_275 rfl rfl ((by simpa [fx_ua] using d29)) ?_
  refine sd_dup_x1 dMO_tactic_345 rfl rfl ?_
  refine sd_iconst (v := nI 1) dMO_tactic_346 (by decide) ?_
  refine nn_iadd dMO_tactic_347 ?_
  refine fx_puti 10 29 dMO_tactic_348 fMO_275 rfl rfl rfl rfl hB ?_
  refine sd_iload dMO_tactic_351 rfl ?_
  refine fx_iast (d) dMO_tactic_353 rfl rfl (by omega) (by decide) hB ?_
  refine sd_aload_n dMO_tactic_354 rfl rfl ?_
  refine fx_getiv (v := (nI (n + 1))) 10 28 dMO_tactic_355 fMO_273 rfl rfl ((by simpa [fx_ua, fx_uf, upd] using d28)) ?_
  refine sd_iconst (v := nI 1) dMO_tactic_358 (by decide) ?_
  refine nn_isub dMO_tactic_359 (by omega) ?_
  refine sd_istore dMO_tactic_360 (by decide) ?_
  refine sd_locp (al' := [(0, .ref (o + (0))), (4, .int (nI (g))), (5, .int (nI (many))), (6, .int (nI (both))), (9, .int (nI (k0))), (10, .int (nI (k1))), (11, .int (nI ((n + 1) - 1)))]) [1, 4, 5, 6, 7, 8, 0] rfl ?_
  exact kk
/-- the goals behind a tactic -/
def tk_L (L : List st_Gl) (g : Nat) (q : st_Gl) (k a : Nat) : List st_Gl := L.set g (q.1, q.2.1, some (k, a, L.length))
theorem tk_Lg {L : List st_Gl} {g k a : Nat} {q : st_Gl} (hq : L[g]? = some q) : (tk_L L g q k a)[g]? = some (q.1, q.2.1, some (k, a, L.length)) := by
  unfold tk_L
  rw [List.getElem?_set_self (getE_lt hq)]
theorem tk_Ll {L : List st_Gl} {g k a : Nat} {q : st_Gl} : (tk_L L g q k a).length = L.length := by
  unfold tk_L
  rw [List.length_set]
theorem op_two {D2 D4 D5 : fx_D} {N : Nat} {tl : List Nat} (h5 : ∀ i, D5.1 20 i = if i = 1 then nI (N + 1) else D4.1 20 i) (h4 : ∀ i, D4.1 20 i = if i = 0 then nI N else D2.1 20 i) (h2 : ∀ (j u : Nat), tl[j]? = some u → D2.1 20 (j + 2) = nI u) : ∀ (k u : Nat), (N :: (N + 1) :: tl)[k]? = some u → D5.1 20 k = nI u := by
  intro k u hk
  match k, hk with
  | 0, hk =>
    simp at hk
    rw [h5, if_neg (by omega), h4, if_pos rfl, hk]
  | 1, hk =>
    simp at hk
    rw [h5, if_pos rfl, hk]
  | j + 2, hk =>
    simp at hk
    rw [h5, if_neg (by omega), h4, if_neg (by omega)]
    exact h2 j u hk
theorem op_one {D2 D4 : fx_D} {N : Nat} {tl : List Nat} (h4 : ∀ i, D4.1 20 i = if i = 0 then nI N else D2.1 20 i) (h2 : ∀ (j u : Nat), tl[j]? = some u → D2.1 20 (j + 1) = nI u) : ∀ (k u : Nat), (N :: tl)[k]? = some u → D4.1 20 k = nI u := by
  intro k u hk
  match k, hk with
  | 0, hk =>
    simp at hk
    rw [h4, if_pos rfl, hk]
  | j + 1, hk =>
    simp at hk
    rw [h4, if_neg (by omega)]
    exact h2 j u hk
theorem nn_dec {n : Nat} : nI (n + 1) + (nI 0 - nI 1) = nI n := by
  rw [← nI_add, Int32.add_assoc, show nI 1 + (nI 0 - nI 1) = 0 from by decide, Int32.add_zero]
theorem w_MO_tac0b {G : sd_G} {o : Nat} {D D1 D2 : fx_D} {h0 : sd_H} {nx g k0 k1 : Nat} {S : st_S} {L : List st_Gl} {tl dn : List Nat} (hB : G.2.1 ≤ o) (hR : mo_R S D) (h30 : tl.length < 30) (otl : ∀ (j u : Nat), tl[j]? = some u → D.1 20 (j + 1) = nI u) (h1gl : mo_gl D1 L) (h1dn : mo_dn D1 dn) (ff : mo_fg D D1) (f20 : ∀ i, D1.1 20 i = D.1 20 i) (f28' : D2.2.1 0 28 = nI (tl.length + 1)) (a1 : mo_f20 D1 D2) (a2 : ∀ i, 1 ≤ i → i < tl.length + 1 → D2.1 20 (i - 1) = D1.1 20 i) : sd_W G mMO_tactic 7 0 0 (fx_is G.1.2 mo_S o h0 nx (some (.int (nI tl.length))) (mo_R (S.1, S.2.1, S.2.2.1, S.2.2.2.1, L, tl, dn))) 434 [(0, .ref (o + 0)), (4, .int (nI g)), (5, .int (nI 0)), (6, .int (nI 0)), (9, .int (nI k0)), (10, .int (nI k1))] [] (fx_h G.1.2 mo_S o D2 h0) nx 0 0 := by
  refine sd_aload_n dMO_tactic_434 rfl rfl ?_
  refine sd_dup dMO_tactic_435 rfl ?_
  refine fx_getiv (v := (nI (tl.length + 1))) 10 28 dMO_tactic_436 fMO_273 rfl rfl (f28') ?_
  refine sd_iload dMO_tactic_439 rfl ?_
  refine sd_iconst (v := nI 1) dMO_tactic_441 (by decide) ?_
  refine sd_isub dMO_tactic_442 ?_
  refine sd_iadd dMO_tactic_443 ?_
  rw [show ((nI (tl.length + 1)) + ((nI (0)) - (nI (1)))) = (nI (tl.length)) from nn_dec]
  refine fx_puti 10 28 dMO_tactic_444 fMO_273 rfl rfl rfl rfl hB ?_
  refine sd_iload dMO_tactic_447 rfl ?_
  refine nn_if_le 482 dMO_tactic_449 (by decide) (by decide) (fun _ => ?_) (fun c => absurd c (by decide))
  refine sd_iload dMO_tactic_482 rfl ?_
  refine sd_iconst (v := nI 1) dMO_tactic_484 (by decide) ?_
  refine nn_icmp_le 518 dMO_tactic_485 (by decide) (by decide) (by decide) (fun _ => ?_) (fun c => absurd c (by decide))
  refine sd_aload_n dMO_tactic_518 rfl rfl ?_
  refine fx_getiv (v := (nI (tl.length))) 10 28 dMO_tactic_519 fMO_273 rfl rfl ((by simp [fx_uf, upd])) ?_
  refine sd_iret dMO_tactic_522 rfl (Nat.le_refl _) (Nat.le_refl _) ⟨rfl, rfl, _, rfl, mo_R_goals hR ((ff.tr a1.fg).tr (mo_fg.uf _ (by omega) (by omega))) (mo_gl_f h1gl (fun x b1 b2 ↦ a1.1 x (by omega)) ?_) ⟨by omega, by simp [fx_uf, upd], fun k u hk ↦ ?_⟩ (mo_dn_f h1dn (a1.1 21 (by decide)) ?_)⟩
  · simp [fx_uf, upd, a1.2]
  · have hkl := getE_lt hk
    have h := a2 (k + 1) (by omega) (by omega)
    rw [Nat.add_sub_cancel, f20] at h
    exact h.trans (otl k u hk)
  · simp [fx_uf, upd, a1.2]
theorem w_MO_tac0 {G : sd_G} {o : Nat} {D : fx_D} {h0 : sd_H} {nx g k0 k1 k a : Nat} {y : Int32} {S : st_S} {q : st_Gl} {tl : List Nat} (hB : G.2.1 ≤ o) (hR : mo_R S D) (hop : st_op S = g :: tl) (hq : (st_gl S)[g]? = some q) (hy : k = 8 → y = nI a) (hk : [0, 0, 2, 2, 1, 0, 2, 2, 0].getD k 0 = 0) (hN : st_okN S) : sd_W G mMO_tactic 7 0 0 (fx_is G.1.2 mo_S o h0 nx (some (.int (nI tl.length))) (mo_R (S.1, S.2.1, S.2.2.1, S.2.2.2.1, tk_L (st_gl S) g q k a, tl, g :: st_dn S))) 300 [(0, .ref (o + 0)), (1, .int (nI k)), (2, .int y), (4, .int (nI g)), (5, .int (nI 0)), (6, .int (nI 0)), (9, .int (nI k0)), (10, .int (nI k1))] [] (fx_h G.1.2 mo_S o D h0) nx 0 0 := by
  have hgl := hR.2.2.2.2.2.1
  have hopd := hR.2.2.2.2.2.2.1
  have hdnd := hR.2.2.2.2.2.2.2
  have hgN := getE_lt hq
  unfold st_okN at hN
  rw [hop, List.length_cons] at hN
  have g30 := hgl.1
  have ol : D.2.1 0 28 = nI (tl.length + 1) := by rw [hopd.2.1, hop, List.length_cons]
  have otl : ∀ (j u : Nat), tl[j]? = some u → D.1 20 (j + 1) = nI u := fun j u h => hopd.2.2 (j + 1) u (by rw [hop]; exact h)
  have h1gl := tk_gl (N := (st_gl S).length) (many := 0) (d := (st_dn S).length) (a := a) (k := k) hgl hq hy hk.symm
  have h1dn := tk_dn (g := g) (k := k) (N := (st_gl S).length) (many := 0) (y := y) hdnd (by omega)
  refine h_MO_tac hB (by omega) (show (st_dn S).length < 30 by omega) (show tl.length < 30 by omega) hgl.2.1 ol hdnd.2.1 ?_
  refine l_MO_tac1i (by omega) _ _ (by omega) ?_
  have f28 : (tk_D D g k (st_gl S).length 0 (st_dn S).length y).2.1 0 28 = nI (tl.length + 1) := by simpa [tk_D, fx_ua, fx_uf, upd] using ol
  have f20 : ∀ i, (tk_D D g k (st_gl S).length 0 (st_dn S).length y).1 20 i = D.1 20 i := fun i => by simp [tk_D, fx_ua, fx_uf]
  have ff := tk_fg (D := D) (g := g) (k := k) (N := (st_gl S).length) (many := 0) (d := (st_dn S).length) (y := y)
  generalize tk_D D g k (st_gl S).length 0 (st_dn S).length y = D1 at *
  refine sd_iconst (v := nI 1) dMO_tactic_395 (by decide) ?_
  refine sd_istore dMO_tactic_396 (by decide) ?_
  refine sd_locp (al' := [(0, .ref (o + (0))), (4, .int (nI (g))), (5, .int (nI (0))), (6, .int (nI (0))), (9, .int (nI (k0))), (10, .int (nI (k1))), (11, .int (nI (1)))]) [1, 2, 3, 4, 5, 6, 0] rfl ?_
  refine l_MO_tac2 hB (show tl.length + 1 ≤ 30 by omega) tl.length 1 D1 (by omega) (by omega) f28 (fun D2 a1 a2 a3 ↦ ?_)
  have f28' : D2.2.1 0 28 = nI (tl.length + 1) := by rw [a1.2]; exact f28
  exact w_MO_tac0b hB hR (by omega) otl h1gl h1dn ff f20 f28' a1 a2
