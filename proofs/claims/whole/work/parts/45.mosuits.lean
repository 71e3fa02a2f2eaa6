/-! ===== the model: suits ===== -/
def su_m (S : st_S) (g : Nat) : tl_T := st_tm S (st_gt S g)
def su_e (S : st_S) (g : Nat) : Nat := if tl_isE (su_m S g) = true then tl_end (su_m S g) 1 else 0
/-- the goal is as the tactic k, with x, asks -/
def su_fit (S : st_S) (k x g : Nat) : Bool := match k with
  | 0 => tl_isE (su_m S g) && (tl_part (su_m S g) 1 == tl_part (su_m S g) (tl_end (su_m S g) 1))
  | 1 => (st_gh S g).contains (st_gt S g)
  | 2 => tl_isE (su_m S g) && ((tl_at (st_tm S x) 0).2 == (tl_at (su_m S g) 1).2)
  | 3 => tl_isE (su_m S g) && ((tl_at (su_m S g) 1).1 == 8) && ((tl_at (su_m S g) (tl_end (su_m S g) 1)).1 == 8) && ((tl_at (su_m S g) 2).2 == (tl_at (su_m S g) (tl_end (su_m S g) 1 + 1)).2)
  | 4 => tl_isE (su_m S g) && ((tl_at (su_m S g) 1).1 == 10) && ((tl_at (su_m S g) (tl_end (su_m S g) 1)).1 == 10) && (ty_from (tl_at (su_m S g) 1).2 == st_nt S x) && !tl_nm (su_m S g) x && (st_gh S g).all (fun t => !tl_nm (st_tm S t) x)
  | 5 => tl_isE (su_m S g) && tl_isB (su_m S g) 1 && (tl_part (su_m S g) (tl_end (su_m S g) 1) == tl_beta (su_m S g) 1)
  | 6 => (tl_at (st_tm S x) 0).2 == 4
  | 7 => tl_isE (su_m S g) && ((tl_at (su_m S g) 1).2 == 4)
  | 8 => (st_cn S x == st_gt S g) && (st_hy S x).all (fun t => (st_gh S g).contains t)
  | _ => false
theorem dMO_suits_0 : decode prog_13_method_60_code 0 = .ok (.aload_n 0, 1) := by decide +kernel
theorem dMO_suits_1 : decode prog_13_method_60_code 1 = .ok (.getfield 46, 3) := by decide +kernel
theorem dMO_suits_4 : decode prog_13_method_60_code 4 = .ok (.iload_n 3, 1) := by decide +kernel
theorem dMO_suits_5 : decode prog_13_method_60_code 5 = .ok (.iaload, 1) := by decide +kernel
theorem dMO_suits_6 : decode prog_13_method_60_code 6 = .ok (.istore 4, 2) := by decide +kernel
theorem dMO_suits_8 : decode prog_13_method_60_code 8 = .ok (.aload_n 0, 1) := by decide +kernel
theorem dMO_suits_9 : decode prog_13_method_60_code 9 = .ok (.iload 4, 2) := by decide +kernel
theorem dMO_suits_11 : decode prog_13_method_60_code 11 = .ok (.invokevirtual 222, 3) := by decide +kernel
theorem dMO_suits_14 : decode prog_13_method_60_code 14 = .ok (.ifCond .eq (13), 3) := by decide +kernel
theorem dMO_suits_17 : decode prog_13_method_60_code 17 = .ok (.aload_n 0, 1) := by decide +kernel
theorem dMO_suits_18 : decode prog_13_method_60_code 18 = .ok (.iload 4, 2) := by decide +kernel
theorem dMO_suits_20 : decode prog_13_method_60_code 20 = .ok (.iconst 1, 1) := by decide +kernel
theorem dMO_suits_21 : decode prog_13_method_60_code 21 = .ok (.invokevirtual 128, 3) := by decide +kernel
theorem dMO_suits_24 : decode prog_13_method_60_code 24 = .ok (.goto (4), 3) := by decide +kernel
theorem dMO_suits_27 : decode prog_13_method_60_code 27 = .ok (.iconst 0, 1) := by decide +kernel
theorem dMO_suits_28 : decode prog_13_method_60_code 28 = .ok (.istore 5, 2) := by decide +kernel
theorem dMO_suits_30 : decode prog_13_method_60_code 30 = .ok (.iload_n 1, 1) := by decide +kernel
theorem dMO_suits_31 : decode prog_13_method_60_code 31 = .ok (.iconst 1, 1) := by decide +kernel
theorem dMO_suits_32 : decode prog_13_method_60_code 32 = .ok (.if_icmp .eq (26), 3) := by decide +kernel
theorem dMO_suits_35 : decode prog_13_method_60_code 35 = .ok (.iload_n 1, 1) := by decide +kernel
theorem dMO_suits_36 : decode prog_13_method_60_code 36 = .ok (.bipush (6), 2) := by decide +kernel
theorem dMO_suits_38 : decode prog_13_method_60_code 38 = .ok (.if_icmp .eq (20), 3) := by decide +kernel
theorem dMO_suits_41 : decode prog_13_method_60_code 41 = .ok (.iload_n 1, 1) := by decide +kernel
theorem dMO_suits_42 : decode prog_13_method_60_code 42 = .ok (.bipush (8), 2) := by decide +kernel
theorem dMO_suits_44 : decode prog_13_method_60_code 44 = .ok (.if_icmp .eq (14), 3) := by decide +kernel
theorem dMO_suits_47 : decode prog_13_method_60_code 47 = .ok (.aload_n 0, 1) := by decide +kernel
theorem dMO_suits_48 : decode prog_13_method_60_code 48 = .ok (.iload 4, 2) := by decide +kernel
theorem dMO_suits_50 : decode prog_13_method_60_code 50 = .ok (.invokevirtual 222, 3) := by decide +kernel
theorem dMO_suits_53 : decode prog_13_method_60_code 53 = .ok (.ifCond .ne (5), 3) := by decide +kernel
theorem dMO_suits_56 : decode prog_13_method_60_code 56 = .ok (.iconst 0, 1) := by decide +kernel
theorem dMO_suits_57 : decode prog_13_method_60_code 57 = .ok (.ireturn, 1) := by decide +kernel
theorem dMO_suits_58 : decode prog_13_method_60_code 58 = .ok (.iload_n 1, 1) := by decide +kernel
theorem dMO_suits_59 : decode prog_13_method_60_code 59 = .ok (.tableswitch (296) (0) (7) #[45, 57, 65, 86, 137, 237, 264, 279], 45) := by decide +kernel
theorem dMO_suits_104 : decode prog_13_method_60_code 104 = .ok (.aload_n 0, 1) := by decide +kernel
theorem dMO_suits_105 : decode prog_13_method_60_code 105 = .ok (.iload 4, 2) := by decide +kernel
theorem dMO_suits_107 : decode prog_13_method_60_code 107 = .ok (.iconst 1, 1) := by decide +kernel
theorem dMO_suits_108 : decode prog_13_method_60_code 108 = .ok (.iload 4, 2) := by decide +kernel
theorem dMO_suits_110 : decode prog_13_method_60_code 110 = .ok (.iload 5, 2) := by decide +kernel
theorem dMO_suits_112 : decode prog_13_method_60_code 112 = .ok (.invokevirtual 141, 3) := by decide +kernel
theorem dMO_suits_115 : decode prog_13_method_60_code 115 = .ok (.ireturn, 1) := by decide +kernel
theorem dMO_suits_116 : decode prog_13_method_60_code 116 = .ok (.aload_n 0, 1) := by decide +kernel
theorem dMO_suits_117 : decode prog_13_method_60_code 117 = .ok (.iload_n 3, 1) := by decide +kernel
theorem dMO_suits_118 : decode prog_13_method_60_code 118 = .ok (.iload 4, 2) := by decide +kernel
theorem dMO_suits_120 : decode prog_13_method_60_code 120 = .ok (.invokevirtual 278, 3) := by decide +kernel
theorem dMO_suits_123 : decode prog_13_method_60_code 123 = .ok (.ireturn, 1) := by decide +kernel
theorem dMO_suits_124 : decode prog_13_method_60_code 124 = .ok (.aload_n 0, 1) := by decide +kernel
theorem dMO_suits_125 : decode prog_13_method_60_code 125 = .ok (.iload_n 2, 1) := by decide +kernel
theorem dMO_suits_126 : decode prog_13_method_60_code 126 = .ok (.invokevirtual 203, 3) := by decide +kernel
theorem dMO_suits_129 : decode prog_13_method_60_code 129 = .ok (.aload_n 0, 1) := by decide +kernel
theorem dMO_suits_130 : decode prog_13_method_60_code 130 = .ok (.iload 4, 2) := by decide +kernel
theorem dMO_suits_132 : decode prog_13_method_60_code 132 = .ok (.iconst 1, 1) := by decide +kernel
theorem dMO_suits_133 : decode prog_13_method_60_code 133 = .ok (.invokevirtual 134, 3) := by decide +kernel
theorem dMO_suits_136 : decode prog_13_method_60_code 136 = .ok (.if_icmp .ne (7), 3) := by decide +kernel
theorem dMO_suits_139 : decode prog_13_method_60_code 139 = .ok (.iconst 1, 1) := by decide +kernel
theorem dMO_suits_140 : decode prog_13_method_60_code 140 = .ok (.goto (4), 3) := by decide +kernel
theorem dMO_suits_143 : decode prog_13_method_60_code 143 = .ok (.iconst 0, 1) := by decide +kernel
theorem dMO_suits_144 : decode prog_13_method_60_code 144 = .ok (.ireturn, 1) := by decide +kernel
theorem dMO_suits_145 : decode prog_13_method_60_code 145 = .ok (.aload_n 0, 1) := by decide +kernel
theorem dMO_suits_146 : decode prog_13_method_60_code 146 = .ok (.iload 4, 2) := by decide +kernel
theorem dMO_suits_148 : decode prog_13_method_60_code 148 = .ok (.iconst 1, 1) := by decide +kernel
theorem dMO_suits_149 : decode prog_13_method_60_code 149 = .ok (.invokevirtual 131, 3) := by decide +kernel
theorem dMO_suits_152 : decode prog_13_method_60_code 152 = .ok (.bipush (8), 2) := by decide +kernel
theorem dMO_suits_154 : decode prog_13_method_60_code 154 = .ok (.if_icmp .ne (40), 3) := by decide +kernel
theorem dMO_suits_157 : decode prog_13_method_60_code 157 = .ok (.aload_n 0, 1) := by decide +kernel
theorem dMO_suits_158 : decode prog_13_method_60_code 158 = .ok (.iload 4, 2) := by decide +kernel
theorem dMO_suits_160 : decode prog_13_method_60_code 160 = .ok (.iload 5, 2) := by decide +kernel
theorem dMO_suits_162 : decode prog_13_method_60_code 162 = .ok (.invokevirtual 131, 3) := by decide +kernel
theorem dMO_suits_165 : decode prog_13_method_60_code 165 = .ok (.bipush (8), 2) := by decide +kernel
theorem dMO_suits_167 : decode prog_13_method_60_code 167 = .ok (.if_icmp .ne (27), 3) := by decide +kernel
theorem dMO_suits_170 : decode prog_13_method_60_code 170 = .ok (.aload_n 0, 1) := by decide +kernel
theorem dMO_suits_171 : decode prog_13_method_60_code 171 = .ok (.iload 4, 2) := by decide +kernel
theorem dMO_suits_173 : decode prog_13_method_60_code 173 = .ok (.iconst 2, 1) := by decide +kernel
theorem dMO_suits_174 : decode prog_13_method_60_code 174 = .ok (.invokevirtual 134, 3) := by decide +kernel
theorem dMO_suits_177 : decode prog_13_method_60_code 177 = .ok (.aload_n 0, 1) := by decide +kernel
theorem dMO_suits_178 : decode prog_13_method_60_code 178 = .ok (.iload 4, 2) := by decide +kernel
theorem dMO_suits_180 : decode prog_13_method_60_code 180 = .ok (.iload 5, 2) := by decide +kernel
theorem dMO_suits_182 : decode prog_13_method_60_code 182 = .ok (.iconst 1, 1) := by decide +kernel
theorem dMO_suits_183 : decode prog_13_method_60_code 183 = .ok (.iadd, 1) := by decide +kernel
theorem dMO_suits_184 : decode prog_13_method_60_code 184 = .ok (.invokevirtual 134, 3) := by decide +kernel
theorem dMO_suits_187 : decode prog_13_method_60_code 187 = .ok (.if_icmp .ne (7), 3) := by decide +kernel
theorem dMO_suits_190 : decode prog_13_method_60_code 190 = .ok (.iconst 1, 1) := by decide +kernel
theorem dMO_suits_191 : decode prog_13_method_60_code 191 = .ok (.goto (4), 3) := by decide +kernel
theorem dMO_suits_194 : decode prog_13_method_60_code 194 = .ok (.iconst 0, 1) := by decide +kernel
theorem dMO_suits_195 : decode prog_13_method_60_code 195 = .ok (.ireturn, 1) := by decide +kernel
theorem dMO_suits_196 : decode prog_13_method_60_code 196 = .ok (.aload_n 0, 1) := by decide +kernel
theorem dMO_suits_197 : decode prog_13_method_60_code 197 = .ok (.iload 4, 2) := by decide +kernel
theorem dMO_suits_199 : decode prog_13_method_60_code 199 = .ok (.iconst 1, 1) := by decide +kernel
theorem dMO_suits_200 : decode prog_13_method_60_code 200 = .ok (.invokevirtual 131, 3) := by decide +kernel
theorem dMO_suits_203 : decode prog_13_method_60_code 203 = .ok (.bipush (10), 2) := by decide +kernel
theorem dMO_suits_205 : decode prog_13_method_60_code 205 = .ok (.if_icmp .ne (45), 3) := by decide +kernel
theorem dMO_suits_208 : decode prog_13_method_60_code 208 = .ok (.aload_n 0, 1) := by decide +kernel
theorem dMO_suits_209 : decode prog_13_method_60_code 209 = .ok (.iload 4, 2) := by decide +kernel
theorem dMO_suits_211 : decode prog_13_method_60_code 211 = .ok (.iload 5, 2) := by decide +kernel
theorem dMO_suits_213 : decode prog_13_method_60_code 213 = .ok (.invokevirtual 131, 3) := by decide +kernel
theorem dMO_suits_216 : decode prog_13_method_60_code 216 = .ok (.bipush (10), 2) := by decide +kernel
theorem dMO_suits_218 : decode prog_13_method_60_code 218 = .ok (.if_icmp .ne (32), 3) := by decide +kernel
theorem dMO_suits_221 : decode prog_13_method_60_code 221 = .ok (.aload_n 0, 1) := by decide +kernel
theorem dMO_suits_222 : decode prog_13_method_60_code 222 = .ok (.iload 4, 2) := by decide +kernel
theorem dMO_suits_224 : decode prog_13_method_60_code 224 = .ok (.iconst 1, 1) := by decide +kernel
theorem dMO_suits_225 : decode prog_13_method_60_code 225 = .ok (.invokevirtual 134, 3) := by decide +kernel
theorem dMO_suits_228 : decode prog_13_method_60_code 228 = .ok (.invokestatic 228, 3) := by decide +kernel
theorem dMO_suits_231 : decode prog_13_method_60_code 231 = .ok (.aload_n 0, 1) := by decide +kernel
theorem dMO_suits_232 : decode prog_13_method_60_code 232 = .ok (.getfield 19, 3) := by decide +kernel
theorem dMO_suits_235 : decode prog_13_method_60_code 235 = .ok (.iload_n 2, 1) := by decide +kernel
theorem dMO_suits_236 : decode prog_13_method_60_code 236 = .ok (.iaload, 1) := by decide +kernel
theorem dMO_suits_237 : decode prog_13_method_60_code 237 = .ok (.if_icmp .ne (13), 3) := by decide +kernel
theorem dMO_suits_240 : decode prog_13_method_60_code 240 = .ok (.aload_n 0, 1) := by decide +kernel
theorem dMO_suits_241 : decode prog_13_method_60_code 241 = .ok (.iload 4, 2) := by decide +kernel
theorem dMO_suits_243 : decode prog_13_method_60_code 243 = .ok (.iload_n 2, 1) := by decide +kernel
theorem dMO_suits_244 : decode prog_13_method_60_code 244 = .ok (.invokevirtual 231, 3) := by decide +kernel
theorem dMO_suits_247 : decode prog_13_method_60_code 247 = .ok (.ifCond .eq (5), 3) := by decide +kernel
theorem dMO_suits_250 : decode prog_13_method_60_code 250 = .ok (.iconst 0, 1) := by decide +kernel
theorem dMO_suits_251 : decode prog_13_method_60_code 251 = .ok (.ireturn, 1) := by decide +kernel
theorem dMO_suits_252 : decode prog_13_method_60_code 252 = .ok (.iconst 0, 1) := by decide +kernel
theorem dMO_suits_253 : decode prog_13_method_60_code 253 = .ok (.istore 6, 2) := by decide +kernel
theorem dMO_suits_255 : decode prog_13_method_60_code 255 = .ok (.iload 6, 2) := by decide +kernel
theorem dMO_suits_257 : decode prog_13_method_60_code 257 = .ok (.aload_n 0, 1) := by decide +kernel
theorem dMO_suits_258 : decode prog_13_method_60_code 258 = .ok (.getfield 49, 3) := by decide +kernel
theorem dMO_suits_261 : decode prog_13_method_60_code 261 = .ok (.iload_n 3, 1) := by decide +kernel
theorem dMO_suits_262 : decode prog_13_method_60_code 262 = .ok (.iaload, 1) := by decide +kernel
theorem dMO_suits_263 : decode prog_13_method_60_code 263 = .ok (.if_icmp .ge (31), 3) := by decide +kernel
theorem dMO_suits_266 : decode prog_13_method_60_code 266 = .ok (.aload_n 0, 1) := by decide +kernel
theorem dMO_suits_267 : decode prog_13_method_60_code 267 = .ok (.aload_n 0, 1) := by decide +kernel
theorem dMO_suits_268 : decode prog_13_method_60_code 268 = .ok (.getfield 52, 3) := by decide +kernel
theorem dMO_suits_271 : decode prog_13_method_60_code 271 = .ok (.bipush (6), 2) := by decide +kernel
theorem dMO_suits_273 : decode prog_13_method_60_code 273 = .ok (.iload_n 3, 1) := by decide +kernel
theorem dMO_suits_274 : decode prog_13_method_60_code 274 = .ok (.imul, 1) := by decide +kernel
theorem dMO_suits_275 : decode prog_13_method_60_code 275 = .ok (.iload 6, 2) := by decide +kernel
theorem dMO_suits_277 : decode prog_13_method_60_code 277 = .ok (.iadd, 1) := by decide +kernel
theorem dMO_suits_278 : decode prog_13_method_60_code 278 = .ok (.iaload, 1) := by decide +kernel
theorem dMO_suits_279 : decode prog_13_method_60_code 279 = .ok (.iload_n 2, 1) := by decide +kernel
theorem dMO_suits_280 : decode prog_13_method_60_code 280 = .ok (.invokevirtual 231, 3) := by decide +kernel
theorem dMO_suits_283 : decode prog_13_method_60_code 283 = .ok (.ifCond .eq (5), 3) := by decide +kernel
theorem dMO_suits_286 : decode prog_13_method_60_code 286 = .ok (.iconst 0, 1) := by decide +kernel
theorem dMO_suits_287 : decode prog_13_method_60_code 287 = .ok (.ireturn, 1) := by decide +kernel
theorem dMO_suits_288 : decode prog_13_method_60_code 288 = .ok (.iinc 6 (1), 3) := by decide +kernel
theorem dMO_suits_291 : decode prog_13_method_60_code 291 = .ok (.goto (-36), 3) := by decide +kernel
theorem dMO_suits_294 : decode prog_13_method_60_code 294 = .ok (.iconst 1, 1) := by decide +kernel
theorem dMO_suits_295 : decode prog_13_method_60_code 295 = .ok (.ireturn, 1) := by decide +kernel
theorem dMO_suits_296 : decode prog_13_method_60_code 296 = .ok (.aload_n 0, 1) := by decide +kernel
theorem dMO_suits_297 : decode prog_13_method_60_code 297 = .ok (.iload 4, 2) := by decide +kernel
theorem dMO_suits_299 : decode prog_13_method_60_code 299 = .ok (.iconst 1, 1) := by decide +kernel
theorem dMO_suits_300 : decode prog_13_method_60_code 300 = .ok (.invokevirtual 234, 3) := by decide +kernel
theorem dMO_suits_303 : decode prog_13_method_60_code 303 = .ok (.ifCond .eq (18), 3) := by decide +kernel
theorem dMO_suits_306 : decode prog_13_method_60_code 306 = .ok (.aload_n 0, 1) := by decide +kernel
theorem dMO_suits_307 : decode prog_13_method_60_code 307 = .ok (.iload 4, 2) := by decide +kernel
theorem dMO_suits_309 : decode prog_13_method_60_code 309 = .ok (.iload 5, 2) := by decide +kernel
theorem dMO_suits_311 : decode prog_13_method_60_code 311 = .ok (.invokevirtual 281, 3) := by decide +kernel
theorem dMO_suits_314 : decode prog_13_method_60_code 314 = .ok (.ifCond .eq (7), 3) := by decide +kernel
theorem dMO_suits_317 : decode prog_13_method_60_code 317 = .ok (.iconst 1, 1) := by decide +kernel
theorem dMO_suits_318 : decode prog_13_method_60_code 318 = .ok (.goto (4), 3) := by decide +kernel
theorem dMO_suits_321 : decode prog_13_method_60_code 321 = .ok (.iconst 0, 1) := by decide +kernel
theorem dMO_suits_322 : decode prog_13_method_60_code 322 = .ok (.ireturn, 1) := by decide +kernel
theorem dMO_suits_323 : decode prog_13_method_60_code 323 = .ok (.aload_n 0, 1) := by decide +kernel
theorem dMO_suits_324 : decode prog_13_method_60_code 324 = .ok (.iload_n 2, 1) := by decide +kernel
theorem dMO_suits_325 : decode prog_13_method_60_code 325 = .ok (.invokevirtual 203, 3) := by decide +kernel
theorem dMO_suits_328 : decode prog_13_method_60_code 328 = .ok (.iconst 4, 1) := by decide +kernel
theorem dMO_suits_329 : decode prog_13_method_60_code 329 = .ok (.if_icmp .ne (7), 3) := by decide +kernel
theorem dMO_suits_332 : decode prog_13_method_60_code 332 = .ok (.iconst 1, 1) := by decide +kernel
theorem dMO_suits_333 : decode prog_13_method_60_code 333 = .ok (.goto (4), 3) := by decide +kernel
theorem dMO_suits_336 : decode prog_13_method_60_code 336 = .ok (.iconst 0, 1) := by decide +kernel
theorem dMO_suits_337 : decode prog_13_method_60_code 337 = .ok (.ireturn, 1) := by decide +kernel
theorem dMO_suits_338 : decode prog_13_method_60_code 338 = .ok (.aload_n 0, 1) := by decide +kernel
theorem dMO_suits_339 : decode prog_13_method_60_code 339 = .ok (.iload 4, 2) := by decide +kernel
theorem dMO_suits_341 : decode prog_13_method_60_code 341 = .ok (.iconst 1, 1) := by decide +kernel
theorem dMO_suits_342 : decode prog_13_method_60_code 342 = .ok (.invokevirtual 134, 3) := by decide +kernel
theorem dMO_suits_345 : decode prog_13_method_60_code 345 = .ok (.iconst 4, 1) := by decide +kernel
theorem dMO_suits_346 : decode prog_13_method_60_code 346 = .ok (.if_icmp .ne (7), 3) := by decide +kernel
theorem dMO_suits_349 : decode prog_13_method_60_code 349 = .ok (.iconst 1, 1) := by decide +kernel
theorem dMO_suits_350 : decode prog_13_method_60_code 350 = .ok (.goto (4), 3) := by decide +kernel
theorem dMO_suits_353 : decode prog_13_method_60_code 353 = .ok (.iconst 0, 1) := by decide +kernel
theorem dMO_suits_354 : decode prog_13_method_60_code 354 = .ok (.ireturn, 1) := by decide +kernel
theorem dMO_suits_355 : decode prog_13_method_60_code 355 = .ok (.aload_n 0, 1) := by decide +kernel
theorem dMO_suits_356 : decode prog_13_method_60_code 356 = .ok (.getfield 25, 3) := by decide +kernel
theorem dMO_suits_359 : decode prog_13_method_60_code 359 = .ok (.iload_n 2, 1) := by decide +kernel
theorem dMO_suits_360 : decode prog_13_method_60_code 360 = .ok (.iaload, 1) := by decide +kernel
theorem dMO_suits_361 : decode prog_13_method_60_code 361 = .ok (.iload 4, 2) := by decide +kernel
theorem dMO_suits_363 : decode prog_13_method_60_code 363 = .ok (.if_icmp .eq (5), 3) := by decide +kernel
theorem dMO_suits_366 : decode prog_13_method_60_code 366 = .ok (.iconst 0, 1) := by decide +kernel
theorem dMO_suits_367 : decode prog_13_method_60_code 367 = .ok (.ireturn, 1) := by decide +kernel
theorem dMO_suits_368 : decode prog_13_method_60_code 368 = .ok (.iconst 0, 1) := by decide +kernel
theorem dMO_suits_369 : decode prog_13_method_60_code 369 = .ok (.istore 6, 2) := by decide +kernel
theorem dMO_suits_371 : decode prog_13_method_60_code 371 = .ok (.iload 6, 2) := by decide +kernel
theorem dMO_suits_373 : decode prog_13_method_60_code 373 = .ok (.aload_n 0, 1) := by decide +kernel
theorem dMO_suits_374 : decode prog_13_method_60_code 374 = .ok (.getfield 28, 3) := by decide +kernel
theorem dMO_suits_377 : decode prog_13_method_60_code 377 = .ok (.iload_n 2, 1) := by decide +kernel
theorem dMO_suits_378 : decode prog_13_method_60_code 378 = .ok (.iaload, 1) := by decide +kernel
theorem dMO_suits_379 : decode prog_13_method_60_code 379 = .ok (.if_icmp .ge (31), 3) := by decide +kernel
theorem dMO_suits_382 : decode prog_13_method_60_code 382 = .ok (.aload_n 0, 1) := by decide +kernel
theorem dMO_suits_383 : decode prog_13_method_60_code 383 = .ok (.iload_n 3, 1) := by decide +kernel
theorem dMO_suits_384 : decode prog_13_method_60_code 384 = .ok (.aload_n 0, 1) := by decide +kernel
theorem dMO_suits_385 : decode prog_13_method_60_code 385 = .ok (.getfield 31, 3) := by decide +kernel
theorem dMO_suits_388 : decode prog_13_method_60_code 388 = .ok (.bipush (6), 2) := by decide +kernel
theorem dMO_suits_390 : decode prog_13_method_60_code 390 = .ok (.iload_n 2, 1) := by decide +kernel
theorem dMO_suits_391 : decode prog_13_method_60_code 391 = .ok (.imul, 1) := by decide +kernel
theorem dMO_suits_392 : decode prog_13_method_60_code 392 = .ok (.iload 6, 2) := by decide +kernel
theorem dMO_suits_394 : decode prog_13_method_60_code 394 = .ok (.iadd, 1) := by decide +kernel
theorem dMO_suits_395 : decode prog_13_method_60_code 395 = .ok (.iaload, 1) := by decide +kernel
theorem dMO_suits_396 : decode prog_13_method_60_code 396 = .ok (.invokevirtual 278, 3) := by decide +kernel
theorem dMO_suits_399 : decode prog_13_method_60_code 399 = .ok (.ifCond .ne (5), 3) := by decide +kernel
theorem dMO_suits_402 : decode prog_13_method_60_code 402 = .ok (.iconst 0, 1) := by decide +kernel
theorem dMO_suits_403 : decode prog_13_method_60_code 403 = .ok (.ireturn, 1) := by decide +kernel
theorem dMO_suits_404 : decode prog_13_method_60_code 404 = .ok (.iinc 6 (1), 3) := by decide +kernel
theorem dMO_suits_407 : decode prog_13_method_60_code 407 = .ok (.goto (-36), 3) := by decide +kernel
theorem dMO_suits_410 : decode prog_13_method_60_code 410 = .ok (.iconst 1, 1) := by decide +kernel
theorem dMO_suits_411 : decode prog_13_method_60_code 411 = .ok (.ireturn, 1) := by decide +kernel
theorem h_MO_suits {G : sd_G} {o : Nat} {D : fx_D} {h0 : sd_H} {nx k g : Nat} {x : Int32} {S : st_S} {Q : sd_Q} (hR : mo_R S D) (hG : st_okG S) (hg : g < (st_gl S).length) (hk : k < 9) (hE : tl_isE (su_m S g) = true ∨ k = 1 ∨ k = 6 ∨ k = 8)
    (kk : sd_W G mMO_suits 6 0 0 Q 58 [(0, .ref (o + 0)), (1, .int (nI k)), (2, .int x), (3, .int (nI g)), (4, .int (nI (st_gt S g))), (5, .int (nI (su_e S g)))] [] (fx_h G.1.2 mo_S o D h0) nx 0 0) :
    sd_W G mMO_suits 6 0 0 Q 0 [(0, .ref (o + 0)), (1, .int (nI k)), (2, .int x), (3, .int (nI g))] [] (fx_h G.1.2 mo_S o D h0) nx 0 0 := by
  obtain ⟨g1, g2, g3, g4, g5, g6⟩ := mo_gg hR hG hg
  obtain ⟨-, m1, m2, m3⟩ := mo_tm hR g2
  have p0 := m2.hd
  by_cases hEt : tl_isE (su_m S g) = true
  · have cE := c_MO_isEqual (G := G) (o := o) (h0 := h0) (nx := nx) (b := 1) (by omega) m1 p0 (by omega) (by simp only [true_iff]; exact tl_isE_iff.mp hEt)
    obtain ⟨l1, l2, l3⟩ := m2.two (tl_E2 hEt)
    have ee : su_e S g = tl_end (st_tm S (st_gt S g)) 1 := by unfold su_e; rw [if_pos hEt]; rfl
    rw [ee] at kk
    refine sd_aload_n dMO_suits_0 rfl rfl ?_
    refine fx_getr 10 17 (13) dMO_suits_1 fMO_46 rfl rfl ?_
    refine sd_iload_n dMO_suits_4 rfl rfl ?_
    refine fx_ialdv (v := (nI (st_gt S g))) (g) dMO_suits_5 rfl rfl (by omega) (by decide) (g1) ?_
    refine sd_istore dMO_suits_6 (by decide) ?_
    refine sd_aload_n dMO_suits_8 rfl rfl ?_
    refine sd_iload dMO_suits_9 rfl ?_
    refine fx_cV 10 sR_MO [.int (nI (st_gt S g))] [] dMO_suits_11 kMO_222 rfl rfl mMO_isEqual_v (cE) (by decide) (Nat.le_refl _) (Nat.le_refl _) (Nat.le_of_ble_eq_true rfl) rfl ?_
    refine nn_if_eq 27 dMO_suits_14 (by decide) (by decide) (fun c => absurd c (by decide)) (fun _ => ?_)
    refine sd_aload_n dMO_suits_17 rfl rfl ?_
    refine sd_iload dMO_suits_18 rfl ?_
    refine sd_iconst (v := nI 1) dMO_suits_20 (by decide) ?_
    refine fx_cV 10 sR_MO [.int (nI (st_gt S g)), .int (nI (1))] [] dMO_suits_21 kMO_128 rfl rfl mMO_end_v (c_MO_end (by omega) m1 (by omega) (tl_ok_drop _ 1 1 m2.1 m2.2.1 l1)) (by decide) (Nat.le_refl _) (Nat.le_refl _) (Nat.le_of_ble_eq_true rfl) rfl ?_
    refine sd_goto 28 dMO_suits_24 (by decide) ?_
    refine sd_istore dMO_suits_28 (by decide) ?_
    refine sd_iload_n dMO_suits_30 rfl rfl ?_
    refine sd_iconst (v := nI 1) dMO_suits_31 (by decide) ?_
    refine nn_icmp_eq 58 dMO_suits_32 (by decide) (by omega) (by omega) (fun c32 => ?_) (fun c32 => ?_)
    ·
      refine sd_locp (al' := [(0, .ref (o + (0))), (1, .int (nI (k))), (2, .int (x)), (3, .int (nI (g))), (4, .int (nI (st_gt S g))), (5, .int (nI (tl_end (st_tm S (st_gt S g)) 1)))]) [2, 3, 4, 5, 1, 0] rfl ?_
      exact kk
    ·
      refine sd_iload_n dMO_suits_35 rfl rfl ?_
      refine sd_bipush (v := nI 6) dMO_suits_36 (by decide) ?_
      refine nn_icmp_eq 58 dMO_suits_38 (by decide) (by omega) (by omega) (fun c38 => ?_) (fun c38 => ?_)
      ·
        refine sd_locp (al' := [(0, .ref (o + (0))), (1, .int (nI (k))), (2, .int (x)), (3, .int (nI (g))), (4, .int (nI (st_gt S g))), (5, .int (nI (tl_end (st_tm S (st_gt S g)) 1)))]) [2, 3, 4, 5, 1, 0] rfl ?_
        exact kk
      ·
        refine sd_iload_n dMO_suits_41 rfl rfl ?_
        refine sd_bipush (v := nI 8) dMO_suits_42 (by decide) ?_
        refine nn_icmp_eq 58 dMO_suits_44 (by decide) (by omega) (by omega) (fun c44 => ?_) (fun c44 => ?_)
        ·
          refine sd_locp (al' := [(0, .ref (o + (0))), (1, .int (nI (k))), (2, .int (x)), (3, .int (nI (g))), (4, .int (nI (st_gt S g))), (5, .int (nI (tl_end (st_tm S (st_gt S g)) 1)))]) [2, 3, 4, 5, 1, 0] rfl ?_
          exact kk
        ·
          refine sd_aload_n dMO_suits_47 rfl rfl ?_
          refine sd_iload dMO_suits_48 rfl ?_
          refine fx_cV 10 sR_MO [.int (nI (st_gt S g))] [] dMO_suits_50 kMO_222 rfl rfl mMO_isEqual_v (cE) (by decide) (Nat.le_refl _) (Nat.le_refl _) (Nat.le_of_ble_eq_true rfl) rfl ?_
          refine nn_if_ne 58 dMO_suits_53 (by decide) (by decide) (fun _ => ?_) (fun c => absurd c (by decide))
          refine sd_locp (al' := [(0, .ref (o + (0))), (1, .int (nI (k))), (2, .int (x)), (3, .int (nI (g))), (4, .int (nI (st_gt S g))), (5, .int (nI (tl_end (st_tm S (st_gt S g)) 1)))]) [2, 3, 4, 5, 1, 0] rfl ?_
          exact kk
  · have cE := c_MO_isEqual (G := G) (o := o) (h0 := h0) (nx := nx) (b := 0) (by omega) m1 p0 (by omega) (by constructor; intro e; cases e; intro e; exact absurd (tl_isE_iff.mpr e) hEt)
    have hk3 : k = 1 ∨ k = 6 ∨ k = 8 := hE.resolve_left hEt
    have ee : su_e S g = 0 := by unfold su_e; rw [if_neg hEt]
    rw [ee] at kk
    refine sd_aload_n dMO_suits_0 rfl rfl ?_
    refine fx_getr 10 17 (13) dMO_suits_1 fMO_46 rfl rfl ?_
    refine sd_iload_n dMO_suits_4 rfl rfl ?_
    refine fx_ialdv (v := (nI (st_gt S g))) (g) dMO_suits_5 rfl rfl (by omega) (by decide) (g1) ?_
    refine sd_istore dMO_suits_6 (by decide) ?_
    refine sd_aload_n dMO_suits_8 rfl rfl ?_
    refine sd_iload dMO_suits_9 rfl ?_
    refine fx_cV 10 sR_MO [.int (nI (st_gt S g))] [] dMO_suits_11 kMO_222 rfl rfl mMO_isEqual_v (cE) (by decide) (Nat.le_refl _) (Nat.le_refl _) (Nat.le_of_ble_eq_true rfl) rfl ?_
    refine nn_if_eq 27 dMO_suits_14 (by decide) (by decide) (fun _ => ?_) (fun c => absurd c (by decide))
    refine sd_iconst (v := nI 0) dMO_suits_27 (by decide) ?_
    refine sd_istore dMO_suits_28 (by decide) ?_
    refine sd_iload_n dMO_suits_30 rfl rfl ?_
    refine sd_iconst (v := nI 1) dMO_suits_31 (by decide) ?_
    refine nn_icmp_eq 58 dMO_suits_32 (by decide) (by omega) (by omega) (fun c32 => ?_) (fun c32 => ?_)
    ·
      refine sd_locp (al' := [(0, .ref (o + (0))), (1, .int (nI (k))), (2, .int (x)), (3, .int (nI (g))), (4, .int (nI (st_gt S g))), (5, .int (nI (0)))]) [2, 3, 4, 5, 1, 0] rfl ?_
      exact kk
    ·
      refine sd_iload_n dMO_suits_35 rfl rfl ?_
      refine sd_bipush (v := nI 6) dMO_suits_36 (by decide) ?_
      refine nn_icmp_eq 58 dMO_suits_38 (by decide) (by omega) (by omega) (fun c38 => ?_) (fun c38 => ?_)
      ·
        refine sd_locp (al' := [(0, .ref (o + (0))), (1, .int (nI (k))), (2, .int (x)), (3, .int (nI (g))), (4, .int (nI (st_gt S g))), (5, .int (nI (0)))]) [2, 3, 4, 5, 1, 0] rfl ?_
        exact kk
      ·
        refine sd_iload_n dMO_suits_41 rfl rfl ?_
        refine sd_bipush (v := nI 8) dMO_suits_42 (by decide) ?_
        refine nn_icmp_eq 58 dMO_suits_44 (by decide) (by omega) (by omega) (fun c44 => ?_) (fun c44 => ?_)
        ·
          refine sd_locp (al' := [(0, .ref (o + (0))), (1, .int (nI (k))), (2, .int (x)), (3, .int (nI (g))), (4, .int (nI (st_gt S g))), (5, .int (nI (0)))]) [2, 3, 4, 5, 1, 0] rfl ?_
          exact kk
        ·
          exact absurd c44 (by omega)
