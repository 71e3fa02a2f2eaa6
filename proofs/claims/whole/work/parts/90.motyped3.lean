/-! ===== the model: isTyped ===== -/
theorem mo_row_gr {D D' : fx_D} {q : Nat} {l : tl_T} (hf : mo_fgr D D') (h : mo_row D q l) : mo_row D' q l := ⟨h.1, by rw [hf.1 3 (by omega)]; exact h.2.1, fun k x hx => by rw [hf.1 1 (by omega), hf.1 2 (by omega)]; exact h.2.2 k x hx⟩
theorem mo_nt_gr {D D' : fx_D} {nt : Nat → Nat} (hf : mo_fgr D D') (h : mo_nt D nt) : mo_nt D' nt := fun v hv => by rw [hf.1 4 (by omega)]; exact h v hv
/-- behind nameNode -/
theorem nn_tg {l : tl_T} {nt : Nat → Nat} {k N m v : Nat} {D D1 : fx_D} {K L R lk ρ : Nat → Nat} (h : tg (eqs l nt k) k (72 + 7 * nm_c l k) D N K L R lk ρ) (hs : (tl_at l k).1 = v) (hv : v < 8) (hk : k < 24) (hn : nn_R l nt v k lk ρ D N K L R m D1) : ∃ N' K' L' R', tg (eqs l nt k) k (72 + 7 * nm_c l (k + 1)) D1 N' K' L' R' lk ρ ∧ ac N' m ∧ (∀ τ, gsol K' L' R' τ → rsp τ ρ → τ m = ty_tree (nt v)) ∧ (m < 48 + k ∨ 72 ≤ m) ∧ mo_fgr D D1 := by
  rcases hn with ⟨j, h1, rfl, rfl⟩ | ⟨h1, N', K', L', R', n1, n2, n3, n4, n5, n6, n7, n8⟩
  · obtain ⟨-, hj, e⟩ := nm_at_some k 0 m h1
    have hm := nm_c_mono l k
    have h2 := h.2.1
    refine ⟨N, K, L, R, h.c (Nat.le_refl _) (by omega), Or.inl (by omega), fun τ t1 t2 => ?_, Or.inl (by omega), mo_fgr.rf _⟩
    have := (h.2.2.2.2.1 τ t1 t2 m (by omega)).1 (by rw [e]; exact hv)
    rw [e] at this
    exact this
  · have hm := nm_c_new hv h1 hs
    have h3 := h.2.2.1
    exact ⟨N', K', L', R', tg_gx h n1 n2 n7 (by omega), n5, fun τ t1 _ => n4 τ t1, Or.inr n8, n6⟩
theorem dMO_isTyped_0 : decode prog_13_method_36_code 0 = .ok (.aload_n 0, 1) := by decide +kernel
theorem dMO_isTyped_1 : decode prog_13_method_36_code 1 = .ok (.sipush (192), 3) := by decide +kernel
theorem dMO_isTyped_4 : decode prog_13_method_36_code 4 = .ok (.putfield 161, 3) := by decide +kernel
theorem dMO_isTyped_7 : decode prog_13_method_36_code 7 = .ok (.aload_n 0, 1) := by decide +kernel
theorem dMO_isTyped_8 : decode prog_13_method_36_code 8 = .ok (.iconst 1, 1) := by decide +kernel
theorem dMO_isTyped_9 : decode prog_13_method_36_code 9 = .ok (.iconst 0, 1) := by decide +kernel
theorem dMO_isTyped_10 : decode prog_13_method_36_code 10 = .ok (.iconst 0, 1) := by decide +kernel
theorem dMO_isTyped_11 : decode prog_13_method_36_code 11 = .ok (.invokevirtual 164, 3) := by decide +kernel
theorem dMO_isTyped_14 : decode prog_13_method_36_code 14 = .ok (.pop, 1) := by decide +kernel
theorem dMO_isTyped_15 : decode prog_13_method_36_code 15 = .ok (.aload_n 0, 1) := by decide +kernel
theorem dMO_isTyped_16 : decode prog_13_method_36_code 16 = .ok (.iconst 2, 1) := by decide +kernel
theorem dMO_isTyped_17 : decode prog_13_method_36_code 17 = .ok (.iconst 0, 1) := by decide +kernel
theorem dMO_isTyped_18 : decode prog_13_method_36_code 18 = .ok (.iconst 0, 1) := by decide +kernel
theorem dMO_isTyped_19 : decode prog_13_method_36_code 19 = .ok (.invokevirtual 164, 3) := by decide +kernel
theorem dMO_isTyped_22 : decode prog_13_method_36_code 22 = .ok (.pop, 1) := by decide +kernel
theorem dMO_isTyped_23 : decode prog_13_method_36_code 23 = .ok (.aload_n 0, 1) := by decide +kernel
theorem dMO_isTyped_24 : decode prog_13_method_36_code 24 = .ok (.iconst 0, 1) := by decide +kernel
theorem dMO_isTyped_25 : decode prog_13_method_36_code 25 = .ok (.putfield 161, 3) := by decide +kernel
theorem dMO_isTyped_28 : decode prog_13_method_36_code 28 = .ok (.iconst 0, 1) := by decide +kernel
theorem dMO_isTyped_29 : decode prog_13_method_36_code 29 = .ok (.istore_n 1, 1) := by decide +kernel
theorem dMO_isTyped_30 : decode prog_13_method_36_code 30 = .ok (.iload_n 1, 1) := by decide +kernel
theorem dMO_isTyped_31 : decode prog_13_method_36_code 31 = .ok (.bipush (72), 2) := by decide +kernel
theorem dMO_isTyped_33 : decode prog_13_method_36_code 33 = .ok (.if_icmp .ge (17), 3) := by decide +kernel
theorem dMO_isTyped_36 : decode prog_13_method_36_code 36 = .ok (.aload_n 0, 1) := by decide +kernel
theorem dMO_isTyped_37 : decode prog_13_method_36_code 37 = .ok (.iconst 0, 1) := by decide +kernel
theorem dMO_isTyped_38 : decode prog_13_method_36_code 38 = .ok (.iconst 0, 1) := by decide +kernel
theorem dMO_isTyped_39 : decode prog_13_method_36_code 39 = .ok (.iconst 0, 1) := by decide +kernel
theorem dMO_isTyped_40 : decode prog_13_method_36_code 40 = .ok (.invokevirtual 164, 3) := by decide +kernel
theorem dMO_isTyped_43 : decode prog_13_method_36_code 43 = .ok (.pop, 1) := by decide +kernel
theorem dMO_isTyped_44 : decode prog_13_method_36_code 44 = .ok (.iinc 1 (1), 3) := by decide +kernel
theorem dMO_isTyped_47 : decode prog_13_method_36_code 47 = .ok (.goto (-17), 3) := by decide +kernel
theorem dMO_isTyped_50 : decode prog_13_method_36_code 50 = .ok (.iconst 1, 1) := by decide +kernel
theorem dMO_isTyped_51 : decode prog_13_method_36_code 51 = .ok (.istore_n 1, 1) := by decide +kernel
theorem dMO_isTyped_52 : decode prog_13_method_36_code 52 = .ok (.iconst 0, 1) := by decide +kernel
theorem dMO_isTyped_53 : decode prog_13_method_36_code 53 = .ok (.istore_n 2, 1) := by decide +kernel
theorem dMO_isTyped_54 : decode prog_13_method_36_code 54 = .ok (.iload_n 2, 1) := by decide +kernel
theorem dMO_isTyped_55 : decode prog_13_method_36_code 55 = .ok (.aload_n 0, 1) := by decide +kernel
theorem dMO_isTyped_56 : decode prog_13_method_36_code 56 = .ok (.getfield 158, 3) := by decide +kernel
theorem dMO_isTyped_59 : decode prog_13_method_36_code 59 = .ok (.if_icmp .ge (232), 3) := by decide +kernel
theorem dMO_isTyped_62 : decode prog_13_method_36_code 62 = .ok (.iload_n 1, 1) := by decide +kernel
theorem dMO_isTyped_63 : decode prog_13_method_36_code 63 = .ok (.ifCond .eq (228), 3) := by decide +kernel
theorem dMO_isTyped_66 : decode prog_13_method_36_code 66 = .ok (.aload_n 0, 1) := by decide +kernel
theorem dMO_isTyped_67 : decode prog_13_method_36_code 67 = .ok (.bipush (64), 2) := by decide +kernel
theorem dMO_isTyped_69 : decode prog_13_method_36_code 69 = .ok (.iload_n 2, 1) := by decide +kernel
theorem dMO_isTyped_70 : decode prog_13_method_36_code 70 = .ok (.invokevirtual 131, 3) := by decide +kernel
theorem dMO_isTyped_73 : decode prog_13_method_36_code 73 = .ok (.istore_n 3, 1) := by decide +kernel
theorem dMO_isTyped_74 : decode prog_13_method_36_code 74 = .ok (.iload_n 2, 1) := by decide +kernel
theorem dMO_isTyped_75 : decode prog_13_method_36_code 75 = .ok (.iconst 1, 1) := by decide +kernel
theorem dMO_isTyped_76 : decode prog_13_method_36_code 76 = .ok (.iadd, 1) := by decide +kernel
theorem dMO_isTyped_77 : decode prog_13_method_36_code 77 = .ok (.istore 4, 2) := by decide +kernel
theorem dMO_isTyped_79 : decode prog_13_method_36_code 79 = .ok (.iload_n 3, 1) := by decide +kernel
theorem dMO_isTyped_80 : decode prog_13_method_36_code 80 = .ok (.invokestatic 121, 3) := by decide +kernel
theorem dMO_isTyped_83 : decode prog_13_method_36_code 83 = .ok (.iconst 2, 1) := by decide +kernel
theorem dMO_isTyped_84 : decode prog_13_method_36_code 84 = .ok (.if_icmp .ne (14), 3) := by decide +kernel
theorem dMO_isTyped_87 : decode prog_13_method_36_code 87 = .ok (.aload_n 0, 1) := by decide +kernel
theorem dMO_isTyped_88 : decode prog_13_method_36_code 88 = .ok (.bipush (64), 2) := by decide +kernel
theorem dMO_isTyped_90 : decode prog_13_method_36_code 90 = .ok (.iload 4, 2) := by decide +kernel
theorem dMO_isTyped_92 : decode prog_13_method_36_code 92 = .ok (.invokevirtual 128, 3) := by decide +kernel
theorem dMO_isTyped_95 : decode prog_13_method_36_code 95 = .ok (.goto (4), 3) := by decide +kernel
theorem dMO_isTyped_98 : decode prog_13_method_36_code 98 = .ok (.iconst 0, 1) := by decide +kernel
theorem dMO_isTyped_99 : decode prog_13_method_36_code 99 = .ok (.istore 5, 2) := by decide +kernel
theorem dMO_isTyped_101 : decode prog_13_method_36_code 101 = .ok (.iload_n 3, 1) := by decide +kernel
theorem dMO_isTyped_102 : decode prog_13_method_36_code 102 = .ok (.bipush (8), 2) := by decide +kernel
theorem dMO_isTyped_104 : decode prog_13_method_36_code 104 = .ok (.if_icmp .ge (22), 3) := by decide +kernel
theorem dMO_isTyped_107 : decode prog_13_method_36_code 107 = .ok (.aload_n 0, 1) := by decide +kernel
theorem dMO_isTyped_108 : decode prog_13_method_36_code 108 = .ok (.iload_n 3, 1) := by decide +kernel
theorem dMO_isTyped_109 : decode prog_13_method_36_code 109 = .ok (.iload_n 2, 1) := by decide +kernel
theorem dMO_isTyped_110 : decode prog_13_method_36_code 110 = .ok (.invokevirtual 171, 3) := by decide +kernel
theorem dMO_isTyped_113 : decode prog_13_method_36_code 113 = .ok (.istore 6, 2) := by decide +kernel
theorem dMO_isTyped_115 : decode prog_13_method_36_code 115 = .ok (.aload_n 0, 1) := by decide +kernel
theorem dMO_isTyped_116 : decode prog_13_method_36_code 116 = .ok (.iload_n 2, 1) := by decide +kernel
theorem dMO_isTyped_117 : decode prog_13_method_36_code 117 = .ok (.iload 6, 2) := by decide +kernel
theorem dMO_isTyped_119 : decode prog_13_method_36_code 119 = .ok (.invokevirtual 174, 3) := by decide +kernel
theorem dMO_isTyped_122 : decode prog_13_method_36_code 122 = .ok (.istore_n 1, 1) := by decide +kernel
theorem dMO_isTyped_123 : decode prog_13_method_36_code 123 = .ok (.goto (162), 3) := by decide +kernel
theorem dMO_isTyped_126 : decode prog_13_method_36_code 126 = .ok (.iload_n 3, 1) := by decide +kernel
theorem dMO_isTyped_127 : decode prog_13_method_36_code 127 = .ok (.bipush (8), 2) := by decide +kernel
theorem dMO_isTyped_129 : decode prog_13_method_36_code 129 = .ok (.if_icmp .ne (48), 3) := by decide +kernel
theorem dMO_isTyped_132 : decode prog_13_method_36_code 132 = .ok (.aload_n 0, 1) := by decide +kernel
theorem dMO_isTyped_133 : decode prog_13_method_36_code 133 = .ok (.getfield 76, 3) := by decide +kernel
theorem dMO_isTyped_136 : decode prog_13_method_36_code 136 = .ok (.bipush (48), 2) := by decide +kernel
theorem dMO_isTyped_138 : decode prog_13_method_36_code 138 = .ok (.iload_n 2, 1) := by decide +kernel
theorem dMO_isTyped_139 : decode prog_13_method_36_code 139 = .ok (.iadd, 1) := by decide +kernel
theorem dMO_isTyped_140 : decode prog_13_method_36_code 140 = .ok (.iconst 3, 1) := by decide +kernel
theorem dMO_isTyped_141 : decode prog_13_method_36_code 141 = .ok (.iastore, 1) := by decide +kernel
theorem dMO_isTyped_142 : decode prog_13_method_36_code 142 = .ok (.aload_n 0, 1) := by decide +kernel
theorem dMO_isTyped_143 : decode prog_13_method_36_code 143 = .ok (.getfield 79, 3) := by decide +kernel
theorem dMO_isTyped_146 : decode prog_13_method_36_code 146 = .ok (.bipush (48), 2) := by decide +kernel
theorem dMO_isTyped_148 : decode prog_13_method_36_code 148 = .ok (.iload_n 2, 1) := by decide +kernel
theorem dMO_isTyped_149 : decode prog_13_method_36_code 149 = .ok (.iadd, 1) := by decide +kernel
theorem dMO_isTyped_150 : decode prog_13_method_36_code 150 = .ok (.iload 5, 2) := by decide +kernel
theorem dMO_isTyped_152 : decode prog_13_method_36_code 152 = .ok (.iastore, 1) := by decide +kernel
theorem dMO_isTyped_153 : decode prog_13_method_36_code 153 = .ok (.aload_n 0, 1) := by decide +kernel
theorem dMO_isTyped_154 : decode prog_13_method_36_code 154 = .ok (.getfield 82, 3) := by decide +kernel
theorem dMO_isTyped_157 : decode prog_13_method_36_code 157 = .ok (.bipush (48), 2) := by decide +kernel
theorem dMO_isTyped_159 : decode prog_13_method_36_code 159 = .ok (.iload_n 2, 1) := by decide +kernel
theorem dMO_isTyped_160 : decode prog_13_method_36_code 160 = .ok (.iadd, 1) := by decide +kernel
theorem dMO_isTyped_161 : decode prog_13_method_36_code 161 = .ok (.iload_n 2, 1) := by decide +kernel
theorem dMO_isTyped_162 : decode prog_13_method_36_code 162 = .ok (.iastore, 1) := by decide +kernel
theorem dMO_isTyped_163 : decode prog_13_method_36_code 163 = .ok (.aload_n 0, 1) := by decide +kernel
theorem dMO_isTyped_164 : decode prog_13_method_36_code 164 = .ok (.iload 4, 2) := by decide +kernel
theorem dMO_isTyped_166 : decode prog_13_method_36_code 166 = .ok (.bipush (48), 2) := by decide +kernel
theorem dMO_isTyped_168 : decode prog_13_method_36_code 168 = .ok (.iload_n 2, 1) := by decide +kernel
theorem dMO_isTyped_169 : decode prog_13_method_36_code 169 = .ok (.iadd, 1) := by decide +kernel
theorem dMO_isTyped_170 : decode prog_13_method_36_code 170 = .ok (.invokevirtual 174, 3) := by decide +kernel
theorem dMO_isTyped_173 : decode prog_13_method_36_code 173 = .ok (.istore_n 1, 1) := by decide +kernel
theorem dMO_isTyped_174 : decode prog_13_method_36_code 174 = .ok (.goto (111), 3) := by decide +kernel
theorem dMO_isTyped_177 : decode prog_13_method_36_code 177 = .ok (.iload_n 3, 1) := by decide +kernel
theorem dMO_isTyped_178 : decode prog_13_method_36_code 178 = .ok (.bipush (9), 2) := by decide +kernel
theorem dMO_isTyped_180 : decode prog_13_method_36_code 180 = .ok (.if_icmp .ne (34), 3) := by decide +kernel
theorem dMO_isTyped_183 : decode prog_13_method_36_code 183 = .ok (.aload_n 0, 1) := by decide +kernel
theorem dMO_isTyped_184 : decode prog_13_method_36_code 184 = .ok (.iload 4, 2) := by decide +kernel
theorem dMO_isTyped_186 : decode prog_13_method_36_code 186 = .ok (.iload 5, 2) := by decide +kernel
theorem dMO_isTyped_188 : decode prog_13_method_36_code 188 = .ok (.invokevirtual 174, 3) := by decide +kernel
theorem dMO_isTyped_191 : decode prog_13_method_36_code 191 = .ok (.ifCond .eq (18), 3) := by decide +kernel
theorem dMO_isTyped_194 : decode prog_13_method_36_code 194 = .ok (.aload_n 0, 1) := by decide +kernel
theorem dMO_isTyped_195 : decode prog_13_method_36_code 195 = .ok (.iload_n 2, 1) := by decide +kernel
theorem dMO_isTyped_196 : decode prog_13_method_36_code 196 = .ok (.sipush (192), 3) := by decide +kernel
theorem dMO_isTyped_199 : decode prog_13_method_36_code 199 = .ok (.invokevirtual 174, 3) := by decide +kernel
theorem dMO_isTyped_202 : decode prog_13_method_36_code 202 = .ok (.ifCond .eq (7), 3) := by decide +kernel
theorem dMO_isTyped_205 : decode prog_13_method_36_code 205 = .ok (.iconst 1, 1) := by decide +kernel
theorem dMO_isTyped_206 : decode prog_13_method_36_code 206 = .ok (.goto (4), 3) := by decide +kernel
theorem dMO_isTyped_209 : decode prog_13_method_36_code 209 = .ok (.iconst 0, 1) := by decide +kernel
theorem dMO_isTyped_210 : decode prog_13_method_36_code 210 = .ok (.istore_n 1, 1) := by decide +kernel
theorem dMO_isTyped_211 : decode prog_13_method_36_code 211 = .ok (.goto (74), 3) := by decide +kernel
theorem dMO_isTyped_214 : decode prog_13_method_36_code 214 = .ok (.iload_n 3, 1) := by decide +kernel
theorem dMO_isTyped_215 : decode prog_13_method_36_code 215 = .ok (.bipush (10), 2) := by decide +kernel
theorem dMO_isTyped_217 : decode prog_13_method_36_code 217 = .ok (.if_icmp .ne (50), 3) := by decide +kernel
theorem dMO_isTyped_220 : decode prog_13_method_36_code 220 = .ok (.aload_n 0, 1) := by decide +kernel
theorem dMO_isTyped_221 : decode prog_13_method_36_code 221 = .ok (.getfield 76, 3) := by decide +kernel
theorem dMO_isTyped_224 : decode prog_13_method_36_code 224 = .ok (.bipush (48), 2) := by decide +kernel
theorem dMO_isTyped_226 : decode prog_13_method_36_code 226 = .ok (.iload_n 2, 1) := by decide +kernel
theorem dMO_isTyped_227 : decode prog_13_method_36_code 227 = .ok (.iadd, 1) := by decide +kernel
theorem dMO_isTyped_228 : decode prog_13_method_36_code 228 = .ok (.iconst 3, 1) := by decide +kernel
theorem dMO_isTyped_229 : decode prog_13_method_36_code 229 = .ok (.iastore, 1) := by decide +kernel
theorem dMO_isTyped_230 : decode prog_13_method_36_code 230 = .ok (.aload_n 0, 1) := by decide +kernel
theorem dMO_isTyped_231 : decode prog_13_method_36_code 231 = .ok (.getfield 79, 3) := by decide +kernel
theorem dMO_isTyped_234 : decode prog_13_method_36_code 234 = .ok (.bipush (48), 2) := by decide +kernel
theorem dMO_isTyped_236 : decode prog_13_method_36_code 236 = .ok (.iload_n 2, 1) := by decide +kernel
theorem dMO_isTyped_237 : decode prog_13_method_36_code 237 = .ok (.iadd, 1) := by decide +kernel
theorem dMO_isTyped_238 : decode prog_13_method_36_code 238 = .ok (.bipush (24), 2) := by decide +kernel
theorem dMO_isTyped_240 : decode prog_13_method_36_code 240 = .ok (.iload_n 2, 1) := by decide +kernel
theorem dMO_isTyped_241 : decode prog_13_method_36_code 241 = .ok (.iadd, 1) := by decide +kernel
theorem dMO_isTyped_242 : decode prog_13_method_36_code 242 = .ok (.iastore, 1) := by decide +kernel
theorem dMO_isTyped_243 : decode prog_13_method_36_code 243 = .ok (.aload_n 0, 1) := by decide +kernel
theorem dMO_isTyped_244 : decode prog_13_method_36_code 244 = .ok (.getfield 82, 3) := by decide +kernel
theorem dMO_isTyped_247 : decode prog_13_method_36_code 247 = .ok (.bipush (48), 2) := by decide +kernel
theorem dMO_isTyped_249 : decode prog_13_method_36_code 249 = .ok (.iload_n 2, 1) := by decide +kernel
theorem dMO_isTyped_250 : decode prog_13_method_36_code 250 = .ok (.iadd, 1) := by decide +kernel
theorem dMO_isTyped_251 : decode prog_13_method_36_code 251 = .ok (.iload 4, 2) := by decide +kernel
theorem dMO_isTyped_253 : decode prog_13_method_36_code 253 = .ok (.iastore, 1) := by decide +kernel
theorem dMO_isTyped_254 : decode prog_13_method_36_code 254 = .ok (.aload_n 0, 1) := by decide +kernel
theorem dMO_isTyped_255 : decode prog_13_method_36_code 255 = .ok (.iload_n 2, 1) := by decide +kernel
theorem dMO_isTyped_256 : decode prog_13_method_36_code 256 = .ok (.bipush (48), 2) := by decide +kernel
theorem dMO_isTyped_258 : decode prog_13_method_36_code 258 = .ok (.iload_n 2, 1) := by decide +kernel
theorem dMO_isTyped_259 : decode prog_13_method_36_code 259 = .ok (.iadd, 1) := by decide +kernel
theorem dMO_isTyped_260 : decode prog_13_method_36_code 260 = .ok (.invokevirtual 174, 3) := by decide +kernel
theorem dMO_isTyped_263 : decode prog_13_method_36_code 263 = .ok (.istore_n 1, 1) := by decide +kernel
theorem dMO_isTyped_264 : decode prog_13_method_36_code 264 = .ok (.goto (21), 3) := by decide +kernel
theorem dMO_isTyped_267 : decode prog_13_method_36_code 267 = .ok (.aload_n 0, 1) := by decide +kernel
theorem dMO_isTyped_268 : decode prog_13_method_36_code 268 = .ok (.iload_n 2, 1) := by decide +kernel
theorem dMO_isTyped_269 : decode prog_13_method_36_code 269 = .ok (.invokevirtual 178, 3) := by decide +kernel
theorem dMO_isTyped_272 : decode prog_13_method_36_code 272 = .ok (.istore 6, 2) := by decide +kernel
theorem dMO_isTyped_274 : decode prog_13_method_36_code 274 = .ok (.aload_n 0, 1) := by decide +kernel
theorem dMO_isTyped_275 : decode prog_13_method_36_code 275 = .ok (.iload_n 2, 1) := by decide +kernel
theorem dMO_isTyped_276 : decode prog_13_method_36_code 276 = .ok (.bipush (24), 2) := by decide +kernel
theorem dMO_isTyped_278 : decode prog_13_method_36_code 278 = .ok (.iload 6, 2) := by decide +kernel
theorem dMO_isTyped_280 : decode prog_13_method_36_code 280 = .ok (.iadd, 1) := by decide +kernel
theorem dMO_isTyped_281 : decode prog_13_method_36_code 281 = .ok (.invokevirtual 174, 3) := by decide +kernel
theorem dMO_isTyped_284 : decode prog_13_method_36_code 284 = .ok (.istore_n 1, 1) := by decide +kernel
theorem dMO_isTyped_285 : decode prog_13_method_36_code 285 = .ok (.iinc 2 (1), 3) := by decide +kernel
theorem dMO_isTyped_288 : decode prog_13_method_36_code 288 = .ok (.goto (-234), 3) := by decide +kernel
theorem dMO_isTyped_291 : decode prog_13_method_36_code 291 = .ok (.iload_n 1, 1) := by decide +kernel
theorem dMO_isTyped_292 : decode prog_13_method_36_code 292 = .ok (.ireturn, 1) := by decide +kernel
theorem s_MO_name {G : sd_G} {o : Nat} {D : fx_D} {h0 : sd_H} {nx k N : Nat} {l : tl_T} {nt : Nat → Nat} {K L R lk ρ : Nat → Nat} {Q : sd_Q} (hB : G.2.1 ≤ o) (hr : mo_row D 64 l) (hrow : ty_row l) (d6 : D.2.1 0 6 = nI l.length) (hk : k < l.length) (h : tg (eqs l nt k) k (72 + 7 * nm_c l k) D N K L R lk ρ) (hnt : mo_nt D nt) (hs : (tl_at l k).1 < 8)
    (K1 : ∀ (D' : fx_D) N' K' L' R' lk' ρ', tg (eqs l nt (k + 1)) (k + 1) (72 + 7 * nm_c l (k + 1)) D' N' K' L' R' lk' ρ' → mo_fgr D D' → sd_W G mMO_isTyped 4 0 0 Q 285 [(0, .ref (o + 0)), (1, .int (nI 1)), (2, .int (nI k))] [] (fx_h G.1.2 mo_S o D' h0) nx 0 0)
    (K0 : ∀ D' : fx_D, (∀ σ, eqs l nt (k + 1) σ → False) → mo_fgr D D' → sd_W G mMO_isTyped 4 0 0 Q 285 [(0, .ref (o + 0)), (1, .int (nI 0)), (2, .int (nI k))] [] (fx_h G.1.2 mo_S o D' h0) nx 0 0) :
    sd_W G mMO_isTyped 4 0 0 Q 54 [(0, .ref (o + 0)), (1, .int (nI 1)), (2, .int (nI k))] [] (fx_h G.1.2 mo_S o D h0) nx 0 0 := by
  have l24 := hrow.1
  have hx := tl_at_some hk
  have h72 := h.2.1
  have hm1 := nm_c_mono l k
  have hm8 := nm_c_le l (k + 1)
  have hb := h.1.2.1.1
  have e0 : tl_ar (tl_at l k).1 = 0 := by unfold tl_ar; rw [if_neg (by omega), if_neg (by omega)]
  have ca := c_MO_arity (G := G) (h := fx_h G.1.2 mo_S o D h0) (nx := nx) (s := (tl_at l k).1) (by omega)
  rw [e0] at ca
  have bN : nm_at l (tl_at l k).1 0 k = none → N + 7 ≤ 192 := fun hn => by
    have := nm_c_new hs hn rfl
    have := h.2.2.1
    omega
  refine sd_iload_n dMO_isTyped_54 rfl rfl ?_
  refine sd_aload_n dMO_isTyped_55 rfl rfl ?_
  refine fx_getiv (v := (nI (l.length))) 10 6 dMO_isTyped_56 fMO_158 rfl rfl (d6) ?_
  refine nn_icmp_ge 291 dMO_isTyped_59 (by decide) (by omega) (by omega) (fun c59 => ?_) (fun c59 => ?_)
  ·
    exact absurd c59 (by omega)
  ·
    refine sd_iload_n dMO_isTyped_62 rfl rfl ?_
    refine nn_if_eq 291 dMO_isTyped_63 (by decide) (by decide) (fun c => absurd c (by decide)) (fun _ => ?_)
    refine sd_aload_n dMO_isTyped_66 rfl rfl ?_
    refine sd_bipush (v := nI 64) dMO_isTyped_67 (by decide) ?_
    refine sd_iload_n dMO_isTyped_69 rfl rfl ?_
    refine fx_cV 10 sR_MO [.int (nI (64)), .int (nI (k))] [] dMO_isTyped_70 kMO_131 rfl rfl mMO_symbolAt_v (c_MO_sym (by omega) hr hx) (by decide) (Nat.le_refl _) (Nat.le_refl _) (Nat.le_of_ble_eq_true rfl) rfl ?_
    refine sd_istore_n dMO_isTyped_73 rfl (by decide) ?_
    refine sd_iload_n dMO_isTyped_74 rfl rfl ?_
    refine sd_iconst (v := nI 1) dMO_isTyped_75 (by decide) ?_
    refine nn_iadd dMO_isTyped_76 ?_
    refine sd_istore dMO_isTyped_77 (by decide) ?_
    refine sd_iload_n dMO_isTyped_79 rfl rfl ?_
    refine sd_cS [.int (nI ((tl_at l k).1))] [] dMO_isTyped_80 kMO_121 mMO_arity_s (ca) (by decide) (Nat.le_refl _) (Nat.le_refl _) (Nat.le_of_ble_eq_true rfl) rfl ?_
    refine sd_iconst (v := nI 2) dMO_isTyped_83 (by decide) ?_
    refine nn_icmp_ne 98 dMO_isTyped_84 (by decide) (by decide) (by decide) (fun _ => ?_) (fun c => absurd c (by decide))
    refine sd_iconst (v := nI 0) dMO_isTyped_98 (by decide) ?_
    refine sd_istore dMO_isTyped_99 (by decide) ?_
    refine sd_iload_n dMO_isTyped_101 rfl rfl ?_
    refine sd_bipush (v := nI 8) dMO_isTyped_102 (by decide) ?_
    refine nn_icmp_ge 126 dMO_isTyped_104 (by decide) (by omega) (by omega) (fun c104 => ?_) (fun c104 => ?_)
    ·
      exact absurd c104 (by omega)
    ·
      refine sd_aload_n dMO_isTyped_107 rfl rfl ?_
      refine sd_iload_n dMO_isTyped_108 rfl rfl ?_
      refine sd_iload_n dMO_isTyped_109 rfl rfl ?_
      refine fx_cE 10 sR_MO [.int (nI ((tl_at l k).1)), .int (nI (k))] [] dMO_isTyped_110 kMO_171 rfl rfl mMO_nameNode_v (c_MO_nameNode (l := l) (nt := nt) hB hr hnt hs (by omega) h.1 bN h72) (by decide) (Nat.le_refl _) (Nat.le_refl _) (Nat.le_of_ble_eq_true rfl) rfl (fun m D1 hD1 => ?_)
      obtain ⟨N1, Ka, La, Ra, t1, t2, t3, t4, t5⟩ := nn_tg h rfl hs (by omega) hD1
      have hpre : ∀ σ τ, eqs l nt (k + 1) σ → gsol Ka La Ra τ → rsp τ ρ → (∀ n, n < 48 → τ n = σ n) → τ k = τ m := fun σ τ hσ q1 q2 q3 => by rw [q3 k (by omega), t3 τ q1 q2]; exact (hσ k (by omega)).1 hs
      have hsub : ∀ σ, eqs l nt (k + 1) σ → eqs l nt k σ := fun σ hσ => (eqs_succ.mp hσ).1
      refine sd_istore dMO_isTyped_113 (by decide) ?_
      refine sd_aload_n dMO_isTyped_115 rfl rfl ?_
      refine sd_iload_n dMO_isTyped_116 rfl rfl ?_
      refine sd_iload dMO_isTyped_117 rfl ?_
      refine fx_cB 10 sR_MO [.int (nI (k)), .int (nI (m))] [] dMO_isTyped_119 kMO_174 rfl rfl mMO_unify_v (c_MO_unify hB t1.1.1 t1.1.2.1 t1.1.2.2.1 t1.1.2.2.2.1 (Or.inl (by have := t1.2.1; omega)) t2) (by decide) (Nat.le_refl _) (Nat.le_refl _) (Nat.le_of_ble_eq_true rfl) rfl (fun D2 hD2 => ?_) (fun D2 hD2 => ?_)
      ·
        obtain ⟨ρ', lk', q1, q2⟩ := tg_yes t1 hD2 (fun τ a1 a2 a3 a4 => eqs_succ.mpr ⟨a3, ⟨fun _ => by rw [a4]; exact t3 τ a1 a2, fun z => by omega, fun z => by omega, fun z => by omega, fun z => by omega⟩⟩) hpre hsub (Or.inl (by omega)) t4
        have fin_1 := K1 D2 N1 Ka La Ra lk' ρ' (q1.c (by omega) (Nat.le_refl _)) (t5.tr q2.fgr)
        refine sd_istore_n dMO_isTyped_122 rfl (by decide) ?_
        refine sd_goto 285 dMO_isTyped_123 (by decide) ?_
        refine sd_locp (al' := [(0, .ref (o + (0))), (1, .int (nI (1))), (2, .int (nI (k)))]) [5, 0, 6] rfl ?_
        exact fin_1
      ·
        have fin_0 := K0 D2 (tg_no t1 hD2.1 hpre hsub) (t5.tr hD2.2.fgr)
        refine sd_istore_n dMO_isTyped_122 rfl (by decide) ?_
        refine sd_goto 285 dMO_isTyped_123 (by decide) ?_
        refine sd_locp (al' := [(0, .ref (o + (0))), (1, .int (nI (0))), (2, .int (nI (k)))]) [5, 0, 6] rfl ?_
        exact fin_0
theorem s_MO_app {G : sd_G} {o : Nat} {D : fx_D} {h0 : sd_H} {nx k N : Nat} {l : tl_T} {nt : Nat → Nat} {K L R lk ρ : Nat → Nat} {Q : sd_Q} (hB : G.2.1 ≤ o) (hr : mo_row D 64 l) (hrow : ty_row l) (d6 : D.2.1 0 6 = nI l.length) (hk : k < l.length) (h : tg (eqs l nt k) k (72 + 7 * nm_c l k) D N K L R lk ρ) (hs : (tl_at l k).1 = 8)
    (K1 : ∀ (D' : fx_D) N' K' L' R' lk' ρ', tg (eqs l nt (k + 1)) (k + 1) (72 + 7 * nm_c l (k + 1)) D' N' K' L' R' lk' ρ' → mo_fgr D D' → sd_W G mMO_isTyped 4 0 0 Q 285 [(0, .ref (o + 0)), (1, .int (nI 1)), (2, .int (nI k))] [] (fx_h G.1.2 mo_S o D' h0) nx 0 0)
    (K0 : ∀ D' : fx_D, (∀ σ, eqs l nt (k + 1) σ → False) → mo_fgr D D' → sd_W G mMO_isTyped 4 0 0 Q 285 [(0, .ref (o + 0)), (1, .int (nI 0)), (2, .int (nI k))] [] (fx_h G.1.2 mo_S o D' h0) nx 0 0) :
    sd_W G mMO_isTyped 4 0 0 Q 54 [(0, .ref (o + 0)), (1, .int (nI 1)), (2, .int (nI k))] [] (fx_h G.1.2 mo_S o D h0) nx 0 0 := by
  have l24 := hrow.1
  have hx := tl_at_some hk
  have h72 := h.2.1
  have hm1 := nm_c_mono l k
  have hm8 := nm_c_le l (k + 1)
  have hb := h.1.2.1.1
  have e0 : tl_ar (tl_at l k).1 = 2 := by rw [hs]; rfl
  have hy := (hrow.2 k hk).2.1 e0
  have hx1 := (hrow.2 k hk).2.2 (by omega)
  have cs := c_MO_sym (G := G) (o := o) (h0 := h0) (nx := nx) (r := 64) (by omega) hr hx
  rw [hs] at cs
  have ca : sd_Ct G mMO_arity 0 0 0 [.int (nI 8)] (fx_h G.1.2 mo_S o D h0) nx (sd_is (some (.int (nI 2))) (fx_h G.1.2 mo_S o D h0) nx) := c_MO_arity (s := 8) (by omega)
  have ce := c_MO_end (G := G) (o := o) (h0 := h0) (nx := nx) (r := 64) (i := k + 1) (by omega) hr (by omega) (hrow.2 (k + 1) hx1).1
  have t1 := tg_set (l := tl_end l (k + 1)) (r := k) (h.c (Nat.le_refl _) (show 72 + 7 * nm_c l k ≤ 72 + 7 * nm_c l (k + 1) by omega)) (by omega) (by omega) (by omega) (by omega)
  have f1 : mo_fgr D (fx_ua (fx_ua (fx_ua D 23 (48 + k) (nI 3)) 24 (48 + k) (nI (tl_end l (k + 1)))) 25 (48 + k) (nI k)) := ((mo_fgr.ua D (by omega)).tr (mo_fgr.ua _ (by omega))).tr (mo_fgr.ua _ (by omega))
  have hz : ∀ τ, gsol (upN K (48 + k) 3) (upN L (48 + k) (tl_end l (k + 1))) (upN R (48 + k) k) τ → τ (48 + k) = .append (τ (tl_end l (k + 1))) (τ k) := fun τ a1 => by
    have := (a1 (48 + k)).2.2 (by simp [upN])
    simp only [upN, if_true] at this
    exact this
  have hpre : ∀ σ τ, eqs l nt (k + 1) σ → gsol (upN K (48 + k) 3) (upN L (48 + k) (tl_end l (k + 1))) (upN R (48 + k) k) τ → rsp τ ρ → (∀ n, n < 48 → τ n = σ n) → τ (k + 1) = τ (48 + k) := fun σ τ hσ q1 q2 q3 => by
    rw [hz τ q1, q3 (k + 1) (by omega), q3 k (by omega), q3 (tl_end l (k + 1)) (by omega)]
    exact (hσ k (by omega)).2.1 hs
  have hsub : ∀ σ, eqs l nt (k + 1) σ → eqs l nt k σ := fun σ hσ => (eqs_succ.mp hσ).1
  refine sd_iload_n dMO_isTyped_54 rfl rfl ?_
  refine sd_aload_n dMO_isTyped_55 rfl rfl ?_
  refine fx_getiv (v := (nI (l.length))) 10 6 dMO_isTyped_56 fMO_158 rfl rfl (d6) ?_
  refine nn_icmp_ge 291 dMO_isTyped_59 (by decide) (by omega) (by omega) (fun c59 => ?_) (fun c59 => ?_)
  ·
    exact absurd c59 (by omega)
  ·
    refine sd_iload_n dMO_isTyped_62 rfl rfl ?_
    refine nn_if_eq 291 dMO_isTyped_63 (by decide) (by decide) (fun c => absurd c (by decide)) (fun _ => ?_)
    refine sd_aload_n dMO_isTyped_66 rfl rfl ?_
    refine sd_bipush (v := nI 64) dMO_isTyped_67 (by decide) ?_
    refine sd_iload_n dMO_isTyped_69 rfl rfl ?_
    refine fx_cV 10 sR_MO [.int (nI (64)), .int (nI (k))] [] dMO_isTyped_70 kMO_131 rfl rfl mMO_symbolAt_v (cs) (by decide) (Nat.le_refl _) (Nat.le_refl _) (Nat.le_of_ble_eq_true rfl) rfl ?_
    refine sd_istore_n dMO_isTyped_73 rfl (by decide) ?_
    refine sd_iload_n dMO_isTyped_74 rfl rfl ?_
    refine sd_iconst (v := nI 1) dMO_isTyped_75 (by decide) ?_
    refine nn_iadd dMO_isTyped_76 ?_
    refine sd_istore dMO_isTyped_77 (by decide) ?_
    refine sd_iload_n dMO_isTyped_79 rfl rfl ?_
    refine sd_cS [.int (nI (8))] [] dMO_isTyped_80 kMO_121 mMO_arity_s (ca) (by decide) (Nat.le_refl _) (Nat.le_refl _) (Nat.le_of_ble_eq_true rfl) rfl ?_
    refine sd_iconst (v := nI 2) dMO_isTyped_83 (by decide) ?_
    refine nn_icmp_ne 98 dMO_isTyped_84 (by decide) (by decide) (by decide) (fun c => absurd c (by decide)) (fun _ => ?_)
    refine sd_aload_n dMO_isTyped_87 rfl rfl ?_
    refine sd_bipush (v := nI 64) dMO_isTyped_88 (by decide) ?_
    refine sd_iload dMO_isTyped_90 rfl ?_
    refine fx_cV 10 sR_MO [.int (nI (64)), .int (nI (k + 1))] [] dMO_isTyped_92 kMO_128 rfl rfl mMO_end_v (ce) (by decide) (Nat.le_refl _) (Nat.le_refl _) (Nat.le_of_ble_eq_true rfl) rfl ?_
    refine sd_goto 99 dMO_isTyped_95 (by decide) ?_
    refine sd_istore dMO_isTyped_99 (by decide) ?_
    refine sd_iload_n dMO_isTyped_101 rfl rfl ?_
    refine sd_bipush (v := nI 8) dMO_isTyped_102 (by decide) ?_
    refine nn_icmp_ge 126 dMO_isTyped_104 (by decide) (by decide) (by decide) (fun _ => ?_) (fun c => absurd c (by decide))
    refine sd_iload_n dMO_isTyped_126 rfl rfl ?_
    refine sd_bipush (v := nI 8) dMO_isTyped_127 (by decide) ?_
    refine nn_icmp_ne 177 dMO_isTyped_129 (by decide) (by decide) (by decide) (fun c => absurd c (by decide)) (fun _ => ?_)
    refine sd_aload_n dMO_isTyped_132 rfl rfl ?_
    refine fx_getr 10 30 (23) dMO_isTyped_133 fMO_76 rfl rfl ?_
    refine sd_bipush (v := nI 48) dMO_isTyped_136 (by decide) ?_
    refine sd_iload_n dMO_isTyped_138 rfl rfl ?_
    refine nn_iadd dMO_isTyped_139 ?_
    refine sd_iconst (v := nI 3) dMO_isTyped_140 (by decide) ?_
    refine fx_iast (48 + k) dMO_isTyped_141 rfl rfl (by omega) (by decide) hB ?_
    refine sd_aload_n dMO_isTyped_142 rfl rfl ?_
    refine fx_getr 10 31 (24) dMO_isTyped_143 fMO_79 rfl rfl ?_
    refine sd_bipush (v := nI 48) dMO_isTyped_146 (by decide) ?_
    refine sd_iload_n dMO_isTyped_148 rfl rfl ?_
    refine nn_iadd dMO_isTyped_149 ?_
    refine sd_iload dMO_isTyped_150 rfl ?_
    refine fx_iast (48 + k) dMO_isTyped_152 rfl rfl (by omega) (by decide) hB ?_
    refine sd_aload_n dMO_isTyped_153 rfl rfl ?_
    refine fx_getr 10 32 (25) dMO_isTyped_154 fMO_82 rfl rfl ?_
    refine sd_bipush (v := nI 48) dMO_isTyped_157 (by decide) ?_
    refine sd_iload_n dMO_isTyped_159 rfl rfl ?_
    refine nn_iadd dMO_isTyped_160 ?_
    refine sd_iload_n dMO_isTyped_161 rfl rfl ?_
    refine fx_iast (48 + k) dMO_isTyped_162 rfl rfl (by omega) (by decide) hB ?_
    refine sd_aload_n dMO_isTyped_163 rfl rfl ?_
    refine sd_iload dMO_isTyped_164 rfl ?_
    refine sd_bipush (v := nI 48) dMO_isTyped_166 (by decide) ?_
    refine sd_iload_n dMO_isTyped_168 rfl rfl ?_
    refine nn_iadd dMO_isTyped_169 ?_
    refine fx_cB 10 sR_MO [.int (nI (k + 1)), .int (nI (48 + k))] [] dMO_isTyped_170 kMO_174 rfl rfl mMO_unify_v (c_MO_unify hB t1.1.1 t1.1.2.1 t1.1.2.2.1 t1.1.2.2.2.1 (Or.inl (by omega)) (Or.inl (by omega))) (by decide) (Nat.le_refl _) (Nat.le_refl _) (Nat.le_of_ble_eq_true rfl) rfl (fun D2 hD2 => ?_) (fun D2 hD2 => ?_)
    ·
      obtain ⟨ρ', lk', q1, q2⟩ := tg_yes t1 hD2 (fun τ a1 a2 a3 a4 => eqs_succ.mpr ⟨a3, ⟨fun z => by omega, fun _ => by rw [a4]; exact hz τ a1, fun z => by omega, fun z => by omega, fun z => by omega⟩⟩) hpre hsub (Or.inl (by omega)) (Or.inl (by omega))
      have fin_1 := K1 D2 _ _ _ _ lk' ρ' q1 (f1.tr q2.fgr)
      refine sd_istore_n dMO_isTyped_173 rfl (by decide) ?_
      refine sd_goto 285 dMO_isTyped_174 (by decide) ?_
      refine sd_locp (al' := [(0, .ref (o + (0))), (1, .int (nI (1))), (2, .int (nI (k)))]) [4, 0, 5] rfl ?_
      exact fin_1
    ·
      have fin_0 := K0 D2 (tg_no t1 hD2.1 hpre hsub) (f1.tr hD2.2.fgr)
      refine sd_istore_n dMO_isTyped_173 rfl (by decide) ?_
      refine sd_goto 285 dMO_isTyped_174 (by decide) ?_
      refine sd_locp (al' := [(0, .ref (o + (0))), (1, .int (nI (0))), (2, .int (nI (k)))]) [4, 0, 5] rfl ?_
      exact fin_0
theorem s_MO_lam {G : sd_G} {o : Nat} {D : fx_D} {h0 : sd_H} {nx k N : Nat} {l : tl_T} {nt : Nat → Nat} {K L R lk ρ : Nat → Nat} {Q : sd_Q} (hB : G.2.1 ≤ o) (hr : mo_row D 64 l) (hrow : ty_row l) (d6 : D.2.1 0 6 = nI l.length) (hk : k < l.length) (h : tg (eqs l nt k) k (72 + 7 * nm_c l k) D N K L R lk ρ) (hs : (tl_at l k).1 = 10)
    (K1 : ∀ (D' : fx_D) N' K' L' R' lk' ρ', tg (eqs l nt (k + 1)) (k + 1) (72 + 7 * nm_c l (k + 1)) D' N' K' L' R' lk' ρ' → mo_fgr D D' → sd_W G mMO_isTyped 4 0 0 Q 285 [(0, .ref (o + 0)), (1, .int (nI 1)), (2, .int (nI k))] [] (fx_h G.1.2 mo_S o D' h0) nx 0 0)
    (K0 : ∀ D' : fx_D, (∀ σ, eqs l nt (k + 1) σ → False) → mo_fgr D D' → sd_W G mMO_isTyped 4 0 0 Q 285 [(0, .ref (o + 0)), (1, .int (nI 0)), (2, .int (nI k))] [] (fx_h G.1.2 mo_S o D' h0) nx 0 0) :
    sd_W G mMO_isTyped 4 0 0 Q 54 [(0, .ref (o + 0)), (1, .int (nI 1)), (2, .int (nI k))] [] (fx_h G.1.2 mo_S o D h0) nx 0 0 := by
  have l24 := hrow.1
  have hx := tl_at_some hk
  have h72 := h.2.1
  have hm1 := nm_c_mono l k
  have hm8 := nm_c_le l (k + 1)
  have hb := h.1.2.1.1
  have e0 : tl_ar (tl_at l k).1 = 1 := by rw [hs]; rfl
  have hx1 := (hrow.2 k hk).2.2 (by omega)
  have cs := c_MO_sym (G := G) (o := o) (h0 := h0) (nx := nx) (r := 64) (by omega) hr hx
  rw [hs] at cs
  have ca : sd_Ct G mMO_arity 0 0 0 [.int (nI 10)] (fx_h G.1.2 mo_S o D h0) nx (sd_is (some (.int (nI 1))) (fx_h G.1.2 mo_S o D h0) nx) := c_MO_arity (s := 10) (by omega)
  have t1 := tg_set (l := 24 + k) (r := k + 1) (h.c (Nat.le_refl _) (show 72 + 7 * nm_c l k ≤ 72 + 7 * nm_c l (k + 1) by omega)) (by omega) (by omega) (by omega) (by omega)
  have f1 : mo_fgr D (fx_ua (fx_ua (fx_ua D 23 (48 + k) (nI 3)) 24 (48 + k) (nI (24 + k))) 25 (48 + k) (nI (k + 1))) := ((mo_fgr.ua D (by omega)).tr (mo_fgr.ua _ (by omega))).tr (mo_fgr.ua _ (by omega))
  have hz : ∀ τ, gsol (upN K (48 + k) 3) (upN L (48 + k) (24 + k)) (upN R (48 + k) (k + 1)) τ → τ (48 + k) = .append (τ (24 + k)) (τ (k + 1)) := fun τ a1 => by
    have := (a1 (48 + k)).2.2 (by simp [upN])
    simp only [upN, if_true] at this
    exact this
  have hpre : ∀ σ τ, eqs l nt (k + 1) σ → gsol (upN K (48 + k) 3) (upN L (48 + k) (24 + k)) (upN R (48 + k) (k + 1)) τ → rsp τ ρ → (∀ n, n < 48 → τ n = σ n) → τ k = τ (48 + k) := fun σ τ hσ q1 q2 q3 => by
    rw [hz τ q1, q3 (k + 1) (by omega), q3 k (by omega), q3 (24 + k) (by omega)]
    exact (hσ k (by omega)).2.2.2.1 hs
  have hsub : ∀ σ, eqs l nt (k + 1) σ → eqs l nt k σ := fun σ hσ => (eqs_succ.mp hσ).1
  refine sd_iload_n dMO_isTyped_54 rfl rfl ?_
  refine sd_aload_n dMO_isTyped_55 rfl rfl ?_
  refine fx_getiv (v := (nI (l.length))) 10 6 dMO_isTyped_56 fMO_158 rfl rfl (d6) ?_
  refine nn_icmp_ge 291 dMO_isTyped_59 (by decide) (by omega) (by omega) (fun c59 => ?_) (fun c59 => ?_)
  ·
    exact absurd c59 (by omega)
  ·
    refine sd_iload_n dMO_isTyped_62 rfl rfl ?_
    refine nn_if_eq 291 dMO_isTyped_63 (by decide) (by decide) (fun c => absurd c (by decide)) (fun _ => ?_)
    refine sd_aload_n dMO_isTyped_66 rfl rfl ?_
    refine sd_bipush (v := nI 64) dMO_isTyped_67 (by decide) ?_
    refine sd_iload_n dMO_isTyped_69 rfl rfl ?_
    refine fx_cV 10 sR_MO [.int (nI (64)), .int (nI (k))] [] dMO_isTyped_70 kMO_131 rfl rfl mMO_symbolAt_v (cs) (by decide) (Nat.le_refl _) (Nat.le_refl _) (Nat.le_of_ble_eq_true rfl) rfl ?_
    refine sd_istore_n dMO_isTyped_73 rfl (by decide) ?_
    refine sd_iload_n dMO_isTyped_74 rfl rfl ?_
    refine sd_iconst (v := nI 1) dMO_isTyped_75 (by decide) ?_
    refine nn_iadd dMO_isTyped_76 ?_
    refine sd_istore dMO_isTyped_77 (by decide) ?_
    refine sd_iload_n dMO_isTyped_79 rfl rfl ?_
    refine sd_cS [.int (nI (10))] [] dMO_isTyped_80 kMO_121 mMO_arity_s (ca) (by decide) (Nat.le_refl _) (Nat.le_refl _) (Nat.le_of_ble_eq_true rfl) rfl ?_
    refine sd_iconst (v := nI 2) dMO_isTyped_83 (by decide) ?_
    refine nn_icmp_ne 98 dMO_isTyped_84 (by decide) (by decide) (by decide) (fun _ => ?_) (fun c => absurd c (by decide))
    refine sd_iconst (v := nI 0) dMO_isTyped_98 (by decide) ?_
    refine sd_istore dMO_isTyped_99 (by decide) ?_
    refine sd_iload_n dMO_isTyped_101 rfl rfl ?_
    refine sd_bipush (v := nI 8) dMO_isTyped_102 (by decide) ?_
    refine nn_icmp_ge 126 dMO_isTyped_104 (by decide) (by decide) (by decide) (fun _ => ?_) (fun c => absurd c (by decide))
    refine sd_iload_n dMO_isTyped_126 rfl rfl ?_
    refine sd_bipush (v := nI 8) dMO_isTyped_127 (by decide) ?_
    refine nn_icmp_ne 177 dMO_isTyped_129 (by decide) (by decide) (by decide) (fun _ => ?_) (fun c => absurd c (by decide))
    refine sd_iload_n dMO_isTyped_177 rfl rfl ?_
    refine sd_bipush (v := nI 9) dMO_isTyped_178 (by decide) ?_
    refine nn_icmp_ne 214 dMO_isTyped_180 (by decide) (by decide) (by decide) (fun _ => ?_) (fun c => absurd c (by decide))
    refine sd_iload_n dMO_isTyped_214 rfl rfl ?_
    refine sd_bipush (v := nI 10) dMO_isTyped_215 (by decide) ?_
    refine nn_icmp_ne 267 dMO_isTyped_217 (by decide) (by decide) (by decide) (fun c => absurd c (by decide)) (fun _ => ?_)
    refine sd_aload_n dMO_isTyped_220 rfl rfl ?_
    refine fx_getr 10 30 (23) dMO_isTyped_221 fMO_76 rfl rfl ?_
    refine sd_bipush (v := nI 48) dMO_isTyped_224 (by decide) ?_
    refine sd_iload_n dMO_isTyped_226 rfl rfl ?_
    refine nn_iadd dMO_isTyped_227 ?_
    refine sd_iconst (v := nI 3) dMO_isTyped_228 (by decide) ?_
    refine fx_iast (48 + k) dMO_isTyped_229 rfl rfl (by omega) (by decide) hB ?_
    refine sd_aload_n dMO_isTyped_230 rfl rfl ?_
    refine fx_getr 10 31 (24) dMO_isTyped_231 fMO_79 rfl rfl ?_
    refine sd_bipush (v := nI 48) dMO_isTyped_234 (by decide) ?_
    refine sd_iload_n dMO_isTyped_236 rfl rfl ?_
    refine nn_iadd dMO_isTyped_237 ?_
    refine sd_bipush (v := nI 24) dMO_isTyped_238 (by decide) ?_
    refine sd_iload_n dMO_isTyped_240 rfl rfl ?_
    refine nn_iadd dMO_isTyped_241 ?_
    refine fx_iast (48 + k) dMO_isTyped_242 rfl rfl (by omega) (by decide) hB ?_
    refine sd_aload_n dMO_isTyped_243 rfl rfl ?_
    refine fx_getr 10 32 (25) dMO_isTyped_244 fMO_82 rfl rfl ?_
    refine sd_bipush (v := nI 48) dMO_isTyped_247 (by decide) ?_
    refine sd_iload_n dMO_isTyped_249 rfl rfl ?_
    refine nn_iadd dMO_isTyped_250 ?_
    refine sd_iload dMO_isTyped_251 rfl ?_
    refine fx_iast (48 + k) dMO_isTyped_253 rfl rfl (by omega) (by decide) hB ?_
    refine sd_aload_n dMO_isTyped_254 rfl rfl ?_
    refine sd_iload_n dMO_isTyped_255 rfl rfl ?_
    refine sd_bipush (v := nI 48) dMO_isTyped_256 (by decide) ?_
    refine sd_iload_n dMO_isTyped_258 rfl rfl ?_
    refine nn_iadd dMO_isTyped_259 ?_
    refine fx_cB 10 sR_MO [.int (nI (k)), .int (nI (48 + k))] [] dMO_isTyped_260 kMO_174 rfl rfl mMO_unify_v (c_MO_unify hB t1.1.1 t1.1.2.1 t1.1.2.2.1 t1.1.2.2.2.1 (Or.inl (by omega)) (Or.inl (by omega))) (by decide) (Nat.le_refl _) (Nat.le_refl _) (Nat.le_of_ble_eq_true rfl) rfl (fun D2 hD2 => ?_) (fun D2 hD2 => ?_)
    ·
      obtain ⟨ρ', lk', q1, q2⟩ := tg_yes t1 hD2 (fun τ a1 a2 a3 a4 => eqs_succ.mpr ⟨a3, ⟨fun z => by omega, fun z => by omega, fun z => by omega, fun _ => by rw [a4]; exact hz τ a1, fun z => by omega⟩⟩) hpre hsub (Or.inl (by omega)) (Or.inl (by omega))
      have fin_1 := K1 D2 _ _ _ _ lk' ρ' q1 (f1.tr q2.fgr)
      refine sd_istore_n dMO_isTyped_263 rfl (by decide) ?_
      refine sd_goto 285 dMO_isTyped_264 (by decide) ?_
      refine sd_locp (al' := [(0, .ref (o + (0))), (1, .int (nI (1))), (2, .int (nI (k)))]) [4, 0, 5] rfl ?_
      exact fin_1
    ·
      have fin_0 := K0 D2 (tg_no t1 hD2.1 hpre hsub) (f1.tr hD2.2.fgr)
      refine sd_istore_n dMO_isTyped_263 rfl (by decide) ?_
      refine sd_goto 285 dMO_isTyped_264 (by decide) ?_
      refine sd_locp (al' := [(0, .ref (o + (0))), (1, .int (nI (0))), (2, .int (nI (k)))]) [4, 0, 5] rfl ?_
      exact fin_0
theorem s_MO_eq {G : sd_G} {o : Nat} {D : fx_D} {h0 : sd_H} {nx k N : Nat} {l : tl_T} {nt : Nat → Nat} {K L R lk ρ : Nat → Nat} {Q : sd_Q} (hB : G.2.1 ≤ o) (hr : mo_row D 64 l) (hrow : ty_row l) (d6 : D.2.1 0 6 = nI l.length) (hk : k < l.length) (h : tg (eqs l nt k) k (72 + 7 * nm_c l k) D N K L R lk ρ) (hs : (tl_at l k).1 = 9)
    (K1 : ∀ (D' : fx_D) N' K' L' R' lk' ρ', tg (eqs l nt (k + 1)) (k + 1) (72 + 7 * nm_c l (k + 1)) D' N' K' L' R' lk' ρ' → mo_fgr D D' → sd_W G mMO_isTyped 4 0 0 Q 285 [(0, .ref (o + 0)), (1, .int (nI 1)), (2, .int (nI k))] [] (fx_h G.1.2 mo_S o D' h0) nx 0 0)
    (K0 : ∀ D' : fx_D, (∀ σ, eqs l nt (k + 1) σ → False) → mo_fgr D D' → sd_W G mMO_isTyped 4 0 0 Q 285 [(0, .ref (o + 0)), (1, .int (nI 0)), (2, .int (nI k))] [] (fx_h G.1.2 mo_S o D' h0) nx 0 0) :
    sd_W G mMO_isTyped 4 0 0 Q 54 [(0, .ref (o + 0)), (1, .int (nI 1)), (2, .int (nI k))] [] (fx_h G.1.2 mo_S o D h0) nx 0 0 := by
  have l24 := hrow.1
  have hx := tl_at_some hk
  have h72 := h.2.1
  have hm1 := nm_c_mono l k
  have hm8 := nm_c_le l (k + 1)
  have hb := h.1.2.1.1
  have e0 : tl_ar (tl_at l k).1 = 2 := by rw [hs]; rfl
  have hy := (hrow.2 k hk).2.1 e0
  have hx1 := (hrow.2 k hk).2.2 (by omega)
  have cs := c_MO_sym (G := G) (o := o) (h0 := h0) (nx := nx) (r := 64) (by omega) hr hx
  rw [hs] at cs
  have ca : sd_Ct G mMO_arity 0 0 0 [.int (nI 9)] (fx_h G.1.2 mo_S o D h0) nx (sd_is (some (.int (nI 2))) (fx_h G.1.2 mo_S o D h0) nx) := c_MO_arity (s := 9) (by omega)
  have ce := c_MO_end (G := G) (o := o) (h0 := h0) (nx := nx) (r := 64) (i := k + 1) (by omega) hr (by omega) (hrow.2 (k + 1) hx1).1
  have t1 := h.c (Nat.le_refl _) (show 72 + 7 * nm_c l k ≤ 72 + 7 * nm_c l (k + 1) by omega)
  have hsub : ∀ σ, eqs l nt (k + 1) σ → eqs l nt k σ := fun σ hσ => (eqs_succ.mp hσ).1
  have hpre : ∀ σ τ, eqs l nt (k + 1) σ → gsol K L R τ → rsp τ ρ → (∀ n, n < 48 → τ n = σ n) → τ (k + 1) = τ (tl_end l (k + 1)) := fun σ τ hσ q1 q2 q3 => by
    rw [q3 (k + 1) (by omega), q3 (tl_end l (k + 1)) (by omega)]
    exact ((hσ k (by omega)).2.2.1 hs).1
  have k1 : K 192 = 1 := h.1.2.2.2.2.2.1
  refine sd_iload_n dMO_isTyped_54 rfl rfl ?_
  refine sd_aload_n dMO_isTyped_55 rfl rfl ?_
  refine fx_getiv (v := (nI (l.length))) 10 6 dMO_isTyped_56 fMO_158 rfl rfl (d6) ?_
  refine nn_icmp_ge 291 dMO_isTyped_59 (by decide) (by omega) (by omega) (fun c59 => ?_) (fun c59 => ?_)
  ·
    exact absurd c59 (by omega)
  ·
    refine sd_iload_n dMO_isTyped_62 rfl rfl ?_
    refine nn_if_eq 291 dMO_isTyped_63 (by decide) (by decide) (fun c => absurd c (by decide)) (fun _ => ?_)
    refine sd_aload_n dMO_isTyped_66 rfl rfl ?_
    refine sd_bipush (v := nI 64) dMO_isTyped_67 (by decide) ?_
    refine sd_iload_n dMO_isTyped_69 rfl rfl ?_
    refine fx_cV 10 sR_MO [.int (nI (64)), .int (nI (k))] [] dMO_isTyped_70 kMO_131 rfl rfl mMO_symbolAt_v (cs) (by decide) (Nat.le_refl _) (Nat.le_refl _) (Nat.le_of_ble_eq_true rfl) rfl ?_
    refine sd_istore_n dMO_isTyped_73 rfl (by decide) ?_
    refine sd_iload_n dMO_isTyped_74 rfl rfl ?_
    refine sd_iconst (v := nI 1) dMO_isTyped_75 (by decide) ?_
    refine nn_iadd dMO_isTyped_76 ?_
    refine sd_istore dMO_isTyped_77 (by decide) ?_
    refine sd_iload_n dMO_isTyped_79 rfl rfl ?_
    refine sd_cS [.int (nI (9))] [] dMO_isTyped_80 kMO_121 mMO_arity_s (ca) (by decide) (Nat.le_refl _) (Nat.le_refl _) (Nat.le_of_ble_eq_true rfl) rfl ?_
    refine sd_iconst (v := nI 2) dMO_isTyped_83 (by decide) ?_
    refine nn_icmp_ne 98 dMO_isTyped_84 (by decide) (by decide) (by decide) (fun c => absurd c (by decide)) (fun _ => ?_)
    refine sd_aload_n dMO_isTyped_87 rfl rfl ?_
    refine sd_bipush (v := nI 64) dMO_isTyped_88 (by decide) ?_
    refine sd_iload dMO_isTyped_90 rfl ?_
    refine fx_cV 10 sR_MO [.int (nI (64)), .int (nI (k + 1))] [] dMO_isTyped_92 kMO_128 rfl rfl mMO_end_v (ce) (by decide) (Nat.le_refl _) (Nat.le_refl _) (Nat.le_of_ble_eq_true rfl) rfl ?_
    refine sd_goto 99 dMO_isTyped_95 (by decide) ?_
    refine sd_istore dMO_isTyped_99 (by decide) ?_
    refine sd_iload_n dMO_isTyped_101 rfl rfl ?_
    refine sd_bipush (v := nI 8) dMO_isTyped_102 (by decide) ?_
    refine nn_icmp_ge 126 dMO_isTyped_104 (by decide) (by decide) (by decide) (fun _ => ?_) (fun c => absurd c (by decide))
    refine sd_iload_n dMO_isTyped_126 rfl rfl ?_
    refine sd_bipush (v := nI 8) dMO_isTyped_127 (by decide) ?_
    refine nn_icmp_ne 177 dMO_isTyped_129 (by decide) (by decide) (by decide) (fun _ => ?_) (fun c => absurd c (by decide))
    refine sd_iload_n dMO_isTyped_177 rfl rfl ?_
    refine sd_bipush (v := nI 9) dMO_isTyped_178 (by decide) ?_
    refine nn_icmp_ne 214 dMO_isTyped_180 (by decide) (by decide) (by decide) (fun c => absurd c (by decide)) (fun _ => ?_)
    refine sd_aload_n dMO_isTyped_183 rfl rfl ?_
    refine sd_iload dMO_isTyped_184 rfl ?_
    refine sd_iload dMO_isTyped_186 rfl ?_
    refine fx_cB 10 sR_MO [.int (nI (k + 1)), .int (nI (tl_end l (k + 1)))] [] dMO_isTyped_188 kMO_174 rfl rfl mMO_unify_v (c_MO_unify hB t1.1.1 t1.1.2.1 t1.1.2.2.1 t1.1.2.2.2.1 (Or.inl (by omega)) (Or.inl (by omega))) (by decide) (Nat.le_refl _) (Nat.le_refl _) (Nat.le_of_ble_eq_true rfl) rfl (fun D2 hD2 => ?_) (fun D2 hD2 => ?_)
    ·
      obtain ⟨ρ', lk', q1, q2⟩ := tg_yes (Q := fun σ => eqs l nt k σ ∧ σ (k + 1) = σ (tl_end l (k + 1))) t1 hD2 (fun τ a1 a2 a3 a4 => ⟨a3, a4⟩) (fun σ τ hσ _ _ q3 => by rw [q3 (k + 1) (by omega), q3 (tl_end l (k + 1)) (by omega)]; exact hσ.2) (fun σ hσ => hσ.1) (Or.inl (by omega)) (Or.inl (by omega))
      have hpre2 : ∀ σ τ, eqs l nt (k + 1) σ → gsol K L R τ → rsp τ ρ' → (∀ n, n < 48 → τ n = σ n) → τ k = τ 192 := fun σ τ hσ w1 w2 w3 => by rw [w3 k (by omega), (w1 192).1 k1]; exact ((hσ k (by omega)).2.2.1 hs).2
      have hsub2 : ∀ σ, eqs l nt (k + 1) σ → (eqs l nt k σ ∧ σ (k + 1) = σ (tl_end l (k + 1))) := fun σ hσ => ⟨hsub σ hσ, ((hσ k (by omega)).2.2.1 hs).1⟩
      refine nn_if_eq 209 dMO_isTyped_191 (by decide) (by decide) (fun c => absurd c (by decide)) (fun _ => ?_)
      refine sd_aload_n dMO_isTyped_194 rfl rfl ?_
      refine sd_iload_n dMO_isTyped_195 rfl rfl ?_
      refine sd_sipush (v := nI 192) dMO_isTyped_196 (by decide) ?_
      refine fx_cB 10 sR_MO [.int (nI (k)), .int (nI (192))] [] dMO_isTyped_199 kMO_174 rfl rfl mMO_unify_v (c_MO_unify hB q1.1.1 q1.1.2.1 q1.1.2.2.1 q1.1.2.2.2.1 (Or.inl (by omega)) (Or.inr (Or.inl rfl))) (by decide) (Nat.le_refl _) (Nat.le_refl _) (Nat.le_of_ble_eq_true rfl) rfl (fun D3 hD3 => ?_) (fun D3 hD3 => ?_)
      ·
        obtain ⟨ρ2, lk2, w1, w2⟩ := tg_yes q1 hD3 (fun τ a1 a2 a3 a4 => eqs_succ.mpr ⟨a3.1, ⟨fun z => by omega, fun z => by omega, fun _ => ⟨a3.2, by rw [a4]; exact (a1 192).1 k1⟩, fun z => by omega, fun z => by omega⟩⟩) hpre2 hsub2 (Or.inl (by omega)) (Or.inr (by omega))
        have fin_1 := K1 D3 N K L R lk2 ρ2 (w1.c (by omega) (Nat.le_refl _)) (q2.fgr.tr w2.fgr)
        refine nn_if_eq 209 dMO_isTyped_202 (by decide) (by decide) (fun c => absurd c (by decide)) (fun _ => ?_)
        refine sd_iconst (v := nI 1) dMO_isTyped_205 (by decide) ?_
        refine sd_goto 210 dMO_isTyped_206 (by decide) ?_
        refine sd_istore_n dMO_isTyped_210 rfl (by decide) ?_
        refine sd_goto 285 dMO_isTyped_211 (by decide) ?_
        refine sd_locp (al' := [(0, .ref (o + (0))), (1, .int (nI (1))), (2, .int (nI (k)))]) [4, 0, 5] rfl ?_
        exact fin_1
      ·
        have fin_0 := K0 D3 (tg_no q1 hD3.1 hpre2 hsub2) (q2.fgr.tr hD3.2.fgr)
        refine nn_if_eq 209 dMO_isTyped_202 (by decide) (by decide) (fun _ => ?_) (fun c => absurd c (by decide))
        refine sd_iconst (v := nI 0) dMO_isTyped_209 (by decide) ?_
        refine sd_istore_n dMO_isTyped_210 rfl (by decide) ?_
        refine sd_goto 285 dMO_isTyped_211 (by decide) ?_
        refine sd_locp (al' := [(0, .ref (o + (0))), (1, .int (nI (0))), (2, .int (nI (k)))]) [4, 0, 5] rfl ?_
        exact fin_0
    ·
      have fin_0 := K0 D2 (tg_no t1 hD2.1 hpre hsub) hD2.2.fgr
      refine nn_if_eq 209 dMO_isTyped_191 (by decide) (by decide) (fun _ => ?_) (fun c => absurd c (by decide))
      refine sd_iconst (v := nI 0) dMO_isTyped_209 (by decide) ?_
      refine sd_istore_n dMO_isTyped_210 rfl (by decide) ?_
      refine sd_goto 285 dMO_isTyped_211 (by decide) ?_
      refine sd_locp (al' := [(0, .ref (o + (0))), (1, .int (nI (0))), (2, .int (nI (k)))]) [4, 0, 5] rfl ?_
      exact fin_0
theorem s_MO_var {G : sd_G} {o : Nat} {D : fx_D} {h0 : sd_H} {nx k N : Nat} {l : tl_T} {nt : Nat → Nat} {K L R lk ρ : Nat → Nat} {Q : sd_Q} (hB : G.2.1 ≤ o) (hr : mo_row D 64 l) (hrow : ty_row l) (d6 : D.2.1 0 6 = nI l.length) (hk : k < l.length) (h : tg (eqs l nt k) k (72 + 7 * nm_c l k) D N K L R lk ρ) (hs : 10 < (tl_at l k).1)
    (K1 : ∀ (D' : fx_D) N' K' L' R' lk' ρ', tg (eqs l nt (k + 1)) (k + 1) (72 + 7 * nm_c l (k + 1)) D' N' K' L' R' lk' ρ' → mo_fgr D D' → sd_W G mMO_isTyped 4 0 0 Q 285 [(0, .ref (o + 0)), (1, .int (nI 1)), (2, .int (nI k))] [] (fx_h G.1.2 mo_S o D' h0) nx 0 0)
    (K0 : ∀ D' : fx_D, (∀ σ, eqs l nt (k + 1) σ → False) → mo_fgr D D' → sd_W G mMO_isTyped 4 0 0 Q 285 [(0, .ref (o + 0)), (1, .int (nI 0)), (2, .int (nI k))] [] (fx_h G.1.2 mo_S o D' h0) nx 0 0) :
    sd_W G mMO_isTyped 4 0 0 Q 54 [(0, .ref (o + 0)), (1, .int (nI 1)), (2, .int (nI k))] [] (fx_h G.1.2 mo_S o D h0) nx 0 0 := by
  have l24 := hrow.1
  have hx := tl_at_some hk
  have h72 := h.2.1
  have hm1 := nm_c_mono l k
  have hm8 := nm_c_le l (k + 1)
  have hb := h.1.2.1.1
  have e0 : tl_ar (tl_at l k).1 = 0 := by unfold tl_ar; rw [if_neg (by omega), if_neg (by omega)]
  have h100 := (hr.2.2 k _ hx).2.2.1
  have ca := c_MO_arity (G := G) (h := fx_h G.1.2 mo_S o D h0) (nx := nx) (s := (tl_at l k).1) (by omega)
  rw [e0] at ca
  have hbd : bd l k ≤ k := bdr_lt _ _
  have t1 := h.c (Nat.le_refl _) (show 72 + 7 * nm_c l k ≤ 72 + 7 * nm_c l (k + 1) by omega)
  have hsub : ∀ σ, eqs l nt (k + 1) σ → eqs l nt k σ := fun σ hσ => (eqs_succ.mp hσ).1
  have hpre : ∀ σ τ, eqs l nt (k + 1) σ → gsol K L R τ → rsp τ ρ → (∀ n, n < 48 → τ n = σ n) → τ k = τ (24 + bd l k) := fun σ τ hσ q1 q2 q3 => by
    rw [q3 k (by omega), q3 (24 + bd l k) (by omega)]
    exact (hσ k (by omega)).2.2.2.2 hs
  refine sd_iload_n dMO_isTyped_54 rfl rfl ?_
  refine sd_aload_n dMO_isTyped_55 rfl rfl ?_
  refine fx_getiv (v := (nI (l.length))) 10 6 dMO_isTyped_56 fMO_158 rfl rfl (d6) ?_
  refine nn_icmp_ge 291 dMO_isTyped_59 (by decide) (by omega) (by omega) (fun c59 => ?_) (fun c59 => ?_)
  ·
    exact absurd c59 (by omega)
  ·
    refine sd_iload_n dMO_isTyped_62 rfl rfl ?_
    refine nn_if_eq 291 dMO_isTyped_63 (by decide) (by decide) (fun c => absurd c (by decide)) (fun _ => ?_)
    refine sd_aload_n dMO_isTyped_66 rfl rfl ?_
    refine sd_bipush (v := nI 64) dMO_isTyped_67 (by decide) ?_
    refine sd_iload_n dMO_isTyped_69 rfl rfl ?_
    refine fx_cV 10 sR_MO [.int (nI (64)), .int (nI (k))] [] dMO_isTyped_70 kMO_131 rfl rfl mMO_symbolAt_v (c_MO_sym (by omega) hr hx) (by decide) (Nat.le_refl _) (Nat.le_refl _) (Nat.le_of_ble_eq_true rfl) rfl ?_
    refine sd_istore_n dMO_isTyped_73 rfl (by decide) ?_
    refine sd_iload_n dMO_isTyped_74 rfl rfl ?_
    refine sd_iconst (v := nI 1) dMO_isTyped_75 (by decide) ?_
    refine nn_iadd dMO_isTyped_76 ?_
    refine sd_istore dMO_isTyped_77 (by decide) ?_
    refine sd_iload_n dMO_isTyped_79 rfl rfl ?_
    refine sd_cS [.int (nI ((tl_at l k).1))] [] dMO_isTyped_80 kMO_121 mMO_arity_s (ca) (by decide) (Nat.le_refl _) (Nat.le_refl _) (Nat.le_of_ble_eq_true rfl) rfl ?_
    refine sd_iconst (v := nI 2) dMO_isTyped_83 (by decide) ?_
    refine nn_icmp_ne 98 dMO_isTyped_84 (by decide) (by decide) (by decide) (fun _ => ?_) (fun c => absurd c (by decide))
    refine sd_iconst (v := nI 0) dMO_isTyped_98 (by decide) ?_
    refine sd_istore dMO_isTyped_99 (by decide) ?_
    refine sd_iload_n dMO_isTyped_101 rfl rfl ?_
    refine sd_bipush (v := nI 8) dMO_isTyped_102 (by decide) ?_
    refine nn_icmp_ge 126 dMO_isTyped_104 (by decide) (by omega) (by omega) (fun c104 => ?_) (fun c104 => ?_)
    ·
      refine sd_iload_n dMO_isTyped_126 rfl rfl ?_
      refine sd_bipush (v := nI 8) dMO_isTyped_127 (by decide) ?_
      refine nn_icmp_ne 177 dMO_isTyped_129 (by decide) (by omega) (by omega) (fun c129 => ?_) (fun c129 => ?_)
      ·
        refine sd_iload_n dMO_isTyped_177 rfl rfl ?_
        refine sd_bipush (v := nI 9) dMO_isTyped_178 (by decide) ?_
        refine nn_icmp_ne 214 dMO_isTyped_180 (by decide) (by omega) (by omega) (fun c180 => ?_) (fun c180 => ?_)
        ·
          refine sd_iload_n dMO_isTyped_214 rfl rfl ?_
          refine sd_bipush (v := nI 10) dMO_isTyped_215 (by decide) ?_
          refine nn_icmp_ne 267 dMO_isTyped_217 (by decide) (by omega) (by omega) (fun c217 => ?_) (fun c217 => ?_)
          ·
            refine sd_aload_n dMO_isTyped_267 rfl rfl ?_
            refine sd_iload_n dMO_isTyped_268 rfl rfl ?_
            refine fx_cV 10 sR_MO [.int (nI (k))] [] dMO_isTyped_269 kMO_178 rfl rfl mMO_binder_v (c_MO_binder hr (fun j hj ↦ (hrow.2 j hj).1) hk (by omega)) (by decide) (Nat.le_refl _) (Nat.le_refl _) (Nat.le_of_ble_eq_true rfl) rfl ?_
            refine sd_istore dMO_isTyped_272 (by decide) ?_
            refine sd_aload_n dMO_isTyped_274 rfl rfl ?_
            refine sd_iload_n dMO_isTyped_275 rfl rfl ?_
            refine sd_bipush (v := nI 24) dMO_isTyped_276 (by decide) ?_
            refine sd_iload dMO_isTyped_278 rfl ?_
            refine nn_iadd dMO_isTyped_280 ?_
            refine fx_cB 10 sR_MO [.int (nI (k)), .int (nI (24 + (bd l k)))] [] dMO_isTyped_281 kMO_174 rfl rfl mMO_unify_v (c_MO_unify hB t1.1.1 t1.1.2.1 t1.1.2.2.1 t1.1.2.2.2.1 (Or.inl (by omega)) (Or.inl (by omega))) (by decide) (Nat.le_refl _) (Nat.le_refl _) (Nat.le_of_ble_eq_true rfl) rfl (fun D2 hD2 => ?_) (fun D2 hD2 => ?_)
            ·
              obtain ⟨ρ', lk', q1, q2⟩ := tg_yes t1 hD2 (fun τ a1 a2 a3 a4 => eqs_succ.mpr ⟨a3, ⟨fun z => by omega, fun z => by omega, fun z => by omega, fun z => by omega, fun _ => a4⟩⟩) hpre hsub (Or.inl (by omega)) (Or.inl (by omega))
              have fin_1 := K1 D2 N K L R lk' ρ' (q1.c (by omega) (Nat.le_refl _)) q2.fgr
              refine sd_istore_n dMO_isTyped_284 rfl (by decide) ?_
              refine sd_locp (al' := [(0, .ref (o + (0))), (1, .int (nI (1))), (2, .int (nI (k)))]) [5, 0, 6] rfl ?_
              exact fin_1
            ·
              have fin_0 := K0 D2 (tg_no t1 hD2.1 hpre hsub) hD2.2.fgr
              refine sd_istore_n dMO_isTyped_284 rfl (by decide) ?_
              refine sd_locp (al' := [(0, .ref (o + (0))), (1, .int (nI (0))), (2, .int (nI (k)))]) [5, 0, 6] rfl ?_
              exact fin_0
          ·
            exact absurd c217 (by omega)
        ·
          exact absurd c180 (by omega)
      ·
        exact absurd c129 (by omega)
    ·
      exact absurd c104 (by omega)
