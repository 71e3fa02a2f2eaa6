/-! ===== the class's Goals: fits, heir, keepBodies ===== -/
theorem st_gl_lt {S : st_S} {g : Nat} (hG : st_okG S) (hg : g < (st_gl S).length) : st_gt S g < (st_T S).length ∧ ∀ t ∈ st_gh S g, t < (st_T S).length := by
  have e := List.getElem?_eq_getElem hg
  have e1 : st_gh S g = ((st_gl S)[g]).2.1 := by unfold st_gh; rw [e]; rfl
  have e2 : st_gt S g = ((st_gl S)[g]).1 := by unfold st_gt; rw [e]; rfl
  rw [e1, e2]
  exact hG g _ e
theorem dGS_fits_0 : decode prog_4_method_7_code 0 = .ok (.aload_n 0, 1) := by decide +kernel
theorem dGS_fits_1 : decode prog_4_method_7_code 1 = .ok (.getfield 24, 3) := by decide +kernel
theorem dGS_fits_4 : decode prog_4_method_7_code 4 = .ok (.getfield 102, 3) := by decide +kernel
theorem dGS_fits_7 : decode prog_4_method_7_code 7 = .ok (.aload_n 3, 1) := by decide +kernel
theorem dGS_fits_8 : decode prog_4_method_7_code 8 = .ok (.getfield 105, 3) := by decide +kernel
theorem dGS_fits_11 : decode prog_4_method_7_code 11 = .ok (.aaload, 1) := by decide +kernel
theorem dGS_fits_12 : decode prog_4_method_7_code 12 = .ok (.astore 4, 2) := by decide +kernel
theorem dGS_fits_14 : decode prog_4_method_7_code 14 = .ok (.iload_n 1, 1) := by decide +kernel
theorem dGS_fits_15 : decode prog_4_method_7_code 15 = .ok (.tableswitch (271) (0) (8) #[49, 79, 88, 126, 148, 173, 205, 229, 254], 49) := by decide +kernel
theorem dGS_fits_64 : decode prog_4_method_7_code 64 = .ok (.aload 4, 2) := by decide +kernel
theorem dGS_fits_66 : decode prog_4_method_7_code 66 = .ok (.invokevirtual 108, 3) := by decide +kernel
theorem dGS_fits_69 : decode prog_4_method_7_code 69 = .ok (.ifCond .eq (23), 3) := by decide +kernel
theorem dGS_fits_72 : decode prog_4_method_7_code 72 = .ok (.aload 4, 2) := by decide +kernel
theorem dGS_fits_74 : decode prog_4_method_7_code 74 = .ok (.iconst 1, 1) := by decide +kernel
theorem dGS_fits_75 : decode prog_4_method_7_code 75 = .ok (.aload 4, 2) := by decide +kernel
theorem dGS_fits_77 : decode prog_4_method_7_code 77 = .ok (.aload 4, 2) := by decide +kernel
theorem dGS_fits_79 : decode prog_4_method_7_code 79 = .ok (.invokevirtual 113, 3) := by decide +kernel
theorem dGS_fits_82 : decode prog_4_method_7_code 82 = .ok (.invokestatic 117, 3) := by decide +kernel
theorem dGS_fits_85 : decode prog_4_method_7_code 85 = .ok (.ifCond .eq (7), 3) := by decide +kernel
theorem dGS_fits_88 : decode prog_4_method_7_code 88 = .ok (.iconst 1, 1) := by decide +kernel
theorem dGS_fits_89 : decode prog_4_method_7_code 89 = .ok (.goto (4), 3) := by decide +kernel
theorem dGS_fits_92 : decode prog_4_method_7_code 92 = .ok (.iconst 0, 1) := by decide +kernel
theorem dGS_fits_93 : decode prog_4_method_7_code 93 = .ok (.ireturn, 1) := by decide +kernel
theorem dGS_fits_94 : decode prog_4_method_7_code 94 = .ok (.aload_n 3, 1) := by decide +kernel
theorem dGS_fits_95 : decode prog_4_method_7_code 95 = .ok (.aload_n 3, 1) := by decide +kernel
theorem dGS_fits_96 : decode prog_4_method_7_code 96 = .ok (.getfield 105, 3) := by decide +kernel
theorem dGS_fits_99 : decode prog_4_method_7_code 99 = .ok (.invokevirtual 121, 3) := by decide +kernel
theorem dGS_fits_102 : decode prog_4_method_7_code 102 = .ok (.ireturn, 1) := by decide +kernel
theorem dGS_fits_103 : decode prog_4_method_7_code 103 = .ok (.aload 4, 2) := by decide +kernel
theorem dGS_fits_105 : decode prog_4_method_7_code 105 = .ok (.invokevirtual 108, 3) := by decide +kernel
theorem dGS_fits_108 : decode prog_4_method_7_code 108 = .ok (.ifCond .eq (31), 3) := by decide +kernel
theorem dGS_fits_111 : decode prog_4_method_7_code 111 = .ok (.aload_n 0, 1) := by decide +kernel
theorem dGS_fits_112 : decode prog_4_method_7_code 112 = .ok (.getfield 24, 3) := by decide +kernel
theorem dGS_fits_115 : decode prog_4_method_7_code 115 = .ok (.getfield 102, 3) := by decide +kernel
theorem dGS_fits_118 : decode prog_4_method_7_code 118 = .ok (.iload_n 2, 1) := by decide +kernel
theorem dGS_fits_119 : decode prog_4_method_7_code 119 = .ok (.aaload, 1) := by decide +kernel
theorem dGS_fits_120 : decode prog_4_method_7_code 120 = .ok (.getfield 124, 3) := by decide +kernel
theorem dGS_fits_123 : decode prog_4_method_7_code 123 = .ok (.iconst 0, 1) := by decide +kernel
theorem dGS_fits_124 : decode prog_4_method_7_code 124 = .ok (.iaload, 1) := by decide +kernel
theorem dGS_fits_125 : decode prog_4_method_7_code 125 = .ok (.aload 4, 2) := by decide +kernel
theorem dGS_fits_127 : decode prog_4_method_7_code 127 = .ok (.getfield 124, 3) := by decide +kernel
theorem dGS_fits_130 : decode prog_4_method_7_code 130 = .ok (.iconst 1, 1) := by decide +kernel
theorem dGS_fits_131 : decode prog_4_method_7_code 131 = .ok (.iaload, 1) := by decide +kernel
theorem dGS_fits_132 : decode prog_4_method_7_code 132 = .ok (.if_icmp .ne (7), 3) := by decide +kernel
theorem dGS_fits_135 : decode prog_4_method_7_code 135 = .ok (.iconst 1, 1) := by decide +kernel
theorem dGS_fits_136 : decode prog_4_method_7_code 136 = .ok (.goto (4), 3) := by decide +kernel
theorem dGS_fits_139 : decode prog_4_method_7_code 139 = .ok (.iconst 0, 1) := by decide +kernel
theorem dGS_fits_140 : decode prog_4_method_7_code 140 = .ok (.ireturn, 1) := by decide +kernel
theorem dGS_fits_141 : decode prog_4_method_7_code 141 = .ok (.aload 4, 2) := by decide +kernel
theorem dGS_fits_143 : decode prog_4_method_7_code 143 = .ok (.invokevirtual 108, 3) := by decide +kernel
theorem dGS_fits_146 : decode prog_4_method_7_code 146 = .ok (.ifCond .eq (15), 3) := by decide +kernel
theorem dGS_fits_149 : decode prog_4_method_7_code 149 = .ok (.aload 4, 2) := by decide +kernel
theorem dGS_fits_151 : decode prog_4_method_7_code 151 = .ok (.invokestatic 127, 3) := by decide +kernel
theorem dGS_fits_154 : decode prog_4_method_7_code 154 = .ok (.ifCond .eq (7), 3) := by decide +kernel
theorem dGS_fits_157 : decode prog_4_method_7_code 157 = .ok (.iconst 1, 1) := by decide +kernel
theorem dGS_fits_158 : decode prog_4_method_7_code 158 = .ok (.goto (4), 3) := by decide +kernel
theorem dGS_fits_161 : decode prog_4_method_7_code 161 = .ok (.iconst 0, 1) := by decide +kernel
theorem dGS_fits_162 : decode prog_4_method_7_code 162 = .ok (.ireturn, 1) := by decide +kernel
theorem dGS_fits_163 : decode prog_4_method_7_code 163 = .ok (.aload 4, 2) := by decide +kernel
theorem dGS_fits_165 : decode prog_4_method_7_code 165 = .ok (.invokevirtual 108, 3) := by decide +kernel
theorem dGS_fits_168 : decode prog_4_method_7_code 168 = .ok (.ifCond .eq (18), 3) := by decide +kernel
theorem dGS_fits_171 : decode prog_4_method_7_code 171 = .ok (.aload_n 0, 1) := by decide +kernel
theorem dGS_fits_172 : decode prog_4_method_7_code 172 = .ok (.aload 4, 2) := by decide +kernel
theorem dGS_fits_174 : decode prog_4_method_7_code 174 = .ok (.iload_n 2, 1) := by decide +kernel
theorem dGS_fits_175 : decode prog_4_method_7_code 175 = .ok (.aload_n 3, 1) := by decide +kernel
theorem dGS_fits_176 : decode prog_4_method_7_code 176 = .ok (.invokevirtual 131, 3) := by decide +kernel
theorem dGS_fits_179 : decode prog_4_method_7_code 179 = .ok (.ifCond .eq (7), 3) := by decide +kernel
theorem dGS_fits_182 : decode prog_4_method_7_code 182 = .ok (.iconst 1, 1) := by decide +kernel
theorem dGS_fits_183 : decode prog_4_method_7_code 183 = .ok (.goto (4), 3) := by decide +kernel
theorem dGS_fits_186 : decode prog_4_method_7_code 186 = .ok (.iconst 0, 1) := by decide +kernel
theorem dGS_fits_187 : decode prog_4_method_7_code 187 = .ok (.ireturn, 1) := by decide +kernel
theorem dGS_fits_188 : decode prog_4_method_7_code 188 = .ok (.aload 4, 2) := by decide +kernel
theorem dGS_fits_190 : decode prog_4_method_7_code 190 = .ok (.invokevirtual 108, 3) := by decide +kernel
theorem dGS_fits_193 : decode prog_4_method_7_code 193 = .ok (.ifCond .eq (25), 3) := by decide +kernel
theorem dGS_fits_196 : decode prog_4_method_7_code 196 = .ok (.aload 4, 2) := by decide +kernel
theorem dGS_fits_198 : decode prog_4_method_7_code 198 = .ok (.iconst 1, 1) := by decide +kernel
theorem dGS_fits_199 : decode prog_4_method_7_code 199 = .ok (.invokevirtual 135, 3) := by decide +kernel
theorem dGS_fits_202 : decode prog_4_method_7_code 202 = .ok (.ifCond .eq (16), 3) := by decide +kernel
theorem dGS_fits_205 : decode prog_4_method_7_code 205 = .ok (.aload_n 0, 1) := by decide +kernel
theorem dGS_fits_206 : decode prog_4_method_7_code 206 = .ok (.aload 4, 2) := by decide +kernel
theorem dGS_fits_208 : decode prog_4_method_7_code 208 = .ok (.invokevirtual 138, 3) := by decide +kernel
theorem dGS_fits_211 : decode prog_4_method_7_code 211 = .ok (.ifCond .eq (7), 3) := by decide +kernel
theorem dGS_fits_214 : decode prog_4_method_7_code 214 = .ok (.iconst 1, 1) := by decide +kernel
theorem dGS_fits_215 : decode prog_4_method_7_code 215 = .ok (.goto (4), 3) := by decide +kernel
theorem dGS_fits_218 : decode prog_4_method_7_code 218 = .ok (.iconst 0, 1) := by decide +kernel
theorem dGS_fits_219 : decode prog_4_method_7_code 219 = .ok (.ireturn, 1) := by decide +kernel
theorem dGS_fits_220 : decode prog_4_method_7_code 220 = .ok (.aload_n 0, 1) := by decide +kernel
theorem dGS_fits_221 : decode prog_4_method_7_code 221 = .ok (.getfield 24, 3) := by decide +kernel
theorem dGS_fits_224 : decode prog_4_method_7_code 224 = .ok (.getfield 102, 3) := by decide +kernel
theorem dGS_fits_227 : decode prog_4_method_7_code 227 = .ok (.iload_n 2, 1) := by decide +kernel
theorem dGS_fits_228 : decode prog_4_method_7_code 228 = .ok (.aaload, 1) := by decide +kernel
theorem dGS_fits_229 : decode prog_4_method_7_code 229 = .ok (.getfield 124, 3) := by decide +kernel
theorem dGS_fits_232 : decode prog_4_method_7_code 232 = .ok (.iconst 0, 1) := by decide +kernel
theorem dGS_fits_233 : decode prog_4_method_7_code 233 = .ok (.iaload, 1) := by decide +kernel
theorem dGS_fits_234 : decode prog_4_method_7_code 234 = .ok (.iconst 4, 1) := by decide +kernel
theorem dGS_fits_235 : decode prog_4_method_7_code 235 = .ok (.if_icmp .ne (7), 3) := by decide +kernel
theorem dGS_fits_238 : decode prog_4_method_7_code 238 = .ok (.iconst 1, 1) := by decide +kernel
theorem dGS_fits_239 : decode prog_4_method_7_code 239 = .ok (.goto (4), 3) := by decide +kernel
theorem dGS_fits_242 : decode prog_4_method_7_code 242 = .ok (.iconst 0, 1) := by decide +kernel
theorem dGS_fits_243 : decode prog_4_method_7_code 243 = .ok (.ireturn, 1) := by decide +kernel
theorem dGS_fits_244 : decode prog_4_method_7_code 244 = .ok (.aload 4, 2) := by decide +kernel
theorem dGS_fits_246 : decode prog_4_method_7_code 246 = .ok (.invokevirtual 108, 3) := by decide +kernel
theorem dGS_fits_249 : decode prog_4_method_7_code 249 = .ok (.ifCond .eq (18), 3) := by decide +kernel
theorem dGS_fits_252 : decode prog_4_method_7_code 252 = .ok (.aload 4, 2) := by decide +kernel
theorem dGS_fits_254 : decode prog_4_method_7_code 254 = .ok (.getfield 124, 3) := by decide +kernel
theorem dGS_fits_257 : decode prog_4_method_7_code 257 = .ok (.iconst 1, 1) := by decide +kernel
theorem dGS_fits_258 : decode prog_4_method_7_code 258 = .ok (.iaload, 1) := by decide +kernel
theorem dGS_fits_259 : decode prog_4_method_7_code 259 = .ok (.iconst 4, 1) := by decide +kernel
theorem dGS_fits_260 : decode prog_4_method_7_code 260 = .ok (.if_icmp .ne (7), 3) := by decide +kernel
theorem dGS_fits_263 : decode prog_4_method_7_code 263 = .ok (.iconst 1, 1) := by decide +kernel
theorem dGS_fits_264 : decode prog_4_method_7_code 264 = .ok (.goto (4), 3) := by decide +kernel
theorem dGS_fits_267 : decode prog_4_method_7_code 267 = .ok (.iconst 0, 1) := by decide +kernel
theorem dGS_fits_268 : decode prog_4_method_7_code 268 = .ok (.ireturn, 1) := by decide +kernel
theorem dGS_fits_269 : decode prog_4_method_7_code 269 = .ok (.aload_n 0, 1) := by decide +kernel
theorem dGS_fits_270 : decode prog_4_method_7_code 270 = .ok (.getfield 28, 3) := by decide +kernel
theorem dGS_fits_273 : decode prog_4_method_7_code 273 = .ok (.getfield 141, 3) := by decide +kernel
theorem dGS_fits_276 : decode prog_4_method_7_code 276 = .ok (.iload_n 2, 1) := by decide +kernel
theorem dGS_fits_277 : decode prog_4_method_7_code 277 = .ok (.aaload, 1) := by decide +kernel
theorem dGS_fits_278 : decode prog_4_method_7_code 278 = .ok (.getfield 144, 3) := by decide +kernel
theorem dGS_fits_281 : decode prog_4_method_7_code 281 = .ok (.aload_n 3, 1) := by decide +kernel
theorem dGS_fits_282 : decode prog_4_method_7_code 282 = .ok (.invokestatic 149, 3) := by decide +kernel
theorem dGS_fits_285 : decode prog_4_method_7_code 285 = .ok (.ireturn, 1) := by decide +kernel
theorem dGS_fits_286 : decode prog_4_method_7_code 286 = .ok (.iconst 0, 1) := by decide +kernel
theorem dGS_fits_287 : decode prog_4_method_7_code 287 = .ok (.ireturn, 1) := by decide +kernel
theorem c_GS_fits {G : sd_G} {o : Nat} {D : fx_D} {h0 : sd_H} {nx v k a g s : Nat} {S : st_S} {x y : Int32} (hB : G.2.1 ≤ o) (hR : dk_R S D) (hT : st_okT S) (hH : st_okH S) (hG : st_okG S) (hg : g < (st_gl S).length) (hse : s = 436 + 3 * g + 1) (ht : tc_there S x y k a) (hv2 : v < 2) (hv : v = 1 ↔ su_fit S k a g = true) : sd_Ct G mGS_fits 4 0 0 [.ref (o + 432), .int x, .int y, .ref (o + s)] (fx_h G.1.2 dk_S o D h0) nx (fx_is G.1.2 dk_S o h0 nx (some (.int (nI v))) (tm_f ((st_T S).length + 1) D)) := by
  refine sd_Ct_of (by decide) (Nat.le_of_ble_eq_true rfl) ?_
  obtain ⟨s1, s2⟩ := dk_gl_at hR.2.2.2.2.1 hg
  have g30 := hR.2.2.2.2.1.1
  obtain ⟨gt, gh⟩ := st_gl_lt hG hg
  have hW := hR.W
  have h64 := hR.2.1.1
  obtain ⟨m1, m2, m3, m4, -⟩ := hW.tm gt
  have hso_s : dk_so s := by rw [hse]; exact dk_gls (by omega)
  rw [← hse] at s1 s2
  have hok : ∀ x ∈ su_m S g, ty_ok x.2 ∧ (x.1 = 10 → ty_isF x.2 = true) := fun x hx => hT _ (by unfold su_m at hx ⊢; rw [st_tm, List.getElem?_eq_getElem gt]; exact List.getElem_mem gt) x hx
  have rfD := tm_f.rf ((st_T S).length + 1) D
  obtain ⟨rfl, hh⟩ := ht
  by_cases h9 : (tl_at (su_m S g) 0).1 = 9
  · have hE : tl_isE (su_m S g) = true := by simp [tl_isE, h9]
    obtain ⟨t1, t2, t3⟩ := m3.two (by rw [show st_tm S (st_gt S g) = su_m S g from rfl, h9]; rfl)
    have i1 := c_TM_isEquation (G := G) (o := o) (h0 := h0) (nx := nx) (r := st_gt S g + 1) (b := 1) (by omega) m1 m3.hd (by omega) (by simp only [true_iff]; exact h9)
    have rg := c_TM_right (G := G) (o := o) (h0 := h0) (nx := nx) (r := st_gt S g + 1) (by omega) m2 t1
    obtain ⟨-, x2, -, x4⟩ := m1.2.2 1 _ (tl_at_some t1)
    rcases hh with ⟨rfl | rfl | rfl | rfl | rfl, rfl⟩ | ⟨rfl | rfl, rfl, ha⟩ | ⟨rfl, rfl, ha⟩ | ⟨rfl, rfl, ha⟩
    · simp only [su_fit, hE, Bool.true_and, beq_iff_eq] at hv
      have cA := c_TM_alike (G := G) (o := o) (h0 := h0) (nx := nx) (r := st_gt S g + 1) (q := st_gt S g + 1) (b := v) (by omega) (by omega) m1 m1 m2 m2 t1 t2 hv2 hv
      refine sd_aload_n dGS_fits_0 rfl rfl ?_
      refine fx_getr 3 0 (1) dGS_fits_1 fGS_24 rfl rfl ?_
      refine fx_getr 8 1 (3) dGS_fits_4 fGS_102 rfl rfl ?_
      refine sd_aload_n dGS_fits_7 rfl rfl ?_
      refine fx_getiv (v := (nI (st_gt S g))) 6 2 dGS_fits_8 fGS_105 hso_s.1 rfl (s2) ?_
      refine fx_aald (st_gt S g) dGS_fits_11 rfl rfl rfl (by omega) (by decide) ?_
      refine sd_astore dGS_fits_12 (by decide) ?_
      refine sd_iload_n dGS_fits_14 rfl rfl ?_
      refine sd_tableIn (off := 49) 64 dGS_fits_15 (by decide) (by decide) (by decide) (by decide) ?_
      refine sd_aload dGS_fits_64 rfl ?_
      refine fx_cV 7 sR_TM [] [] dGS_fits_66 kGS_108 rfl (dk_tm (by omega)) mTM_isEquation_v (i1) (by decide) (Nat.le_refl _) (Nat.le_refl _) (Nat.le_of_ble_eq_true rfl) rfl ?_
      refine nn_if_eq 92 dGS_fits_69 (by decide) (by decide) (fun c => absurd c (by decide)) (fun _ => ?_)
      refine sd_aload dGS_fits_72 rfl ?_
      refine sd_iconst (v := nI 1) dGS_fits_74 (by decide) ?_
      refine sd_aload dGS_fits_75 rfl ?_
      refine sd_aload dGS_fits_77 rfl ?_
      refine fx_cV 7 sR_TM [] [.ref (o + (tmo ((st_gt S g) + 1))), .int (nI (1)), .ref (o + (tmo ((st_gt S g) + 1)))] dGS_fits_79 kGS_113 rfl (dk_tm (by omega)) mTM_right_v (rg) (by decide) (Nat.le_refl _) (Nat.le_refl _) (Nat.le_of_ble_eq_true rfl) rfl ?_
      refine sd_cS [.ref (o + (tmo ((st_gt S g) + 1))), .int (nI (1)), .ref (o + (tmo ((st_gt S g) + 1))), .int (nI (tl_end (su_m S g) 1))] [] dGS_fits_82 kGS_117 mTM_alike_s (cA) (by decide) (Nat.le_refl _) (Nat.le_refl _) (Nat.le_of_ble_eq_true rfl) rfl ?_
      refine nn_if_eq 92 dGS_fits_85 (by decide) (by omega) (fun c85 => ?_) (fun c85 => ?_)
      ·
        refine sd_iconst (v := nI 0) dGS_fits_92 (by decide) ?_
        exact sd_zret dGS_fits_93 rfl (nn_01 (by omega)) (Nat.le_refl _) (Nat.le_refl _) ⟨by rw [show v = (0) by omega], rfl, _, rfl, rfD⟩
      ·
        refine sd_iconst (v := nI 1) dGS_fits_88 (by decide) ?_
        refine sd_goto 93 dGS_fits_89 (by decide) ?_
        exact sd_zret dGS_fits_93 rfl (nn_01 (by omega)) (Nat.le_refl _) (Nat.le_refl _) ⟨by rw [show v = (1) by omega], rfl, _, rfl, rfD⟩
    · simp only [su_fit, beq_iff_eq, List.contains_iff_mem] at hv
      have cA := c_ST_assumes (G := G) (o := o) (h0 := h0) (nx := nx) (b := v) (t := st_gt S g) hso_s s1 (by omega) hv2 hv
      refine sd_aload_n dGS_fits_0 rfl rfl ?_
      refine fx_getr 3 0 (1) dGS_fits_1 fGS_24 rfl rfl ?_
      refine fx_getr 8 1 (3) dGS_fits_4 fGS_102 rfl rfl ?_
      refine sd_aload_n dGS_fits_7 rfl rfl ?_
      refine fx_getiv (v := (nI (st_gt S g))) 6 2 dGS_fits_8 fGS_105 hso_s.1 rfl (s2) ?_
      refine fx_aald (st_gt S g) dGS_fits_11 rfl rfl rfl (by omega) (by decide) ?_
      refine sd_astore dGS_fits_12 (by decide) ?_
      refine sd_iload_n dGS_fits_14 rfl rfl ?_
      refine sd_tableIn (off := 79) 94 dGS_fits_15 (by decide) (by decide) (by decide) (by decide) ?_
      refine sd_aload_n dGS_fits_94 rfl rfl ?_
      refine sd_aload_n dGS_fits_95 rfl rfl ?_
      refine fx_getiv (v := (nI (st_gt S g))) 6 2 dGS_fits_96 fGS_105 hso_s.1 rfl (s2) ?_
      refine fx_cV 6 sR_ST [.int (nI (st_gt S g))] [] dGS_fits_99 kGS_121 rfl hso_s.1 mST_assumes_v (cA) (by decide) (Nat.le_refl _) (Nat.le_refl _) (Nat.le_of_ble_eq_true rfl) rfl ?_
      exact sd_zret dGS_fits_102 rfl (nn_01 (by omega)) (Nat.le_refl _) (Nat.le_refl _) ⟨by rw [show v = (v) by omega], rfl, _, rfl, rfD⟩
    · simp only [su_fit, hE, Bool.true_and, Bool.and_eq_true, beq_iff_eq, and_assoc] at hv
      have cA := c_GS_canSplit (G := G) (o := o) (h0 := h0) (nx := nx) (r := st_gt S g + 1) (b := v) (by omega) m1 m2 m3 h9 hv2 hv
      refine sd_aload_n dGS_fits_0 rfl rfl ?_
      refine fx_getr 3 0 (1) dGS_fits_1 fGS_24 rfl rfl ?_
      refine fx_getr 8 1 (3) dGS_fits_4 fGS_102 rfl rfl ?_
      refine sd_aload_n dGS_fits_7 rfl rfl ?_
      refine fx_getiv (v := (nI (st_gt S g))) 6 2 dGS_fits_8 fGS_105 hso_s.1 rfl (s2) ?_
      refine fx_aald (st_gt S g) dGS_fits_11 rfl rfl rfl (by omega) (by decide) ?_
      refine sd_astore dGS_fits_12 (by decide) ?_
      refine sd_iload_n dGS_fits_14 rfl rfl ?_
      refine sd_tableIn (off := 126) 141 dGS_fits_15 (by decide) (by decide) (by decide) (by decide) ?_
      refine sd_aload dGS_fits_141 rfl ?_
      refine fx_cV 7 sR_TM [] [] dGS_fits_143 kGS_108 rfl (dk_tm (by omega)) mTM_isEquation_v (i1) (by decide) (Nat.le_refl _) (Nat.le_refl _) (Nat.le_of_ble_eq_true rfl) rfl ?_
      refine nn_if_eq 161 dGS_fits_146 (by decide) (by decide) (fun c => absurd c (by decide)) (fun _ => ?_)
      refine sd_aload dGS_fits_149 rfl ?_
      refine sd_cS [.ref (o + (tmo ((st_gt S g) + 1)))] [] dGS_fits_151 kGS_127 mGS_canSplit_s (cA) (by decide) (Nat.le_refl _) (Nat.le_refl _) (Nat.le_of_ble_eq_true rfl) rfl ?_
      refine nn_if_eq 161 dGS_fits_154 (by decide) (by omega) (fun c154 => ?_) (fun c154 => ?_)
      ·
        refine sd_iconst (v := nI 0) dGS_fits_161 (by decide) ?_
        exact sd_zret dGS_fits_162 rfl (nn_01 (by omega)) (Nat.le_refl _) (Nat.le_refl _) ⟨by rw [show v = (0) by omega], rfl, _, rfl, rfD⟩
      ·
        refine sd_iconst (v := nI 1) dGS_fits_157 (by decide) ?_
        refine sd_goto 162 dGS_fits_158 (by decide) ?_
        exact sd_zret dGS_fits_162 rfl (nn_01 (by omega)) (Nat.le_refl _) (Nat.le_refl _) ⟨by rw [show v = (1) by omega], rfl, _, rfl, rfD⟩
    · simp only [su_fit, hE, Bool.true_and, Bool.and_eq_true, beq_iff_eq] at hv
      have lh := tl_ok_drop _ 1 1 m3.1 m3.2.1 t1
      by_cases hB1 : tl_isB (su_m S g) 1 = true
      · have cR := c_TM_isRedex (G := G) (o := o) (h0 := h0) (nx := nx) (r := st_gt S g + 1) (i := 1) (b := 1) (by omega) m1 lh t1 (by omega) (by simp only [true_iff]; exact hB1)
        have cA := c_GS_isReduced (G := G) (o := o) (h0 := h0) (nx := nx) (r := st_gt S g + 1) (b := v) hB hW.2.1.1 hW.2.1.2.1 (by omega) (by omega) m1 m2 m3 h9 hB1 hv2 (hv.trans ⟨fun z => z.2, fun z => ⟨hB1, z⟩⟩)
        refine sd_aload_n dGS_fits_0 rfl rfl ?_
        refine fx_getr 3 0 (1) dGS_fits_1 fGS_24 rfl rfl ?_
        refine fx_getr 8 1 (3) dGS_fits_4 fGS_102 rfl rfl ?_
        refine sd_aload_n dGS_fits_7 rfl rfl ?_
        refine fx_getiv (v := (nI (st_gt S g))) 6 2 dGS_fits_8 fGS_105 hso_s.1 rfl (s2) ?_
        refine fx_aald (st_gt S g) dGS_fits_11 rfl rfl rfl (by omega) (by decide) ?_
        refine sd_astore dGS_fits_12 (by decide) ?_
        refine sd_iload_n dGS_fits_14 rfl rfl ?_
        refine sd_tableIn (off := 173) 188 dGS_fits_15 (by decide) (by decide) (by decide) (by decide) ?_
        refine sd_aload dGS_fits_188 rfl ?_
        refine fx_cV 7 sR_TM [] [] dGS_fits_190 kGS_108 rfl (dk_tm (by omega)) mTM_isEquation_v (i1) (by decide) (Nat.le_refl _) (Nat.le_refl _) (Nat.le_of_ble_eq_true rfl) rfl ?_
        refine nn_if_eq 218 dGS_fits_193 (by decide) (by decide) (fun c => absurd c (by decide)) (fun _ => ?_)
        refine sd_aload dGS_fits_196 rfl ?_
        refine sd_iconst (v := nI 1) dGS_fits_198 (by decide) ?_
        refine fx_cV 7 sR_TM [.int (nI (1))] [] dGS_fits_199 kGS_135 rfl (dk_tm (by omega)) mTM_isRedex_v (cR) (by decide) (Nat.le_refl _) (Nat.le_refl _) (Nat.le_of_ble_eq_true rfl) rfl ?_
        refine nn_if_eq 218 dGS_fits_202 (by decide) (by decide) (fun c => absurd c (by decide)) (fun _ => ?_)
        refine sd_aload_n dGS_fits_205 rfl rfl ?_
        refine sd_aload dGS_fits_206 rfl ?_
        refine fx_cP 3 sR_GS [.ref (o + (tmo ((st_gt S g) + 1)))] [] dGS_fits_208 kGS_138 rfl rfl mGS_isReduced_v (cA) (by decide) (Nat.le_refl _) (Nat.le_refl _) (Nat.le_of_ble_eq_true rfl) rfl (fun D1 h1 => ?_)
        refine nn_if_eq 218 dGS_fits_211 (by decide) (by omega) (fun c211 => ?_) (fun c211 => ?_)
        ·
          refine sd_iconst (v := nI 0) dGS_fits_218 (by decide) ?_
          exact sd_zret dGS_fits_219 rfl (nn_01 (by omega)) (Nat.le_refl _) (Nat.le_refl _) ⟨by rw [show v = (0) by omega], rfl, _, rfl, h1⟩
        ·
          refine sd_iconst (v := nI 1) dGS_fits_214 (by decide) ?_
          refine sd_goto 219 dGS_fits_215 (by decide) ?_
          exact sd_zret dGS_fits_219 rfl (nn_01 (by omega)) (Nat.le_refl _) (Nat.le_refl _) ⟨by rw [show v = (1) by omega], rfl, _, rfl, h1⟩
      · have cR := c_TM_isRedex (G := G) (o := o) (h0 := h0) (nx := nx) (r := st_gt S g + 1) (i := 1) (b := 0) (by omega) m1 lh t1 (by omega) ⟨fun e => absurd e (by decide), fun e => absurd e hB1⟩
        have hv0 : v = 0 := by
          have : ¬ v = 1 := fun z => hB1 (hv.mp z).1
          omega
        refine sd_aload_n dGS_fits_0 rfl rfl ?_
        refine fx_getr 3 0 (1) dGS_fits_1 fGS_24 rfl rfl ?_
        refine fx_getr 8 1 (3) dGS_fits_4 fGS_102 rfl rfl ?_
        refine sd_aload_n dGS_fits_7 rfl rfl ?_
        refine fx_getiv (v := (nI (st_gt S g))) 6 2 dGS_fits_8 fGS_105 hso_s.1 rfl (s2) ?_
        refine fx_aald (st_gt S g) dGS_fits_11 rfl rfl rfl (by omega) (by decide) ?_
        refine sd_astore dGS_fits_12 (by decide) ?_
        refine sd_iload_n dGS_fits_14 rfl rfl ?_
        refine sd_tableIn (off := 173) 188 dGS_fits_15 (by decide) (by decide) (by decide) (by decide) ?_
        refine sd_aload dGS_fits_188 rfl ?_
        refine fx_cV 7 sR_TM [] [] dGS_fits_190 kGS_108 rfl (dk_tm (by omega)) mTM_isEquation_v (i1) (by decide) (Nat.le_refl _) (Nat.le_refl _) (Nat.le_of_ble_eq_true rfl) rfl ?_
        refine nn_if_eq 218 dGS_fits_193 (by decide) (by decide) (fun c => absurd c (by decide)) (fun _ => ?_)
        refine sd_aload dGS_fits_196 rfl ?_
        refine sd_iconst (v := nI 1) dGS_fits_198 (by decide) ?_
        refine fx_cV 7 sR_TM [.int (nI (1))] [] dGS_fits_199 kGS_135 rfl (dk_tm (by omega)) mTM_isRedex_v (cR) (by decide) (Nat.le_refl _) (Nat.le_refl _) (Nat.le_of_ble_eq_true rfl) rfl ?_
        refine nn_if_eq 218 dGS_fits_202 (by decide) (by decide) (fun _ => ?_) (fun c => absurd c (by decide))
        refine sd_iconst (v := nI 0) dGS_fits_218 (by decide) ?_
        exact sd_zret dGS_fits_219 rfl (Or.inl rfl) (Nat.le_refl _) (Nat.le_refl _) ⟨by rw [hv0], rfl, _, rfl, rfD⟩
    · have x5 : (tl_at (su_m S g) 1).2 < 2 ^ 25 := x4
      simp only [su_fit, hE, Bool.true_and, beq_iff_eq] at hv
      refine sd_aload_n dGS_fits_0 rfl rfl ?_
      refine fx_getr 3 0 (1) dGS_fits_1 fGS_24 rfl rfl ?_
      refine fx_getr 8 1 (3) dGS_fits_4 fGS_102 rfl rfl ?_
      refine sd_aload_n dGS_fits_7 rfl rfl ?_
      refine fx_getiv (v := (nI (st_gt S g))) 6 2 dGS_fits_8 fGS_105 hso_s.1 rfl (s2) ?_
      refine fx_aald (st_gt S g) dGS_fits_11 rfl rfl rfl (by omega) (by decide) ?_
      refine sd_astore dGS_fits_12 (by decide) ?_
      refine sd_iload_n dGS_fits_14 rfl rfl ?_
      refine sd_tableIn (off := 229) 244 dGS_fits_15 (by decide) (by decide) (by decide) (by decide) ?_
      refine sd_aload dGS_fits_244 rfl ?_
      refine fx_cV 7 sR_TM [] [] dGS_fits_246 kGS_108 rfl (dk_tm (by omega)) mTM_isEquation_v (i1) (by decide) (Nat.le_refl _) (Nat.le_refl _) (Nat.le_of_ble_eq_true rfl) rfl ?_
      refine nn_if_eq 267 dGS_fits_249 (by decide) (by decide) (fun c => absurd c (by decide)) (fun _ => ?_)
      refine sd_aload dGS_fits_252 rfl ?_
      refine fx_getr 7 1 (tmo ((st_gt S g) + 1) + 2) dGS_fits_254 fGS_124 (dk_tm (by omega)) rfl ?_
      refine sd_iconst (v := nI 1) dGS_fits_257 (by decide) ?_
      refine fx_ialdv (v := (nI ((tl_at (su_m S g) 1).2))) (1) dGS_fits_258 (dk_tm2 (by omega)) rfl (by omega) (by decide) (x2) ?_
      refine sd_iconst (v := nI 4) dGS_fits_259 (by decide) ?_
      refine nn_icmp_ne 267 dGS_fits_260 (by decide) (by omega) (by omega) (fun c260 => ?_) (fun c260 => ?_)
      ·
        refine sd_iconst (v := nI 0) dGS_fits_267 (by decide) ?_
        exact sd_zret dGS_fits_268 rfl (nn_01 (by omega)) (Nat.le_refl _) (Nat.le_refl _) ⟨by rw [show v = (0) by omega], rfl, _, rfl, rfD⟩
      ·
        refine sd_iconst (v := nI 1) dGS_fits_263 (by decide) ?_
        refine sd_goto 268 dGS_fits_264 (by decide) ?_
        exact sd_zret dGS_fits_268 rfl (nn_01 (by omega)) (Nat.le_refl _) (Nat.le_refl _) ⟨by rw [show v = (1) by omega], rfl, _, rfl, rfD⟩
    · obtain ⟨n1, n2, n3, n4, -⟩ := hW.tm ha
      obtain ⟨-, q2, -, q4⟩ := n1.2.2 0 _ n3.hd
      have x5 : (tl_at (su_m S g) 1).2 < 2 ^ 25 := x4
      simp only [su_fit, hE, Bool.true_and, beq_iff_eq] at hv
      refine sd_aload_n dGS_fits_0 rfl rfl ?_
      refine fx_getr 3 0 (1) dGS_fits_1 fGS_24 rfl rfl ?_
      refine fx_getr 8 1 (3) dGS_fits_4 fGS_102 rfl rfl ?_
      refine sd_aload_n dGS_fits_7 rfl rfl ?_
      refine fx_getiv (v := (nI (st_gt S g))) 6 2 dGS_fits_8 fGS_105 hso_s.1 rfl (s2) ?_
      refine fx_aald (st_gt S g) dGS_fits_11 rfl rfl rfl (by omega) (by decide) ?_
      refine sd_astore dGS_fits_12 (by decide) ?_
      refine sd_iload_n dGS_fits_14 rfl rfl ?_
      refine sd_tableIn (off := 88) 103 dGS_fits_15 (by decide) (by decide) (by decide) (by decide) ?_
      refine sd_aload dGS_fits_103 rfl ?_
      refine fx_cV 7 sR_TM [] [] dGS_fits_105 kGS_108 rfl (dk_tm (by omega)) mTM_isEquation_v (i1) (by decide) (Nat.le_refl _) (Nat.le_refl _) (Nat.le_of_ble_eq_true rfl) rfl ?_
      refine nn_if_eq 139 dGS_fits_108 (by decide) (by decide) (fun c => absurd c (by decide)) (fun _ => ?_)
      refine sd_aload_n dGS_fits_111 rfl rfl ?_
      refine fx_getr 3 0 (1) dGS_fits_112 fGS_24 rfl rfl ?_
      refine fx_getr 8 1 (3) dGS_fits_115 fGS_102 rfl rfl ?_
      refine sd_iload_n dGS_fits_118 rfl rfl ?_
      refine fx_aald (a) dGS_fits_119 rfl rfl rfl (by omega) (by decide) ?_
      refine fx_getr 7 1 (tmo ((a) + 1) + 2) dGS_fits_120 fGS_124 (dk_tm (by omega)) rfl ?_
      refine sd_iconst (v := nI 0) dGS_fits_123 (by decide) ?_
      refine fx_ialdv (v := (nI ((tl_at (st_tm S a) 0).2))) (0) dGS_fits_124 (dk_tm2 (by omega)) rfl (by omega) (by decide) (q2) ?_
      refine sd_aload dGS_fits_125 rfl ?_
      refine fx_getr 7 1 (tmo ((st_gt S g) + 1) + 2) dGS_fits_127 fGS_124 (dk_tm (by omega)) rfl ?_
      refine sd_iconst (v := nI 1) dGS_fits_130 (by decide) ?_
      refine fx_ialdv (v := (nI ((tl_at (su_m S g) 1).2))) (1) dGS_fits_131 (dk_tm2 (by omega)) rfl (by omega) (by decide) (x2) ?_
      refine nn_icmp_ne 139 dGS_fits_132 (by decide) (by omega) (by omega) (fun c132 => ?_) (fun c132 => ?_)
      ·
        refine sd_iconst (v := nI 0) dGS_fits_139 (by decide) ?_
        exact sd_zret dGS_fits_140 rfl (nn_01 (by omega)) (Nat.le_refl _) (Nat.le_refl _) ⟨by rw [show v = (0) by omega], rfl, _, rfl, rfD⟩
      ·
        refine sd_iconst (v := nI 1) dGS_fits_135 (by decide) ?_
        refine sd_goto 140 dGS_fits_136 (by decide) ?_
        exact sd_zret dGS_fits_140 rfl (nn_01 (by omega)) (Nat.le_refl _) (Nat.le_refl _) ⟨by rw [show v = (1) by omega], rfl, _, rfl, rfD⟩
    · obtain ⟨n1, n2, n3, n4, -⟩ := hW.tm ha
      obtain ⟨-, q2, -, q4⟩ := n1.2.2 0 _ n3.hd
      simp only [su_fit, beq_iff_eq] at hv
      refine sd_aload_n dGS_fits_0 rfl rfl ?_
      refine fx_getr 3 0 (1) dGS_fits_1 fGS_24 rfl rfl ?_
      refine fx_getr 8 1 (3) dGS_fits_4 fGS_102 rfl rfl ?_
      refine sd_aload_n dGS_fits_7 rfl rfl ?_
      refine fx_getiv (v := (nI (st_gt S g))) 6 2 dGS_fits_8 fGS_105 hso_s.1 rfl (s2) ?_
      refine fx_aald (st_gt S g) dGS_fits_11 rfl rfl rfl (by omega) (by decide) ?_
      refine sd_astore dGS_fits_12 (by decide) ?_
      refine sd_iload_n dGS_fits_14 rfl rfl ?_
      refine sd_tableIn (off := 205) 220 dGS_fits_15 (by decide) (by decide) (by decide) (by decide) ?_
      refine sd_aload_n dGS_fits_220 rfl rfl ?_
      refine fx_getr 3 0 (1) dGS_fits_221 fGS_24 rfl rfl ?_
      refine fx_getr 8 1 (3) dGS_fits_224 fGS_102 rfl rfl ?_
      refine sd_iload_n dGS_fits_227 rfl rfl ?_
      refine fx_aald (a) dGS_fits_228 rfl rfl rfl (by omega) (by decide) ?_
      refine fx_getr 7 1 (tmo ((a) + 1) + 2) dGS_fits_229 fGS_124 (dk_tm (by omega)) rfl ?_
      refine sd_iconst (v := nI 0) dGS_fits_232 (by decide) ?_
      refine fx_ialdv (v := (nI ((tl_at (st_tm S a) 0).2))) (0) dGS_fits_233 (dk_tm2 (by omega)) rfl (by omega) (by decide) (q2) ?_
      refine sd_iconst (v := nI 4) dGS_fits_234 (by decide) ?_
      refine nn_icmp_ne 242 dGS_fits_235 (by decide) (by omega) (by omega) (fun c235 => ?_) (fun c235 => ?_)
      ·
        refine sd_iconst (v := nI 0) dGS_fits_242 (by decide) ?_
        exact sd_zret dGS_fits_243 rfl (nn_01 (by omega)) (Nat.le_refl _) (Nat.le_refl _) ⟨by rw [show v = (0) by omega], rfl, _, rfl, rfD⟩
      ·
        refine sd_iconst (v := nI 1) dGS_fits_238 (by decide) ?_
        refine sd_goto 243 dGS_fits_239 (by decide) ?_
        exact sd_zret dGS_fits_243 rfl (nn_01 (by omega)) (Nat.le_refl _) (Nat.le_refl _) ⟨by rw [show v = (1) by omega], rfl, _, rfl, rfD⟩
    · have na := hW.1 a ha
      have e2 : (∃ t ∈ st_gh S g, tl_nm ((st_T S).getD t []) a = true) ↔ ¬ (st_gh S g).all (fun t => !tl_nm (st_tm S t) a) = true := by
        simp only [List.all_eq_true, Bool.not_eq_true', Classical.not_forall, Bool.not_eq_false, exists_prop]
        constructor
        · rintro ⟨t, q1, q2⟩
          refine ⟨t, q1, ?_⟩
          rw [List.getD_eq_getElem?_getD] at q2
          exact q2
        · rintro ⟨t, q1, q2⟩
          refine ⟨t, q1, ?_⟩
          rw [List.getD_eq_getElem?_getD]
          exact q2
      have cA := c_GS_canName (G := G) (o := o) (h0 := h0) (nx := nx) (r := st_gt S g + 1) (b := v) (by omega) m1 m2 m3 h9 hok ha na.1 na.2.1 hso_s hW.2.1 s1 gh hv2 (by
        rw [hv, e2]
        simp only [su_fit, hE, Bool.true_and, Bool.and_eq_true, beq_iff_eq, Bool.not_eq_true', Decidable.not_not, and_assoc, Bool.not_eq_true, Bool.not_eq_false]
        exact Iff.rfl)
      refine sd_aload_n dGS_fits_0 rfl rfl ?_
      refine fx_getr 3 0 (1) dGS_fits_1 fGS_24 rfl rfl ?_
      refine fx_getr 8 1 (3) dGS_fits_4 fGS_102 rfl rfl ?_
      refine sd_aload_n dGS_fits_7 rfl rfl ?_
      refine fx_getiv (v := (nI (st_gt S g))) 6 2 dGS_fits_8 fGS_105 hso_s.1 rfl (s2) ?_
      refine fx_aald (st_gt S g) dGS_fits_11 rfl rfl rfl (by omega) (by decide) ?_
      refine sd_astore dGS_fits_12 (by decide) ?_
      refine sd_iload_n dGS_fits_14 rfl rfl ?_
      refine sd_tableIn (off := 148) 163 dGS_fits_15 (by decide) (by decide) (by decide) (by decide) ?_
      refine sd_aload dGS_fits_163 rfl ?_
      refine fx_cV 7 sR_TM [] [] dGS_fits_165 kGS_108 rfl (dk_tm (by omega)) mTM_isEquation_v (i1) (by decide) (Nat.le_refl _) (Nat.le_refl _) (Nat.le_of_ble_eq_true rfl) rfl ?_
      refine nn_if_eq 186 dGS_fits_168 (by decide) (by decide) (fun c => absurd c (by decide)) (fun _ => ?_)
      refine sd_aload_n dGS_fits_171 rfl rfl ?_
      refine sd_aload dGS_fits_172 rfl ?_
      refine sd_iload_n dGS_fits_174 rfl rfl ?_
      refine sd_aload_n dGS_fits_175 rfl rfl ?_
      refine fx_cV 3 sR_GS [.ref (o + (tmo ((st_gt S g) + 1))), .int (nI (a)), .ref (o + (s))] [] dGS_fits_176 kGS_131 rfl rfl mGS_canName_v (cA) (by decide) (Nat.le_refl _) (Nat.le_refl _) (Nat.le_of_ble_eq_true rfl) rfl ?_
      refine nn_if_eq 186 dGS_fits_179 (by decide) (by omega) (fun c179 => ?_) (fun c179 => ?_)
      ·
        refine sd_iconst (v := nI 0) dGS_fits_186 (by decide) ?_
        exact sd_zret dGS_fits_187 rfl (nn_01 (by omega)) (Nat.le_refl _) (Nat.le_refl _) ⟨by rw [show v = (0) by omega], rfl, _, rfl, rfD⟩
      ·
        refine sd_iconst (v := nI 1) dGS_fits_182 (by decide) ?_
        refine sd_goto 187 dGS_fits_183 (by decide) ?_
        exact sd_zret dGS_fits_187 rfl (nn_01 (by omega)) (Nat.le_refl _) (Nat.le_refl _) ⟨by rw [show v = (1) by omega], rfl, _, rfl, rfD⟩
    · obtain ⟨ta, ea, ca, cy, la, -, p40, -⟩ := hW.cn hH ha
      obtain ⟨w1, w2, -⟩ := hW.2.2.1.2.2 a ta ea
      rw [cy] at w1
      rw [ca] at w2
      simp only [su_fit, Bool.and_eq_true, beq_iff_eq, List.all_eq_true, List.contains_iff_mem] at hv
      have cE := c_GS_isExact (G := G) (o := o) (h0 := h0) (nx := nx) (b := v) (dk_ths (p := a) (by omega)) hso_s w1 s1 w2 s2 (by omega) (by omega) hv2 hv
      refine sd_aload_n dGS_fits_0 rfl rfl ?_
      refine fx_getr 3 0 (1) dGS_fits_1 fGS_24 rfl rfl ?_
      refine fx_getr 8 1 (3) dGS_fits_4 fGS_102 rfl rfl ?_
      refine sd_aload_n dGS_fits_7 rfl rfl ?_
      refine fx_getiv (v := (nI (st_gt S g))) 6 2 dGS_fits_8 fGS_105 hso_s.1 rfl (s2) ?_
      refine fx_aald (st_gt S g) dGS_fits_11 rfl rfl rfl (by omega) (by decide) ?_
      refine sd_astore dGS_fits_12 (by decide) ?_
      refine sd_iload_n dGS_fits_14 rfl rfl ?_
      refine sd_tableIn (off := 254) 269 dGS_fits_15 (by decide) (by decide) (by decide) (by decide) ?_
      refine sd_aload_n dGS_fits_269 rfl rfl ?_
      refine fx_getr 3 1 (307) dGS_fits_270 fGS_28 rfl rfl ?_
      refine fx_getr 5 1 (308) dGS_fits_273 fGS_141 rfl rfl ?_
      refine sd_iload_n dGS_fits_276 rfl rfl ?_
      refine fx_aald (a) dGS_fits_277 rfl rfl rfl (by omega) (by decide) ?_
      refine fx_getr 9 0 (309 + 3 * (a) + 1) dGS_fits_278 fGS_144 (dk_th (by omega)) rfl ?_
      refine sd_aload_n dGS_fits_281 rfl rfl ?_
      refine sd_cS [.ref (o + (309 + 3 * (a) + 1)), .ref (o + (s))] [] dGS_fits_282 kGS_149 mGS_isExact_s (cE) (by decide) (Nat.le_refl _) (Nat.le_refl _) (Nat.le_of_ble_eq_true rfl) rfl ?_
      exact sd_zret dGS_fits_285 rfl (nn_01 (by omega)) (Nat.le_refl _) (Nat.le_refl _) ⟨by rw [show v = (v) by omega], rfl, _, rfl, rfD⟩
  · have hE : tl_isE (su_m S g) = false := by simp [tl_isE, h9]
    have i0 := c_TM_isEquation (G := G) (o := o) (h0 := h0) (nx := nx) (r := st_gt S g + 1) (b := 0) (by omega) m1 m3.hd (by omega) ⟨fun e => absurd e (by decide), fun e => absurd e h9⟩
    rcases hh with ⟨rfl | rfl | rfl | rfl | rfl, rfl⟩ | ⟨rfl | rfl, rfl, ha⟩ | ⟨rfl, rfl, ha⟩ | ⟨rfl, rfl, ha⟩
    · have hv0 : v = 0 := by
        have : ¬ v = 1 := fun z => by
          have := hv.mp z
          simp [su_fit, hE] at this
        omega
      refine sd_aload_n dGS_fits_0 rfl rfl ?_
      refine fx_getr 3 0 (1) dGS_fits_1 fGS_24 rfl rfl ?_
      refine fx_getr 8 1 (3) dGS_fits_4 fGS_102 rfl rfl ?_
      refine sd_aload_n dGS_fits_7 rfl rfl ?_
      refine fx_getiv (v := (nI (st_gt S g))) 6 2 dGS_fits_8 fGS_105 hso_s.1 rfl (s2) ?_
      refine fx_aald (st_gt S g) dGS_fits_11 rfl rfl rfl (by omega) (by decide) ?_
      refine sd_astore dGS_fits_12 (by decide) ?_
      refine sd_iload_n dGS_fits_14 rfl rfl ?_
      refine sd_tableIn (off := 49) 64 dGS_fits_15 (by decide) (by decide) (by decide) (by decide) ?_
      refine sd_aload dGS_fits_64 rfl ?_
      refine fx_cV 7 sR_TM [] [] dGS_fits_66 kGS_108 rfl (dk_tm (by omega)) mTM_isEquation_v (i0) (by decide) (Nat.le_refl _) (Nat.le_refl _) (Nat.le_of_ble_eq_true rfl) rfl ?_
      refine nn_if_eq 92 dGS_fits_69 (by decide) (by decide) (fun _ => ?_) (fun c => absurd c (by decide))
      refine sd_iconst (v := nI 0) dGS_fits_92 (by decide) ?_
      exact sd_zret dGS_fits_93 rfl (Or.inl rfl) (Nat.le_refl _) (Nat.le_refl _) ⟨by rw [hv0], rfl, _, rfl, rfD⟩
    · simp only [su_fit, beq_iff_eq, List.contains_iff_mem] at hv
      have cA := c_ST_assumes (G := G) (o := o) (h0 := h0) (nx := nx) (b := v) (t := st_gt S g) hso_s s1 (by omega) hv2 hv
      refine sd_aload_n dGS_fits_0 rfl rfl ?_
      refine fx_getr 3 0 (1) dGS_fits_1 fGS_24 rfl rfl ?_
      refine fx_getr 8 1 (3) dGS_fits_4 fGS_102 rfl rfl ?_
      refine sd_aload_n dGS_fits_7 rfl rfl ?_
      refine fx_getiv (v := (nI (st_gt S g))) 6 2 dGS_fits_8 fGS_105 hso_s.1 rfl (s2) ?_
      refine fx_aald (st_gt S g) dGS_fits_11 rfl rfl rfl (by omega) (by decide) ?_
      refine sd_astore dGS_fits_12 (by decide) ?_
      refine sd_iload_n dGS_fits_14 rfl rfl ?_
      refine sd_tableIn (off := 79) 94 dGS_fits_15 (by decide) (by decide) (by decide) (by decide) ?_
      refine sd_aload_n dGS_fits_94 rfl rfl ?_
      refine sd_aload_n dGS_fits_95 rfl rfl ?_
      refine fx_getiv (v := (nI (st_gt S g))) 6 2 dGS_fits_96 fGS_105 hso_s.1 rfl (s2) ?_
      refine fx_cV 6 sR_ST [.int (nI (st_gt S g))] [] dGS_fits_99 kGS_121 rfl hso_s.1 mST_assumes_v (cA) (by decide) (Nat.le_refl _) (Nat.le_refl _) (Nat.le_of_ble_eq_true rfl) rfl ?_
      exact sd_zret dGS_fits_102 rfl (nn_01 (by omega)) (Nat.le_refl _) (Nat.le_refl _) ⟨by rw [show v = (v) by omega], rfl, _, rfl, rfD⟩
    · have hv0 : v = 0 := by
        have : ¬ v = 1 := fun z => by
          have := hv.mp z
          simp [su_fit, hE] at this
        omega
      refine sd_aload_n dGS_fits_0 rfl rfl ?_
      refine fx_getr 3 0 (1) dGS_fits_1 fGS_24 rfl rfl ?_
      refine fx_getr 8 1 (3) dGS_fits_4 fGS_102 rfl rfl ?_
      refine sd_aload_n dGS_fits_7 rfl rfl ?_
      refine fx_getiv (v := (nI (st_gt S g))) 6 2 dGS_fits_8 fGS_105 hso_s.1 rfl (s2) ?_
      refine fx_aald (st_gt S g) dGS_fits_11 rfl rfl rfl (by omega) (by decide) ?_
      refine sd_astore dGS_fits_12 (by decide) ?_
      refine sd_iload_n dGS_fits_14 rfl rfl ?_
      refine sd_tableIn (off := 126) 141 dGS_fits_15 (by decide) (by decide) (by decide) (by decide) ?_
      refine sd_aload dGS_fits_141 rfl ?_
      refine fx_cV 7 sR_TM [] [] dGS_fits_143 kGS_108 rfl (dk_tm (by omega)) mTM_isEquation_v (i0) (by decide) (Nat.le_refl _) (Nat.le_refl _) (Nat.le_of_ble_eq_true rfl) rfl ?_
      refine nn_if_eq 161 dGS_fits_146 (by decide) (by decide) (fun _ => ?_) (fun c => absurd c (by decide))
      refine sd_iconst (v := nI 0) dGS_fits_161 (by decide) ?_
      exact sd_zret dGS_fits_162 rfl (Or.inl rfl) (Nat.le_refl _) (Nat.le_refl _) ⟨by rw [hv0], rfl, _, rfl, rfD⟩
    · have hv0 : v = 0 := by
        have : ¬ v = 1 := fun z => by
          have := hv.mp z
          simp [su_fit, hE] at this
        omega
      refine sd_aload_n dGS_fits_0 rfl rfl ?_
      refine fx_getr 3 0 (1) dGS_fits_1 fGS_24 rfl rfl ?_
      refine fx_getr 8 1 (3) dGS_fits_4 fGS_102 rfl rfl ?_
      refine sd_aload_n dGS_fits_7 rfl rfl ?_
      refine fx_getiv (v := (nI (st_gt S g))) 6 2 dGS_fits_8 fGS_105 hso_s.1 rfl (s2) ?_
      refine fx_aald (st_gt S g) dGS_fits_11 rfl rfl rfl (by omega) (by decide) ?_
      refine sd_astore dGS_fits_12 (by decide) ?_
      refine sd_iload_n dGS_fits_14 rfl rfl ?_
      refine sd_tableIn (off := 173) 188 dGS_fits_15 (by decide) (by decide) (by decide) (by decide) ?_
      refine sd_aload dGS_fits_188 rfl ?_
      refine fx_cV 7 sR_TM [] [] dGS_fits_190 kGS_108 rfl (dk_tm (by omega)) mTM_isEquation_v (i0) (by decide) (Nat.le_refl _) (Nat.le_refl _) (Nat.le_of_ble_eq_true rfl) rfl ?_
      refine nn_if_eq 218 dGS_fits_193 (by decide) (by decide) (fun _ => ?_) (fun c => absurd c (by decide))
      refine sd_iconst (v := nI 0) dGS_fits_218 (by decide) ?_
      exact sd_zret dGS_fits_219 rfl (Or.inl rfl) (Nat.le_refl _) (Nat.le_refl _) ⟨by rw [hv0], rfl, _, rfl, rfD⟩
    · have hv0 : v = 0 := by
        have : ¬ v = 1 := fun z => by
          have := hv.mp z
          simp [su_fit, hE] at this
        omega
      refine sd_aload_n dGS_fits_0 rfl rfl ?_
      refine fx_getr 3 0 (1) dGS_fits_1 fGS_24 rfl rfl ?_
      refine fx_getr 8 1 (3) dGS_fits_4 fGS_102 rfl rfl ?_
      refine sd_aload_n dGS_fits_7 rfl rfl ?_
      refine fx_getiv (v := (nI (st_gt S g))) 6 2 dGS_fits_8 fGS_105 hso_s.1 rfl (s2) ?_
      refine fx_aald (st_gt S g) dGS_fits_11 rfl rfl rfl (by omega) (by decide) ?_
      refine sd_astore dGS_fits_12 (by decide) ?_
      refine sd_iload_n dGS_fits_14 rfl rfl ?_
      refine sd_tableIn (off := 229) 244 dGS_fits_15 (by decide) (by decide) (by decide) (by decide) ?_
      refine sd_aload dGS_fits_244 rfl ?_
      refine fx_cV 7 sR_TM [] [] dGS_fits_246 kGS_108 rfl (dk_tm (by omega)) mTM_isEquation_v (i0) (by decide) (Nat.le_refl _) (Nat.le_refl _) (Nat.le_of_ble_eq_true rfl) rfl ?_
      refine nn_if_eq 267 dGS_fits_249 (by decide) (by decide) (fun _ => ?_) (fun c => absurd c (by decide))
      refine sd_iconst (v := nI 0) dGS_fits_267 (by decide) ?_
      exact sd_zret dGS_fits_268 rfl (Or.inl rfl) (Nat.le_refl _) (Nat.le_refl _) ⟨by rw [hv0], rfl, _, rfl, rfD⟩
    · have hv0 : v = 0 := by
        have : ¬ v = 1 := fun z => by
          have := hv.mp z
          simp [su_fit, hE] at this
        omega
      refine sd_aload_n dGS_fits_0 rfl rfl ?_
      refine fx_getr 3 0 (1) dGS_fits_1 fGS_24 rfl rfl ?_
      refine fx_getr 8 1 (3) dGS_fits_4 fGS_102 rfl rfl ?_
      refine sd_aload_n dGS_fits_7 rfl rfl ?_
      refine fx_getiv (v := (nI (st_gt S g))) 6 2 dGS_fits_8 fGS_105 hso_s.1 rfl (s2) ?_
      refine fx_aald (st_gt S g) dGS_fits_11 rfl rfl rfl (by omega) (by decide) ?_
      refine sd_astore dGS_fits_12 (by decide) ?_
      refine sd_iload_n dGS_fits_14 rfl rfl ?_
      refine sd_tableIn (off := 88) 103 dGS_fits_15 (by decide) (by decide) (by decide) (by decide) ?_
      refine sd_aload dGS_fits_103 rfl ?_
      refine fx_cV 7 sR_TM [] [] dGS_fits_105 kGS_108 rfl (dk_tm (by omega)) mTM_isEquation_v (i0) (by decide) (Nat.le_refl _) (Nat.le_refl _) (Nat.le_of_ble_eq_true rfl) rfl ?_
      refine nn_if_eq 139 dGS_fits_108 (by decide) (by decide) (fun _ => ?_) (fun c => absurd c (by decide))
      refine sd_iconst (v := nI 0) dGS_fits_139 (by decide) ?_
      exact sd_zret dGS_fits_140 rfl (Or.inl rfl) (Nat.le_refl _) (Nat.le_refl _) ⟨by rw [hv0], rfl, _, rfl, rfD⟩
    · obtain ⟨n1, n2, n3, n4, -⟩ := hW.tm ha
      obtain ⟨-, q2, -, q4⟩ := n1.2.2 0 _ n3.hd
      simp only [su_fit, beq_iff_eq] at hv
      refine sd_aload_n dGS_fits_0 rfl rfl ?_
      refine fx_getr 3 0 (1) dGS_fits_1 fGS_24 rfl rfl ?_
      refine fx_getr 8 1 (3) dGS_fits_4 fGS_102 rfl rfl ?_
      refine sd_aload_n dGS_fits_7 rfl rfl ?_
      refine fx_getiv (v := (nI (st_gt S g))) 6 2 dGS_fits_8 fGS_105 hso_s.1 rfl (s2) ?_
      refine fx_aald (st_gt S g) dGS_fits_11 rfl rfl rfl (by omega) (by decide) ?_
      refine sd_astore dGS_fits_12 (by decide) ?_
      refine sd_iload_n dGS_fits_14 rfl rfl ?_
      refine sd_tableIn (off := 205) 220 dGS_fits_15 (by decide) (by decide) (by decide) (by decide) ?_
      refine sd_aload_n dGS_fits_220 rfl rfl ?_
      refine fx_getr 3 0 (1) dGS_fits_221 fGS_24 rfl rfl ?_
      refine fx_getr 8 1 (3) dGS_fits_224 fGS_102 rfl rfl ?_
      refine sd_iload_n dGS_fits_227 rfl rfl ?_
      refine fx_aald (a) dGS_fits_228 rfl rfl rfl (by omega) (by decide) ?_
      refine fx_getr 7 1 (tmo ((a) + 1) + 2) dGS_fits_229 fGS_124 (dk_tm (by omega)) rfl ?_
      refine sd_iconst (v := nI 0) dGS_fits_232 (by decide) ?_
      refine fx_ialdv (v := (nI ((tl_at (st_tm S a) 0).2))) (0) dGS_fits_233 (dk_tm2 (by omega)) rfl (by omega) (by decide) (q2) ?_
      refine sd_iconst (v := nI 4) dGS_fits_234 (by decide) ?_
      refine nn_icmp_ne 242 dGS_fits_235 (by decide) (by omega) (by omega) (fun c235 => ?_) (fun c235 => ?_)
      ·
        refine sd_iconst (v := nI 0) dGS_fits_242 (by decide) ?_
        exact sd_zret dGS_fits_243 rfl (nn_01 (by omega)) (Nat.le_refl _) (Nat.le_refl _) ⟨by rw [show v = (0) by omega], rfl, _, rfl, rfD⟩
      ·
        refine sd_iconst (v := nI 1) dGS_fits_238 (by decide) ?_
        refine sd_goto 243 dGS_fits_239 (by decide) ?_
        exact sd_zret dGS_fits_243 rfl (nn_01 (by omega)) (Nat.le_refl _) (Nat.le_refl _) ⟨by rw [show v = (1) by omega], rfl, _, rfl, rfD⟩
    · have hv0 : v = 0 := by
        have : ¬ v = 1 := fun z => by
          have := hv.mp z
          simp [su_fit, hE] at this
        omega
      refine sd_aload_n dGS_fits_0 rfl rfl ?_
      refine fx_getr 3 0 (1) dGS_fits_1 fGS_24 rfl rfl ?_
      refine fx_getr 8 1 (3) dGS_fits_4 fGS_102 rfl rfl ?_
      refine sd_aload_n dGS_fits_7 rfl rfl ?_
      refine fx_getiv (v := (nI (st_gt S g))) 6 2 dGS_fits_8 fGS_105 hso_s.1 rfl (s2) ?_
      refine fx_aald (st_gt S g) dGS_fits_11 rfl rfl rfl (by omega) (by decide) ?_
      refine sd_astore dGS_fits_12 (by decide) ?_
      refine sd_iload_n dGS_fits_14 rfl rfl ?_
      refine sd_tableIn (off := 148) 163 dGS_fits_15 (by decide) (by decide) (by decide) (by decide) ?_
      refine sd_aload dGS_fits_163 rfl ?_
      refine fx_cV 7 sR_TM [] [] dGS_fits_165 kGS_108 rfl (dk_tm (by omega)) mTM_isEquation_v (i0) (by decide) (Nat.le_refl _) (Nat.le_refl _) (Nat.le_of_ble_eq_true rfl) rfl ?_
      refine nn_if_eq 186 dGS_fits_168 (by decide) (by decide) (fun _ => ?_) (fun c => absurd c (by decide))
      refine sd_iconst (v := nI 0) dGS_fits_186 (by decide) ?_
      exact sd_zret dGS_fits_187 rfl (Or.inl rfl) (Nat.le_refl _) (Nat.le_refl _) ⟨by rw [hv0], rfl, _, rfl, rfD⟩
    · obtain ⟨ta, ea, ca, cy, la, -, p40, -⟩ := hW.cn hH ha
      obtain ⟨w1, w2, -⟩ := hW.2.2.1.2.2 a ta ea
      rw [cy] at w1
      rw [ca] at w2
      simp only [su_fit, Bool.and_eq_true, beq_iff_eq, List.all_eq_true, List.contains_iff_mem] at hv
      have cE := c_GS_isExact (G := G) (o := o) (h0 := h0) (nx := nx) (b := v) (dk_ths (p := a) (by omega)) hso_s w1 s1 w2 s2 (by omega) (by omega) hv2 hv
      refine sd_aload_n dGS_fits_0 rfl rfl ?_
      refine fx_getr 3 0 (1) dGS_fits_1 fGS_24 rfl rfl ?_
      refine fx_getr 8 1 (3) dGS_fits_4 fGS_102 rfl rfl ?_
      refine sd_aload_n dGS_fits_7 rfl rfl ?_
      refine fx_getiv (v := (nI (st_gt S g))) 6 2 dGS_fits_8 fGS_105 hso_s.1 rfl (s2) ?_
      refine fx_aald (st_gt S g) dGS_fits_11 rfl rfl rfl (by omega) (by decide) ?_
      refine sd_astore dGS_fits_12 (by decide) ?_
      refine sd_iload_n dGS_fits_14 rfl rfl ?_
      refine sd_tableIn (off := 254) 269 dGS_fits_15 (by decide) (by decide) (by decide) (by decide) ?_
      refine sd_aload_n dGS_fits_269 rfl rfl ?_
      refine fx_getr 3 1 (307) dGS_fits_270 fGS_28 rfl rfl ?_
      refine fx_getr 5 1 (308) dGS_fits_273 fGS_141 rfl rfl ?_
      refine sd_iload_n dGS_fits_276 rfl rfl ?_
      refine fx_aald (a) dGS_fits_277 rfl rfl rfl (by omega) (by decide) ?_
      refine fx_getr 9 0 (309 + 3 * (a) + 1) dGS_fits_278 fGS_144 (dk_th (by omega)) rfl ?_
      refine sd_aload_n dGS_fits_281 rfl rfl ?_
      refine sd_cS [.ref (o + (309 + 3 * (a) + 1)), .ref (o + (s))] [] dGS_fits_282 kGS_149 mGS_isExact_s (cE) (by decide) (Nat.le_refl _) (Nat.le_refl _) (Nat.le_of_ble_eq_true rfl) rfl ?_
      exact sd_zret dGS_fits_285 rfl (nn_01 (by omega)) (Nat.le_refl _) (Nat.le_refl _) ⟨by rw [show v = (v) by omega], rfl, _, rfl, rfD⟩
theorem dGS_heir_0 : decode prog_4_method_13_code 0 = .ok (.aload_n 0, 1) := by decide +kernel
theorem dGS_heir_1 : decode prog_4_method_13_code 1 = .ok (.getfield 11, 3) := by decide +kernel
theorem dGS_heir_4 : decode prog_4_method_13_code 4 = .ok (.aload_n 0, 1) := by decide +kernel
theorem dGS_heir_5 : decode prog_4_method_13_code 5 = .ok (.getfield 33, 3) := by decide +kernel
theorem dGS_heir_8 : decode prog_4_method_13_code 8 = .ok (.iload_n 2, 1) := by decide +kernel
theorem dGS_heir_9 : decode prog_4_method_13_code 9 = .ok (.iadd, 1) := by decide +kernel
theorem dGS_heir_10 : decode prog_4_method_13_code 10 = .ok (.aaload, 1) := by decide +kernel
theorem dGS_heir_11 : decode prog_4_method_13_code 11 = .ok (.getfield 46, 3) := by decide +kernel
theorem dGS_heir_14 : decode prog_4_method_13_code 14 = .ok (.astore_n 3, 1) := by decide +kernel
theorem dGS_heir_15 : decode prog_4_method_13_code 15 = .ok (.aload_n 3, 1) := by decide +kernel
theorem dGS_heir_16 : decode prog_4_method_13_code 16 = .ok (.invokevirtual 50, 3) := by decide +kernel
theorem dGS_heir_19 : decode prog_4_method_13_code 19 = .ok (.aload_n 3, 1) := by decide +kernel
theorem dGS_heir_20 : decode prog_4_method_13_code 20 = .ok (.aload_n 1, 1) := by decide +kernel
theorem dGS_heir_21 : decode prog_4_method_13_code 21 = .ok (.invokevirtual 217, 3) := by decide +kernel
theorem dGS_heir_24 : decode prog_4_method_13_code 24 = .ok (.aload_n 3, 1) := by decide +kernel
theorem dGS_heir_25 : decode prog_4_method_13_code 25 = .ok (.areturn, 1) := by decide +kernel
theorem c_GS_heir {G : sd_G} {o : Nat} {D : fx_D} {h0 : sd_H} {nx n j s u : Nat} {L : List Nat} (hB : G.2.1 ≤ o) (hn : n + j < 32) (hm : D.2.1 432 3 = nI n) (hse : s = 436 + 3 * (n + j) + 1) (hso_u : dk_so u) (hne : u + 1 < s) (hL : so_r D u L) : sd_Ct G mGS_heir 3 0 0 [.ref (o + 432), .ref (o + u), .int (nI j)] (fx_h G.1.2 dk_S o D h0) nx (fx_is G.1.2 dk_S o h0 nx (some (.ref (o + s))) (fun D' => so_w D' s (ls_g [] (-1) L) ∧ ∀ x, x ≠ s → x ≠ s + 1 → ag D D' x)) := by
  refine sd_Ct_of (by decide) (Nat.le_of_ble_eq_true rfl) ?_
  subst hse
  have hw : so_w (fx_uf (fx_uf (fx_uf D (436 + 3 * (n + j) + 1) 1 (nI 0)) (436 + 3 * (n + j) + 1) 2 (-1)) (436 + 3 * (n + j) + 1) 3 (nI 0)) (436 + 3 * (n + j) + 1) [] := by
    refine Or.inl ⟨by simp, ⟨by simp, ?_, fun k t h => by simp at h⟩, ?_⟩ <;> simp [fx_uf, upd]
  have a1 : ∀ x, x ≠ 436 + 3 * (n + j) + 1 → ag D (fx_uf (fx_uf (fx_uf D (436 + 3 * (n + j) + 1) 1 (nI 0)) (436 + 3 * (n + j) + 1) 2 (-1)) (436 + 3 * (n + j) + 1) 3 (nI 0)) x := fun x hx => ((ag_uf hx).tr (ag_uf hx)).tr (ag_uf hx)
  refine sd_aload_n dGS_heir_0 rfl rfl ?_
  refine fx_getr 3 2 (433) dGS_heir_1 fGS_11 rfl rfl ?_
  refine sd_aload_n dGS_heir_4 rfl rfl ?_
  refine fx_getiv (v := (nI (n))) 3 3 dGS_heir_5 fGS_33 rfl rfl (hm) ?_
  refine sd_iload_n dGS_heir_8 rfl rfl ?_
  refine nn_iadd dGS_heir_9 ?_
  refine fx_aald (n + j) dGS_heir_10 rfl rfl rfl (by omega) (by decide) ?_
  refine fx_getr 2 0 (436 + 3 * (n + j) + 1) dGS_heir_11 fGS_46 (dk_gl (by omega)) rfl ?_
  refine sd_astore_n dGS_heir_14 rfl (by decide) ?_
  refine sd_aload_n dGS_heir_15 rfl rfl ?_
  refine fx_cV 6 sR_ST [] [] dGS_heir_16 kGS_50 rfl (dk_gls (g := n + j) (by omega)).1 mST_begin_v (c_ST_begin hB (dk_gls (by omega))) (by decide) (Nat.le_refl _) (Nat.le_refl _) (Nat.le_of_ble_eq_true rfl) rfl ?_
  refine sd_aload_n dGS_heir_19 rfl rfl ?_
  refine sd_aload_n dGS_heir_20 rfl rfl ?_
  refine fx_cP 6 sR_ST [.ref (o + (u))] [] dGS_heir_21 kGS_217 rfl (dk_gls (g := n + j) (by omega)).1 mST_assumeThoseOf_v (c_ST_assumeThoseOf hB (dk_gls (by omega)) hso_u (by omega) hw (so_r_ag (a1 _ (by omega)) (a1 _ (by omega)) hL)) (by decide) (Nat.le_refl _) (Nat.le_refl _) (Nat.le_of_ble_eq_true rfl) rfl (fun D1 h1 => ?_)
  refine sd_aload_n dGS_heir_24 rfl rfl ?_
  exact sd_aret dGS_heir_25 rfl (Nat.le_refl _) (Nat.le_refl _) ⟨rfl, rfl, _, rfl, h1.1, fun x q1 q2 => (a1 x q1).tr (h1.2.ag q1 q2)⟩
/-- the row that keepBodies writes -/
def kb_L (l : tl_T) (v t : Nat) : tl_T := (9, 4) :: (tl_sub (tl_of l 2 (.inl [(v, t)])) l 2 (tl_end l 2 - 2) ++ tl_sub (tl_of l (tl_end l 1 + 1) (.inl [(v, t)])) l (tl_end l 1 + 1) (tl_end l (tl_end l 1 + 1) - (tl_end l 1 + 1)))
theorem dGS_keepBodies_0 : decode prog_4_method_14_code 0 = .ok (.aload_n 0, 1) := by decide +kernel
theorem dGS_keepBodies_1 : decode prog_4_method_14_code 1 = .ok (.getfield 24, 3) := by decide +kernel
theorem dGS_keepBodies_4 : decode prog_4_method_14_code 4 = .ok (.invokevirtual 172, 3) := by decide +kernel
theorem dGS_keepBodies_7 : decode prog_4_method_14_code 7 = .ok (.astore_n 3, 1) := by decide +kernel
theorem dGS_keepBodies_8 : decode prog_4_method_14_code 8 = .ok (.aload_n 3, 1) := by decide +kernel
theorem dGS_keepBodies_9 : decode prog_4_method_14_code 9 = .ok (.bipush (9), 2) := by decide +kernel
theorem dGS_keepBodies_11 : decode prog_4_method_14_code 11 = .ok (.iconst 4, 1) := by decide +kernel
theorem dGS_keepBodies_12 : decode prog_4_method_14_code 12 = .ok (.invokevirtual 221, 3) := by decide +kernel
theorem dGS_keepBodies_15 : decode prog_4_method_14_code 15 = .ok (.aload_n 3, 1) := by decide +kernel
theorem dGS_keepBodies_16 : decode prog_4_method_14_code 16 = .ok (.aload_n 1, 1) := by decide +kernel
theorem dGS_keepBodies_17 : decode prog_4_method_14_code 17 = .ok (.iconst 2, 1) := by decide +kernel
theorem dGS_keepBodies_18 : decode prog_4_method_14_code 18 = .ok (.aload_n 2, 1) := by decide +kernel
theorem dGS_keepBodies_19 : decode prog_4_method_14_code 19 = .ok (.iconst 0, 1) := by decide +kernel
theorem dGS_keepBodies_20 : decode prog_4_method_14_code 20 = .ok (.invokevirtual 179, 3) := by decide +kernel
theorem dGS_keepBodies_23 : decode prog_4_method_14_code 23 = .ok (.aload_n 3, 1) := by decide +kernel
theorem dGS_keepBodies_24 : decode prog_4_method_14_code 24 = .ok (.aload_n 1, 1) := by decide +kernel
theorem dGS_keepBodies_25 : decode prog_4_method_14_code 25 = .ok (.aload_n 1, 1) := by decide +kernel
theorem dGS_keepBodies_26 : decode prog_4_method_14_code 26 = .ok (.invokevirtual 113, 3) := by decide +kernel
theorem dGS_keepBodies_29 : decode prog_4_method_14_code 29 = .ok (.iconst 1, 1) := by decide +kernel
theorem dGS_keepBodies_30 : decode prog_4_method_14_code 30 = .ok (.iadd, 1) := by decide +kernel
theorem dGS_keepBodies_31 : decode prog_4_method_14_code 31 = .ok (.aload_n 2, 1) := by decide +kernel
theorem dGS_keepBodies_32 : decode prog_4_method_14_code 32 = .ok (.iconst 0, 1) := by decide +kernel
theorem dGS_keepBodies_33 : decode prog_4_method_14_code 33 = .ok (.invokevirtual 179, 3) := by decide +kernel
theorem dGS_keepBodies_36 : decode prog_4_method_14_code 36 = .ok (.aload_n 0, 1) := by decide +kernel
theorem dGS_keepBodies_37 : decode prog_4_method_14_code 37 = .ok (.getfield 24, 3) := by decide +kernel
theorem dGS_keepBodies_40 : decode prog_4_method_14_code 40 = .ok (.invokevirtual 224, 3) := by decide +kernel
theorem dGS_keepBodies_43 : decode prog_4_method_14_code 43 = .ok (.ireturn, 1) := by decide +kernel
theorem c_GS_keepBodies {G : sd_G} {o : Nat} {D : fx_D} {h0 : sd_H} {nx q v t : Nat} {T : List tl_T} {l : tl_T} (hB : G.2.1 ≤ o) (hT : ts_T D T) (hN : T.length ≤ 70) (hq : q < 73) (hq0 : q ≠ 0) (hqT : q ≠ T.length + 1) (hl : tm_row D q l) (sl : tm_set D q l) (wl : tl_wf l) (h9 : (tl_at l 0).1 = 9) (k1 : (tl_at l 1).1 = 10) (k2 : (tl_at l (tl_end l 1)).1 = 10) (hv : v < 8) (hn : tm_row D 0 [(v, t)]) (sn : tm_set D 0 [(v, t)]) (hw : (kb_L l v t).length ≤ 24 → tl_wf (kb_L l v t)) : sd_Ct G mGS_keepBodies 3 0 0 [.ref (o + 432), .ref (o + tmo q), .ref (o + tmo 0)] (fx_h G.1.2 dk_S o D h0) nx (fx_is G.1.2 dk_S o h0 nx (some (.int (if (kb_L l v t).length ≤ 24 then nI (tl_kp T (kb_L l v t)) else -5))) (fun D' => ts_T D' (if (kb_L l v t).length ≤ 24 then tl_ku T (kb_L l v t) else T) ∧ ts_f D D')) := by
  refine sd_Ct_of (by decide) (Nat.le_of_ble_eq_true rfl) ?_
  obtain ⟨t1, t2, -⟩ := wl.two (by rw [h9]; rfl)
  obtain ⟨t3, -⟩ := (tl_end_ar (tl_ok_drop _ 1 1 wl.1 wl.2.1 t1) t1).2.1 (by rw [k1]; rfl)
  obtain ⟨t4, -⟩ := (tl_end_ar (tl_ok_drop _ 1 _ wl.1 wl.2.1 t2) t2).2.1 (by rw [k2]; rfl)
  have ep : tl_part [(v, t)] 0 = [(v, t)] := (tl_wf_name (t := t) hv).part
  have c1 : ∀ {D'}, tm_f (T.length + 1) D D' → tm_row D' q l ∧ tm_set D' q l ∧ tm_row D' 0 [(v, t)] ∧ tm_set D' 0 [(v, t)] := fun h => ⟨tm_row_f h hqT hl, tm_set_f h hqT sl, tm_row_f h (by omega) hn, tm_set_f h (by omega) sn⟩
  by_cases h24 : (kb_L l v t).length ≤ 24
  · rw [if_pos h24, if_pos h24]
    refine sd_aload_n dGS_keepBodies_0 rfl rfl ?_
    refine fx_getr 3 0 (1) dGS_keepBodies_1 fGS_24 rfl rfl ?_
    refine fx_cP 8 sR_TS [] [] dGS_keepBodies_4 kGS_172 rfl rfl mTS_fresh_v (c_TS_fresh hB hT.1 hT.2.1) (by decide) (Nat.le_refl _) (Nat.le_refl _) (Nat.le_of_ble_eq_true rfl) rfl (fun D1 h1 => ?_)
    refine sd_astore_n dGS_keepBodies_7 rfl (by decide) ?_
    refine sd_aload_n dGS_keepBodies_8 rfl rfl ?_
    refine sd_bipush (v := nI 9) dGS_keepBodies_9 (by decide) ?_
    refine sd_iconst (v := nI 4) dGS_keepBodies_11 (by decide) ?_
    refine fx_cP 7 sR_TM [.int (nI (9)), .int (nI (4))] [] dGS_keepBodies_12 kGS_221 rfl (dk_tm (by omega)) mTM_add_v (c_TM_add (s := 9) (t := 4) hB (by omega) h1.1 (by omega) (by omega)) (by decide) (Nat.le_refl _) (Nat.le_refl _) (Nat.le_of_ble_eq_true rfl) rfl (fun D2 h2 => ?_)
    refine sd_aload_n dGS_keepBodies_15 rfl rfl ?_
    refine sd_aload_n dGS_keepBodies_16 rfl rfl ?_
    refine sd_iconst (v := nI 2) dGS_keepBodies_17 (by decide) ?_
    refine sd_aload_n dGS_keepBodies_18 rfl rfl ?_
    refine sd_iconst (v := nI 0) dGS_keepBodies_19 (by decide) ?_
    refine fx_cP 7 sR_TM [.ref (o + (tmo (q))), .int (nI (2)), .ref (o + (tmo (0))), .int (nI (0))] [] dGS_keepBodies_20 kGS_179 rfl (dk_tm (by omega)) mTM_addFilled_v (c_TM_addFilled (i := 2) (j := 0) hB (by omega) hq (by omega) hqT (by omega) h2.1 (c1 (h1.2.tr h2.2)).1 (c1 (h1.2.tr h2.2)).2.1 t3 (c1 (h1.2.tr h2.2)).2.2.1 (c1 (h1.2.tr h2.2)).2.2.2 (by simp)) (by decide) (Nat.le_refl _) (Nat.le_refl _) (Nat.le_of_ble_eq_true rfl) rfl (fun D3 h3 => ?_)
    have f3 := h1.2.tr (h2.2.tr h3.2)
    refine sd_aload_n dGS_keepBodies_23 rfl rfl ?_
    refine sd_aload_n dGS_keepBodies_24 rfl rfl ?_
    refine sd_aload_n dGS_keepBodies_25 rfl rfl ?_
    refine fx_cV 7 sR_TM [] [.ref (o + (tmo (q))), .ref (o + (tmo ((T.length + 1))))] dGS_keepBodies_26 kGS_113 rfl (dk_tm (by omega)) mTM_right_v (c_TM_right hq (c1 f3).2.1 t1) (by decide) (Nat.le_refl _) (Nat.le_refl _) (Nat.le_of_ble_eq_true rfl) rfl ?_
    refine sd_iconst (v := nI 1) dGS_keepBodies_29 (by decide) ?_
    refine nn_iadd dGS_keepBodies_30 ?_
    refine sd_aload_n dGS_keepBodies_31 rfl rfl ?_
    refine sd_iconst (v := nI 0) dGS_keepBodies_32 (by decide) ?_
    refine fx_cP 7 sR_TM [.ref (o + (tmo (q))), .int (nI ((tl_end l 1) + 1)), .ref (o + (tmo (0))), .int (nI (0))] [] dGS_keepBodies_33 kGS_179 rfl (dk_tm (by omega)) mTM_addFilled_v (c_TM_addFilled (j := 0) hB (by omega) hq (by omega) hqT (by omega) h3.1 (c1 f3).1 (c1 f3).2.1 t4 (c1 f3).2.2.1 (c1 f3).2.2.2 (by simp)) (by decide) (Nat.le_refl _) (Nat.le_refl _) (Nat.le_of_ble_eq_true rfl) rfl (fun D4 h4 => ?_)
    have f4 := f3.tr h4.2
    have w4 : tw D4 (T.length + 1) (kb_L l v t) := by have z := h4.1; rw [ep] at z; simpa [kb_L] using z
    refine sd_aload_n dGS_keepBodies_36 rfl rfl ?_
    refine fx_getr 3 0 (1) dGS_keepBodies_37 fGS_24 rfl rfl ?_
    refine fx_cP 8 sR_TS [] [] dGS_keepBodies_40 kGS_224 rfl rfl mTS_keep_v (c_TS_keep (T := T) hB (ts_T_f (Or.inl (by omega)) f4 hT) hN w4 (hw h24)) (by decide) (Nat.le_refl _) (Nat.le_refl _) (Nat.le_of_ble_eq_true rfl) rfl (fun D5 h5 => ?_)
    exact sd_iret dGS_keepBodies_43 rfl (Nat.le_refl _) (Nat.le_refl _) ⟨rfl, rfl, _, rfl, h5.1, (ts_f.row (by omega) (by omega) f4).tr h5.2⟩
  · rw [if_neg h24, if_neg h24]
    refine sd_aload_n dGS_keepBodies_0 rfl rfl ?_
    refine fx_getr 3 0 (1) dGS_keepBodies_1 fGS_24 rfl rfl ?_
    refine fx_cP 8 sR_TS [] [] dGS_keepBodies_4 kGS_172 rfl rfl mTS_fresh_v (c_TS_fresh hB hT.1 hT.2.1) (by decide) (Nat.le_refl _) (Nat.le_refl _) (Nat.le_of_ble_eq_true rfl) rfl (fun D1 h1 => ?_)
    refine sd_astore_n dGS_keepBodies_7 rfl (by decide) ?_
    refine sd_aload_n dGS_keepBodies_8 rfl rfl ?_
    refine sd_bipush (v := nI 9) dGS_keepBodies_9 (by decide) ?_
    refine sd_iconst (v := nI 4) dGS_keepBodies_11 (by decide) ?_
    refine fx_cP 7 sR_TM [.int (nI (9)), .int (nI (4))] [] dGS_keepBodies_12 kGS_221 rfl (dk_tm (by omega)) mTM_add_v (c_TM_add (s := 9) (t := 4) hB (by omega) h1.1 (by omega) (by omega)) (by decide) (Nat.le_refl _) (Nat.le_refl _) (Nat.le_of_ble_eq_true rfl) rfl (fun D2 h2 => ?_)
    refine sd_aload_n dGS_keepBodies_15 rfl rfl ?_
    refine sd_aload_n dGS_keepBodies_16 rfl rfl ?_
    refine sd_iconst (v := nI 2) dGS_keepBodies_17 (by decide) ?_
    refine sd_aload_n dGS_keepBodies_18 rfl rfl ?_
    refine sd_iconst (v := nI 0) dGS_keepBodies_19 (by decide) ?_
    refine fx_cP 7 sR_TM [.ref (o + (tmo (q))), .int (nI (2)), .ref (o + (tmo (0))), .int (nI (0))] [] dGS_keepBodies_20 kGS_179 rfl (dk_tm (by omega)) mTM_addFilled_v (c_TM_addFilled (i := 2) (j := 0) hB (by omega) hq (by omega) hqT (by omega) h2.1 (c1 (h1.2.tr h2.2)).1 (c1 (h1.2.tr h2.2)).2.1 t3 (c1 (h1.2.tr h2.2)).2.2.1 (c1 (h1.2.tr h2.2)).2.2.2 (by simp)) (by decide) (Nat.le_refl _) (Nat.le_refl _) (Nat.le_of_ble_eq_true rfl) rfl (fun D3 h3 => ?_)
    have f3 := h1.2.tr (h2.2.tr h3.2)
    refine sd_aload_n dGS_keepBodies_23 rfl rfl ?_
    refine sd_aload_n dGS_keepBodies_24 rfl rfl ?_
    refine sd_aload_n dGS_keepBodies_25 rfl rfl ?_
    refine fx_cV 7 sR_TM [] [.ref (o + (tmo (q))), .ref (o + (tmo ((T.length + 1))))] dGS_keepBodies_26 kGS_113 rfl (dk_tm (by omega)) mTM_right_v (c_TM_right hq (c1 f3).2.1 t1) (by decide) (Nat.le_refl _) (Nat.le_refl _) (Nat.le_of_ble_eq_true rfl) rfl ?_
    refine sd_iconst (v := nI 1) dGS_keepBodies_29 (by decide) ?_
    refine nn_iadd dGS_keepBodies_30 ?_
    refine sd_aload_n dGS_keepBodies_31 rfl rfl ?_
    refine sd_iconst (v := nI 0) dGS_keepBodies_32 (by decide) ?_
    refine fx_cP 7 sR_TM [.ref (o + (tmo (q))), .int (nI ((tl_end l 1) + 1)), .ref (o + (tmo (0))), .int (nI (0))] [] dGS_keepBodies_33 kGS_179 rfl (dk_tm (by omega)) mTM_addFilled_v (c_TM_addFilled (j := 0) hB (by omega) hq (by omega) hqT (by omega) h3.1 (c1 f3).1 (c1 f3).2.1 t4 (c1 f3).2.2.1 (c1 f3).2.2.2 (by simp)) (by decide) (Nat.le_refl _) (Nat.le_refl _) (Nat.le_of_ble_eq_true rfl) rfl (fun D4 h4 => ?_)
    have f4 := f3.tr h4.2
    have w4 : tw D4 (T.length + 1) (kb_L l v t) := by have z := h4.1; rw [ep] at z; simpa [kb_L] using z
    refine sd_aload_n dGS_keepBodies_36 rfl rfl ?_
    refine fx_getr 3 0 (1) dGS_keepBodies_37 fGS_24 rfl rfl ?_
    refine fx_cV 8 sR_TS [] [] dGS_keepBodies_40 kGS_224 rfl rfl mTS_keep_v (c_TS_keepBig (n := T.length) (L := []) hT.1 (ts_T_f (Or.inl (by omega)) f4 hT).2.1 (tw_big w4 (by omega))) (by decide) (Nat.le_refl _) (Nat.le_refl _) (Nat.le_of_ble_eq_true rfl) rfl ?_
    exact sd_iret dGS_keepBodies_43 rfl (Nat.le_refl _) (Nat.le_refl _) ⟨rfl, rfl, _, rfl, ts_T_f (Or.inl (by omega)) f4 hT, ts_f.row (by omega) (by omega) f4⟩
