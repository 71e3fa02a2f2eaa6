/-! ===== the law: its calls ===== -/
def mLA : sd_M := (⟨"SequentDeskLaw", "law", "([I)Z"⟩, code, 4, some .boolean)
theorem la_sw {A : Nat → ClassId} {o : Nat} {D Dm : fx_D} {h : sd_H} : fx_h A dk_S o D (fx_h A mo_S (o + 532) Dm h) = fx_h A mo_S (o + 532) Dm (fx_h A dk_S o D h) := fx_swap (fun _ hx => dk_out hx)
section LAW
variable {G : sd_G} {d mc ms : Nat} {Q : sd_Q} {pc : Nat} {al : List (Nat × Value)} {st : List Value} {h : sd_H} {nx k n : Nat}
theorem la_arg {i : Nat} (j : Nat) (hd0 : decode code pc = .ok (.aload_n 0, 1)) (hd1 : decode code (pc + 1) = .ok (.iload_n 3, 1)) (hd2 : decode code (pc + 1 + 1) = .ok (.iconst (j : Int), 1)) (hd3 : decode code (pc + 1 + 1 + 1) = .ok (.iadd, 1)) (hd4 : decode code (pc + 1 + 1 + 1 + 1) = .ok (.iaload, 1)) (h0 : sd_get al 0 = some (.ref G.2.2.2.1)) (h3 : sd_get al 3 = some (.int (nI i))) (hi : i + j < G.2.2.2.2.1) (hL : G.2.2.2.2.1 ≤ 2560) (kk : sd_W G mLA d mc ms Q (pc + 1 + 1 + 1 + 1 + 1) al (.int (G.2.2.2.2.2 (i + j)) :: st) h nx k n) : sd_W G mLA d mc ms Q pc al st h nx k n := by
  refine sd_aload_n (M := mLA) hd0 rfl h0 ?_
  refine sd_iload_n (M := mLA) hd1 rfl h3 ?_
  refine sd_iconst (M := mLA) (v := nI j) hd2 rfl ?_
  refine nn_iadd (M := mLA) hd3 ?_
  refine sd_sld (M := mLA) hd4 (vp_in_nI hi (by omega)) ?_
  rw [nI_clamp (by omega)]
  exact kk
theorem la_cV {M' : sd_M} {index d' x o : Nat} {t : List fx_E} {S : fx_S} {D : fx_D} {h0 : sd_H} {Q' : sd_Q} (ci : Nat) (r0 : vw_C) (av rest : List Value) (hd : decode code pc = .ok (.invokevirtual index, 3)) (hw : sd_ml "SequentDeskLaw" index M' av.length) (hr : sd_cl[ci]? = some r0) (hs : S x = some (.inl (ci, t))) (hst : Cond.instanceMethod M'.1 ∈ sd_tbl ∧ Cond.selects r0.1 M'.1 M'.1 ∈ sd_tbl) (hct : sd_Ct G M' d' 0 0 (.ref (o + x) :: av) (fx_h G.1.2 S o D h0) nx Q') (hd' : d' + 1 ≤ d) (hk : k ≤ mc) (hn : n ≤ ms) (hrest : (rest.map fun v => v.category).sum ≤ 8) (hst2 : st = av.reverse ++ .ref (o + x) :: rest)
    (kk : ∀ r h' nx', Q' r h' nx' → sd_W G mLA d mc ms Q (pc + 3) al (r.toList ++ rest) h' nx' k n) : sd_W G mLA d mc ms Q pc al st (fx_h G.1.2 S o D h0) nx k n :=
  sd_callV (M := mLA) ci r0 av rest hd hw hr (fx_at hs) hst hct hd' hk hn hrest hst2 kk
end LAW
def la_K (G : sd_G) (o nx k n i : Nat) (Q : sd_Q) : Prop := ∀ (S : st_S) (D Dm : fx_D), dk_R S D → mo_R S Dm → st_inv S → sd_W G mLA 40 600000 7302250 Q 587 [(3, .int (nI i)), (2, .ref (o + 532 + 0)), (1, .ref (o + 0)), (0, .ref G.2.2.2.1)] [] (fx_h G.1.2 dk_S o D (fx_h G.1.2 mo_S (o + 532) Dm (fun _ => none))) nx k n
theorem la_function {G : sd_G} {o nx k n i : Nat} {Q : sd_Q} {S : st_S} {D Dm : fx_D} (hB : G.2.1 ≤ o) (hL : G.2.2.2.2.1 ≤ 2560) (hi : i + 5 ≤ G.2.2.2.2.1) (hk : k ≤ 600000) (hn : n ≤ 7302250) (hR : dk_R S D) (hM : mo_R S Dm) (hI : st_inv S) (kk : la_K G o nx k n i Q) : sd_W G mLA 40 600000 7302250 Q 116 [(3, .int (nI i)), (2, .ref (o + 532 + 0)), (1, .ref (o + 0)), (0, .ref G.2.2.2.1)] [] (fx_h G.1.2 dk_S o D (fx_h G.1.2 mo_S (o + 532) Dm (fun _ => none))) nx k n := by
  have hB2 : G.2.1 ≤ o + 532 := by omega
  obtain ⟨a, hs⟩ := sp_function_ex (G.2.2.2.2.2 (i + 1)) (G.2.2.2.2.2 (i + 2))
  refine sd_aload_n (M := mLA) dLA_116 rfl rfl ?_
  refine la_arg 1 dLA_117 dLA_118 dLA_119 dLA_120 dLA_121 rfl rfl (by omega) hL ?_
  refine la_arg 2 dLA_122 dLA_123 dLA_124 dLA_125 dLA_126 rfl rfl (by omega) hL ?_
  refine la_cV 0 sR_DK [.int (G.2.2.2.2.2 (i + 1)), .int (G.2.2.2.2.2 (i + 2))] [] dLA_127 kLA_13 rfl rfl mDK_function_v (c_DK_function hs) (by decide) hk hn (by decide) rfl ?_
  intro r h' nx' hq
  obtain ⟨rfl, rfl, rfl⟩ := hq
  refine sd_eq rfl rfl rfl la_sw rfl rfl rfl ?_
  refine sd_aload_n (M := mLA) dLA_130 rfl rfl ?_
  refine la_arg 1 dLA_131 dLA_132 dLA_133 dLA_134 dLA_135 rfl rfl (by omega) hL ?_
  refine la_arg 2 dLA_136 dLA_137 dLA_138 dLA_139 dLA_140 rfl rfl (by omega) hL ?_
  refine la_cV 10 sR_MO [.int (G.2.2.2.2.2 (i + 1)), .int (G.2.2.2.2.2 (i + 2))] [.int a] dLA_141 kLA_17 rfl rfl mMO_function_v (c_MO_function hs) (by decide) hk hn (Nat.le_of_ble_eq_true rfl) rfl ?_
  intro r h' nx' hq
  obtain ⟨rfl, rfl, rfl⟩ := hq
  refine sd_eq rfl rfl rfl la_sw.symm rfl rfl rfl ?_
  exact sd_icmp_eq (M := mLA) 587 dLA_144 (by decide) (fun _ => kk S D Dm hR hM hI) (fun w => absurd rfl w)
theorem la_declare {G : sd_G} {o nx k n i : Nat} {Q : sd_Q} {S : st_S} {D Dm : fx_D} (hB : G.2.1 ≤ o) (hL : G.2.2.2.2.1 ≤ 2560) (hi : i + 5 ≤ G.2.2.2.2.1) (hk : k ≤ 600000) (hn : n ≤ 7302250) (hR : dk_R S D) (hM : mo_R S Dm) (hI : st_inv S) (kk : la_K G o nx k n i Q) : sd_W G mLA 40 600000 7302250 Q 149 [(3, .int (nI i)), (2, .ref (o + 532 + 0)), (1, .ref (o + 0)), (0, .ref G.2.2.2.1)] [] (fx_h G.1.2 dk_S o D (fx_h G.1.2 mo_S (o + 532) Dm (fun _ => none))) nx k n := by
  have hB2 : G.2.1 ≤ o + 532 := by omega
  obtain ⟨a, S2, hs⟩ := sp_declare_ex S (G.2.2.2.2.2 (i + 1)) (G.2.2.2.2.2 (i + 2))
  refine sd_aload_n (M := mLA) dLA_149 rfl rfl ?_
  refine la_arg 1 dLA_150 dLA_151 dLA_152 dLA_153 dLA_154 rfl rfl (by omega) hL ?_
  refine la_arg 2 dLA_155 dLA_156 dLA_157 dLA_158 dLA_159 rfl rfl (by omega) hL ?_
  refine la_cV 0 sR_DK [.int (G.2.2.2.2.2 (i + 1)), .int (G.2.2.2.2.2 (i + 2))] [] dLA_160 kLA_18 rfl rfl mDK_declare_v (c_DK_declare hB hR hs) (by decide) hk hn (by decide) rfl ?_
  intro r h' nx' hq
  obtain ⟨rfl, rfl, D2, rfl, hR2⟩ := hq
  refine sd_eq rfl rfl rfl la_sw rfl rfl rfl ?_
  refine sd_aload_n (M := mLA) dLA_163 rfl rfl ?_
  refine la_arg 1 dLA_164 dLA_165 dLA_166 dLA_167 dLA_168 rfl rfl (by omega) hL ?_
  refine la_arg 2 dLA_169 dLA_170 dLA_171 dLA_172 dLA_173 rfl rfl (by omega) hL ?_
  refine la_cV 10 sR_MO [.int (G.2.2.2.2.2 (i + 1)), .int (G.2.2.2.2.2 (i + 2))] [.int a] dLA_174 kLA_21 rfl rfl mMO_declare_v (c_MO_declare hB2 hM hs) (by decide) hk hn (Nat.le_of_ble_eq_true rfl) rfl ?_
  intro r h' nx' hq
  obtain ⟨rfl, rfl, D3, rfl, hM2⟩ := hq
  refine sd_eq rfl rfl rfl la_sw.symm rfl rfl rfl ?_
  exact sd_icmp_eq (M := mLA) 587 dLA_177 (by decide) (fun _ => kk S2 D2 D3 hR2 hM2 (inv_declare hI hs)) (fun w => absurd rfl w)
theorem la_token {G : sd_G} {o nx k n i : Nat} {Q : sd_Q} {S : st_S} {D Dm : fx_D} (hB : G.2.1 ≤ o) (hL : G.2.2.2.2.1 ≤ 2560) (hi : i + 5 ≤ G.2.2.2.2.1) (hk : k ≤ 600000) (hn : n ≤ 7302250) (hR : dk_R S D) (hM : mo_R S Dm) (hI : st_inv S) (kk : la_K G o nx k n i Q) : sd_W G mLA 40 600000 7302250 Q 182 [(3, .int (nI i)), (2, .ref (o + 532 + 0)), (1, .ref (o + 0)), (0, .ref G.2.2.2.1)] [] (fx_h G.1.2 dk_S o D (fx_h G.1.2 mo_S (o + 532) Dm (fun _ => none))) nx k n := by
  have hB2 : G.2.1 ≤ o + 532 := by omega
  obtain ⟨a, S2, hs⟩ := sp_token_ex S hM.2.2.2.1.1 (G.2.2.2.2.2 (i + 1))
  refine sd_aload_n (M := mLA) dLA_182 rfl rfl ?_
  refine la_arg 1 dLA_183 dLA_184 dLA_185 dLA_186 dLA_187 rfl rfl (by omega) hL ?_
  refine la_cV 0 sR_DK [.int (G.2.2.2.2.2 (i + 1))] [] dLA_188 kLA_22 rfl rfl mDK_token_v (c_DK_token hB hR hs) (by decide) hk hn (by decide) rfl ?_
  intro r h' nx' hq
  obtain ⟨rfl, rfl, D2, rfl, hR2⟩ := hq
  refine sd_eq rfl rfl rfl la_sw rfl rfl rfl ?_
  refine sd_aload_n (M := mLA) dLA_191 rfl rfl ?_
  refine la_arg 1 dLA_192 dLA_193 dLA_194 dLA_195 dLA_196 rfl rfl (by omega) hL ?_
  refine la_cV 10 sR_MO [.int (G.2.2.2.2.2 (i + 1))] [.int a] dLA_197 kLA_26 rfl rfl mMO_token_v (c_MO_token hB2 hM hs) (by decide) hk hn (Nat.le_of_ble_eq_true rfl) rfl ?_
  intro r h' nx' hq
  obtain ⟨rfl, rfl, D3, rfl, hM2⟩ := hq
  refine sd_eq rfl rfl rfl la_sw.symm rfl rfl rfl ?_
  exact sd_icmp_eq (M := mLA) 587 dLA_200 (by decide) (fun _ => kk S2 D2 D3 hR2 hM2 (inv_token hI hs)) (fun w => absurd rfl w)
theorem la_clear {G : sd_G} {o nx k n i : Nat} {Q : sd_Q} {S : st_S} {D Dm : fx_D} (hB : G.2.1 ≤ o) (hL : G.2.2.2.2.1 ≤ 2560) (hi : i + 5 ≤ G.2.2.2.2.1) (hk : k ≤ 600000) (hn : n ≤ 7302250) (hR : dk_R S D) (hM : mo_R S Dm) (hI : st_inv S) (kk : la_K G o nx k n i Q) : sd_W G mLA 40 600000 7302250 Q 205 [(3, .int (nI i)), (2, .ref (o + 532 + 0)), (1, .ref (o + 0)), (0, .ref G.2.2.2.1)] [] (fx_h G.1.2 dk_S o D (fx_h G.1.2 mo_S (o + 532) Dm (fun _ => none))) nx k n := by
  have hB2 : G.2.1 ≤ o + 532 := by omega
  obtain ⟨a, S2, hs⟩ := (⟨_, _, rfl, rfl⟩ : ∃ a S2, sp_clear S a S2)
  refine sd_aload_n (M := mLA) dLA_205 rfl rfl ?_
  refine la_cV 0 sR_DK [] [] dLA_206 kLA_27 rfl rfl mDK_clear_v (c_DK_clear hB hR hs) (by decide) hk hn (by decide) rfl ?_
  intro r h' nx' hq
  obtain ⟨rfl, rfl, D2, rfl, hR2⟩ := hq
  refine sd_eq rfl rfl rfl la_sw rfl rfl rfl ?_
  refine sd_aload_n (M := mLA) dLA_209 rfl rfl ?_
  refine la_cV 10 sR_MO [] [.int a] dLA_210 kLA_31 rfl rfl mMO_clear_v (c_MO_clear hB2 hM hs) (by decide) hk hn (Nat.le_of_ble_eq_true rfl) rfl ?_
  intro r h' nx' hq
  obtain ⟨rfl, rfl, D3, rfl, hM2⟩ := hq
  refine sd_eq rfl rfl rfl la_sw.symm rfl rfl rfl ?_
  exact sd_icmp_eq (M := mLA) 587 dLA_213 (by decide) (fun _ => kk S2 D2 D3 hR2 hM2 (inv_clear hI hs)) (fun w => absurd rfl w)
theorem la_read {G : sd_G} {o nx k n i : Nat} {Q : sd_Q} {S : st_S} {D Dm : fx_D} (hB : G.2.1 ≤ o) (hL : G.2.2.2.2.1 ≤ 2560) (hi : i + 5 ≤ G.2.2.2.2.1) (hk : k ≤ 600000) (hn : n ≤ 7302250) (hR : dk_R S D) (hM : mo_R S Dm) (hI : st_inv S) (kk : la_K G o nx k n i Q) : sd_W G mLA 40 600000 7302250 Q 218 [(3, .int (nI i)), (2, .ref (o + 532 + 0)), (1, .ref (o + 0)), (0, .ref G.2.2.2.1)] [] (fx_h G.1.2 dk_S o D (fx_h G.1.2 mo_S (o + 532) Dm (fun _ => none))) nx k n := by
  have hB2 : G.2.1 ≤ o + 532 := by omega
  obtain ⟨a, S2, hs⟩ := sp_read_ex (S := S) (fun v hv => (hM.1 v hv).2)
  refine sd_aload_n (M := mLA) dLA_218 rfl rfl ?_
  refine la_cV 0 sR_DK [] [] dLA_219 kLA_32 rfl rfl mDK_read_v (c_DK_read hB hR hs) (by decide) hk hn (by decide) rfl ?_
  intro r h' nx' hq
  obtain ⟨rfl, rfl, D2, rfl, hR2⟩ := hq
  refine sd_eq rfl rfl rfl la_sw rfl rfl rfl ?_
  refine sd_aload_n (M := mLA) dLA_222 rfl rfl ?_
  refine la_cV 10 sR_MO [] [.int a] dLA_223 kLA_35 rfl rfl mMO_read_v (c_MO_read hB2 hM hs) (by decide) hk hn (Nat.le_of_ble_eq_true rfl) rfl ?_
  intro r h' nx' hq
  obtain ⟨rfl, rfl, D3, rfl, hM2⟩ := hq
  refine sd_eq rfl rfl rfl la_sw.symm rfl rfl rfl ?_
  exact sd_icmp_eq (M := mLA) 587 dLA_226 (by decide) (fun _ => kk S2 D2 D3 hR2 hM2 (inv_read hI hM hs)) (fun w => absurd rfl w)
theorem la_term {G : sd_G} {o nx k n i : Nat} {Q : sd_Q} {S : st_S} {D Dm : fx_D} (hB : G.2.1 ≤ o) (hL : G.2.2.2.2.1 ≤ 2560) (hi : i + 5 ≤ G.2.2.2.2.1) (hk : k ≤ 600000) (hn : n ≤ 7302250) (hR : dk_R S D) (hM : mo_R S Dm) (hI : st_inv S) (kk : la_K G o nx k n i Q) : sd_W G mLA 40 600000 7302250 Q 231 [(3, .int (nI i)), (2, .ref (o + 532 + 0)), (1, .ref (o + 0)), (0, .ref G.2.2.2.1)] [] (fx_h G.1.2 dk_S o D (fx_h G.1.2 mo_S (o + 532) Dm (fun _ => none))) nx k n := by
  have hB2 : G.2.1 ≤ o + 532 := by omega
  obtain ⟨a, hs⟩ := sp_term_ex S (G.2.2.2.2.2 (i + 1)) (G.2.2.2.2.2 (i + 2))
  refine sd_aload_n (M := mLA) dLA_231 rfl rfl ?_
  refine la_arg 1 dLA_232 dLA_233 dLA_234 dLA_235 dLA_236 rfl rfl (by omega) hL ?_
  refine la_arg 2 dLA_237 dLA_238 dLA_239 dLA_240 dLA_241 rfl rfl (by omega) hL ?_
  refine la_cV 0 sR_DK [.int (G.2.2.2.2.2 (i + 1)), .int (G.2.2.2.2.2 (i + 2))] [] dLA_242 kLA_36 rfl rfl mDK_term_v (c_DK_term hR.2.1.2 hs) (by decide) hk hn (by decide) rfl ?_
  intro r h' nx' hq
  obtain ⟨rfl, rfl, rfl⟩ := hq
  refine sd_eq rfl rfl rfl la_sw rfl rfl rfl ?_
  refine sd_aload_n (M := mLA) dLA_245 rfl rfl ?_
  refine la_arg 1 dLA_246 dLA_247 dLA_248 dLA_249 dLA_250 rfl rfl (by omega) hL ?_
  refine la_arg 2 dLA_251 dLA_252 dLA_253 dLA_254 dLA_255 rfl rfl (by omega) hL ?_
  refine la_cV 10 sR_MO [.int (G.2.2.2.2.2 (i + 1)), .int (G.2.2.2.2.2 (i + 2))] [.int a] dLA_256 kLA_39 rfl rfl mMO_term_v (c_MO_term hM hs) (by decide) hk hn (Nat.le_of_ble_eq_true rfl) rfl ?_
  intro r h' nx' hq
  obtain ⟨rfl, rfl, rfl⟩ := hq
  refine sd_eq rfl rfl rfl la_sw.symm rfl rfl rfl ?_
  exact sd_icmp_eq (M := mLA) 587 dLA_259 (by decide) (fun _ => kk S D Dm hR hM hI) (fun w => absurd rfl w)
theorem la_symbol {G : sd_G} {o nx k n i : Nat} {Q : sd_Q} {S : st_S} {D Dm : fx_D} (hB : G.2.1 ≤ o) (hL : G.2.2.2.2.1 ≤ 2560) (hi : i + 5 ≤ G.2.2.2.2.1) (hk : k ≤ 600000) (hn : n ≤ 7302250) (hR : dk_R S D) (hM : mo_R S Dm) (hI : st_inv S) (kk : la_K G o nx k n i Q) : sd_W G mLA 40 600000 7302250 Q 264 [(3, .int (nI i)), (2, .ref (o + 532 + 0)), (1, .ref (o + 0)), (0, .ref G.2.2.2.1)] [] (fx_h G.1.2 dk_S o D (fx_h G.1.2 mo_S (o + 532) Dm (fun _ => none))) nx k n := by
  have hB2 : G.2.1 ≤ o + 532 := by omega
  obtain ⟨a, hs⟩ := sp_symbol_ex S (G.2.2.2.2.2 (i + 1)) (G.2.2.2.2.2 (i + 2)) (G.2.2.2.2.2 (i + 3))
  refine sd_aload_n (M := mLA) dLA_264 rfl rfl ?_
  refine la_arg 1 dLA_265 dLA_266 dLA_267 dLA_268 dLA_269 rfl rfl (by omega) hL ?_
  refine la_arg 2 dLA_270 dLA_271 dLA_272 dLA_273 dLA_274 rfl rfl (by omega) hL ?_
  refine la_arg 3 dLA_275 dLA_276 dLA_277 dLA_278 dLA_279 rfl rfl (by omega) hL ?_
  refine la_cV 0 sR_DK [.int (G.2.2.2.2.2 (i + 1)), .int (G.2.2.2.2.2 (i + 2)), .int (G.2.2.2.2.2 (i + 3))] [] dLA_280 kLA_40 rfl rfl mDK_symbol_v (c_DK_symbol hR.2.1.2 hs) (by decide) hk hn (by decide) rfl ?_
  intro r h' nx' hq
  obtain ⟨rfl, rfl, rfl⟩ := hq
  refine sd_eq rfl rfl rfl la_sw rfl rfl rfl ?_
  refine sd_aload_n (M := mLA) dLA_283 rfl rfl ?_
  refine la_arg 1 dLA_284 dLA_285 dLA_286 dLA_287 dLA_288 rfl rfl (by omega) hL ?_
  refine la_arg 2 dLA_289 dLA_290 dLA_291 dLA_292 dLA_293 rfl rfl (by omega) hL ?_
  refine la_arg 3 dLA_294 dLA_295 dLA_296 dLA_297 dLA_298 rfl rfl (by omega) hL ?_
  refine la_cV 10 sR_MO [.int (G.2.2.2.2.2 (i + 1)), .int (G.2.2.2.2.2 (i + 2)), .int (G.2.2.2.2.2 (i + 3))] [.int a] dLA_299 kLA_44 rfl rfl mMO_symbol_v (c_MO_symbol hM hs) (by decide) hk hn (Nat.le_of_ble_eq_true rfl) rfl ?_
  intro r h' nx' hq
  obtain ⟨rfl, rfl, rfl⟩ := hq
  refine sd_eq rfl rfl rfl la_sw.symm rfl rfl rfl ?_
  exact sd_icmp_eq (M := mLA) 587 dLA_302 (by decide) (fun _ => kk S D Dm hR hM hI) (fun w => absurd rfl w)
theorem la_rule {G : sd_G} {o nx k n i : Nat} {Q : sd_Q} {S : st_S} {D Dm : fx_D} (hB : G.2.1 ≤ o) (hL : G.2.2.2.2.1 ≤ 2560) (hi : i + 5 ≤ G.2.2.2.2.1) (hk : k ≤ 600000) (hn : n ≤ 7302250) (hR : dk_R S D) (hM : mo_R S Dm) (hI : st_inv S) (kk : la_K G o nx k n i Q) : sd_W G mLA 40 600000 7302250 Q 307 [(3, .int (nI i)), (2, .ref (o + 532 + 0)), (1, .ref (o + 0)), (0, .ref G.2.2.2.1)] [] (fx_h G.1.2 dk_S o D (fx_h G.1.2 mo_S (o + 532) Dm (fun _ => none))) nx k n := by
  have hB2 : G.2.1 ≤ o + 532 := by omega
  obtain ⟨a, S2, hs⟩ := sp_rule_ex S (G.2.2.2.2.2 (i + 1)) (G.2.2.2.2.2 (i + 2)) (G.2.2.2.2.2 (i + 3)) (G.2.2.2.2.2 (i + 4))
  refine sd_aload_n (M := mLA) dLA_307 rfl rfl ?_
  refine la_arg 1 dLA_308 dLA_309 dLA_310 dLA_311 dLA_312 rfl rfl (by omega) hL ?_
  refine la_arg 2 dLA_313 dLA_314 dLA_315 dLA_316 dLA_317 rfl rfl (by omega) hL ?_
  refine la_arg 3 dLA_318 dLA_319 dLA_320 dLA_321 dLA_322 rfl rfl (by omega) hL ?_
  refine la_arg 4 dLA_323 dLA_324 dLA_325 dLA_326 dLA_327 rfl rfl (by omega) hL ?_
  refine la_cV 0 sR_DK [.int (G.2.2.2.2.2 (i + 1)), .int (G.2.2.2.2.2 (i + 2)), .int (G.2.2.2.2.2 (i + 3)), .int (G.2.2.2.2.2 (i + 4))] [] dLA_328 kLA_45 rfl rfl mDK_rule_v (c_DK_rule hB hR hM hI.1.T hI.2.2.1 hI.2.2.2.2.1 hI.2.2.2.2.2.1 hs) (by decide) hk hn (by decide) rfl ?_
  intro r h' nx' hq
  obtain ⟨rfl, rfl, D2, rfl, hR2⟩ := hq
  refine sd_eq rfl rfl rfl la_sw rfl rfl rfl ?_
  refine sd_aload_n (M := mLA) dLA_331 rfl rfl ?_
  refine la_arg 1 dLA_332 dLA_333 dLA_334 dLA_335 dLA_336 rfl rfl (by omega) hL ?_
  refine la_arg 2 dLA_337 dLA_338 dLA_339 dLA_340 dLA_341 rfl rfl (by omega) hL ?_
  refine la_arg 3 dLA_342 dLA_343 dLA_344 dLA_345 dLA_346 rfl rfl (by omega) hL ?_
  refine la_arg 4 dLA_347 dLA_348 dLA_349 dLA_350 dLA_351 rfl rfl (by omega) hL ?_
  refine la_cV 10 sR_MO [.int (G.2.2.2.2.2 (i + 1)), .int (G.2.2.2.2.2 (i + 2)), .int (G.2.2.2.2.2 (i + 3)), .int (G.2.2.2.2.2 (i + 4))] [.int a] dLA_352 kLA_49 rfl rfl mMO_rule_v (c_MO_rule hB2 hM hI.1.T hI.2.2.1 hs) (by decide) hk hn (Nat.le_of_ble_eq_true rfl) rfl ?_
  intro r h' nx' hq
  obtain ⟨rfl, rfl, D3, rfl, hM2⟩ := hq
  refine sd_eq rfl rfl rfl la_sw.symm rfl rfl rfl ?_
  exact sd_icmp_eq (M := mLA) 587 dLA_355 (by decide) (fun _ => kk S2 D2 D3 hR2 hM2 (inv_rule hI hM hs)) (fun w => absurd rfl w)
theorem la_theorem {G : sd_G} {o nx k n i : Nat} {Q : sd_Q} {S : st_S} {D Dm : fx_D} (hB : G.2.1 ≤ o) (hL : G.2.2.2.2.1 ≤ 2560) (hi : i + 5 ≤ G.2.2.2.2.1) (hk : k ≤ 600000) (hn : n ≤ 7302250) (hR : dk_R S D) (hM : mo_R S Dm) (hI : st_inv S) (kk : la_K G o nx k n i Q) : sd_W G mLA 40 600000 7302250 Q 360 [(3, .int (nI i)), (2, .ref (o + 532 + 0)), (1, .ref (o + 0)), (0, .ref G.2.2.2.1)] [] (fx_h G.1.2 dk_S o D (fx_h G.1.2 mo_S (o + 532) Dm (fun _ => none))) nx k n := by
  have hB2 : G.2.1 ≤ o + 532 := by omega
  obtain ⟨a, hs⟩ := sp_theorem_ex S (G.2.2.2.2.2 (i + 1)) (G.2.2.2.2.2 (i + 2))
  refine sd_aload_n (M := mLA) dLA_360 rfl rfl ?_
  refine la_arg 1 dLA_361 dLA_362 dLA_363 dLA_364 dLA_365 rfl rfl (by omega) hL ?_
  refine la_arg 2 dLA_366 dLA_367 dLA_368 dLA_369 dLA_370 rfl rfl (by omega) hL ?_
  refine la_cV 0 sR_DK [.int (G.2.2.2.2.2 (i + 1)), .int (G.2.2.2.2.2 (i + 2))] [] dLA_371 kLA_50 rfl rfl mDK_theorem_v (c_DK_theorem hR hI.2.2.2.2.1 hs) (by decide) hk hn (by decide) rfl ?_
  intro r h' nx' hq
  obtain ⟨rfl, rfl, rfl⟩ := hq
  refine sd_eq rfl rfl rfl la_sw rfl rfl rfl ?_
  refine sd_aload_n (M := mLA) dLA_374 rfl rfl ?_
  refine la_arg 1 dLA_375 dLA_376 dLA_377 dLA_378 dLA_379 rfl rfl (by omega) hL ?_
  refine la_arg 2 dLA_380 dLA_381 dLA_382 dLA_383 dLA_384 rfl rfl (by omega) hL ?_
  refine la_cV 10 sR_MO [.int (G.2.2.2.2.2 (i + 1)), .int (G.2.2.2.2.2 (i + 2))] [.int a] dLA_385 kLA_53 rfl rfl mMO_theorem_v (c_MO_theorem hM hI.2.2.2.2.1 hs) (by decide) hk hn (Nat.le_of_ble_eq_true rfl) rfl ?_
  intro r h' nx' hq
  obtain ⟨rfl, rfl, rfl⟩ := hq
  refine sd_eq rfl rfl rfl la_sw.symm rfl rfl rfl ?_
  exact sd_icmp_eq (M := mLA) 587 dLA_388 (by decide) (fun _ => kk S D Dm hR hM hI) (fun w => absurd rfl w)
theorem la_hypothesis {G : sd_G} {o nx k n i : Nat} {Q : sd_Q} {S : st_S} {D Dm : fx_D} (hB : G.2.1 ≤ o) (hL : G.2.2.2.2.1 ≤ 2560) (hi : i + 5 ≤ G.2.2.2.2.1) (hk : k ≤ 600000) (hn : n ≤ 7302250) (hR : dk_R S D) (hM : mo_R S Dm) (hI : st_inv S) (kk : la_K G o nx k n i Q) : sd_W G mLA 40 600000 7302250 Q 393 [(3, .int (nI i)), (2, .ref (o + 532 + 0)), (1, .ref (o + 0)), (0, .ref G.2.2.2.1)] [] (fx_h G.1.2 dk_S o D (fx_h G.1.2 mo_S (o + 532) Dm (fun _ => none))) nx k n := by
  have hB2 : G.2.1 ≤ o + 532 := by omega
  obtain ⟨a, hs⟩ := sp_hypothesis_ex S (G.2.2.2.2.2 (i + 1)) (G.2.2.2.2.2 (i + 2))
  refine sd_aload_n (M := mLA) dLA_393 rfl rfl ?_
  refine la_arg 1 dLA_394 dLA_395 dLA_396 dLA_397 dLA_398 rfl rfl (by omega) hL ?_
  refine la_arg 2 dLA_399 dLA_400 dLA_401 dLA_402 dLA_403 rfl rfl (by omega) hL ?_
  refine la_cV 0 sR_DK [.int (G.2.2.2.2.2 (i + 1)), .int (G.2.2.2.2.2 (i + 2))] [] dLA_404 kLA_54 rfl rfl mDK_hypothesis_v (c_DK_hypothesis hR hs) (by decide) hk hn (by decide) rfl ?_
  intro r h' nx' hq
  obtain ⟨rfl, rfl, rfl⟩ := hq
  refine sd_eq rfl rfl rfl la_sw rfl rfl rfl ?_
  refine sd_aload_n (M := mLA) dLA_407 rfl rfl ?_
  refine la_arg 1 dLA_408 dLA_409 dLA_410 dLA_411 dLA_412 rfl rfl (by omega) hL ?_
  refine la_arg 2 dLA_413 dLA_414 dLA_415 dLA_416 dLA_417 rfl rfl (by omega) hL ?_
  refine la_cV 10 sR_MO [.int (G.2.2.2.2.2 (i + 1)), .int (G.2.2.2.2.2 (i + 2))] [.int a] dLA_418 kLA_57 rfl rfl mMO_hypothesis_v (c_MO_hypothesis hM hI.2.2.1 hs) (by decide) hk hn (Nat.le_of_ble_eq_true rfl) rfl ?_
  intro r h' nx' hq
  obtain ⟨rfl, rfl, rfl⟩ := hq
  refine sd_eq rfl rfl rfl la_sw.symm rfl rfl rfl ?_
  exact sd_icmp_eq (M := mLA) 587 dLA_421 (by decide) (fun _ => kk S D Dm hR hM hI) (fun w => absurd rfl w)
theorem la_goal {G : sd_G} {o nx k n i : Nat} {Q : sd_Q} {S : st_S} {D Dm : fx_D} (hB : G.2.1 ≤ o) (hL : G.2.2.2.2.1 ≤ 2560) (hi : i + 5 ≤ G.2.2.2.2.1) (hk : k ≤ 600000) (hn : n ≤ 7302250) (hR : dk_R S D) (hM : mo_R S Dm) (hI : st_inv S) (kk : la_K G o nx k n i Q) : sd_W G mLA 40 600000 7302250 Q 426 [(3, .int (nI i)), (2, .ref (o + 532 + 0)), (1, .ref (o + 0)), (0, .ref G.2.2.2.1)] [] (fx_h G.1.2 dk_S o D (fx_h G.1.2 mo_S (o + 532) Dm (fun _ => none))) nx k n := by
  have hB2 : G.2.1 ≤ o + 532 := by omega
  obtain ⟨a, S2, hs⟩ := sp_goal_ex S (G.2.2.2.2.2 (i + 1))
  refine sd_aload_n (M := mLA) dLA_426 rfl rfl ?_
  refine la_arg 1 dLA_427 dLA_428 dLA_429 dLA_430 dLA_431 rfl rfl (by omega) hL ?_
  refine la_cV 0 sR_DK [.int (G.2.2.2.2.2 (i + 1))] [] dLA_432 kLA_58 rfl rfl mDK_goal_v (c_DK_goal hB hR hs) (by decide) hk hn (by decide) rfl ?_
  intro r h' nx' hq
  obtain ⟨rfl, rfl, D2, rfl, hR2⟩ := hq
  refine sd_eq rfl rfl rfl la_sw rfl rfl rfl ?_
  refine sd_aload_n (M := mLA) dLA_435 rfl rfl ?_
  refine la_arg 1 dLA_436 dLA_437 dLA_438 dLA_439 dLA_440 rfl rfl (by omega) hL ?_
  refine la_cV 10 sR_MO [.int (G.2.2.2.2.2 (i + 1))] [.int a] dLA_441 kLA_61 rfl rfl mMO_goal_v (c_MO_goal hB2 hM hs) (by decide) hk hn (Nat.le_of_ble_eq_true rfl) rfl ?_
  intro r h' nx' hq
  obtain ⟨rfl, rfl, D3, rfl, hM2⟩ := hq
  refine sd_eq rfl rfl rfl la_sw.symm rfl rfl rfl ?_
  exact sd_icmp_eq (M := mLA) 587 dLA_444 (by decide) (fun _ => kk S2 D2 D3 hR2 hM2 (inv_goal hI hs)) (fun w => absurd rfl w)
theorem la_tactic {G : sd_G} {o nx k n i : Nat} {Q : sd_Q} {S : st_S} {D Dm : fx_D} (hB : G.2.1 ≤ o) (hL : G.2.2.2.2.1 ≤ 2560) (hi : i + 5 ≤ G.2.2.2.2.1) (hk : k ≤ 600000) (hn : n ≤ 7302250) (hR : dk_R S D) (hM : mo_R S Dm) (hI : st_inv S) (kk : la_K G o nx k n i Q) : sd_W G mLA 40 600000 7302250 Q 449 [(3, .int (nI i)), (2, .ref (o + 532 + 0)), (1, .ref (o + 0)), (0, .ref G.2.2.2.1)] [] (fx_h G.1.2 dk_S o D (fx_h G.1.2 mo_S (o + 532) Dm (fun _ => none))) nx k n := by
  have hB2 : G.2.1 ≤ o + 532 := by omega
  obtain ⟨a, S2, hs⟩ := sp_tactic_ex S (G.2.2.2.2.2 (i + 1)) (G.2.2.2.2.2 (i + 2))
  refine sd_aload_n (M := mLA) dLA_449 rfl rfl ?_
  refine la_arg 1 dLA_450 dLA_451 dLA_452 dLA_453 dLA_454 rfl rfl (by omega) hL ?_
  refine la_arg 2 dLA_455 dLA_456 dLA_457 dLA_458 dLA_459 rfl rfl (by omega) hL ?_
  refine la_cV 0 sR_DK [.int (G.2.2.2.2.2 (i + 1)), .int (G.2.2.2.2.2 (i + 2))] [] dLA_460 kLA_62 rfl rfl mDK_tactic_v (c_DK_tactic hB hR hM hI.1.T hI.2.2.1 hI.2.2.2.1.G hI.2.2.2.1.O hI.2.2.2.1.N hI.2.2.2.2.2.1 hI.2.2.2.2.2.2 hI.1.V hs) (by decide) hk hn (by decide) rfl ?_
  intro r h' nx' hq
  obtain ⟨rfl, rfl, D2, rfl, hR2⟩ := hq
  refine sd_eq rfl rfl rfl la_sw rfl rfl rfl ?_
  refine sd_aload_n (M := mLA) dLA_463 rfl rfl ?_
  refine la_arg 1 dLA_464 dLA_465 dLA_466 dLA_467 dLA_468 rfl rfl (by omega) hL ?_
  refine la_arg 2 dLA_469 dLA_470 dLA_471 dLA_472 dLA_473 rfl rfl (by omega) hL ?_
  refine la_cV 10 sR_MO [.int (G.2.2.2.2.2 (i + 1)), .int (G.2.2.2.2.2 (i + 2))] [.int a] dLA_474 kLA_65 rfl rfl mMO_tactic_v (c_MO_tactic hB2 hM hI.1.T hI.2.2.1 hI.2.2.2.1.G hI.2.2.2.1.O hI.2.2.2.1.N hs) (by decide) hk hn (Nat.le_of_ble_eq_true rfl) rfl ?_
  intro r h' nx' hq
  obtain ⟨rfl, rfl, D3, rfl, hM2⟩ := hq
  refine sd_eq rfl rfl rfl la_sw.symm rfl rfl rfl ?_
  exact sd_icmp_eq (M := mLA) 587 dLA_477 (by decide) (fun _ => kk S2 D2 D3 hR2 hM2 (inv_tactic hI hM hs)) (fun w => absurd rfl w)
theorem la_undo {G : sd_G} {o nx k n i : Nat} {Q : sd_Q} {S : st_S} {D Dm : fx_D} (hB : G.2.1 ≤ o) (hL : G.2.2.2.2.1 ≤ 2560) (hi : i + 5 ≤ G.2.2.2.2.1) (hk : k ≤ 600000) (hn : n ≤ 7302250) (hR : dk_R S D) (hM : mo_R S Dm) (hI : st_inv S) (kk : la_K G o nx k n i Q) : sd_W G mLA 40 600000 7302250 Q 482 [(3, .int (nI i)), (2, .ref (o + 532 + 0)), (1, .ref (o + 0)), (0, .ref G.2.2.2.1)] [] (fx_h G.1.2 dk_S o D (fx_h G.1.2 mo_S (o + 532) Dm (fun _ => none))) nx k n := by
  have hB2 : G.2.1 ≤ o + 532 := by omega
  obtain ⟨a, S2, hs⟩ := sp_undo_ex hI.2.2.2.1.U
  refine sd_aload_n (M := mLA) dLA_482 rfl rfl ?_
  refine la_cV 0 sR_DK [] [] dLA_483 kLA_66 rfl rfl mDK_undo_v (c_DK_undo hB hR hI.2.2.2.1 hs) (by decide) hk hn (by decide) rfl ?_
  intro r h' nx' hq
  obtain ⟨rfl, rfl, D2, rfl, hR2⟩ := hq
  refine sd_eq rfl rfl rfl la_sw rfl rfl rfl ?_
  refine sd_aload_n (M := mLA) dLA_486 rfl rfl ?_
  refine la_cV 10 sR_MO [] [.int a] dLA_487 kLA_69 rfl rfl mMO_undo_v (c_MO_undo hB2 hM hI.2.2.2.1.N hI.2.2.2.1.U hs) (by decide) hk hn (Nat.le_of_ble_eq_true rfl) rfl ?_
  intro r h' nx' hq
  obtain ⟨rfl, rfl, D3, rfl, hM2⟩ := hq
  refine sd_eq rfl rfl rfl la_sw.symm rfl rfl rfl ?_
  exact sd_icmp_eq (M := mLA) 587 dLA_490 (by decide) (fun _ => kk S2 D2 D3 hR2 hM2 (inv_undo hI hs)) (fun w => absurd rfl w)
theorem la_repeat {G : sd_G} {o nx k n i : Nat} {Q : sd_Q} {S : st_S} {D Dm : fx_D} (hB : G.2.1 ≤ o) (hL : G.2.2.2.2.1 ≤ 2560) (hi : i + 5 ≤ G.2.2.2.2.1) (hk : k ≤ 600000) (hn : n ≤ 7302250) (hR : dk_R S D) (hM : mo_R S Dm) (hI : st_inv S) (kk : la_K G o nx k n i Q) : sd_W G mLA 40 600000 7302250 Q 495 [(3, .int (nI i)), (2, .ref (o + 532 + 0)), (1, .ref (o + 0)), (0, .ref G.2.2.2.1)] [] (fx_h G.1.2 dk_S o D (fx_h G.1.2 mo_S (o + 532) Dm (fun _ => none))) nx k n := by
  have hB2 : G.2.1 ≤ o + 532 := by omega
  obtain ⟨a, S2, hs⟩ := sp_repeat_ex S (G.2.2.2.2.2 (i + 1))
  refine sd_aload_n (M := mLA) dLA_495 rfl rfl ?_
  refine la_arg 1 dLA_496 dLA_497 dLA_498 dLA_499 dLA_500 rfl rfl (by omega) hL ?_
  refine la_cV 0 sR_DK [.int (G.2.2.2.2.2 (i + 1))] [] dLA_501 kLA_70 rfl rfl mDK_repeat_v (c_DK_repeat (Inv := st_inv) hB hR hI (fun _ w => w.C) (fun _ _ _ w r e => (mo_ex r).elim (fun _ q => inv_first w q 12 0 _ (by omega) e)) hs) (by decide) hk hn (by decide) rfl ?_
  intro r h' nx' hq
  obtain ⟨rfl, rfl, D2, rfl, hR2, hI2⟩ := hq
  refine sd_eq rfl rfl rfl la_sw rfl rfl rfl ?_
  refine sd_aload_n (M := mLA) dLA_504 rfl rfl ?_
  refine la_arg 1 dLA_505 dLA_506 dLA_507 dLA_508 dLA_509 rfl rfl (by omega) hL ?_
  refine la_cV 10 sR_MO [.int (G.2.2.2.2.2 (i + 1))] [.int a] dLA_510 kLA_73 rfl rfl mMO_repeat_v (c_MO_repeat hB2 hM hI.k hs) (by decide) hk hn (Nat.le_of_ble_eq_true rfl) rfl ?_
  intro r h' nx' hq
  obtain ⟨rfl, rfl, D3, rfl, hM2⟩ := hq
  refine sd_eq rfl rfl rfl la_sw.symm rfl rfl rfl ?_
  exact sd_icmp_eq (M := mLA) 587 dLA_513 (by decide) (fun _ => kk S2 D2 D3 hR2 hM2 (hI2)) (fun w => absurd rfl w)
theorem la_open {G : sd_G} {o nx k n i : Nat} {Q : sd_Q} {S : st_S} {D Dm : fx_D} (hB : G.2.1 ≤ o) (hL : G.2.2.2.2.1 ≤ 2560) (hi : i + 5 ≤ G.2.2.2.2.1) (hk : k ≤ 600000) (hn : n ≤ 7302250) (hR : dk_R S D) (hM : mo_R S Dm) (hI : st_inv S) (kk : la_K G o nx k n i Q) : sd_W G mLA 40 600000 7302250 Q 518 [(3, .int (nI i)), (2, .ref (o + 532 + 0)), (1, .ref (o + 0)), (0, .ref G.2.2.2.1)] [] (fx_h G.1.2 dk_S o D (fx_h G.1.2 mo_S (o + 532) Dm (fun _ => none))) nx k n := by
  have hB2 : G.2.1 ≤ o + 532 := by omega
  obtain ⟨a, hs⟩ := sp_opn_ex S (G.2.2.2.2.2 (i + 1)) (G.2.2.2.2.2 (i + 2))
  refine sd_aload_n (M := mLA) dLA_518 rfl rfl ?_
  refine la_arg 1 dLA_519 dLA_520 dLA_521 dLA_522 dLA_523 rfl rfl (by omega) hL ?_
  refine la_arg 2 dLA_524 dLA_525 dLA_526 dLA_527 dLA_528 rfl rfl (by omega) hL ?_
  refine la_cV 0 sR_DK [.int (G.2.2.2.2.2 (i + 1)), .int (G.2.2.2.2.2 (i + 2))] [] dLA_529 kLA_74 rfl rfl mDK_open_v (c_DK_open hR (fun _ g e => hI.2.2.2.1.O g (List.mem_of_getElem? e)) hs) (by decide) hk hn (by decide) rfl ?_
  intro r h' nx' hq
  obtain ⟨rfl, rfl, rfl⟩ := hq
  refine sd_eq rfl rfl rfl la_sw rfl rfl rfl ?_
  refine sd_aload_n (M := mLA) dLA_532 rfl rfl ?_
  refine la_arg 1 dLA_533 dLA_534 dLA_535 dLA_536 dLA_537 rfl rfl (by omega) hL ?_
  refine la_arg 2 dLA_538 dLA_539 dLA_540 dLA_541 dLA_542 rfl rfl (by omega) hL ?_
  refine la_cV 10 sR_MO [.int (G.2.2.2.2.2 (i + 1)), .int (G.2.2.2.2.2 (i + 2))] [.int a] dLA_543 kLA_77 rfl rfl mMO_open2_v (c_MO_open2 hM hI.2.2.2.1.G hI.2.2.2.1.O hs) (by decide) hk hn (Nat.le_of_ble_eq_true rfl) rfl ?_
  intro r h' nx' hq
  obtain ⟨rfl, rfl, rfl⟩ := hq
  refine sd_eq rfl rfl rfl la_sw.symm rfl rfl rfl ?_
  exact sd_icmp_eq (M := mLA) 587 dLA_546 (by decide) (fun _ => kk S D Dm hR hM hI) (fun w => absurd rfl w)
theorem la_close {G : sd_G} {o nx k n i : Nat} {Q : sd_Q} {S : st_S} {D Dm : fx_D} (hB : G.2.1 ≤ o) (hL : G.2.2.2.2.1 ≤ 2560) (hi : i + 5 ≤ G.2.2.2.2.1) (hk : k ≤ 600000) (hn : n ≤ 7302250) (hR : dk_R S D) (hM : mo_R S Dm) (hI : st_inv S) (kk : la_K G o nx k n i Q) : sd_W G mLA 40 600000 7302250 Q 551 [(3, .int (nI i)), (2, .ref (o + 532 + 0)), (1, .ref (o + 0)), (0, .ref G.2.2.2.1)] [] (fx_h G.1.2 dk_S o D (fx_h G.1.2 mo_S (o + 532) Dm (fun _ => none))) nx k n := by
  have hB2 : G.2.1 ≤ o + 532 := by omega
  obtain ⟨a, S2, hs⟩ := sp_close_ex S
  refine sd_aload_n (M := mLA) dLA_551 rfl rfl ?_
  refine la_cV 0 sR_DK [] [] dLA_552 kLA_78 rfl rfl mDK_close_v (c_DK_close hB hR hI.2.2.1 hI.2.2.2.2.1 (un_ok.gi hI.2.2.2.1).1 hs) (by decide) hk hn (by decide) rfl ?_
  intro r h' nx' hq
  obtain ⟨rfl, rfl, D2, rfl, hR2⟩ := hq
  refine sd_eq rfl rfl rfl la_sw rfl rfl rfl ?_
  refine sd_aload_n (M := mLA) dLA_555 rfl rfl ?_
  refine la_cV 10 sR_MO [] [.int a] dLA_556 kLA_81 rfl rfl mMO_close_v (c_MO_close hB2 hM hI.2.2.1 (un_ok.gi hI.2.2.2.1).1 hs) (by decide) hk hn (Nat.le_of_ble_eq_true rfl) rfl ?_
  intro r h' nx' hq
  obtain ⟨rfl, rfl, D3, rfl, hM2⟩ := hq
  refine sd_eq rfl rfl rfl la_sw.symm rfl rfl rfl ?_
  exact sd_icmp_eq (M := mLA) 587 dLA_559 (by decide) (fun _ => kk S2 D2 D3 hR2 hM2 (inv_close hI hM hs)) (fun w => absurd rfl w)
theorem la_count {G : sd_G} {o nx k n i : Nat} {Q : sd_Q} {S : st_S} {D Dm : fx_D} (hB : G.2.1 ≤ o) (hL : G.2.2.2.2.1 ≤ 2560) (hi : i + 5 ≤ G.2.2.2.2.1) (hk : k ≤ 600000) (hn : n ≤ 7302250) (hR : dk_R S D) (hM : mo_R S Dm) (hI : st_inv S) (kk : la_K G o nx k n i Q) : sd_W G mLA 40 600000 7302250 Q 564 [(3, .int (nI i)), (2, .ref (o + 532 + 0)), (1, .ref (o + 0)), (0, .ref G.2.2.2.1)] [] (fx_h G.1.2 dk_S o D (fx_h G.1.2 mo_S (o + 532) Dm (fun _ => none))) nx k n := by
  have hB2 : G.2.1 ≤ o + 532 := by omega
  obtain ⟨a, hs⟩ := sp_count_ex S (G.2.2.2.2.2 (i + 1))
  refine sd_aload_n (M := mLA) dLA_564 rfl rfl ?_
  refine la_arg 1 dLA_565 dLA_566 dLA_567 dLA_568 dLA_569 rfl rfl (by omega) hL ?_
  refine la_cV 0 sR_DK [.int (G.2.2.2.2.2 (i + 1))] [] dLA_570 kLA_82 rfl rfl mDK_count_v (c_DK_count hR hs) (by decide) hk hn (by decide) rfl ?_
  intro r h' nx' hq
  obtain ⟨rfl, rfl, rfl⟩ := hq
  refine sd_eq rfl rfl rfl la_sw rfl rfl rfl ?_
  refine sd_aload_n (M := mLA) dLA_573 rfl rfl ?_
  refine la_arg 1 dLA_574 dLA_575 dLA_576 dLA_577 dLA_578 rfl rfl (by omega) hL ?_
  refine la_cV 10 sR_MO [.int (G.2.2.2.2.2 (i + 1))] [.int a] dLA_579 kLA_85 rfl rfl mMO_count_v (c_MO_count hM hs) (by decide) hk hn (Nat.le_of_ble_eq_true rfl) rfl ?_
  intro r h' nx' hq
  obtain ⟨rfl, rfl, rfl⟩ := hq
  refine sd_eq rfl rfl rfl la_sw.symm rfl rfl rfl ?_
  exact sd_icmp_eq (M := mLA) 587 dLA_582 (by decide) (fun _ => kk S D Dm hR hM hI) (fun w => absurd rfl w)
