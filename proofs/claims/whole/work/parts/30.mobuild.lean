/-! ===== the model: build, what it leaves ===== -/
theorem mo_begin_fa {D : fx_D} {r : Nat} : mo_fa D (fx_ua D 3 r (nI 0)) r := ⟨fun x a b c => by simp [fx_ua, c], fun _ _ _ => rfl, rfl, fun q l hq h => mo_begin_other h hq, fun q h => mo_begin_okl h⟩
theorem mo_R_fa {S : st_S} {D D' : fx_D} {r : Nat} (hR : mo_R S D) (hf : mo_fa D D' r) (hr : 64 ≤ r) : mo_R S D' := by
  obtain ⟨f1, f2, f3, f4, f5⟩ := hf
  obtain ⟨r1, r2, r3, r4, r5, r6, r7, r8⟩ := hR
  have fi : ∀ j, j ≠ 7 → D'.2.1 0 j = D.2.1 0 j := fun j hj => f2 0 j (fun z => hj z.2)
  refine ⟨fun v hv => ?_, ⟨r2.1, by rw [fi 5 (by decide)]; exact r2.2.1, fun t l ht => ?_⟩, fun q h1 h2 => f5 q (r3 q h1 h2), ⟨r4.1, by rw [fi 6 (by decide)]; exact r4.2.1, fun k x hx => ?_⟩, ⟨r5.1, by rw [fi 14 (by decide)]; exact r5.2.1, fun p h hp => ?_⟩, ⟨r6.1, by rw [fi 27 (by decide)]; exact r6.2.1, fun g q hg => ?_⟩, ⟨r7.1, by rw [fi 28 (by decide)]; exact r7.2.1, fun k g hg => ?_⟩, ⟨r8.1, by rw [fi 29 (by decide)]; exact r8.2.1, fun k g hg => ?_⟩⟩
  · rw [f1 4 (by decide) (by decide) (by decide)]; exact r1 v hv
  · obtain ⟨h1, h2⟩ := r2.2.2 t l ht
    exact ⟨f4 t l (by have := getE_lt ht; have := r2.1; omega) h1, h2⟩
  · rw [f1 5 (by decide) (by decide) (by decide)]; exact r4.2.2 k x hx
  · rw [f1 6 (by decide) (by decide) (by decide), f1 7 (by decide) (by decide) (by decide), f1 8 (by decide) (by decide) (by decide), f1 9 (by decide) (by decide) (by decide), f1 10 (by decide) (by decide) (by decide), f1 11 (by decide) (by decide) (by decide)]
    exact r5.2.2 p h hp
  · rw [f1 13 (by decide) (by decide) (by decide), f1 14 (by decide) (by decide) (by decide), f1 15 (by decide) (by decide) (by decide), f1 16 (by decide) (by decide) (by decide), f1 17 (by decide) (by decide) (by decide), f1 18 (by decide) (by decide) (by decide), f1 19 (by decide) (by decide) (by decide)]
    exact r6.2.2 g q hg
  · rw [f1 20 (by decide) (by decide) (by decide)]; exact r7.2.2 k g hg
  · rw [f1 21 (by decide) (by decide) (by decide)]; exact r8.2.2 k g hg
theorem mo_row_fw {D D' : fx_D} {q : Nat} {l : tl_T} (hf : mo_fw D D') (h : mo_row D q l) : mo_row D' q l := by
  obtain ⟨f1, f2, f3⟩ := hf
  refine ⟨h.1, by rw [f1 3 (by decide)]; exact h.2.1, fun k x hx => ?_⟩
  rw [f1 1 (by decide), f1 2 (by decide)]
  exact h.2.2 k x hx
theorem mo_R_fw {S : st_S} {D D' : fx_D} (hR : mo_R S D) (hf : mo_fw D D') : mo_R S D' := by
  have hrow := fun q l => mo_row_fw (q := q) (l := l) hf
  obtain ⟨f1, f2, f3⟩ := hf
  obtain ⟨r1, r2, r3, r4, r5, r6, r7, r8⟩ := hR
  have fi : ∀ j, j ≠ 16 → D'.2.1 0 j = D.2.1 0 j := fun j hj => f2 0 j (fun z => hj z.2)
  refine ⟨fun v hv => ?_, ⟨r2.1, by rw [fi 5 (by decide)]; exact r2.2.1, fun t l ht => ⟨hrow t l (r2.2.2 t l ht).1, (r2.2.2 t l ht).2⟩⟩, fun q h1 h2 => ?_, ⟨r4.1, by rw [fi 6 (by decide)]; exact r4.2.1, fun k x hx => ?_⟩, ⟨r5.1, by rw [fi 14 (by decide)]; exact r5.2.1, fun p h hp => ?_⟩, ⟨r6.1, by rw [fi 27 (by decide)]; exact r6.2.1, fun g q hg => ?_⟩, ⟨r7.1, by rw [fi 28 (by decide)]; exact r7.2.1, fun k g hg => ?_⟩, ⟨r8.1, by rw [fi 29 (by decide)]; exact r8.2.1, fun k g hg => ?_⟩⟩
  · rw [f1 4 (by decide)]; exact r1 v hv
  · obtain ⟨k, k1, k2⟩ := r3 q h1 h2
    exact ⟨k, k1, by rw [f1 3 (by decide)]; exact k2⟩
  · rw [f1 5 (by decide)]; exact r4.2.2 k x hx
  · rw [f1 6 (by decide), f1 7 (by decide), f1 8 (by decide), f1 9 (by decide), f1 10 (by decide), f1 11 (by decide)]
    exact r5.2.2 p h hp
  · rw [f1 13 (by decide), f1 14 (by decide), f1 15 (by decide), f1 16 (by decide), f1 17 (by decide), f1 18 (by decide), f1 19 (by decide)]
    exact r6.2.2 g q hg
  · rw [f1 20 (by decide)]; exact r7.2.2 k g hg
  · rw [f1 21 (by decide)]; exact r8.2.2 k g hg
/-- a symbol with a type, as the writer takes them -/
def tl_g1 (x : Nat × Nat) : Prop := x.1 < 100 ∧ x.2 ≠ 0 ∧ x.2 < 2 ^ 25
/-- behind a build: row 71 is L and hs is gathered; or it is too long -/
def bd_Q (S : st_S) (L : tl_T) (hs : List Nat) (D' : fx_D) : Prop := mo_R S D' ∧ mo_rw D' hs ∧ ((L.length ≤ 24 ∧ mo_row D' 71 L ∧ D'.2.1 0 7 = nI 0) ∨ (24 < L.length ∧ D'.2.1 0 7 = nI 1))
theorem bd_w {S : st_S} {D Db : fx_D} {L : tl_T} {hs : List Nat} (hR : mo_R S D) (hrw : mo_rw D hs) (hov : D.2.1 0 7 = nI 0) (hf : mo_fa D Db 71) (hb : mo_row Db 71 []) (hov2 : Db.2.1 0 7 = nI 0) (hg : ∀ x ∈ L, tl_g1 x) : bd_Q S L hs (mo_adds Db 71 L) := by
  have fa := hf.tr (mo_adds_fa L Db hb.okl)
  refine ⟨mo_R_fa hR fa (by omega), ⟨hrw.1, by rw [fa.2.1 0 16 (by simp)]; exact hrw.2.1, fun k t ht => by rw [fa.1 12 (by decide) (by decide) (by decide)]; exact hrw.2.2 k t ht⟩, ?_⟩
  rcases mo_adds_row L [] Db hb hg with ⟨h1, h2, h3⟩ | ⟨h1, h2⟩
  · exact Or.inl ⟨by simpa using h1, by simpa using h2, h3.trans hov2⟩
  · exact Or.inr ⟨by simpa using h1, h2⟩
theorem bd_fw {S : st_S} {D D' : fx_D} {L : tl_T} {hs hs' : List Nat} (h : bd_Q S L hs D) (hr : mo_rw D' hs') (hf : mo_fw D D') : bd_Q S L hs' D' := by
  refine ⟨mo_R_fw h.1 hf, hr, ?_⟩
  have e : D'.2.1 0 7 = D.2.1 0 7 := hf.2.1 0 7 (by simp)
  rcases h.2.2 with ⟨h1, h2, h3⟩ | ⟨h1, h2⟩
  · exact Or.inl ⟨h1, mo_row_fw hf h2, e.trans h3⟩
  · exact Or.inr ⟨h1, e.trans h2⟩
theorem ls_g_len : ∀ (hs rs : List Nat) (but : Int32), (ls_g rs but hs).length ≤ rs.length + hs.length
  | [], rs, but => Nat.le_refl _
  | t :: hs, rs, but => by
    rw [ls_g]
    split
    · have := ls_g_len hs rs but
      simp only [List.length_cons]
      omega
    · have := ls_g_len hs (ls_h rs t) but
      have := ls_h_len rs t
      simp only [List.length_cons]
      omega
theorem dMO_build_0 : decode prog_13_method_52_code 0 = .ok (.bipush (71), 2) := by decide +kernel
theorem dMO_build_2 : decode prog_13_method_52_code 2 = .ok (.istore 5, 2) := by decide +kernel
theorem dMO_build_4 : decode prog_13_method_52_code 4 = .ok (.iload_n 1, 1) := by decide +kernel
theorem dMO_build_5 : decode prog_13_method_52_code 5 = .ok (.ifCond .eq (13), 3) := by decide +kernel
theorem dMO_build_8 : decode prog_13_method_52_code 8 = .ok (.iload_n 1, 1) := by decide +kernel
theorem dMO_build_9 : decode prog_13_method_52_code 9 = .ok (.iconst 1, 1) := by decide +kernel
theorem dMO_build_10 : decode prog_13_method_52_code 10 = .ok (.if_icmp .eq (8), 3) := by decide +kernel
theorem dMO_build_13 : decode prog_13_method_52_code 13 = .ok (.iload_n 1, 1) := by decide +kernel
theorem dMO_build_14 : decode prog_13_method_52_code 14 = .ok (.iconst 5, 1) := by decide +kernel
theorem dMO_build_15 : decode prog_13_method_52_code 15 = .ok (.if_icmp .ne (7), 3) := by decide +kernel
theorem dMO_build_18 : decode prog_13_method_52_code 18 = .ok (.iload_n 2, 1) := by decide +kernel
theorem dMO_build_19 : decode prog_13_method_52_code 19 = .ok (.goto (9), 3) := by decide +kernel
theorem dMO_build_22 : decode prog_13_method_52_code 22 = .ok (.aload_n 0, 1) := by decide +kernel
theorem dMO_build_23 : decode prog_13_method_52_code 23 = .ok (.getfield 25, 3) := by decide +kernel
theorem dMO_build_26 : decode prog_13_method_52_code 26 = .ok (.iload_n 2, 1) := by decide +kernel
theorem dMO_build_27 : decode prog_13_method_52_code 27 = .ok (.iaload, 1) := by decide +kernel
theorem dMO_build_28 : decode prog_13_method_52_code 28 = .ok (.istore 6, 2) := by decide +kernel
theorem dMO_build_30 : decode prog_13_method_52_code 30 = .ok (.iload_n 1, 1) := by decide +kernel
theorem dMO_build_31 : decode prog_13_method_52_code 31 = .ok (.iconst 2, 1) := by decide +kernel
theorem dMO_build_32 : decode prog_13_method_52_code 32 = .ok (.if_icmp .eq (20), 3) := by decide +kernel
theorem dMO_build_35 : decode prog_13_method_52_code 35 = .ok (.iload_n 1, 1) := by decide +kernel
theorem dMO_build_36 : decode prog_13_method_52_code 36 = .ok (.iconst 3, 1) := by decide +kernel
theorem dMO_build_37 : decode prog_13_method_52_code 37 = .ok (.if_icmp .eq (15), 3) := by decide +kernel
theorem dMO_build_40 : decode prog_13_method_52_code 40 = .ok (.iload_n 1, 1) := by decide +kernel
theorem dMO_build_41 : decode prog_13_method_52_code 41 = .ok (.bipush (6), 2) := by decide +kernel
theorem dMO_build_43 : decode prog_13_method_52_code 43 = .ok (.if_icmp .eq (9), 3) := by decide +kernel
theorem dMO_build_46 : decode prog_13_method_52_code 46 = .ok (.iload_n 1, 1) := by decide +kernel
theorem dMO_build_47 : decode prog_13_method_52_code 47 = .ok (.bipush (7), 2) := by decide +kernel
theorem dMO_build_49 : decode prog_13_method_52_code 49 = .ok (.if_icmp .ne (12), 3) := by decide +kernel
theorem dMO_build_52 : decode prog_13_method_52_code 52 = .ok (.aload_n 0, 1) := by decide +kernel
theorem dMO_build_53 : decode prog_13_method_52_code 53 = .ok (.getfield 25, 3) := by decide +kernel
theorem dMO_build_56 : decode prog_13_method_52_code 56 = .ok (.iload_n 3, 1) := by decide +kernel
theorem dMO_build_57 : decode prog_13_method_52_code 57 = .ok (.iaload, 1) := by decide +kernel
theorem dMO_build_58 : decode prog_13_method_52_code 58 = .ok (.goto (4), 3) := by decide +kernel
theorem dMO_build_61 : decode prog_13_method_52_code 61 = .ok (.iconst 0, 1) := by decide +kernel
theorem dMO_build_62 : decode prog_13_method_52_code 62 = .ok (.istore 7, 2) := by decide +kernel
theorem dMO_build_64 : decode prog_13_method_52_code 64 = .ok (.aload_n 0, 1) := by decide +kernel
theorem dMO_build_65 : decode prog_13_method_52_code 65 = .ok (.iload 5, 2) := by decide +kernel
theorem dMO_build_67 : decode prog_13_method_52_code 67 = .ok (.invokevirtual 151, 3) := by decide +kernel
theorem dMO_build_70 : decode prog_13_method_52_code 70 = .ok (.iload_n 1, 1) := by decide +kernel
theorem dMO_build_71 : decode prog_13_method_52_code 71 = .ok (.tableswitch (326) (0) (7) #[45, 58, 74, 95, 187, 265, 293, 311], 45) := by decide +kernel
theorem dMO_build_116 : decode prog_13_method_52_code 116 = .ok (.aload_n 0, 1) := by decide +kernel
theorem dMO_build_117 : decode prog_13_method_52_code 117 = .ok (.iload 5, 2) := by decide +kernel
theorem dMO_build_119 : decode prog_13_method_52_code 119 = .ok (.iload_n 2, 1) := by decide +kernel
theorem dMO_build_120 : decode prog_13_method_52_code 120 = .ok (.iconst 0, 1) := by decide +kernel
theorem dMO_build_121 : decode prog_13_method_52_code 121 = .ok (.iload_n 2, 1) := by decide +kernel
theorem dMO_build_122 : decode prog_13_method_52_code 122 = .ok (.iconst 0, 1) := by decide +kernel
theorem dMO_build_123 : decode prog_13_method_52_code 123 = .ok (.invokevirtual 237, 3) := by decide +kernel
theorem dMO_build_126 : decode prog_13_method_52_code 126 = .ok (.goto (337), 3) := by decide +kernel
theorem dMO_build_129 : decode prog_13_method_52_code 129 = .ok (.aload_n 0, 1) := by decide +kernel
theorem dMO_build_130 : decode prog_13_method_52_code 130 = .ok (.iload_n 2, 1) := by decide +kernel
theorem dMO_build_131 : decode prog_13_method_52_code 131 = .ok (.iconst 0, 1) := by decide +kernel
theorem dMO_build_132 : decode prog_13_method_52_code 132 = .ok (.iload 5, 2) := by decide +kernel
theorem dMO_build_134 : decode prog_13_method_52_code 134 = .ok (.invokevirtual 155, 3) := by decide +kernel
theorem dMO_build_137 : decode prog_13_method_52_code 137 = .ok (.aload_n 0, 1) := by decide +kernel
theorem dMO_build_138 : decode prog_13_method_52_code 138 = .ok (.iload_n 2, 1) := by decide +kernel
theorem dMO_build_139 : decode prog_13_method_52_code 139 = .ok (.invokevirtual 216, 3) := by decide +kernel
theorem dMO_build_142 : decode prog_13_method_52_code 142 = .ok (.goto (321), 3) := by decide +kernel
theorem dMO_build_145 : decode prog_13_method_52_code 145 = .ok (.aload_n 0, 1) := by decide +kernel
theorem dMO_build_146 : decode prog_13_method_52_code 146 = .ok (.iload 5, 2) := by decide +kernel
theorem dMO_build_148 : decode prog_13_method_52_code 148 = .ok (.iload 6, 2) := by decide +kernel
theorem dMO_build_150 : decode prog_13_method_52_code 150 = .ok (.iconst 1, 1) := by decide +kernel
theorem dMO_build_151 : decode prog_13_method_52_code 151 = .ok (.iload 7, 2) := by decide +kernel
theorem dMO_build_153 : decode prog_13_method_52_code 153 = .ok (.aload_n 0, 1) := by decide +kernel
theorem dMO_build_154 : decode prog_13_method_52_code 154 = .ok (.iload 7, 2) := by decide +kernel
theorem dMO_build_156 : decode prog_13_method_52_code 156 = .ok (.iconst 1, 1) := by decide +kernel
theorem dMO_build_157 : decode prog_13_method_52_code 157 = .ok (.invokevirtual 128, 3) := by decide +kernel
theorem dMO_build_160 : decode prog_13_method_52_code 160 = .ok (.invokevirtual 237, 3) := by decide +kernel
theorem dMO_build_163 : decode prog_13_method_52_code 163 = .ok (.goto (300), 3) := by decide +kernel
theorem dMO_build_166 : decode prog_13_method_52_code 166 = .ok (.aload_n 0, 1) := by decide +kernel
theorem dMO_build_167 : decode prog_13_method_52_code 167 = .ok (.iload 6, 2) := by decide +kernel
theorem dMO_build_169 : decode prog_13_method_52_code 169 = .ok (.iconst 1, 1) := by decide +kernel
theorem dMO_build_170 : decode prog_13_method_52_code 170 = .ok (.invokevirtual 134, 3) := by decide +kernel
theorem dMO_build_173 : decode prog_13_method_52_code 173 = .ok (.invokestatic 240, 3) := by decide +kernel
theorem dMO_build_176 : decode prog_13_method_52_code 176 = .ok (.istore 8, 2) := by decide +kernel
theorem dMO_build_178 : decode prog_13_method_52_code 178 = .ok (.aload_n 0, 1) := by decide +kernel
theorem dMO_build_179 : decode prog_13_method_52_code 179 = .ok (.iload 5, 2) := by decide +kernel
theorem dMO_build_181 : decode prog_13_method_52_code 181 = .ok (.bipush (9), 2) := by decide +kernel
theorem dMO_build_183 : decode prog_13_method_52_code 183 = .ok (.iconst 4, 1) := by decide +kernel
theorem dMO_build_184 : decode prog_13_method_52_code 184 = .ok (.invokevirtual 137, 3) := by decide +kernel
theorem dMO_build_187 : decode prog_13_method_52_code 187 = .ok (.aload_n 0, 1) := by decide +kernel
theorem dMO_build_188 : decode prog_13_method_52_code 188 = .ok (.iload 5, 2) := by decide +kernel
theorem dMO_build_190 : decode prog_13_method_52_code 190 = .ok (.bipush (8), 2) := by decide +kernel
theorem dMO_build_192 : decode prog_13_method_52_code 192 = .ok (.iload 8, 2) := by decide +kernel
theorem dMO_build_194 : decode prog_13_method_52_code 194 = .ok (.invokevirtual 137, 3) := by decide +kernel
theorem dMO_build_197 : decode prog_13_method_52_code 197 = .ok (.aload_n 0, 1) := by decide +kernel
theorem dMO_build_198 : decode prog_13_method_52_code 198 = .ok (.iload 6, 2) := by decide +kernel
theorem dMO_build_200 : decode prog_13_method_52_code 200 = .ok (.iconst 1, 1) := by decide +kernel
theorem dMO_build_201 : decode prog_13_method_52_code 201 = .ok (.iload 5, 2) := by decide +kernel
theorem dMO_build_203 : decode prog_13_method_52_code 203 = .ok (.invokevirtual 155, 3) := by decide +kernel
theorem dMO_build_206 : decode prog_13_method_52_code 206 = .ok (.aload_n 0, 1) := by decide +kernel
theorem dMO_build_207 : decode prog_13_method_52_code 207 = .ok (.iload 7, 2) := by decide +kernel
theorem dMO_build_209 : decode prog_13_method_52_code 209 = .ok (.iconst 1, 1) := by decide +kernel
theorem dMO_build_210 : decode prog_13_method_52_code 210 = .ok (.iload 5, 2) := by decide +kernel
theorem dMO_build_212 : decode prog_13_method_52_code 212 = .ok (.invokevirtual 155, 3) := by decide +kernel
theorem dMO_build_215 : decode prog_13_method_52_code 215 = .ok (.aload_n 0, 1) := by decide +kernel
theorem dMO_build_216 : decode prog_13_method_52_code 216 = .ok (.iload 5, 2) := by decide +kernel
theorem dMO_build_218 : decode prog_13_method_52_code 218 = .ok (.bipush (8), 2) := by decide +kernel
theorem dMO_build_220 : decode prog_13_method_52_code 220 = .ok (.iload 8, 2) := by decide +kernel
theorem dMO_build_222 : decode prog_13_method_52_code 222 = .ok (.invokevirtual 137, 3) := by decide +kernel
theorem dMO_build_225 : decode prog_13_method_52_code 225 = .ok (.aload_n 0, 1) := by decide +kernel
theorem dMO_build_226 : decode prog_13_method_52_code 226 = .ok (.iload 6, 2) := by decide +kernel
theorem dMO_build_228 : decode prog_13_method_52_code 228 = .ok (.aload_n 0, 1) := by decide +kernel
theorem dMO_build_229 : decode prog_13_method_52_code 229 = .ok (.iload 6, 2) := by decide +kernel
theorem dMO_build_231 : decode prog_13_method_52_code 231 = .ok (.iconst 1, 1) := by decide +kernel
theorem dMO_build_232 : decode prog_13_method_52_code 232 = .ok (.invokevirtual 128, 3) := by decide +kernel
theorem dMO_build_235 : decode prog_13_method_52_code 235 = .ok (.iload 5, 2) := by decide +kernel
theorem dMO_build_237 : decode prog_13_method_52_code 237 = .ok (.invokevirtual 155, 3) := by decide +kernel
theorem dMO_build_240 : decode prog_13_method_52_code 240 = .ok (.aload_n 0, 1) := by decide +kernel
theorem dMO_build_241 : decode prog_13_method_52_code 241 = .ok (.iload 7, 2) := by decide +kernel
theorem dMO_build_243 : decode prog_13_method_52_code 243 = .ok (.aload_n 0, 1) := by decide +kernel
theorem dMO_build_244 : decode prog_13_method_52_code 244 = .ok (.iload 7, 2) := by decide +kernel
theorem dMO_build_246 : decode prog_13_method_52_code 246 = .ok (.iconst 1, 1) := by decide +kernel
theorem dMO_build_247 : decode prog_13_method_52_code 247 = .ok (.invokevirtual 128, 3) := by decide +kernel
theorem dMO_build_250 : decode prog_13_method_52_code 250 = .ok (.iload 5, 2) := by decide +kernel
theorem dMO_build_252 : decode prog_13_method_52_code 252 = .ok (.invokevirtual 155, 3) := by decide +kernel
theorem dMO_build_255 : decode prog_13_method_52_code 255 = .ok (.goto (208), 3) := by decide +kernel
theorem dMO_build_258 : decode prog_13_method_52_code 258 = .ok (.aload_n 0, 1) := by decide +kernel
theorem dMO_build_259 : decode prog_13_method_52_code 259 = .ok (.getfield 19, 3) := by decide +kernel
theorem dMO_build_262 : decode prog_13_method_52_code 262 = .ok (.iload_n 3, 1) := by decide +kernel
theorem dMO_build_263 : decode prog_13_method_52_code 263 = .ok (.iaload, 1) := by decide +kernel
theorem dMO_build_264 : decode prog_13_method_52_code 264 = .ok (.aload_n 0, 1) := by decide +kernel
theorem dMO_build_265 : decode prog_13_method_52_code 265 = .ok (.iload 6, 2) := by decide +kernel
theorem dMO_build_267 : decode prog_13_method_52_code 267 = .ok (.iconst 1, 1) := by decide +kernel
theorem dMO_build_268 : decode prog_13_method_52_code 268 = .ok (.invokevirtual 134, 3) := by decide +kernel
theorem dMO_build_271 : decode prog_13_method_52_code 271 = .ok (.invokestatic 114, 3) := by decide +kernel
theorem dMO_build_274 : decode prog_13_method_52_code 274 = .ok (.istore 9, 2) := by decide +kernel
theorem dMO_build_276 : decode prog_13_method_52_code 276 = .ok (.aload_n 0, 1) := by decide +kernel
theorem dMO_build_277 : decode prog_13_method_52_code 277 = .ok (.iload 5, 2) := by decide +kernel
theorem dMO_build_279 : decode prog_13_method_52_code 279 = .ok (.bipush (9), 2) := by decide +kernel
theorem dMO_build_281 : decode prog_13_method_52_code 281 = .ok (.iconst 4, 1) := by decide +kernel
theorem dMO_build_282 : decode prog_13_method_52_code 282 = .ok (.invokevirtual 137, 3) := by decide +kernel
theorem dMO_build_285 : decode prog_13_method_52_code 285 = .ok (.aload_n 0, 1) := by decide +kernel
theorem dMO_build_286 : decode prog_13_method_52_code 286 = .ok (.iload 5, 2) := by decide +kernel
theorem dMO_build_288 : decode prog_13_method_52_code 288 = .ok (.bipush (10), 2) := by decide +kernel
theorem dMO_build_290 : decode prog_13_method_52_code 290 = .ok (.iload 9, 2) := by decide +kernel
theorem dMO_build_292 : decode prog_13_method_52_code 292 = .ok (.invokevirtual 137, 3) := by decide +kernel
theorem dMO_build_295 : decode prog_13_method_52_code 295 = .ok (.aload_n 0, 1) := by decide +kernel
theorem dMO_build_296 : decode prog_13_method_52_code 296 = .ok (.iload 6, 2) := by decide +kernel
theorem dMO_build_298 : decode prog_13_method_52_code 298 = .ok (.iconst 1, 1) := by decide +kernel
theorem dMO_build_299 : decode prog_13_method_52_code 299 = .ok (.iload_n 3, 1) := by decide +kernel
theorem dMO_build_300 : decode prog_13_method_52_code 300 = .ok (.iconst (-1), 1) := by decide +kernel
theorem dMO_build_301 : decode prog_13_method_52_code 301 = .ok (.iload 5, 2) := by decide +kernel
theorem dMO_build_303 : decode prog_13_method_52_code 303 = .ok (.invokevirtual 243, 3) := by decide +kernel
theorem dMO_build_306 : decode prog_13_method_52_code 306 = .ok (.aload_n 0, 1) := by decide +kernel
theorem dMO_build_307 : decode prog_13_method_52_code 307 = .ok (.iload 5, 2) := by decide +kernel
theorem dMO_build_309 : decode prog_13_method_52_code 309 = .ok (.bipush (10), 2) := by decide +kernel
theorem dMO_build_311 : decode prog_13_method_52_code 311 = .ok (.iload 9, 2) := by decide +kernel
theorem dMO_build_313 : decode prog_13_method_52_code 313 = .ok (.invokevirtual 137, 3) := by decide +kernel
theorem dMO_build_316 : decode prog_13_method_52_code 316 = .ok (.aload_n 0, 1) := by decide +kernel
theorem dMO_build_317 : decode prog_13_method_52_code 317 = .ok (.iload 6, 2) := by decide +kernel
theorem dMO_build_319 : decode prog_13_method_52_code 319 = .ok (.aload_n 0, 1) := by decide +kernel
theorem dMO_build_320 : decode prog_13_method_52_code 320 = .ok (.iload 6, 2) := by decide +kernel
theorem dMO_build_322 : decode prog_13_method_52_code 322 = .ok (.iconst 1, 1) := by decide +kernel
theorem dMO_build_323 : decode prog_13_method_52_code 323 = .ok (.invokevirtual 128, 3) := by decide +kernel
theorem dMO_build_326 : decode prog_13_method_52_code 326 = .ok (.iload_n 3, 1) := by decide +kernel
theorem dMO_build_327 : decode prog_13_method_52_code 327 = .ok (.iconst (-1), 1) := by decide +kernel
theorem dMO_build_328 : decode prog_13_method_52_code 328 = .ok (.iload 5, 2) := by decide +kernel
theorem dMO_build_330 : decode prog_13_method_52_code 330 = .ok (.invokevirtual 243, 3) := by decide +kernel
theorem dMO_build_333 : decode prog_13_method_52_code 333 = .ok (.goto (130), 3) := by decide +kernel
theorem dMO_build_336 : decode prog_13_method_52_code 336 = .ok (.aload_n 0, 1) := by decide +kernel
theorem dMO_build_337 : decode prog_13_method_52_code 337 = .ok (.iload 5, 2) := by decide +kernel
theorem dMO_build_339 : decode prog_13_method_52_code 339 = .ok (.bipush (9), 2) := by decide +kernel
theorem dMO_build_341 : decode prog_13_method_52_code 341 = .ok (.iconst 4, 1) := by decide +kernel
theorem dMO_build_342 : decode prog_13_method_52_code 342 = .ok (.invokevirtual 137, 3) := by decide +kernel
theorem dMO_build_345 : decode prog_13_method_52_code 345 = .ok (.aload_n 0, 1) := by decide +kernel
theorem dMO_build_346 : decode prog_13_method_52_code 346 = .ok (.iload_n 2, 1) := by decide +kernel
theorem dMO_build_347 : decode prog_13_method_52_code 347 = .ok (.iconst 0, 1) := by decide +kernel
theorem dMO_build_348 : decode prog_13_method_52_code 348 = .ok (.iload 5, 2) := by decide +kernel
theorem dMO_build_350 : decode prog_13_method_52_code 350 = .ok (.invokevirtual 155, 3) := by decide +kernel
theorem dMO_build_353 : decode prog_13_method_52_code 353 = .ok (.aload_n 0, 1) := by decide +kernel
theorem dMO_build_354 : decode prog_13_method_52_code 354 = .ok (.iload_n 2, 1) := by decide +kernel
theorem dMO_build_355 : decode prog_13_method_52_code 355 = .ok (.iconst 0, 1) := by decide +kernel
theorem dMO_build_356 : decode prog_13_method_52_code 356 = .ok (.iload 5, 2) := by decide +kernel
theorem dMO_build_358 : decode prog_13_method_52_code 358 = .ok (.invokevirtual 246, 3) := by decide +kernel
theorem dMO_build_361 : decode prog_13_method_52_code 361 = .ok (.goto (102), 3) := by decide +kernel
theorem dMO_build_364 : decode prog_13_method_52_code 364 = .ok (.aload_n 0, 1) := by decide +kernel
theorem dMO_build_365 : decode prog_13_method_52_code 365 = .ok (.iload 6, 2) := by decide +kernel
theorem dMO_build_367 : decode prog_13_method_52_code 367 = .ok (.aload_n 0, 1) := by decide +kernel
theorem dMO_build_368 : decode prog_13_method_52_code 368 = .ok (.iload 6, 2) := by decide +kernel
theorem dMO_build_370 : decode prog_13_method_52_code 370 = .ok (.iconst 1, 1) := by decide +kernel
theorem dMO_build_371 : decode prog_13_method_52_code 371 = .ok (.invokevirtual 128, 3) := by decide +kernel
theorem dMO_build_374 : decode prog_13_method_52_code 374 = .ok (.iload 5, 2) := by decide +kernel
theorem dMO_build_376 : decode prog_13_method_52_code 376 = .ok (.invokevirtual 155, 3) := by decide +kernel
theorem dMO_build_379 : decode prog_13_method_52_code 379 = .ok (.goto (84), 3) := by decide +kernel
theorem dMO_build_382 : decode prog_13_method_52_code 382 = .ok (.aload_n 0, 1) := by decide +kernel
theorem dMO_build_383 : decode prog_13_method_52_code 383 = .ok (.iload 5, 2) := by decide +kernel
theorem dMO_build_385 : decode prog_13_method_52_code 385 = .ok (.iload 6, 2) := by decide +kernel
theorem dMO_build_387 : decode prog_13_method_52_code 387 = .ok (.iconst 0, 1) := by decide +kernel
theorem dMO_build_388 : decode prog_13_method_52_code 388 = .ok (.iload 7, 2) := by decide +kernel
theorem dMO_build_390 : decode prog_13_method_52_code 390 = .ok (.iconst 0, 1) := by decide +kernel
theorem dMO_build_391 : decode prog_13_method_52_code 391 = .ok (.invokevirtual 237, 3) := by decide +kernel
theorem dMO_build_394 : decode prog_13_method_52_code 394 = .ok (.goto (69), 3) := by decide +kernel
theorem dMO_build_397 : decode prog_13_method_52_code 397 = .ok (.iconst 0, 1) := by decide +kernel
theorem dMO_build_398 : decode prog_13_method_52_code 398 = .ok (.istore 10, 2) := by decide +kernel
theorem dMO_build_400 : decode prog_13_method_52_code 400 = .ok (.iload 10, 2) := by decide +kernel
theorem dMO_build_402 : decode prog_13_method_52_code 402 = .ok (.aload_n 0, 1) := by decide +kernel
theorem dMO_build_403 : decode prog_13_method_52_code 403 = .ok (.getfield 28, 3) := by decide +kernel
theorem dMO_build_406 : decode prog_13_method_52_code 406 = .ok (.iload_n 2, 1) := by decide +kernel
theorem dMO_build_407 : decode prog_13_method_52_code 407 = .ok (.iaload, 1) := by decide +kernel
theorem dMO_build_408 : decode prog_13_method_52_code 408 = .ok (.if_icmp .ge (43), 3) := by decide +kernel
theorem dMO_build_411 : decode prog_13_method_52_code 411 = .ok (.aload_n 0, 1) := by decide +kernel
theorem dMO_build_412 : decode prog_13_method_52_code 412 = .ok (.bipush (64), 2) := by decide +kernel
theorem dMO_build_414 : decode prog_13_method_52_code 414 = .ok (.iload 10, 2) := by decide +kernel
theorem dMO_build_416 : decode prog_13_method_52_code 416 = .ok (.iadd, 1) := by decide +kernel
theorem dMO_build_417 : decode prog_13_method_52_code 417 = .ok (.invokevirtual 151, 3) := by decide +kernel
theorem dMO_build_420 : decode prog_13_method_52_code 420 = .ok (.aload_n 0, 1) := by decide +kernel
theorem dMO_build_421 : decode prog_13_method_52_code 421 = .ok (.aload_n 0, 1) := by decide +kernel
theorem dMO_build_422 : decode prog_13_method_52_code 422 = .ok (.getfield 31, 3) := by decide +kernel
theorem dMO_build_425 : decode prog_13_method_52_code 425 = .ok (.bipush (6), 2) := by decide +kernel
theorem dMO_build_427 : decode prog_13_method_52_code 427 = .ok (.iload_n 2, 1) := by decide +kernel
theorem dMO_build_428 : decode prog_13_method_52_code 428 = .ok (.imul, 1) := by decide +kernel
theorem dMO_build_429 : decode prog_13_method_52_code 429 = .ok (.iload 10, 2) := by decide +kernel
theorem dMO_build_431 : decode prog_13_method_52_code 431 = .ok (.iadd, 1) := by decide +kernel
theorem dMO_build_432 : decode prog_13_method_52_code 432 = .ok (.iaload, 1) := by decide +kernel
theorem dMO_build_433 : decode prog_13_method_52_code 433 = .ok (.iconst 0, 1) := by decide +kernel
theorem dMO_build_434 : decode prog_13_method_52_code 434 = .ok (.iload_n 3, 1) := by decide +kernel
theorem dMO_build_435 : decode prog_13_method_52_code 435 = .ok (.iload 4, 2) := by decide +kernel
theorem dMO_build_437 : decode prog_13_method_52_code 437 = .ok (.bipush (64), 2) := by decide +kernel
theorem dMO_build_439 : decode prog_13_method_52_code 439 = .ok (.iload 10, 2) := by decide +kernel
theorem dMO_build_441 : decode prog_13_method_52_code 441 = .ok (.iadd, 1) := by decide +kernel
theorem dMO_build_442 : decode prog_13_method_52_code 442 = .ok (.invokevirtual 243, 3) := by decide +kernel
theorem dMO_build_445 : decode prog_13_method_52_code 445 = .ok (.iinc 10 (1), 3) := by decide +kernel
theorem dMO_build_448 : decode prog_13_method_52_code 448 = .ok (.goto (-48), 3) := by decide +kernel
theorem dMO_build_451 : decode prog_13_method_52_code 451 = .ok (.aload_n 0, 1) := by decide +kernel
theorem dMO_build_452 : decode prog_13_method_52_code 452 = .ok (.iload 6, 2) := by decide +kernel
theorem dMO_build_454 : decode prog_13_method_52_code 454 = .ok (.iconst 0, 1) := by decide +kernel
theorem dMO_build_455 : decode prog_13_method_52_code 455 = .ok (.iload_n 3, 1) := by decide +kernel
theorem dMO_build_456 : decode prog_13_method_52_code 456 = .ok (.iload 4, 2) := by decide +kernel
theorem dMO_build_458 : decode prog_13_method_52_code 458 = .ok (.iload 5, 2) := by decide +kernel
theorem dMO_build_460 : decode prog_13_method_52_code 460 = .ok (.invokevirtual 243, 3) := by decide +kernel
theorem dMO_build_463 : decode prog_13_method_52_code 463 = .ok (.iload_n 1, 1) := by decide +kernel
theorem dMO_build_464 : decode prog_13_method_52_code 464 = .ok (.bipush (7), 2) := by decide +kernel
theorem dMO_build_466 : decode prog_13_method_52_code 466 = .ok (.if_icmp .ne (20), 3) := by decide +kernel
theorem dMO_build_469 : decode prog_13_method_52_code 469 = .ok (.aload_n 0, 1) := by decide +kernel
theorem dMO_build_470 : decode prog_13_method_52_code 470 = .ok (.iload_n 2, 1) := by decide +kernel
theorem dMO_build_471 : decode prog_13_method_52_code 471 = .ok (.iload 7, 2) := by decide +kernel
theorem dMO_build_473 : decode prog_13_method_52_code 473 = .ok (.invokevirtual 249, 3) := by decide +kernel
theorem dMO_build_476 : decode prog_13_method_52_code 476 = .ok (.aload_n 0, 1) := by decide +kernel
theorem dMO_build_477 : decode prog_13_method_52_code 477 = .ok (.iload_n 3, 1) := by decide +kernel
theorem dMO_build_478 : decode prog_13_method_52_code 478 = .ok (.iload 6, 2) := by decide +kernel
theorem dMO_build_480 : decode prog_13_method_52_code 480 = .ok (.invokevirtual 249, 3) := by decide +kernel
theorem dMO_build_483 : decode prog_13_method_52_code 483 = .ok (.goto (36), 3) := by decide +kernel
theorem dMO_build_486 : decode prog_13_method_52_code 486 = .ok (.iload_n 1, 1) := by decide +kernel
theorem dMO_build_487 : decode prog_13_method_52_code 487 = .ok (.iconst 1, 1) := by decide +kernel
theorem dMO_build_488 : decode prog_13_method_52_code 488 = .ok (.if_icmp .le (31), 3) := by decide +kernel
theorem dMO_build_491 : decode prog_13_method_52_code 491 = .ok (.iload_n 1, 1) := by decide +kernel
theorem dMO_build_492 : decode prog_13_method_52_code 492 = .ok (.iconst 5, 1) := by decide +kernel
theorem dMO_build_493 : decode prog_13_method_52_code 493 = .ok (.if_icmp .eq (26), 3) := by decide +kernel
theorem dMO_build_496 : decode prog_13_method_52_code 496 = .ok (.iload_n 1, 1) := by decide +kernel
theorem dMO_build_497 : decode prog_13_method_52_code 497 = .ok (.bipush (8), 2) := by decide +kernel
theorem dMO_build_499 : decode prog_13_method_52_code 499 = .ok (.if_icmp .ge (20), 3) := by decide +kernel
theorem dMO_build_502 : decode prog_13_method_52_code 502 = .ok (.aload_n 0, 1) := by decide +kernel
theorem dMO_build_503 : decode prog_13_method_52_code 503 = .ok (.iload_n 2, 1) := by decide +kernel
theorem dMO_build_504 : decode prog_13_method_52_code 504 = .ok (.iconst (-1), 1) := by decide +kernel
theorem dMO_build_505 : decode prog_13_method_52_code 505 = .ok (.invokevirtual 249, 3) := by decide +kernel
theorem dMO_build_508 : decode prog_13_method_52_code 508 = .ok (.iload_n 1, 1) := by decide +kernel
theorem dMO_build_509 : decode prog_13_method_52_code 509 = .ok (.iconst 4, 1) := by decide +kernel
theorem dMO_build_510 : decode prog_13_method_52_code 510 = .ok (.if_icmp .eq (9), 3) := by decide +kernel
theorem dMO_build_513 : decode prog_13_method_52_code 513 = .ok (.aload_n 0, 1) := by decide +kernel
theorem dMO_build_514 : decode prog_13_method_52_code 514 = .ok (.iload_n 3, 1) := by decide +kernel
theorem dMO_build_515 : decode prog_13_method_52_code 515 = .ok (.iconst (-1), 1) := by decide +kernel
theorem dMO_build_516 : decode prog_13_method_52_code 516 = .ok (.invokevirtual 249, 3) := by decide +kernel
theorem dMO_build_519 : decode prog_13_method_52_code 519 = .ok (.return_, 1) := by decide +kernel
theorem c_MO_build0 {G : sd_G} {o : Nat} {D : fx_D} {h0 : sd_H} {nx a : Nat} {S : st_S} {z w : Int32} (hB : G.2.1 ≤ o) (hR : mo_R S D) (hrw : mo_rw D []) (hov : D.2.1 0 7 = nI 0) (ha : a < (st_T S).length) (hg : ∀ x ∈ ((9, 4) :: (st_tm S a ++ st_tm S a) : tl_T), tl_g1 x) : sd_Ct G mMO_build 6 0 0 [.ref (o + 0), .int (nI 0), .int (nI a), .int z, .int w] (fx_h G.1.2 mo_S o D h0) nx (fx_is G.1.2 mo_S o h0 nx none (bd_Q S ((9, 4) :: (st_tm S a ++ st_tm S a)) [])) := by
  refine sd_Ct_of (by decide) (Nat.le_of_ble_eq_true rfl) ?_
  obtain ⟨-, m1, m2, m3⟩ := mo_tm hR ha
  have n1 := mo_begin_other (r := 71) m1 (by omega)
  have hc := c_MO_equal (G := G) (o := o) (h0 := h0) (nx := nx) (r := 71) (i := 0) (j := 0) hB (by omega) (show a < 72 by omega) (show a < 72 by omega) (by omega) (by omega) n1 n1 (Nat.zero_le _) (Nat.zero_le _) m2.1 m2.1
  rw [m2.part, List.cons_append] at hc
  refine sd_bipush (v := nI 71) dMO_build_0 (by decide) ?_
  refine sd_istore dMO_build_2 (by decide) ?_
  refine sd_iload_n dMO_build_4 rfl rfl ?_
  refine nn_if_eq 18 dMO_build_5 (by decide) (by decide) (fun _ => ?_) (fun c => absurd c (by decide))
  refine sd_iload_n dMO_build_18 rfl rfl ?_
  refine sd_goto 28 dMO_build_19 (by decide) ?_
  refine sd_istore dMO_build_28 (by decide) ?_
  refine sd_iload_n dMO_build_30 rfl rfl ?_
  refine sd_iconst (v := nI 2) dMO_build_31 (by decide) ?_
  refine nn_icmp_eq 52 dMO_build_32 (by decide) (by decide) (by decide) (fun c => absurd c (by decide)) (fun _ => ?_)
  refine sd_iload_n dMO_build_35 rfl rfl ?_
  refine sd_iconst (v := nI 3) dMO_build_36 (by decide) ?_
  refine nn_icmp_eq 52 dMO_build_37 (by decide) (by decide) (by decide) (fun c => absurd c (by decide)) (fun _ => ?_)
  refine sd_iload_n dMO_build_40 rfl rfl ?_
  refine sd_bipush (v := nI 6) dMO_build_41 (by decide) ?_
  refine nn_icmp_eq 52 dMO_build_43 (by decide) (by decide) (by decide) (fun c => absurd c (by decide)) (fun _ => ?_)
  refine sd_iload_n dMO_build_46 rfl rfl ?_
  refine sd_bipush (v := nI 7) dMO_build_47 (by decide) ?_
  refine nn_icmp_ne 61 dMO_build_49 (by decide) (by decide) (by decide) (fun _ => ?_) (fun c => absurd c (by decide))
  refine sd_iconst (v := nI 0) dMO_build_61 (by decide) ?_
  refine sd_istore dMO_build_62 (by decide) ?_
  refine sd_aload_n dMO_build_64 rfl rfl ?_
  refine sd_iload dMO_build_65 rfl ?_
  refine fx_cV 10 sR_MO [.int (nI (71))] [] dMO_build_67 kMO_151 rfl rfl mMO_begin_v (c_MO_begin hB (by omega)) (by decide) (Nat.le_refl _) (Nat.le_refl _) (Nat.le_of_ble_eq_true rfl) rfl ?_
  refine sd_iload_n dMO_build_70 rfl rfl ?_
  refine sd_tableIn (off := 45) 116 dMO_build_71 (by decide) (by decide) (by decide) (by decide) ?_
  refine sd_aload_n dMO_build_116 rfl rfl ?_
  refine sd_iload dMO_build_117 rfl ?_
  refine sd_iload_n dMO_build_119 rfl rfl ?_
  refine sd_iconst (v := nI 0) dMO_build_120 (by decide) ?_
  refine sd_iload_n dMO_build_121 rfl rfl ?_
  refine sd_iconst (v := nI 0) dMO_build_122 (by decide) ?_
  refine fx_cV 10 sR_MO [.int (nI (71)), .int (nI (a)), .int (nI (0)), .int (nI (a)), .int (nI (0))] [] dMO_build_123 kMO_237 rfl rfl mMO_equal_v (hc) (by decide) (Nat.le_refl _) (Nat.le_refl _) (Nat.le_of_ble_eq_true rfl) rfl ?_
  refine sd_goto 463 dMO_build_126 (by decide) ?_
  refine sd_iload_n dMO_build_463 rfl rfl ?_
  refine sd_bipush (v := nI 7) dMO_build_464 (by decide) ?_
  refine nn_icmp_ne 486 dMO_build_466 (by decide) (by decide) (by decide) (fun _ => ?_) (fun c => absurd c (by decide))
  refine sd_iload_n dMO_build_486 rfl rfl ?_
  refine sd_iconst (v := nI 1) dMO_build_487 (by decide) ?_
  refine nn_icmp_le 519 dMO_build_488 (by decide) (by decide) (by decide) (fun _ => ?_) (fun c => absurd c (by decide))
  exact sd_vret dMO_build_519 rfl (Nat.le_refl _) (Nat.le_refl _) ⟨rfl, rfl, _, rfl, bd_w hR hrw hov (mo_begin_fa.tr mo_begin_fa) mo_begin_row hov hg⟩
theorem c_MO_build7 {G : sd_G} {o : Nat} {D : fx_D} {h0 : sd_H} {nx a b : Nat} {S : st_S} {w : Int32} (hB : G.2.1 ≤ o) (hR : mo_R S D) (hH : st_okH S) (hrw : mo_rw D []) (hov : D.2.1 0 7 = nI 0) (ha : a < (st_th S).length) (hb : b < (st_th S).length) (hg : ∀ x ∈ ((9, 4) :: (st_tm S (st_cn S a) ++ st_tm S (st_cn S b)) : tl_T), tl_g1 x) : sd_Ct G mMO_build 6 0 0 [.ref (o + 0), .int (nI 7), .int (nI a), .int (nI b), .int w] (fx_h G.1.2 mo_S o D h0) nx (fx_is G.1.2 mo_S o h0 nx none (bd_Q S ((9, 4) :: (st_tm S (st_cn S a) ++ st_tm S (st_cn S b))) (ru_hyp S 7 a b))) := by
  refine sd_Ct_of (by decide) (Nat.le_of_ble_eq_true rfl) ?_
  obtain ⟨a1, a2, a3, a4, a5, a6⟩ := mo_cn hR hH ha
  obtain ⟨b1, b2, b3, b4, b5, b6⟩ := mo_cn hR hH hb
  obtain ⟨-, m1, m2, m3⟩ := mo_tm hR a2
  obtain ⟨-, k1, k2, k3⟩ := mo_tm hR b2
  have m1 := mo_begin_other (r := 71) m1 (by omega)
  have k1 := mo_begin_other (r := 71) k1 (by omega)
  have hc := c_MO_equal (G := G) (o := o) (h0 := h0) (nx := nx) (r := 71) (i := 0) (j := 0) hB (by omega) (show st_cn S a < 72 by omega) (show st_cn S b < 72 by omega) (by omega) (by omega) m1 k1 (Nat.zero_le _) (Nat.zero_le _) m2.1 k2.1
  rw [m2.part, k2.part, List.cons_append] at hc
  have hq := bd_w hR hrw hov (mo_begin_fa.tr mo_begin_fa) mo_begin_row hov hg
  generalize hE : mo_adds (fx_ua (fx_ua D 3 71 (nI 0)) 3 71 (nI 0)) 71 ((9, 4) :: (st_tm S (st_cn S a) ++ st_tm S (st_cn S b))) = E at hc hq
  obtain ⟨-, -, -, e4, e5, e6⟩ := mo_cn hq.1 hH ha
  have h64 := hR.2.1.1
  refine sd_bipush (v := nI 71) dMO_build_0 (by decide) ?_
  refine sd_istore dMO_build_2 (by decide) ?_
  refine sd_iload_n dMO_build_4 rfl rfl ?_
  refine nn_if_eq 18 dMO_build_5 (by decide) (by decide) (fun c => absurd c (by decide)) (fun _ => ?_)
  refine sd_iload_n dMO_build_8 rfl rfl ?_
  refine sd_iconst (v := nI 1) dMO_build_9 (by decide) ?_
  refine nn_icmp_eq 18 dMO_build_10 (by decide) (by decide) (by decide) (fun c => absurd c (by decide)) (fun _ => ?_)
  refine sd_iload_n dMO_build_13 rfl rfl ?_
  refine sd_iconst (v := nI 5) dMO_build_14 (by decide) ?_
  refine nn_icmp_ne 22 dMO_build_15 (by decide) (by decide) (by decide) (fun _ => ?_) (fun c => absurd c (by decide))
  refine sd_aload_n dMO_build_22 rfl rfl ?_
  refine fx_getr 10 8 (6) dMO_build_23 fMO_25 rfl rfl ?_
  refine sd_iload_n dMO_build_26 rfl rfl ?_
  refine fx_ialdv (v := (nI (st_cn S a))) (a) dMO_build_27 rfl rfl (by omega) (by decide) (a1) ?_
  refine sd_istore dMO_build_28 (by decide) ?_
  refine sd_iload_n dMO_build_30 rfl rfl ?_
  refine sd_iconst (v := nI 2) dMO_build_31 (by decide) ?_
  refine nn_icmp_eq 52 dMO_build_32 (by decide) (by decide) (by decide) (fun c => absurd c (by decide)) (fun _ => ?_)
  refine sd_iload_n dMO_build_35 rfl rfl ?_
  refine sd_iconst (v := nI 3) dMO_build_36 (by decide) ?_
  refine nn_icmp_eq 52 dMO_build_37 (by decide) (by decide) (by decide) (fun c => absurd c (by decide)) (fun _ => ?_)
  refine sd_iload_n dMO_build_40 rfl rfl ?_
  refine sd_bipush (v := nI 6) dMO_build_41 (by decide) ?_
  refine nn_icmp_eq 52 dMO_build_43 (by decide) (by decide) (by decide) (fun c => absurd c (by decide)) (fun _ => ?_)
  refine sd_iload_n dMO_build_46 rfl rfl ?_
  refine sd_bipush (v := nI 7) dMO_build_47 (by decide) ?_
  refine nn_icmp_ne 61 dMO_build_49 (by decide) (by decide) (by decide) (fun c => absurd c (by decide)) (fun _ => ?_)
  refine sd_aload_n dMO_build_52 rfl rfl ?_
  refine fx_getr 10 8 (6) dMO_build_53 fMO_25 rfl rfl ?_
  refine sd_iload_n dMO_build_56 rfl rfl ?_
  refine fx_ialdv (v := (nI (st_cn S b))) (b) dMO_build_57 rfl rfl (by omega) (by decide) (b1) ?_
  refine sd_goto 62 dMO_build_58 (by decide) ?_
  refine sd_istore dMO_build_62 (by decide) ?_
  refine sd_aload_n dMO_build_64 rfl rfl ?_
  refine sd_iload dMO_build_65 rfl ?_
  refine fx_cV 10 sR_MO [.int (nI (71))] [] dMO_build_67 kMO_151 rfl rfl mMO_begin_v (c_MO_begin hB (by omega)) (by decide) (Nat.le_refl _) (Nat.le_refl _) (Nat.le_of_ble_eq_true rfl) rfl ?_
  refine sd_iload_n dMO_build_70 rfl rfl ?_
  refine sd_tableIn (off := 311) 382 dMO_build_71 (by decide) (by decide) (by decide) (by decide) ?_
  refine sd_aload_n dMO_build_382 rfl rfl ?_
  refine sd_iload dMO_build_383 rfl ?_
  refine sd_iload dMO_build_385 rfl ?_
  refine sd_iconst (v := nI 0) dMO_build_387 (by decide) ?_
  refine sd_iload dMO_build_388 rfl ?_
  refine sd_iconst (v := nI 0) dMO_build_390 (by decide) ?_
  refine fx_cV 10 sR_MO [.int (nI (71)), .int (nI (st_cn S a)), .int (nI (0)), .int (nI (st_cn S b)), .int (nI (0))] [] dMO_build_391 kMO_237 rfl rfl mMO_equal_v (hc) (by decide) (Nat.le_refl _) (Nat.le_refl _) (Nat.le_of_ble_eq_true rfl) rfl ?_
  refine sd_goto 463 dMO_build_394 (by decide) ?_
  refine sd_iload_n dMO_build_463 rfl rfl ?_
  refine sd_bipush (v := nI 7) dMO_build_464 (by decide) ?_
  refine nn_icmp_ne 486 dMO_build_466 (by decide) (by decide) (by decide) (fun c => absurd c (by decide)) (fun _ => ?_)
  refine sd_aload_n dMO_build_469 rfl rfl ?_
  refine sd_iload_n dMO_build_470 rfl rfl ?_
  refine sd_iload dMO_build_471 rfl ?_
  refine fx_cP 10 sR_MO [.int (nI (a)), .int (nI (st_cn S b))] [] dMO_build_473 kMO_249 rfl rfl mMO_gather_v (c_MO_gather hB a3 e5 e4 (fun k t ht ↦ ⟨(e6 k t ht).1, by have := (e6 k t ht).2; omega⟩) hq.2.1 (by show 0 + _ ≤ 12; omega)) (by decide) (Nat.le_refl _) (Nat.le_refl _) (Nat.le_of_ble_eq_true rfl) rfl (fun D1 hD1 => ?_)
  have hq1 := bd_fw hq hD1.1 hD1.2
  obtain ⟨-, -, -, g4, g5, g6⟩ := mo_cn hq1.1 hH hb
  refine sd_aload_n dMO_build_476 rfl rfl ?_
  refine sd_iload_n dMO_build_477 rfl rfl ?_
  refine sd_iload dMO_build_478 rfl ?_
  refine fx_cP 10 sR_MO [.int (nI (b)), .int (nI (st_cn S a))] [] dMO_build_480 kMO_249 rfl rfl mMO_gather_v (c_MO_gather hB b3 g5 g4 (fun k t ht ↦ ⟨(g6 k t ht).1, by have := (g6 k t ht).2; omega⟩) hD1.1 (by have := ls_g_len (st_hy S a) [] (nI (st_cn S b)); simp at this; omega)) (by decide) (Nat.le_refl _) (Nat.le_refl _) (Nat.le_of_ble_eq_true rfl) rfl (fun D2 hD2 => ?_)
  refine sd_goto 519 dMO_build_483 (by decide) ?_
  exact sd_vret dMO_build_519 rfl (Nat.le_refl _) (Nat.le_refl _) ⟨rfl, rfl, _, rfl, bd_fw hq1 hD2.1 hD2.2⟩
