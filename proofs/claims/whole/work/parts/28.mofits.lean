/-! ===== the model: fits ===== -/
/-- types of terms are types; those of LAMs are of functions -/
def st_okT (S : st_S) : Prop := ∀ l ∈ st_T S, ∀ x ∈ l, ty_ok x.2 ∧ (x.1 = 10 → ty_isF x.2 = true)
/-- theorems speak of terms -/
def st_okH (S : st_S) : Prop := ∀ (p : Nat) (h : st_Th), (st_th S)[p]? = some h → h.1 < (st_T S).length ∧ (∀ t ∈ h.2.1, t < (st_T S).length) ∧ h.2.1.length ≤ 6
theorem mo_tm {S : st_S} {D : fx_D} {t : Nat} (hR : mo_R S D) (ht : t < (st_T S).length) : (st_T S)[t]? = some (st_tm S t) ∧ mo_row D t (st_tm S t) ∧ tl_wf (st_tm S t) ∧ t < 64 := by
  have hx : (st_T S)[t]? = some (st_T S)[t] := List.getElem?_eq_getElem ht
  have e : st_tm S t = (st_T S)[t] := by unfold st_tm; rw [hx]; rfl
  obtain ⟨h1, h2⟩ := hR.2.1.2.2 t _ hx
  have := hR.2.1.1
  rw [e]
  exact ⟨hx, h1, h2, by omega⟩
theorem mo_cn {S : st_S} {D : fx_D} {p : Nat} (hR : mo_R S D) (hH : st_okH S) (hp : p < (st_th S).length) : D.1 6 p = nI (st_cn S p) ∧ st_cn S p < (st_T S).length ∧ p < 40 ∧ D.1 7 p = nI (st_hy S p).length ∧ (st_hy S p).length ≤ 6 ∧ (∀ (k t : Nat), (st_hy S p)[k]? = some t → D.1 8 (6 * p + k) = nI t ∧ t < (st_T S).length) := by
  have hx : (st_th S)[p]? = some (st_th S)[p] := List.getElem?_eq_getElem hp
  have e1 : st_cn S p = (st_th S)[p].1 := by unfold st_cn; rw [hx]; rfl
  have e2 : st_hy S p = (st_th S)[p].2.1 := by unfold st_hy; rw [hx]; rfl
  obtain ⟨a1, a2, a3, a4, a5, a6, a7⟩ := hR.2.2.2.2.1.2.2 p _ hx
  obtain ⟨b1, b2, b3⟩ := hH p _ hx
  have := hR.2.2.2.2.1.1
  rw [e1, e2]
  exact ⟨a1, b1, by omega, a2, a3, fun k t ht => ⟨a4 k t ht, b2 t (List.mem_of_getElem? ht)⟩⟩
theorem tl_wf.hd {l : tl_T} (h : tl_wf l) : l[0]? = some (tl_at l 0) := by
  cases l with
  | nil => exact h.1.elim
  | cons x r => rfl
theorem tl_at_some {l : tl_T} {i : Nat} (h : i < l.length) : l[i]? = some (tl_at l i) := by
  unfold tl_at
  rw [List.getElem?_eq_getElem h]
  rfl
/-- a term that is EQ or APP has two parts -/
theorem tl_wf.two {l : tl_T} (h : tl_wf l) (ha : tl_ar (tl_at l 0).1 = 2) : 1 < l.length ∧ tl_end l 1 < l.length ∧ tl_end l (tl_end l 1) = l.length := by
  cases l with
  | nil => exact h.1.elim
  | cons x r =>
    obtain ⟨h1, h2, -⟩ := tl_two h ha
    refine ⟨?_, h1, h2⟩
    cases r with
    | nil => simp [tl_end] at h1
    | cons y r => simp
theorem tl_isE_iff {l : tl_T} : tl_isE l = true ↔ (tl_at l 0).1 = 9 := by simp [tl_isE]
theorem tl_E2 {l : tl_T} (h : tl_isE l = true) : tl_ar (tl_at l 0).1 = 2 := by rw [tl_isE_iff.mp h]; rfl
theorem tl_nm_iff {l : tl_T} {v : Nat} : tl_nm l v = true ↔ ∃ x ∈ l, x.1 = v := by simp [tl_nm]
theorem tl_isB_iff {l : tl_T} {i : Nat} : tl_isB l i = true ↔ (tl_at l i).1 = 8 ∧ (tl_at l (i + 1)).1 = 10 := by simp [tl_isB]
theorem bo_b (c : Bool) : ∃ b : Nat, b < 2 ∧ (b = 1 ↔ c = true) := by cases c; exact ⟨0, by omega, by simp⟩; exact ⟨1, by omega, by simp⟩
theorem ty_fun_rem {t : Nat} (h : ty_ok t) (hF : ty_isF t = true) : ∃ r, ty_ex t (Nat.log2 t - 1) 1 = some r := by
  have h2 : 2 ≤ Nat.log2 t := (Nat.le_log2 (by have := h.2.1; omega)).mpr (by have := h.2.1; omega)
  have he := h.2.2
  obtain ⟨m, hm⟩ : ∃ m, Nat.log2 t = m + 2 := ⟨Nat.log2 t - 2, by omega⟩
  have hF2 : t / 2 ^ (m + 1) % 2 = 1 := by
    have : Nat.log2 t - 1 = m + 1 := by omega
    simp only [ty_isF, this, beq_iff_eq] at hF
    exact hF
  rw [hm, ty_ex, if_pos hF2] at he
  rw [show Nat.log2 t - 1 = m + 1 by omega]
  -- two types are there: so is the first
  have key : ∀ (n x e f r : Nat), x ≤ n → ty_ex t x (e + f) = some r → ∃ r', ty_ex t x e = some r' := by
    intro n
    induction n with
    | zero =>
      intro x e f r hx h
      obtain rfl : x = 0 := by omega
      cases e with
      | zero => exact ⟨0, by simp [ty_ex]⟩
      | succ e => rw [show e + 1 + f = (e + f) + 1 by omega] at h; simp [ty_ex] at h
    | succ n ih =>
      intro x e f r hx h
      cases e with
      | zero => exact ⟨x, by cases x <;> simp [ty_ex]⟩
      | succ e =>
        rw [show e + 1 + f = (e + f) + 1 by omega] at h
        match x, h, hx with
        | 0, h, _ => simp [ty_ex] at h
        | 1, h, _ => simp [ty_ex] at h
        | x + 2, h, hx =>
          rw [ty_ex] at h ⊢
          by_cases hb : t / 2 ^ (x + 1) % 2 = 1
          · rw [if_pos hb] at h ⊢
            exact ih (x + 1) (e + 2) f r (by omega) (by rw [show e + 2 + f = e + f + 2 by omega]; exact h)
          · rw [if_neg hb] at h ⊢
            exact ih x e f r (by omega) h
  exact key (m + 1) (m + 1) 1 1 0 (Nat.le_refl _) he
theorem dMO_fits_0 : decode prog_13_method_51_code 0 = .ok (.iload_n 1, 1) := by decide +kernel
theorem dMO_fits_1 : decode prog_13_method_51_code 1 = .ok (.ifCond .eq (13), 3) := by decide +kernel
theorem dMO_fits_4 : decode prog_13_method_51_code 4 = .ok (.iload_n 1, 1) := by decide +kernel
theorem dMO_fits_5 : decode prog_13_method_51_code 5 = .ok (.iconst 1, 1) := by decide +kernel
theorem dMO_fits_6 : decode prog_13_method_51_code 6 = .ok (.if_icmp .eq (8), 3) := by decide +kernel
theorem dMO_fits_9 : decode prog_13_method_51_code 9 = .ok (.iload_n 1, 1) := by decide +kernel
theorem dMO_fits_10 : decode prog_13_method_51_code 10 = .ok (.iconst 5, 1) := by decide +kernel
theorem dMO_fits_11 : decode prog_13_method_51_code 11 = .ok (.if_icmp .ne (7), 3) := by decide +kernel
theorem dMO_fits_14 : decode prog_13_method_51_code 14 = .ok (.iload_n 2, 1) := by decide +kernel
theorem dMO_fits_15 : decode prog_13_method_51_code 15 = .ok (.goto (9), 3) := by decide +kernel
theorem dMO_fits_18 : decode prog_13_method_51_code 18 = .ok (.aload_n 0, 1) := by decide +kernel
theorem dMO_fits_19 : decode prog_13_method_51_code 19 = .ok (.getfield 25, 3) := by decide +kernel
theorem dMO_fits_22 : decode prog_13_method_51_code 22 = .ok (.iload_n 2, 1) := by decide +kernel
theorem dMO_fits_23 : decode prog_13_method_51_code 23 = .ok (.iaload, 1) := by decide +kernel
theorem dMO_fits_24 : decode prog_13_method_51_code 24 = .ok (.istore 5, 2) := by decide +kernel
theorem dMO_fits_26 : decode prog_13_method_51_code 26 = .ok (.iload_n 1, 1) := by decide +kernel
theorem dMO_fits_27 : decode prog_13_method_51_code 27 = .ok (.iconst 2, 1) := by decide +kernel
theorem dMO_fits_28 : decode prog_13_method_51_code 28 = .ok (.if_icmp .eq (20), 3) := by decide +kernel
theorem dMO_fits_31 : decode prog_13_method_51_code 31 = .ok (.iload_n 1, 1) := by decide +kernel
theorem dMO_fits_32 : decode prog_13_method_51_code 32 = .ok (.iconst 3, 1) := by decide +kernel
theorem dMO_fits_33 : decode prog_13_method_51_code 33 = .ok (.if_icmp .eq (15), 3) := by decide +kernel
theorem dMO_fits_36 : decode prog_13_method_51_code 36 = .ok (.iload_n 1, 1) := by decide +kernel
theorem dMO_fits_37 : decode prog_13_method_51_code 37 = .ok (.bipush (6), 2) := by decide +kernel
theorem dMO_fits_39 : decode prog_13_method_51_code 39 = .ok (.if_icmp .eq (9), 3) := by decide +kernel
theorem dMO_fits_42 : decode prog_13_method_51_code 42 = .ok (.iload_n 1, 1) := by decide +kernel
theorem dMO_fits_43 : decode prog_13_method_51_code 43 = .ok (.bipush (7), 2) := by decide +kernel
theorem dMO_fits_45 : decode prog_13_method_51_code 45 = .ok (.if_icmp .ne (12), 3) := by decide +kernel
theorem dMO_fits_48 : decode prog_13_method_51_code 48 = .ok (.aload_n 0, 1) := by decide +kernel
theorem dMO_fits_49 : decode prog_13_method_51_code 49 = .ok (.getfield 25, 3) := by decide +kernel
theorem dMO_fits_52 : decode prog_13_method_51_code 52 = .ok (.iload_n 3, 1) := by decide +kernel
theorem dMO_fits_53 : decode prog_13_method_51_code 53 = .ok (.iaload, 1) := by decide +kernel
theorem dMO_fits_54 : decode prog_13_method_51_code 54 = .ok (.goto (4), 3) := by decide +kernel
theorem dMO_fits_57 : decode prog_13_method_51_code 57 = .ok (.iconst 0, 1) := by decide +kernel
theorem dMO_fits_58 : decode prog_13_method_51_code 58 = .ok (.istore 6, 2) := by decide +kernel
theorem dMO_fits_60 : decode prog_13_method_51_code 60 = .ok (.iload_n 1, 1) := by decide +kernel
theorem dMO_fits_61 : decode prog_13_method_51_code 61 = .ok (.iconst 2, 1) := by decide +kernel
theorem dMO_fits_62 : decode prog_13_method_51_code 62 = .ok (.if_icmp .eq (19), 3) := by decide +kernel
theorem dMO_fits_65 : decode prog_13_method_51_code 65 = .ok (.iload_n 1, 1) := by decide +kernel
theorem dMO_fits_66 : decode prog_13_method_51_code 66 = .ok (.iconst 3, 1) := by decide +kernel
theorem dMO_fits_67 : decode prog_13_method_51_code 67 = .ok (.if_icmp .eq (14), 3) := by decide +kernel
theorem dMO_fits_70 : decode prog_13_method_51_code 70 = .ok (.iload_n 1, 1) := by decide +kernel
theorem dMO_fits_71 : decode prog_13_method_51_code 71 = .ok (.iconst 4, 1) := by decide +kernel
theorem dMO_fits_72 : decode prog_13_method_51_code 72 = .ok (.if_icmp .eq (9), 3) := by decide +kernel
theorem dMO_fits_75 : decode prog_13_method_51_code 75 = .ok (.iload_n 1, 1) := by decide +kernel
theorem dMO_fits_76 : decode prog_13_method_51_code 76 = .ok (.bipush (6), 2) := by decide +kernel
theorem dMO_fits_78 : decode prog_13_method_51_code 78 = .ok (.if_icmp .ne (14), 3) := by decide +kernel
theorem dMO_fits_81 : decode prog_13_method_51_code 81 = .ok (.aload_n 0, 1) := by decide +kernel
theorem dMO_fits_82 : decode prog_13_method_51_code 82 = .ok (.iload 5, 2) := by decide +kernel
theorem dMO_fits_84 : decode prog_13_method_51_code 84 = .ok (.invokevirtual 222, 3) := by decide +kernel
theorem dMO_fits_87 : decode prog_13_method_51_code 87 = .ok (.ifCond .ne (5), 3) := by decide +kernel
theorem dMO_fits_90 : decode prog_13_method_51_code 90 = .ok (.iconst 0, 1) := by decide +kernel
theorem dMO_fits_91 : decode prog_13_method_51_code 91 = .ok (.ireturn, 1) := by decide +kernel
theorem dMO_fits_92 : decode prog_13_method_51_code 92 = .ok (.iload_n 1, 1) := by decide +kernel
theorem dMO_fits_93 : decode prog_13_method_51_code 93 = .ok (.tableswitch (227) (1) (8) #[47, 62, 96, 144, 188, 195, 227, 206], 47) := by decide +kernel
theorem dMO_fits_140 : decode prog_13_method_51_code 140 = .ok (.aload_n 0, 1) := by decide +kernel
theorem dMO_fits_141 : decode prog_13_method_51_code 141 = .ok (.iload_n 2, 1) := by decide +kernel
theorem dMO_fits_142 : decode prog_13_method_51_code 142 = .ok (.invokevirtual 203, 3) := by decide +kernel
theorem dMO_fits_145 : decode prog_13_method_51_code 145 = .ok (.iconst 4, 1) := by decide +kernel
theorem dMO_fits_146 : decode prog_13_method_51_code 146 = .ok (.if_icmp .ne (7), 3) := by decide +kernel
theorem dMO_fits_149 : decode prog_13_method_51_code 149 = .ok (.iconst 1, 1) := by decide +kernel
theorem dMO_fits_150 : decode prog_13_method_51_code 150 = .ok (.goto (4), 3) := by decide +kernel
theorem dMO_fits_153 : decode prog_13_method_51_code 153 = .ok (.iconst 0, 1) := by decide +kernel
theorem dMO_fits_154 : decode prog_13_method_51_code 154 = .ok (.ireturn, 1) := by decide +kernel
theorem dMO_fits_155 : decode prog_13_method_51_code 155 = .ok (.aload_n 0, 1) := by decide +kernel
theorem dMO_fits_156 : decode prog_13_method_51_code 156 = .ok (.iload 6, 2) := by decide +kernel
theorem dMO_fits_158 : decode prog_13_method_51_code 158 = .ok (.invokevirtual 222, 3) := by decide +kernel
theorem dMO_fits_161 : decode prog_13_method_51_code 161 = .ok (.ifCond .eq (26), 3) := by decide +kernel
theorem dMO_fits_164 : decode prog_13_method_51_code 164 = .ok (.aload_n 0, 1) := by decide +kernel
theorem dMO_fits_165 : decode prog_13_method_51_code 165 = .ok (.iload 5, 2) := by decide +kernel
theorem dMO_fits_167 : decode prog_13_method_51_code 167 = .ok (.aload_n 0, 1) := by decide +kernel
theorem dMO_fits_168 : decode prog_13_method_51_code 168 = .ok (.iload 5, 2) := by decide +kernel
theorem dMO_fits_170 : decode prog_13_method_51_code 170 = .ok (.iconst 1, 1) := by decide +kernel
theorem dMO_fits_171 : decode prog_13_method_51_code 171 = .ok (.invokevirtual 128, 3) := by decide +kernel
theorem dMO_fits_174 : decode prog_13_method_51_code 174 = .ok (.iload 6, 2) := by decide +kernel
theorem dMO_fits_176 : decode prog_13_method_51_code 176 = .ok (.iconst 1, 1) := by decide +kernel
theorem dMO_fits_177 : decode prog_13_method_51_code 177 = .ok (.invokevirtual 141, 3) := by decide +kernel
theorem dMO_fits_180 : decode prog_13_method_51_code 180 = .ok (.ifCond .eq (7), 3) := by decide +kernel
theorem dMO_fits_183 : decode prog_13_method_51_code 183 = .ok (.iconst 1, 1) := by decide +kernel
theorem dMO_fits_184 : decode prog_13_method_51_code 184 = .ok (.goto (4), 3) := by decide +kernel
theorem dMO_fits_187 : decode prog_13_method_51_code 187 = .ok (.iconst 0, 1) := by decide +kernel
theorem dMO_fits_188 : decode prog_13_method_51_code 188 = .ok (.ireturn, 1) := by decide +kernel
theorem dMO_fits_189 : decode prog_13_method_51_code 189 = .ok (.aload_n 0, 1) := by decide +kernel
theorem dMO_fits_190 : decode prog_13_method_51_code 190 = .ok (.iload 6, 2) := by decide +kernel
theorem dMO_fits_192 : decode prog_13_method_51_code 192 = .ok (.invokevirtual 222, 3) := by decide +kernel
theorem dMO_fits_195 : decode prog_13_method_51_code 195 = .ok (.ifCond .eq (40), 3) := by decide +kernel
theorem dMO_fits_198 : decode prog_13_method_51_code 198 = .ok (.aload_n 0, 1) := by decide +kernel
theorem dMO_fits_199 : decode prog_13_method_51_code 199 = .ok (.iload 5, 2) := by decide +kernel
theorem dMO_fits_201 : decode prog_13_method_51_code 201 = .ok (.iconst 1, 1) := by decide +kernel
theorem dMO_fits_202 : decode prog_13_method_51_code 202 = .ok (.invokevirtual 134, 3) := by decide +kernel
theorem dMO_fits_205 : decode prog_13_method_51_code 205 = .ok (.invokestatic 225, 3) := by decide +kernel
theorem dMO_fits_208 : decode prog_13_method_51_code 208 = .ok (.ifCond .eq (27), 3) := by decide +kernel
theorem dMO_fits_211 : decode prog_13_method_51_code 211 = .ok (.aload_n 0, 1) := by decide +kernel
theorem dMO_fits_212 : decode prog_13_method_51_code 212 = .ok (.iload 5, 2) := by decide +kernel
theorem dMO_fits_214 : decode prog_13_method_51_code 214 = .ok (.iconst 1, 1) := by decide +kernel
theorem dMO_fits_215 : decode prog_13_method_51_code 215 = .ok (.invokevirtual 134, 3) := by decide +kernel
theorem dMO_fits_218 : decode prog_13_method_51_code 218 = .ok (.invokestatic 228, 3) := by decide +kernel
theorem dMO_fits_221 : decode prog_13_method_51_code 221 = .ok (.aload_n 0, 1) := by decide +kernel
theorem dMO_fits_222 : decode prog_13_method_51_code 222 = .ok (.iload 6, 2) := by decide +kernel
theorem dMO_fits_224 : decode prog_13_method_51_code 224 = .ok (.iconst 1, 1) := by decide +kernel
theorem dMO_fits_225 : decode prog_13_method_51_code 225 = .ok (.invokevirtual 134, 3) := by decide +kernel
theorem dMO_fits_228 : decode prog_13_method_51_code 228 = .ok (.if_icmp .ne (7), 3) := by decide +kernel
theorem dMO_fits_231 : decode prog_13_method_51_code 231 = .ok (.iconst 1, 1) := by decide +kernel
theorem dMO_fits_232 : decode prog_13_method_51_code 232 = .ok (.goto (4), 3) := by decide +kernel
theorem dMO_fits_235 : decode prog_13_method_51_code 235 = .ok (.iconst 0, 1) := by decide +kernel
theorem dMO_fits_236 : decode prog_13_method_51_code 236 = .ok (.ireturn, 1) := by decide +kernel
theorem dMO_fits_237 : decode prog_13_method_51_code 237 = .ok (.iconst 0, 1) := by decide +kernel
theorem dMO_fits_238 : decode prog_13_method_51_code 238 = .ok (.istore 7, 2) := by decide +kernel
theorem dMO_fits_240 : decode prog_13_method_51_code 240 = .ok (.iload 7, 2) := by decide +kernel
theorem dMO_fits_242 : decode prog_13_method_51_code 242 = .ok (.aload_n 0, 1) := by decide +kernel
theorem dMO_fits_243 : decode prog_13_method_51_code 243 = .ok (.getfield 28, 3) := by decide +kernel
theorem dMO_fits_246 : decode prog_13_method_51_code 246 = .ok (.iload_n 2, 1) := by decide +kernel
theorem dMO_fits_247 : decode prog_13_method_51_code 247 = .ok (.iaload, 1) := by decide +kernel
theorem dMO_fits_248 : decode prog_13_method_51_code 248 = .ok (.if_icmp .ge (31), 3) := by decide +kernel
theorem dMO_fits_251 : decode prog_13_method_51_code 251 = .ok (.aload_n 0, 1) := by decide +kernel
theorem dMO_fits_252 : decode prog_13_method_51_code 252 = .ok (.aload_n 0, 1) := by decide +kernel
theorem dMO_fits_253 : decode prog_13_method_51_code 253 = .ok (.getfield 31, 3) := by decide +kernel
theorem dMO_fits_256 : decode prog_13_method_51_code 256 = .ok (.bipush (6), 2) := by decide +kernel
theorem dMO_fits_258 : decode prog_13_method_51_code 258 = .ok (.iload_n 2, 1) := by decide +kernel
theorem dMO_fits_259 : decode prog_13_method_51_code 259 = .ok (.imul, 1) := by decide +kernel
theorem dMO_fits_260 : decode prog_13_method_51_code 260 = .ok (.iload 7, 2) := by decide +kernel
theorem dMO_fits_262 : decode prog_13_method_51_code 262 = .ok (.iadd, 1) := by decide +kernel
theorem dMO_fits_263 : decode prog_13_method_51_code 263 = .ok (.iaload, 1) := by decide +kernel
theorem dMO_fits_264 : decode prog_13_method_51_code 264 = .ok (.iload_n 3, 1) := by decide +kernel
theorem dMO_fits_265 : decode prog_13_method_51_code 265 = .ok (.invokevirtual 231, 3) := by decide +kernel
theorem dMO_fits_268 : decode prog_13_method_51_code 268 = .ok (.ifCond .eq (5), 3) := by decide +kernel
theorem dMO_fits_271 : decode prog_13_method_51_code 271 = .ok (.iconst 0, 1) := by decide +kernel
theorem dMO_fits_272 : decode prog_13_method_51_code 272 = .ok (.ireturn, 1) := by decide +kernel
theorem dMO_fits_273 : decode prog_13_method_51_code 273 = .ok (.iinc 7 (1), 3) := by decide +kernel
theorem dMO_fits_276 : decode prog_13_method_51_code 276 = .ok (.goto (-36), 3) := by decide +kernel
theorem dMO_fits_279 : decode prog_13_method_51_code 279 = .ok (.iconst 1, 1) := by decide +kernel
theorem dMO_fits_280 : decode prog_13_method_51_code 280 = .ok (.ireturn, 1) := by decide +kernel
theorem dMO_fits_281 : decode prog_13_method_51_code 281 = .ok (.aload_n 0, 1) := by decide +kernel
theorem dMO_fits_282 : decode prog_13_method_51_code 282 = .ok (.iload_n 2, 1) := by decide +kernel
theorem dMO_fits_283 : decode prog_13_method_51_code 283 = .ok (.iconst 0, 1) := by decide +kernel
theorem dMO_fits_284 : decode prog_13_method_51_code 284 = .ok (.invokevirtual 234, 3) := by decide +kernel
theorem dMO_fits_287 : decode prog_13_method_51_code 287 = .ok (.ireturn, 1) := by decide +kernel
theorem dMO_fits_288 : decode prog_13_method_51_code 288 = .ok (.aload_n 0, 1) := by decide +kernel
theorem dMO_fits_289 : decode prog_13_method_51_code 289 = .ok (.iload 5, 2) := by decide +kernel
theorem dMO_fits_291 : decode prog_13_method_51_code 291 = .ok (.iconst 1, 1) := by decide +kernel
theorem dMO_fits_292 : decode prog_13_method_51_code 292 = .ok (.iload 6, 2) := by decide +kernel
theorem dMO_fits_294 : decode prog_13_method_51_code 294 = .ok (.iconst 0, 1) := by decide +kernel
theorem dMO_fits_295 : decode prog_13_method_51_code 295 = .ok (.invokevirtual 141, 3) := by decide +kernel
theorem dMO_fits_298 : decode prog_13_method_51_code 298 = .ok (.ireturn, 1) := by decide +kernel
theorem dMO_fits_299 : decode prog_13_method_51_code 299 = .ok (.aload_n 0, 1) := by decide +kernel
theorem dMO_fits_300 : decode prog_13_method_51_code 300 = .ok (.getfield 19, 3) := by decide +kernel
theorem dMO_fits_303 : decode prog_13_method_51_code 303 = .ok (.iload_n 3, 1) := by decide +kernel
theorem dMO_fits_304 : decode prog_13_method_51_code 304 = .ok (.iaload, 1) := by decide +kernel
theorem dMO_fits_305 : decode prog_13_method_51_code 305 = .ok (.aload_n 0, 1) := by decide +kernel
theorem dMO_fits_306 : decode prog_13_method_51_code 306 = .ok (.iload 4, 2) := by decide +kernel
theorem dMO_fits_308 : decode prog_13_method_51_code 308 = .ok (.invokevirtual 203, 3) := by decide +kernel
theorem dMO_fits_311 : decode prog_13_method_51_code 311 = .ok (.if_icmp .ne (7), 3) := by decide +kernel
theorem dMO_fits_314 : decode prog_13_method_51_code 314 = .ok (.iconst 1, 1) := by decide +kernel
theorem dMO_fits_315 : decode prog_13_method_51_code 315 = .ok (.goto (4), 3) := by decide +kernel
theorem dMO_fits_318 : decode prog_13_method_51_code 318 = .ok (.iconst 0, 1) := by decide +kernel
theorem dMO_fits_319 : decode prog_13_method_51_code 319 = .ok (.ireturn, 1) := by decide +kernel
theorem dMO_fits_320 : decode prog_13_method_51_code 320 = .ok (.iconst 1, 1) := by decide +kernel
theorem dMO_fits_321 : decode prog_13_method_51_code 321 = .ok (.ireturn, 1) := by decide +kernel
theorem l_MO_fits4 {G : sd_G} {o : Nat} {D : fx_D} {h0 : sd_H} {nx p b v : Nat} {S : st_S} (hR : mo_R S D) (hH : st_okH S) (hp : p < (st_th S).length) (hb : b < 8) (hv2 : v < 2) (hv : v = 1 ↔ (st_hy S p).all (fun t => !tl_nm (st_tm S t) b) = true) : ∀ (n k : Nat), (st_hy S p).length = k + n → (∀ a t, a < k → (st_hy S p)[a]? = some t → tl_nm (st_tm S t) b = false) → sd_W G mMO_fits 3 0 0 (sd_is (some (.int (nI v))) (fx_h G.1.2 mo_S o D h0) nx) 240 [(0, .ref (o + 0)), (2, .int (nI p)), (3, .int (nI b)), (7, .int (nI k))] [] (fx_h G.1.2 mo_S o D h0) nx 0 0 := by
  obtain ⟨c1, c2, c3, c4, c5, c6⟩ := mo_cn hR hH hp
  intro n
  induction n with
  | zero =>
    intro k hk ha
    obtain rfl : v = 1 := hv.mpr (by
      rw [List.all_eq_true]
      intro t ht
      obtain ⟨a, h1⟩ := List.getElem?_of_mem ht
      rw [ha a t (by have := getE_lt h1; omega) h1]; rfl)
    refine sd_iload dMO_fits_240 rfl ?_
    refine sd_aload_n dMO_fits_242 rfl rfl ?_
    refine fx_getr 10 9 (7) dMO_fits_243 fMO_28 rfl rfl ?_
    refine sd_iload_n dMO_fits_246 rfl rfl ?_
    refine fx_ialdv (v := (nI ((st_hy S p).length))) (p) dMO_fits_247 rfl rfl (by omega) (by decide) (c4) ?_
    refine nn_icmp_ge 279 dMO_fits_248 (by decide) (by omega) (by omega) (fun c248 => ?_) (fun c248 => ?_)
    ·
      refine sd_iconst (v := nI 1) dMO_fits_279 (by decide) ?_
      exact sd_zret dMO_fits_280 rfl (Or.inr rfl) (Nat.le_refl _) (Nat.le_refl _) ⟨rfl, rfl, rfl⟩
    ·
      exact absurd c248 (by omega)
  | succ n ih =>
    intro k hk ha
    obtain ⟨t, ht⟩ : ∃ t, (st_hy S p)[k]? = some t := ⟨(st_hy S p)[k], List.getElem?_eq_getElem (by omega)⟩
    obtain ⟨q1, q2⟩ := c6 k t ht
    obtain ⟨-, m1, m2, m3⟩ := mo_tm hR q2
    obtain ⟨u, u1, u2⟩ := bo_b (tl_nm (st_tm S t) b)
    have hc := c_MO_names (G := G) (o := o) (h0 := h0) (nx := nx) (by omega) m1 (show b < 100 by omega) u1 (by rw [u2, tl_nm_iff])
    refine sd_iload dMO_fits_240 rfl ?_
    refine sd_aload_n dMO_fits_242 rfl rfl ?_
    refine fx_getr 10 9 (7) dMO_fits_243 fMO_28 rfl rfl ?_
    refine sd_iload_n dMO_fits_246 rfl rfl ?_
    refine fx_ialdv (v := (nI ((st_hy S p).length))) (p) dMO_fits_247 rfl rfl (by omega) (by decide) (c4) ?_
    refine nn_icmp_ge 279 dMO_fits_248 (by decide) (by omega) (by omega) (fun c248 => ?_) (fun c248 => ?_)
    ·
      exact absurd c248 (by omega)
    ·
      refine sd_aload_n dMO_fits_251 rfl rfl ?_
      refine sd_aload_n dMO_fits_252 rfl rfl ?_
      refine fx_getr 10 10 (8) dMO_fits_253 fMO_31 rfl rfl ?_
      refine sd_bipush (v := nI 6) dMO_fits_256 (by decide) ?_
      refine sd_iload_n dMO_fits_258 rfl rfl ?_
      refine nn_imul dMO_fits_259 ?_
      refine sd_iload dMO_fits_260 rfl ?_
      refine nn_iadd dMO_fits_262 ?_
      refine fx_ialdv (v := (nI (t))) ((6 * p) + k) dMO_fits_263 rfl rfl (by omega) (by decide) (q1) ?_
      refine sd_iload_n dMO_fits_264 rfl rfl ?_
      refine fx_cV 10 sR_MO [.int (nI (t)), .int (nI (b))] [] dMO_fits_265 kMO_231 rfl rfl mMO_names_v (hc) (by decide) (Nat.le_refl _) (Nat.le_refl _) (Nat.le_of_ble_eq_true rfl) rfl ?_
      refine nn_if_eq 273 dMO_fits_268 (by decide) (by omega) (fun c268 => ?_) (fun c268 => ?_)
      ·
        refine nn_iinc 1 dMO_fits_273 rfl (by decide) ?_
        refine sd_goto 240 dMO_fits_276 (by decide) ?_
        refine sd_locp (al' := [(0, .ref (o + (0))), (2, .int (nI (p))), (3, .int (nI (b))), (7, .int (nI (k + 1)))]) [1, 2, 3, 0] rfl ?_
        refine ih (k + 1) (by omega) (fun a y h h1 => ?_)
        rcases Nat.lt_or_ge a k with z | z
        · exact ha a y z h1
        · obtain rfl : a = k := by omega
          rw [ht] at h1; cases h1
          cases hz : tl_nm (st_tm S t) b with
          | false => rfl
          | true => exact absurd (u2.mpr hz) (by omega)
      ·
        have hne : ¬ v = 1 := fun e => by
          have := List.all_eq_true.mp (hv.mp e) t (List.mem_of_getElem? ht)
          rw [u2.mp (by omega)] at this
          cases this
        obtain rfl : v = 0 := by omega
        refine sd_iconst (v := nI 0) dMO_fits_271 (by decide) ?_
        exact sd_zret dMO_fits_272 rfl (Or.inl rfl) (Nat.le_refl _) (Nat.le_refl _) ⟨rfl, rfl, rfl⟩
