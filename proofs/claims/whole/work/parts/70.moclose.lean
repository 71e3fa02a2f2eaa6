/-! ===== the model: close ===== -/
/-- what is still to be done, the next one at the end -/
def sk (D : fx_D) (l : List Nat) : Prop := ∀ (i v : Nat), l[i]? = some v → D.1 29 i = nI v
theorem sk_push {D : fx_D} {l : List Nat} {v : Nat} (h : sk D l) : sk (fx_ua D 29 l.length (nI v)) (l ++ [v]) := by
  intro i w hi
  rw [ua_at]
  by_cases hl : i < l.length
  · rw [if_neg (by omega)]
    rw [List.getElem?_append_left hl] at hi
    exact h i w hi
  · have hgl := getE_lt hi
    rw [List.length_append, List.length_singleton] at hgl
    rw [List.getElem?_append_right (by omega), show i - l.length = 0 by omega] at hi
    cases hi
    rw [if_pos (by omega)]
theorem sk_pop {D : fx_D} {l : List Nat} {v : Nat} (h : sk D (l ++ [v])) : sk D l := fun i w hi => h i w (by rw [List.getElem?_append_left (getE_lt hi)]; exact hi)
theorem sk_top {D : fx_D} {l : List Nat} {v : Nat} (h : sk D (l ++ [v])) : D.1 29 l.length = nI v := h l.length v (by rw [List.getElem?_append_right (Nat.le_refl _), Nat.sub_self]; rfl)
theorem dv_2g : ∀ g, g < 30 → nI (2 * g) / nI 2 = nI g := by decide
theorem rm_2g : ∀ g, g < 30 → nI (2 * g) - nI (2 * g) / nI 2 * nI 2 = nI 0 := by decide
theorem dv_2g1 : ∀ g, g < 30 → nI (2 * g + 1) / nI 2 = nI g := by decide
theorem rm_2g1 : ∀ g, g < 30 → nI (2 * g + 1) - nI (2 * g + 1) / nI 2 * nI 2 = nI 1 := by decide
theorem ix_sub (m : Nat) : nI m - nI 1 = ix m := by
  cases m with
  | zero => decide
  | succ m => exact pk_sub (by omega)
/-- D' differs from D in what is to be done -/
def mo_f29 (D D' : fx_D) : Prop := (∀ x, x ≠ 29 → D'.1 x = D.1 x) ∧ D'.2 = D.2
theorem mo_f29.rf (D : fx_D) : mo_f29 D D := ⟨fun _ _ => rfl, rfl⟩
theorem mo_f29.tr {D D' D2 : fx_D} (h : mo_f29 D D') (h2 : mo_f29 D' D2) : mo_f29 D D2 := ⟨fun x a => (h2.1 x a).trans (h.1 x a), h2.2.trans h.2⟩
theorem mo_f29.ua (D : fx_D) {i : Nat} {v : Int32} : mo_f29 D (fx_ua D 29 i v) := ⟨fun x hx => by simp [fx_ua, hx], rfl⟩
theorem mo_R_arr {S : st_S} {D D' : fx_D} (hR : mo_R S D) (h1 : ∀ x, x < 22 → D'.1 x = D.1 x) (h2 : D'.2 = D.2) : mo_R S D' := by
  obtain ⟨r1, r2, r3, r4, r5, r6, r7, r8⟩ := hR
  have fr : ∀ q l, mo_row D q l → mo_row D' q l := fun q l h => ⟨h.1, by rw [h1 3 (by omega)]; exact h.2.1, fun k x hx => by rw [h1 1 (by omega), h1 2 (by omega)]; exact h.2.2 k x hx⟩
  refine ⟨fun v hv => ?_, ⟨r2.1, by rw [h2]; exact r2.2.1, fun t l ht => ⟨fr t l (r2.2.2 t l ht).1, (r2.2.2 t l ht).2⟩⟩, fun q a b => ?_, ⟨r4.1, by rw [h2]; exact r4.2.1, fun k x hx => ?_⟩, ⟨r5.1, by rw [h2]; exact r5.2.1, fun p h hp => ?_⟩, ⟨r6.1, by rw [h2]; exact r6.2.1, fun g q hg => ?_⟩, ⟨r7.1, by rw [h2]; exact r7.2.1, fun k g hg => ?_⟩, ⟨r8.1, by rw [h2]; exact r8.2.1, fun k g hg => ?_⟩⟩
  · rw [h1 4 (by omega)]; exact r1 v hv
  · obtain ⟨k, k1, k2⟩ := r3 q a b
    exact ⟨k, k1, by rw [h1 3 (by omega)]; exact k2⟩
  · rw [h1 5 (by omega)]; exact r4.2.2 k x hx
  · rw [h1 6 (by omega), h1 7 (by omega), h1 8 (by omega), h1 9 (by omega), h1 10 (by omega), h1 11 (by omega)]
    exact r5.2.2 p h hp
  · rw [h1 13 (by omega), h1 14 (by omega), h1 15 (by omega), h1 16 (by omega), h1 17 (by omega), h1 18 (by omega), h1 19 (by omega)]
    exact r6.2.2 g q hg
  · rw [h1 20 (by omega)]; exact r7.2.2 k g hg
  · rw [h1 21 (by omega)]; exact r8.2.2 k g hg
/-- the kids, last first -/
def kd (n : Nat) : Nat → List Nat
  | 0 => []
  | m + 1 => 2 * (n + m) :: kd n m
theorem dMO_close_0 : decode prog_13_method_68_code 0 = .ok (.aload_n 0, 1) := by decide +kernel
theorem dMO_close_1 : decode prog_13_method_68_code 1 = .ok (.getfield 270, 3) := by decide +kernel
theorem dMO_close_4 : decode prog_13_method_68_code 4 = .ok (.ifCond .eq (10), 3) := by decide +kernel
theorem dMO_close_7 : decode prog_13_method_68_code 7 = .ok (.aload_n 0, 1) := by decide +kernel
theorem dMO_close_8 : decode prog_13_method_68_code 8 = .ok (.getfield 273, 3) := by decide +kernel
theorem dMO_close_11 : decode prog_13_method_68_code 11 = .ok (.ifCond .le (5), 3) := by decide +kernel
theorem dMO_close_14 : decode prog_13_method_68_code 14 = .ok (.iconst (-1), 1) := by decide +kernel
theorem dMO_close_15 : decode prog_13_method_68_code 15 = .ok (.ireturn, 1) := by decide +kernel
theorem dMO_close_16 : decode prog_13_method_68_code 16 = .ok (.iconst 0, 1) := by decide +kernel
theorem dMO_close_17 : decode prog_13_method_68_code 17 = .ok (.istore_n 1, 1) := by decide +kernel
theorem dMO_close_18 : decode prog_13_method_68_code 18 = .ok (.iconst 0, 1) := by decide +kernel
theorem dMO_close_19 : decode prog_13_method_68_code 19 = .ok (.istore_n 2, 1) := by decide +kernel
theorem dMO_close_20 : decode prog_13_method_68_code 20 = .ok (.iload_n 2, 1) := by decide +kernel
theorem dMO_close_21 : decode prog_13_method_68_code 21 = .ok (.aload_n 0, 1) := by decide +kernel
theorem dMO_close_22 : decode prog_13_method_68_code 22 = .ok (.getfield 270, 3) := by decide +kernel
theorem dMO_close_25 : decode prog_13_method_68_code 25 = .ok (.if_icmp .ge (23), 3) := by decide +kernel
theorem dMO_close_28 : decode prog_13_method_68_code 28 = .ok (.aload_n 0, 1) := by decide +kernel
theorem dMO_close_29 : decode prog_13_method_68_code 29 = .ok (.getfield 55, 3) := by decide +kernel
theorem dMO_close_32 : decode prog_13_method_68_code 32 = .ok (.iload_n 2, 1) := by decide +kernel
theorem dMO_close_33 : decode prog_13_method_68_code 33 = .ok (.iaload, 1) := by decide +kernel
theorem dMO_close_34 : decode prog_13_method_68_code 34 = .ok (.bipush (8), 2) := by decide +kernel
theorem dMO_close_36 : decode prog_13_method_68_code 36 = .ok (.if_icmp .eq (6), 3) := by decide +kernel
theorem dMO_close_39 : decode prog_13_method_68_code 39 = .ok (.iinc 1 (1), 3) := by decide +kernel
theorem dMO_close_42 : decode prog_13_method_68_code 42 = .ok (.iinc 2 (1), 3) := by decide +kernel
theorem dMO_close_45 : decode prog_13_method_68_code 45 = .ok (.goto (-25), 3) := by decide +kernel
theorem dMO_close_48 : decode prog_13_method_68_code 48 = .ok (.aload_n 0, 1) := by decide +kernel
theorem dMO_close_49 : decode prog_13_method_68_code 49 = .ok (.getfield 148, 3) := by decide +kernel
theorem dMO_close_52 : decode prog_13_method_68_code 52 = .ok (.iload_n 1, 1) := by decide +kernel
theorem dMO_close_53 : decode prog_13_method_68_code 53 = .ok (.iadd, 1) := by decide +kernel
theorem dMO_close_54 : decode prog_13_method_68_code 54 = .ok (.bipush (40), 2) := by decide +kernel
theorem dMO_close_56 : decode prog_13_method_68_code 56 = .ok (.if_icmp .le (6), 3) := by decide +kernel
theorem dMO_close_59 : decode prog_13_method_68_code 59 = .ok (.bipush (-6), 2) := by decide +kernel
theorem dMO_close_61 : decode prog_13_method_68_code 61 = .ok (.ireturn, 1) := by decide +kernel
theorem dMO_close_62 : decode prog_13_method_68_code 62 = .ok (.iconst 0, 1) := by decide +kernel
theorem dMO_close_63 : decode prog_13_method_68_code 63 = .ok (.istore_n 2, 1) := by decide +kernel
theorem dMO_close_64 : decode prog_13_method_68_code 64 = .ok (.aload_n 0, 1) := by decide +kernel
theorem dMO_close_65 : decode prog_13_method_68_code 65 = .ok (.getfield 94, 3) := by decide +kernel
theorem dMO_close_68 : decode prog_13_method_68_code 68 = .ok (.iload_n 2, 1) := by decide +kernel
theorem dMO_close_69 : decode prog_13_method_68_code 69 = .ok (.iinc 2 (1), 3) := by decide +kernel
theorem dMO_close_72 : decode prog_13_method_68_code 72 = .ok (.iconst 0, 1) := by decide +kernel
theorem dMO_close_73 : decode prog_13_method_68_code 73 = .ok (.iastore, 1) := by decide +kernel
theorem dMO_close_74 : decode prog_13_method_68_code 74 = .ok (.iload_n 2, 1) := by decide +kernel
theorem dMO_close_75 : decode prog_13_method_68_code 75 = .ok (.ifCond .le (118), 3) := by decide +kernel
theorem dMO_close_78 : decode prog_13_method_68_code 78 = .ok (.aload_n 0, 1) := by decide +kernel
theorem dMO_close_79 : decode prog_13_method_68_code 79 = .ok (.getfield 94, 3) := by decide +kernel
theorem dMO_close_82 : decode prog_13_method_68_code 82 = .ok (.iinc 2 (-1), 3) := by decide +kernel
theorem dMO_close_85 : decode prog_13_method_68_code 85 = .ok (.iload_n 2, 1) := by decide +kernel
theorem dMO_close_86 : decode prog_13_method_68_code 86 = .ok (.iaload, 1) := by decide +kernel
theorem dMO_close_87 : decode prog_13_method_68_code 87 = .ok (.iconst 2, 1) := by decide +kernel
theorem dMO_close_88 : decode prog_13_method_68_code 88 = .ok (.idiv, 1) := by decide +kernel
theorem dMO_close_89 : decode prog_13_method_68_code 89 = .ok (.istore_n 3, 1) := by decide +kernel
theorem dMO_close_90 : decode prog_13_method_68_code 90 = .ok (.aload_n 0, 1) := by decide +kernel
theorem dMO_close_91 : decode prog_13_method_68_code 91 = .ok (.getfield 94, 3) := by decide +kernel
theorem dMO_close_94 : decode prog_13_method_68_code 94 = .ok (.iload_n 2, 1) := by decide +kernel
theorem dMO_close_95 : decode prog_13_method_68_code 95 = .ok (.iaload, 1) := by decide +kernel
theorem dMO_close_96 : decode prog_13_method_68_code 96 = .ok (.iconst 2, 1) := by decide +kernel
theorem dMO_close_97 : decode prog_13_method_68_code 97 = .ok (.irem, 1) := by decide +kernel
theorem dMO_close_98 : decode prog_13_method_68_code 98 = .ok (.ifCond .ne (61), 3) := by decide +kernel
theorem dMO_close_101 : decode prog_13_method_68_code 101 = .ok (.aload_n 0, 1) := by decide +kernel
theorem dMO_close_102 : decode prog_13_method_68_code 102 = .ok (.getfield 94, 3) := by decide +kernel
theorem dMO_close_105 : decode prog_13_method_68_code 105 = .ok (.iload_n 2, 1) := by decide +kernel
theorem dMO_close_106 : decode prog_13_method_68_code 106 = .ok (.iinc 2 (1), 3) := by decide +kernel
theorem dMO_close_109 : decode prog_13_method_68_code 109 = .ok (.iconst 2, 1) := by decide +kernel
theorem dMO_close_110 : decode prog_13_method_68_code 110 = .ok (.iload_n 3, 1) := by decide +kernel
theorem dMO_close_111 : decode prog_13_method_68_code 111 = .ok (.imul, 1) := by decide +kernel
theorem dMO_close_112 : decode prog_13_method_68_code 112 = .ok (.iconst 1, 1) := by decide +kernel
theorem dMO_close_113 : decode prog_13_method_68_code 113 = .ok (.iadd, 1) := by decide +kernel
theorem dMO_close_114 : decode prog_13_method_68_code 114 = .ok (.iastore, 1) := by decide +kernel
theorem dMO_close_115 : decode prog_13_method_68_code 115 = .ok (.aload_n 0, 1) := by decide +kernel
theorem dMO_close_116 : decode prog_13_method_68_code 116 = .ok (.getfield 64, 3) := by decide +kernel
theorem dMO_close_119 : decode prog_13_method_68_code 119 = .ok (.iload_n 3, 1) := by decide +kernel
theorem dMO_close_120 : decode prog_13_method_68_code 120 = .ok (.iaload, 1) := by decide +kernel
theorem dMO_close_121 : decode prog_13_method_68_code 121 = .ok (.iconst 1, 1) := by decide +kernel
theorem dMO_close_122 : decode prog_13_method_68_code 122 = .ok (.isub, 1) := by decide +kernel
theorem dMO_close_123 : decode prog_13_method_68_code 123 = .ok (.istore 4, 2) := by decide +kernel
theorem dMO_close_125 : decode prog_13_method_68_code 125 = .ok (.iload 4, 2) := by decide +kernel
theorem dMO_close_127 : decode prog_13_method_68_code 127 = .ok (.ifCond .lt (29), 3) := by decide +kernel
theorem dMO_close_130 : decode prog_13_method_68_code 130 = .ok (.aload_n 0, 1) := by decide +kernel
theorem dMO_close_131 : decode prog_13_method_68_code 131 = .ok (.getfield 94, 3) := by decide +kernel
theorem dMO_close_134 : decode prog_13_method_68_code 134 = .ok (.iload_n 2, 1) := by decide +kernel
theorem dMO_close_135 : decode prog_13_method_68_code 135 = .ok (.iinc 2 (1), 3) := by decide +kernel
theorem dMO_close_138 : decode prog_13_method_68_code 138 = .ok (.iconst 2, 1) := by decide +kernel
theorem dMO_close_139 : decode prog_13_method_68_code 139 = .ok (.aload_n 0, 1) := by decide +kernel
theorem dMO_close_140 : decode prog_13_method_68_code 140 = .ok (.getfield 61, 3) := by decide +kernel
theorem dMO_close_143 : decode prog_13_method_68_code 143 = .ok (.iload_n 3, 1) := by decide +kernel
theorem dMO_close_144 : decode prog_13_method_68_code 144 = .ok (.iaload, 1) := by decide +kernel
theorem dMO_close_145 : decode prog_13_method_68_code 145 = .ok (.iload 4, 2) := by decide +kernel
theorem dMO_close_147 : decode prog_13_method_68_code 147 = .ok (.iadd, 1) := by decide +kernel
theorem dMO_close_148 : decode prog_13_method_68_code 148 = .ok (.imul, 1) := by decide +kernel
theorem dMO_close_149 : decode prog_13_method_68_code 149 = .ok (.iastore, 1) := by decide +kernel
theorem dMO_close_150 : decode prog_13_method_68_code 150 = .ok (.iinc 4 (-1), 3) := by decide +kernel
theorem dMO_close_153 : decode prog_13_method_68_code 153 = .ok (.goto (-28), 3) := by decide +kernel
theorem dMO_close_156 : decode prog_13_method_68_code 156 = .ok (.goto (34), 3) := by decide +kernel
theorem dMO_close_159 : decode prog_13_method_68_code 159 = .ok (.aload_n 0, 1) := by decide +kernel
theorem dMO_close_160 : decode prog_13_method_68_code 160 = .ok (.getfield 73, 3) := by decide +kernel
theorem dMO_close_163 : decode prog_13_method_68_code 163 = .ok (.iload_n 3, 1) := by decide +kernel
theorem dMO_close_164 : decode prog_13_method_68_code 164 = .ok (.aload_n 0, 1) := by decide +kernel
theorem dMO_close_165 : decode prog_13_method_68_code 165 = .ok (.getfield 55, 3) := by decide +kernel
theorem dMO_close_168 : decode prog_13_method_68_code 168 = .ok (.iload_n 3, 1) := by decide +kernel
theorem dMO_close_169 : decode prog_13_method_68_code 169 = .ok (.iaload, 1) := by decide +kernel
theorem dMO_close_170 : decode prog_13_method_68_code 170 = .ok (.bipush (8), 2) := by decide +kernel
theorem dMO_close_172 : decode prog_13_method_68_code 172 = .ok (.if_icmp .ne (12), 3) := by decide +kernel
theorem dMO_close_175 : decode prog_13_method_68_code 175 = .ok (.aload_n 0, 1) := by decide +kernel
theorem dMO_close_176 : decode prog_13_method_68_code 176 = .ok (.getfield 58, 3) := by decide +kernel
theorem dMO_close_179 : decode prog_13_method_68_code 179 = .ok (.iload_n 3, 1) := by decide +kernel
theorem dMO_close_180 : decode prog_13_method_68_code 180 = .ok (.iaload, 1) := by decide +kernel
theorem dMO_close_181 : decode prog_13_method_68_code 181 = .ok (.goto (8), 3) := by decide +kernel
theorem dMO_close_184 : decode prog_13_method_68_code 184 = .ok (.aload_n 0, 1) := by decide +kernel
theorem dMO_close_185 : decode prog_13_method_68_code 185 = .ok (.iload_n 3, 1) := by decide +kernel
theorem dMO_close_186 : decode prog_13_method_68_code 186 = .ok (.invokevirtual 296, 3) := by decide +kernel
theorem dMO_close_189 : decode prog_13_method_68_code 189 = .ok (.iastore, 1) := by decide +kernel
theorem dMO_close_190 : decode prog_13_method_68_code 190 = .ok (.goto (-116), 3) := by decide +kernel
theorem dMO_close_193 : decode prog_13_method_68_code 193 = .ok (.aload_n 0, 1) := by decide +kernel
theorem dMO_close_194 : decode prog_13_method_68_code 194 = .ok (.iconst 0, 1) := by decide +kernel
theorem dMO_close_195 : decode prog_13_method_68_code 195 = .ok (.putfield 270, 3) := by decide +kernel
theorem dMO_close_198 : decode prog_13_method_68_code 198 = .ok (.aload_n 0, 1) := by decide +kernel
theorem dMO_close_199 : decode prog_13_method_68_code 199 = .ok (.iconst 0, 1) := by decide +kernel
theorem dMO_close_200 : decode prog_13_method_68_code 200 = .ok (.putfield 275, 3) := by decide +kernel
theorem dMO_close_203 : decode prog_13_method_68_code 203 = .ok (.aload_n 0, 1) := by decide +kernel
theorem dMO_close_204 : decode prog_13_method_68_code 204 = .ok (.getfield 73, 3) := by decide +kernel
theorem dMO_close_207 : decode prog_13_method_68_code 207 = .ok (.iconst 0, 1) := by decide +kernel
theorem dMO_close_208 : decode prog_13_method_68_code 208 = .ok (.iaload, 1) := by decide +kernel
theorem dMO_close_209 : decode prog_13_method_68_code 209 = .ok (.ireturn, 1) := by decide +kernel
theorem l_MO_kids {G : sd_G} {o : Nat} {h0 : sd_H} {nx g n : Nat} {Q : sd_Q} (hB : G.2.1 ≤ o) (hg : g < 30) : ∀ (m : Nat) (stk : List Nat) (D : fx_D), stk.length + m ≤ 400 → D.1 18 g = nI n → sk D stk → (∀ D' : fx_D, mo_f29 D D' → sk D' (stk ++ kd n m) → sd_W G mMO_close 3 0 0 Q 74 [(0, .ref (o + 0)), (2, .int (nI (stk.length + m)))] [] (fx_h G.1.2 mo_S o D' h0) nx 0 0) → sd_W G mMO_close 3 0 0 Q 125 [(0, .ref (o + 0)), (2, .int (nI stk.length)), (3, .int (nI g)), (4, .int (ix m))] [] (fx_h G.1.2 mo_S o D h0) nx 0 0 := by
  intro m
  induction m with
  | zero =>
    intro stk D hl d18 hsk K
    have K' := K D (mo_f29.rf D) (by rw [kd, List.append_nil]; exact hsk)
    rw [Nat.add_zero] at K'
    refine sd_iload dMO_close_125 rfl ?_
    refine sd_if_lt 156 dMO_close_127 (by decide) (fun c127 => ?_) (fun c127 => ?_)
    ·
      refine sd_goto 190 dMO_close_156 (by decide) ?_
      refine sd_goto 74 dMO_close_190 (by decide) ?_
      refine sd_locp (al' := [(0, .ref (o + (0))), (2, .int (nI (stk.length)))]) [0, 1] rfl ?_
      exact K'
    ·
      exact absurd (show ix 0 < 0 by decide) c127
  | succ m ih =>
    intro stk D hl d18 hsk K
    rw [show ix (m + 1) = nI m from rfl]
    have ih' := ih (stk ++ [2 * (n + m)]) (fx_ua D 29 stk.length (nI (2 * (n + m)))) (by rw [List.length_append, List.length_singleton]; omega) (by simpa [fx_ua] using d18) (sk_push hsk) (fun D' a1 a2 => by
      have h := K D' ((mo_f29.ua D).tr a1) (by rw [kd]; simpa using a2)
      rw [List.length_append, List.length_singleton, show stk.length + 1 + m = stk.length + (m + 1) by omega]
      exact h)
    rw [List.length_append, List.length_singleton] at ih'
    refine sd_iload dMO_close_125 rfl ?_
    refine nn_if_lt dMO_close_127 156 (by decide) (by omega) ?_
    refine sd_aload_n dMO_close_130 rfl rfl ?_
    refine fx_getr 10 36 (29) dMO_close_131 fMO_94 rfl rfl ?_
    refine sd_iload_n dMO_close_134 rfl rfl ?_
    refine nn_iinc 1 dMO_close_135 rfl (by decide) ?_
    refine sd_iconst (v := nI 2) dMO_close_138 (by decide) ?_
    refine sd_aload_n dMO_close_139 rfl rfl ?_
    refine fx_getr 10 22 (18) dMO_close_140 fMO_61 rfl rfl ?_
    refine sd_iload_n dMO_close_143 rfl rfl ?_
    refine fx_ialdv (v := (nI (n))) (g) dMO_close_144 rfl rfl (by omega) (by decide) (d18) ?_
    refine sd_iload dMO_close_145 rfl ?_
    refine nn_iadd dMO_close_147 ?_
    refine nn_imul dMO_close_148 ?_
    refine fx_iast (stk.length) dMO_close_149 rfl rfl (by omega) (by decide) hB ?_
    refine sd_iinc (ix m) dMO_close_150 rfl (ix_dec m) (by decide) ?_
    refine sd_goto 125 dMO_close_153 (by decide) ?_
    refine sd_locp (al' := [(0, .ref (o + (0))), (2, .int (nI (stk.length + 1))), (3, .int (nI (g))), (4, .int (ix m))]) [2, 1, 3, 0] rfl ?_
    exact ih'
theorem p_MO_even {G : sd_G} {o : Nat} {D : fx_D} {h0 : sd_H} {nx g n m : Nat} {stk : List Nat} {Q : sd_Q} (hB : G.2.1 ≤ o) (hg : g < 30) (hl : stk.length + 3 ≤ 400) (hm : m ≤ 2) (d18 : D.1 18 g = nI n) (d19 : D.1 19 g = nI m) (hsk : sk D (stk ++ [2 * g])) (K : ∀ D' : fx_D, mo_f29 D D' → sk D' (stk ++ [2 * g + 1] ++ kd n m) → sd_W G mMO_close 3 0 0 Q 74 [(0, .ref (o + 0)), (2, .int (nI (stk.length + 1 + m)))] [] (fx_h G.1.2 mo_S o D' h0) nx 0 0) : sd_W G mMO_close 3 0 0 Q 74 [(0, .ref (o + 0)), (2, .int (nI (stk.length + 1)))] [] (fx_h G.1.2 mo_S o D h0) nx 0 0 := by
  have ht := sk_top hsk
  have k := l_MO_kids (G := G) (o := o) (h0 := h0) (nx := nx) (g := g) (n := n) (Q := Q) hB hg m (stk ++ [2 * g + 1]) (fx_ua D 29 stk.length (nI (2 * g + 1))) (by rw [List.length_append, List.length_singleton]; omega) (by simpa [fx_ua] using d18) (sk_push (sk_pop hsk)) (fun D' a1 a2 => by
    rw [List.length_append, List.length_singleton]
    exact K D' ((mo_f29.ua D).tr a1) a2)
  rw [List.length_append, List.length_singleton] at k
  refine sd_iload_n dMO_close_74 rfl rfl ?_
  refine nn_if_le 193 dMO_close_75 (by decide) (by omega) (fun c75 => ?_) (fun c75 => ?_)
  ·
    exact absurd c75 (by omega)
  ·
    refine sd_aload_n dMO_close_78 rfl rfl ?_
    refine fx_getr 10 36 (29) dMO_close_79 fMO_94 rfl rfl ?_
    refine nn_idec dMO_close_82 rfl (by omega) (by decide) ?_
    refine sd_iload_n dMO_close_85 rfl rfl ?_
    refine fx_ialdv (v := (nI (2 * g))) (stk.length + 1 - 1) dMO_close_86 rfl rfl (by omega) (by decide) ((by rw [Nat.add_sub_cancel]; exact ht)) ?_
    refine sd_iconst (v := nI 2) dMO_close_87 (by decide) ?_
    refine sd_idiv dMO_close_88 (by decide) ?_
    rw [show ((nI (2 * g)) / (nI (2))) = (nI (g)) from dv_2g g hg]
    refine sd_istore_n dMO_close_89 rfl (by decide) ?_
    refine sd_aload_n dMO_close_90 rfl rfl ?_
    refine fx_getr 10 36 (29) dMO_close_91 fMO_94 rfl rfl ?_
    refine sd_iload_n dMO_close_94 rfl rfl ?_
    refine fx_ialdv (v := (nI (2 * g))) (stk.length + 1 - 1) dMO_close_95 rfl rfl (by omega) (by decide) ((by rw [Nat.add_sub_cancel]; exact ht)) ?_
    refine sd_iconst (v := nI 2) dMO_close_96 (by decide) ?_
    refine sd_irem dMO_close_97 (by decide) ?_
    rw [show ((nI (2 * g)) - (nI (2 * g)) / (nI (2)) * (nI (2))) = (nI (0)) from rm_2g g hg]
    refine nn_if_ne 159 dMO_close_98 (by decide) (by decide) (fun c => absurd c (by decide)) (fun _ => ?_)
    refine sd_aload_n dMO_close_101 rfl rfl ?_
    refine fx_getr 10 36 (29) dMO_close_102 fMO_94 rfl rfl ?_
    refine sd_iload_n dMO_close_105 rfl rfl ?_
    refine nn_iinc 1 dMO_close_106 rfl (by decide) ?_
    refine sd_iconst (v := nI 2) dMO_close_109 (by decide) ?_
    refine sd_iload_n dMO_close_110 rfl rfl ?_
    refine nn_imul dMO_close_111 ?_
    refine sd_iconst (v := nI 1) dMO_close_112 (by decide) ?_
    refine nn_iadd dMO_close_113 ?_
    refine fx_iast (stk.length + 1 - 1) dMO_close_114 rfl rfl (by omega) (by decide) hB ?_
    refine sd_aload_n dMO_close_115 rfl rfl ?_
    refine fx_getr 10 23 (19) dMO_close_116 fMO_64 rfl rfl ?_
    refine sd_iload_n dMO_close_119 rfl rfl ?_
    refine fx_ialdv (v := (nI (m))) (g) dMO_close_120 rfl rfl (by omega) (by decide) ((by simpa [fx_ua] using d19)) ?_
    refine sd_iconst (v := nI 1) dMO_close_121 (by decide) ?_
    refine sd_isub dMO_close_122 ?_
    rw [show ((nI (m)) - (nI (1))) = (ix m) from ix_sub m]
    refine sd_istore dMO_close_123 (by decide) ?_
    refine sd_locp (al' := [(0, .ref (o + (0))), (2, .int (nI (stk.length + 1 - 1 + 1))), (3, .int (nI (g))), (4, .int (ix m))]) [3, 1, 2, 0] rfl ?_
    rw [Nat.add_sub_cancel]
    exact k
theorem p_MO_odd8 {G : sd_G} {o : Nat} {D : fx_D} {h0 : sd_H} {nx g x : Nat} {stk : List Nat} {Q : sd_Q} (hB : G.2.1 ≤ o) (hg : g < 30) (hl : stk.length + 3 ≤ 400) (d16 : D.1 16 g = nI 8) (d17 : D.1 17 g = nI x) (hsk : sk D (stk ++ [2 * g + 1])) (K : sd_W G mMO_close 3 0 0 Q 74 [(0, .ref (o + 0)), (2, .int (nI stk.length))] [] (fx_h G.1.2 mo_S o (fx_ua D 22 g (nI x)) h0) nx 0 0) : sd_W G mMO_close 3 0 0 Q 74 [(0, .ref (o + 0)), (2, .int (nI (stk.length + 1)))] [] (fx_h G.1.2 mo_S o D h0) nx 0 0 := by
  have ht := sk_top hsk
  refine sd_iload_n dMO_close_74 rfl rfl ?_
  refine nn_if_le 193 dMO_close_75 (by decide) (by omega) (fun c75 => ?_) (fun c75 => ?_)
  ·
    exact absurd c75 (by omega)
  ·
    refine sd_aload_n dMO_close_78 rfl rfl ?_
    refine fx_getr 10 36 (29) dMO_close_79 fMO_94 rfl rfl ?_
    refine nn_idec dMO_close_82 rfl (by omega) (by decide) ?_
    refine sd_iload_n dMO_close_85 rfl rfl ?_
    refine fx_ialdv (v := (nI (2 * g + 1))) (stk.length + 1 - 1) dMO_close_86 rfl rfl (by omega) (by decide) ((by rw [Nat.add_sub_cancel]; exact ht)) ?_
    refine sd_iconst (v := nI 2) dMO_close_87 (by decide) ?_
    refine sd_idiv dMO_close_88 (by decide) ?_
    rw [show ((nI (2 * g + 1)) / (nI (2))) = (nI (g)) from dv_2g1 g hg]
    refine sd_istore_n dMO_close_89 rfl (by decide) ?_
    refine sd_aload_n dMO_close_90 rfl rfl ?_
    refine fx_getr 10 36 (29) dMO_close_91 fMO_94 rfl rfl ?_
    refine sd_iload_n dMO_close_94 rfl rfl ?_
    refine fx_ialdv (v := (nI (2 * g + 1))) (stk.length + 1 - 1) dMO_close_95 rfl rfl (by omega) (by decide) ((by rw [Nat.add_sub_cancel]; exact ht)) ?_
    refine sd_iconst (v := nI 2) dMO_close_96 (by decide) ?_
    refine sd_irem dMO_close_97 (by decide) ?_
    rw [show ((nI (2 * g + 1)) - (nI (2 * g + 1)) / (nI (2)) * (nI (2))) = (nI (1)) from rm_2g1 g hg]
    refine nn_if_ne 159 dMO_close_98 (by decide) (by decide) (fun _ => ?_) (fun c => absurd c (by decide))
    refine sd_aload_n dMO_close_159 rfl rfl ?_
    refine fx_getr 10 26 (22) dMO_close_160 fMO_73 rfl rfl ?_
    refine sd_iload_n dMO_close_163 rfl rfl ?_
    refine sd_aload_n dMO_close_164 rfl rfl ?_
    refine fx_getr 10 20 (16) dMO_close_165 fMO_55 rfl rfl ?_
    refine sd_iload_n dMO_close_168 rfl rfl ?_
    refine fx_ialdv (v := (nI (8))) (g) dMO_close_169 rfl rfl (by omega) (by decide) (d16) ?_
    refine sd_bipush (v := nI 8) dMO_close_170 (by decide) ?_
    refine nn_icmp_ne 184 dMO_close_172 (by decide) (by decide) (by decide) (fun c => absurd c (by decide)) (fun _ => ?_)
    refine sd_aload_n dMO_close_175 rfl rfl ?_
    refine fx_getr 10 21 (17) dMO_close_176 fMO_58 rfl rfl ?_
    refine sd_iload_n dMO_close_179 rfl rfl ?_
    refine fx_ialdv (v := (nI (x))) (g) dMO_close_180 rfl rfl (by omega) (by decide) (d17) ?_
    refine sd_goto 189 dMO_close_181 (by decide) ?_
    refine fx_iast (g) dMO_close_189 rfl rfl (by omega) (by decide) hB ?_
    refine sd_goto 74 dMO_close_190 (by decide) ?_
    refine sd_locp (al' := [(0, .ref (o + (0))), (2, .int (nI (stk.length + 1 - 1)))]) [2, 1] rfl ?_
    rw [Nat.add_sub_cancel]
    exact K
theorem p_MO_odd {G : sd_G} {o : Nat} {D : fx_D} {h0 : sd_H} {nx g k v : Nat} {stk : List Nat} {Q : sd_Q} {P : fx_D → Prop} (hB : G.2.1 ≤ o) (hg : g < 30) (hl : stk.length + 3 ≤ 400) (hk : k < 9) (hk8 : k ≠ 8) (d16 : D.1 16 g = nI k) (hsk : sk D (stk ++ [2 * g + 1])) (hc : sd_Ct G mMO_derive 2 0 0 [.ref (o + 0), .int (nI g)] (fx_h G.1.2 mo_S o D h0) nx (fx_is G.1.2 mo_S o h0 nx (some (.int (nI v))) P)) (K : ∀ D' : fx_D, P D' → sd_W G mMO_close 3 0 0 Q 74 [(0, .ref (o + 0)), (2, .int (nI stk.length))] [] (fx_h G.1.2 mo_S o (fx_ua D' 22 g (nI v)) h0) nx 0 0) : sd_W G mMO_close 3 0 0 Q 74 [(0, .ref (o + 0)), (2, .int (nI (stk.length + 1)))] [] (fx_h G.1.2 mo_S o D h0) nx 0 0 := by
  have ht := sk_top hsk
  refine sd_iload_n dMO_close_74 rfl rfl ?_
  refine nn_if_le 193 dMO_close_75 (by decide) (by omega) (fun c75 => ?_) (fun c75 => ?_)
  ·
    exact absurd c75 (by omega)
  ·
    refine sd_aload_n dMO_close_78 rfl rfl ?_
    refine fx_getr 10 36 (29) dMO_close_79 fMO_94 rfl rfl ?_
    refine nn_idec dMO_close_82 rfl (by omega) (by decide) ?_
    refine sd_iload_n dMO_close_85 rfl rfl ?_
    refine fx_ialdv (v := (nI (2 * g + 1))) (stk.length + 1 - 1) dMO_close_86 rfl rfl (by omega) (by decide) ((by rw [Nat.add_sub_cancel]; exact ht)) ?_
    refine sd_iconst (v := nI 2) dMO_close_87 (by decide) ?_
    refine sd_idiv dMO_close_88 (by decide) ?_
    rw [show ((nI (2 * g + 1)) / (nI (2))) = (nI (g)) from dv_2g1 g hg]
    refine sd_istore_n dMO_close_89 rfl (by decide) ?_
    refine sd_aload_n dMO_close_90 rfl rfl ?_
    refine fx_getr 10 36 (29) dMO_close_91 fMO_94 rfl rfl ?_
    refine sd_iload_n dMO_close_94 rfl rfl ?_
    refine fx_ialdv (v := (nI (2 * g + 1))) (stk.length + 1 - 1) dMO_close_95 rfl rfl (by omega) (by decide) ((by rw [Nat.add_sub_cancel]; exact ht)) ?_
    refine sd_iconst (v := nI 2) dMO_close_96 (by decide) ?_
    refine sd_irem dMO_close_97 (by decide) ?_
    rw [show ((nI (2 * g + 1)) - (nI (2 * g + 1)) / (nI (2)) * (nI (2))) = (nI (1)) from rm_2g1 g hg]
    refine nn_if_ne 159 dMO_close_98 (by decide) (by decide) (fun _ => ?_) (fun c => absurd c (by decide))
    refine sd_aload_n dMO_close_159 rfl rfl ?_
    refine fx_getr 10 26 (22) dMO_close_160 fMO_73 rfl rfl ?_
    refine sd_iload_n dMO_close_163 rfl rfl ?_
    refine sd_aload_n dMO_close_164 rfl rfl ?_
    refine fx_getr 10 20 (16) dMO_close_165 fMO_55 rfl rfl ?_
    refine sd_iload_n dMO_close_168 rfl rfl ?_
    refine fx_ialdv (v := (nI (k))) (g) dMO_close_169 rfl rfl (by omega) (by decide) (d16) ?_
    refine sd_bipush (v := nI 8) dMO_close_170 (by decide) ?_
    refine nn_icmp_ne 184 dMO_close_172 (by decide) (by omega) (by omega) (fun c172 => ?_) (fun c172 => ?_)
    ·
      refine sd_aload_n dMO_close_184 rfl rfl ?_
      refine sd_iload_n dMO_close_185 rfl rfl ?_
      refine fx_cP 10 sR_MO [.int (nI (g))] [.int (nI (g)), .ref (o + (22))] dMO_close_186 kMO_296 rfl rfl mMO_derive_v (hc) (by decide) (Nat.le_refl _) (Nat.le_refl _) (Nat.le_of_ble_eq_true rfl) rfl (fun D1 hD1 => ?_)
      refine fx_iast (g) dMO_close_189 rfl rfl (by omega) (by decide) hB ?_
      refine sd_goto 74 dMO_close_190 (by decide) ?_
      refine sd_locp (al' := [(0, .ref (o + (0))), (2, .int (nI (stk.length + 1 - 1)))]) [2, 1] rfl ?_
      rw [Nat.add_sub_cancel]
      exact K D1 hD1
    ·
      exact absurd c172 hk8
def st_th' (S : st_S) (th : List st_Th) : st_S := (S.1, S.2.1, S.2.2.1, th, S.2.2.2.2)
theorem cl_go_mono {gl : List st_Gl} (h : tr_ok gl) (f g : Nat) (th : List st_Th) : th.length ≤ (cl_go gl f g th).1.length := by
  rw [cl_go_len h]
  omega
theorem l_MO_close {G : sd_G} {o : Nat} {h0 : sd_H} {nx : Nat} {S : st_S} {dn : List Nat} {Q : sd_Q} (hB : G.2.1 ≤ o) (hT64 : (st_T S).length ≤ 64) (hgi : gi (st_T S).length (st_th S) (st_gl S) [] dn) (h30 : (st_gl S).length ≤ 30) : ∀ (f g : Nat) (th : List st_Th) (stk : List Nat) (D : fx_D) (q : st_Gl), (st_gl S)[g]? = some q → (st_gl S).length ≤ g + f → (∃ X, th = st_th S ++ X) → thi (st_T S).length th → stk.length + 3 * f ≤ 300 → (cl_go (st_gl S) f g th).1.length ≤ 40 → mo_R (st_th' S th) D → sk D (stk ++ [2 * g]) →
    (∀ D' : fx_D, mo_R (st_th' S (cl_go (st_gl S) f g th).1) D' → sk D' stk → D'.1 22 g = nI (cl_go (st_gl S) f g th).2 → (∀ j, j < g → D'.1 22 j = D.1 22 j) → sd_W G mMO_close 3 0 0 Q 74 [(0, .ref (o + 0)), (2, .int (nI stk.length))] [] (fx_h G.1.2 mo_S o D' h0) nx 0 0) →
    sd_W G mMO_close 3 0 0 Q 74 [(0, .ref (o + 0)), (2, .int (nI (stk.length + 1)))] [] (fx_h G.1.2 mo_S o D h0) nx 0 0 := by
  intro f
  induction f with
  | zero =>
    intro g th stk D q hq hf
    have := getE_lt hq
    omega
  | succ f ih =>
    intro g th stk D q hq hf hX hth hst h40 hR hsk K
    have htr := hgi.tr
    obtain ⟨k, x, n, hw, hk, hgn, hN⟩ := htr.1 g q hq
    obtain ⟨-, -, -, hc⟩ := hgi.2.2.2.2.1 g q k x n hq hw
    obtain ⟨b1, b2, b3⟩ := hgi.1 g q hq
    have hgN := getE_lt hq
    have good := cl_good hgi (f + 1) g th q hq hf hX hth
    obtain ⟨t, hs, w⟩ := q
    simp only at hw
    subst hw
    have hql : ∀ {D' : fx_D} {th' : List st_Th}, mo_R (st_th' S th') D' → D'.1 16 g = nI k ∧ (k = 8 → D'.1 17 g = nI x) ∧ D'.1 18 g = nI n ∧ D'.1 19 g = nI (gk k) := fun h => by
      obtain ⟨-, -, -, -, q2⟩ := h.2.2.2.2.2.1.2.2 g _ hq
      exact q2
    obtain ⟨q16, q17, q18, q19⟩ := hql hR
    by_cases h8 : k = 8
    · subst h8
      rw [cl_go_8 hq] at K
      refine p_MO_even (m := gk 8) hB (by omega) (by omega) (by decide) q18 q19 hsk (fun D1 a1 a2 => ?_)
      have hR1 := mo_R_arr hR (fun y hy => a1.1 y (by omega)) a1.2
      obtain ⟨r16, r17, r18, r19⟩ := hql hR1
      refine p_MO_odd8 hB (by omega) (by omega) r16 (r17 rfl) (by rw [show gk 8 = 0 from rfl, kd, List.append_nil] at a2; exact a2) (K _ (mo_R_arr hR1 (fun y hy => by simp [fx_ua, show ¬ y = 22 by omega]) rfl) (fun i v hi => ?_) (by simp [fx_ua, upd]) (fun j hj => ?_))
      · simp only [fx_ua, show ¬ (29 : Nat) = 22 by decide, if_false]
        rw [show gk 8 = 0 from rfl, kd, List.append_nil] at a2
        exact sk_pop a2 i v hi
      · rw [ua_at, if_neg (by omega), a1.1 22 (by decide)]
    · -- the last step: the theorem is made
      have fin : ∀ (D1 : fx_D) (th' : List st_Th) (h : st_Th), mo_R (st_th' S th') D1 → sk D1 (stk ++ [2 * g + 1]) → (∀ j, j < g → D1.1 22 j = D.1 22 j) → cl_go (st_gl S) (f + 1) g th = (th' ++ [h], th'.length) → (sd_Ct G mMO_derive 2 0 0 [.ref (o + 0), .int (nI g)] (fx_h G.1.2 mo_S o D1 h0) nx (fx_is G.1.2 mo_S o h0 nx (some (.int (nI th'.length))) (dv_P (st_th' S th') D1 h))) → sd_W G mMO_close 3 0 0 Q 74 [(0, .ref (o + 0)), (2, .int (nI (stk.length + 1)))] [] (fx_h G.1.2 mo_S o D1 h0) nx 0 0 := by
        intro D1 th' h hR1 hsk1 hj1 hgo hct
        obtain ⟨r16, -, -, -⟩ := hql hR1
        refine p_MO_odd hB (by omega) (by omega) hk h8 r16 hsk1 hct (fun D2 hD2 => ?_)
        rw [hgo] at K
        refine K _ (mo_R_arr hD2.1 (fun y hy => by simp [fx_ua, show ¬ y = 22 by omega]) rfl) (fun i v hi => ?_) (by simp [fx_ua, upd]) (fun j hj => ?_)
        · simp only [fx_ua, show ¬ (29 : Nat) = 22 by decide, if_false]
          rw [hD2.2.2]
          exact sk_pop hsk1 i v hi
        · rw [ua_at, if_neg (by omega), hD2.2.1]
          exact hj1 j hj
      have okH : ∀ {th' : List st_Th}, thi (st_T S).length th' → st_okH (st_th' S th') := fun h => h
      have len6 : ∀ (th' : List st_Th) (a b : Option Nat), (∀ u ∈ dv_hyp th' k t a b, u ∈ hs) → (dv_hyp th' k t a b).length ≤ 6 := fun th' a b h => dv_good (q := (t, hs, some (k, x, n))) b3 h (dv_nodup _ _ _ _ _)
      rcases gk_cases hk with ⟨k0, kk⟩ | ⟨k1, kk⟩ | ⟨k2, kk⟩
      · have hgo := cl_go_0 (f := f) (th := th) hq h8 k0
        have hl40 : th.length < 40 := by rw [hgo] at h40; simp at h40; omega
        refine p_MO_even (m := 0) hB (by omega) (by omega) (by omega) q18 (by rw [k0] at q19; exact q19) hsk (fun D1 a1 a2 => ?_)
        have hR1 := mo_R_arr hR (fun y hy => a1.1 y (by omega)) a1.2
        rw [kd, List.append_nil] at a2
        refine fin D1 th _ hR1 a2 (fun j hj => by rw [a1.1 22 (by decide)]) hgo ?_
        by_cases e1 : k = 1
        · exact c_MO_derive1 (S := st_th' S th) hB hR1 hq (by have : t < (st_T S).length := b1; omega) e1 k0 hl40 (len6 _ _ _ (dv_sub0 hc))
        · exact c_MO_derive0 (S := st_th' S th) hB hR1 hq (by have : t < (st_T S).length := b1; omega) (by omega) k0 hl40 (len6 _ _ _ (dv_sub0 hc))
      · have hgo := cl_go_1 (f := f) (th := th) hq h8 k1
        have hn : (st_gl S)[n]? = some (st_gl S)[n] := List.getElem?_eq_getElem (by omega)
        have hl40 : (cl_go (st_gl S) f n th).1.length < 40 := by rw [hgo] at h40; simp at h40; omega
        obtain ⟨-, r2, h1, r3, r4⟩ := cl_good hgi f n th _ hn (by omega) hX hth
        refine p_MO_even (m := 1) hB (by omega) (by omega) (by omega) q18 (by rw [k1] at q19; exact q19) hsk (fun D1 a1 a2 => ?_)
        have hR1 := mo_R_arr hR (fun y hy => a1.1 y (by omega)) a1.2
        have ih1 := ih n th (stk ++ [2 * g + 1]) D1 _ hn (by omega) hX hth (by rw [List.length_append, List.length_singleton]; omega) (by omega) hR1 a2 (fun D2 c1 c2 c3 c4 => by
          rw [List.length_append, List.length_singleton]
          refine fin D2 _ _ c1 c2 (fun j hj => by rw [c4 j (by omega), a1.1 22 (by decide)]) hgo ?_
          exact c_MO_derive4 (S := st_th' S (cl_go (st_gl S) f n th).1) hB c1 (okH r2) hq (by have : t < (st_T S).length := b1; omega) kk k1 (by omega) (getE_lt r3) c3 hl40 (len6 _ _ _ (dv_sub1 hc kk hn r3 r4)))
        rw [List.length_append, List.length_singleton] at ih1
        exact ih1
      · have hgo := cl_go_2 (f := f) (th := th) hq h8 k2
        have hn : (st_gl S)[n]? = some (st_gl S)[n] := List.getElem?_eq_getElem (by omega)
        have hn1 : (st_gl S)[n + 1]? = some (st_gl S)[n + 1] := List.getElem?_eq_getElem (by omega)
        have hl40 : (cl_go (st_gl S) f (n + 1) (cl_go (st_gl S) f n th).1).1.length < 40 := by rw [hgo] at h40; simp at h40; omega
        have hmo := cl_go_mono htr f (n + 1) (cl_go (st_gl S) f n th).1
        obtain ⟨⟨Y, hY⟩, r2, h1, r3, r4⟩ := cl_good hgi f n th _ hn (by omega) hX hth
        have hX2 : ∃ X, (cl_go (st_gl S) f n th).1 = st_th S ++ X := by
          obtain ⟨X, rfl⟩ := hX
          exact ⟨X ++ Y, by rw [hY, List.append_assoc]⟩
        obtain ⟨⟨Z, hZ⟩, s2, h2, s3, s4⟩ := cl_good hgi f (n + 1) (cl_go (st_gl S) f n th).1 _ hn1 (by omega) hX2 r2
        have r3' : (cl_go (st_gl S) f (n + 1) (cl_go (st_gl S) f n th).1).1[(cl_go (st_gl S) f n th).2]? = some h1 := by
          rw [hZ, List.getElem?_append_left (getE_lt r3)]
          exact r3
        refine p_MO_even (m := 2) hB (by omega) (by omega) (by omega) q18 (by rw [k2] at q19; exact q19) hsk (fun D1 a1 a2 => ?_)
        have hR1 := mo_R_arr hR (fun y hy => a1.1 y (by omega)) a1.2
        have a2' : sk D1 (stk ++ [2 * g + 1] ++ [2 * (n + 1)] ++ [2 * n]) := by
          have e : stk ++ [2 * g + 1] ++ kd n 2 = stk ++ [2 * g + 1] ++ [2 * (n + 1)] ++ [2 * n] := by simp [kd]
          rw [← e]
          exact a2
        have ih1 := ih n th (stk ++ [2 * g + 1] ++ [2 * (n + 1)]) D1 _ hn (by omega) hX hth (by simp only [List.length_append, List.length_singleton]; omega) (by omega) hR1 a2' (fun D2 c1 c2 c3 c4 => by
          have ih2 := ih (n + 1) (cl_go (st_gl S) f n th).1 (stk ++ [2 * g + 1]) D2 _ hn1 (by omega) hX2 r2 (by simp only [List.length_append, List.length_singleton]; omega) (by omega) c1 c2 (fun D3 d1 d2 d3 d4 => by
            rw [List.length_append, List.length_singleton]
            refine fin D3 _ _ d1 d2 (fun j hj => by rw [d4 j (by omega), c4 j (by omega), a1.1 22 (by decide)]) hgo ?_
            have c3' : D3.1 22 n = nI (cl_go (st_gl S) f n th).2 := by rw [d4 n (by omega)]; exact c3
            by_cases e7 : k = 7
            · exact c_MO_derive7 (S := st_th' S (cl_go (st_gl S) f (n + 1) (cl_go (st_gl S) f n th).1).1) hB d1 (okH s2) hq (by have : t < (st_T S).length := b1; omega) e7 k2 (by omega) (getE_lt r3') (getE_lt s3) c3' d3 hl40 (len6 _ _ _ (dv_sub2 hc kk hn hn1 r3' s3 r4 s4))
            · exact c_MO_derive2 (S := st_th' S (cl_go (st_gl S) f (n + 1) (cl_go (st_gl S) f n th).1).1) hB d1 (okH s2) hq (by have : t < (st_T S).length := b1; omega) (by omega) k2 (by omega) (getE_lt r3') (getE_lt s3) c3' d3 hl40 (len6 _ _ _ (dv_sub2 hc kk hn hn1 r3' s3 r4 s4)))
          simp only [List.length_append, List.length_singleton] at ih2 ⊢
          exact ih2)
        simp only [List.length_append, List.length_singleton] at ih1
        exact ih1
