/-! ===== the model: rule, its end ===== -/
theorem tl_kp_le {T : List tl_T} {l : tl_T} : tl_kp T l ≤ T.length := by
  unfold tl_kp
  cases hx : T.idxOf? l with
  | some t => obtain ⟨h, -⟩ := List.idxOf?_eq_some_iff.mp hx; exact Nat.le_of_lt h
  | none => exact Nat.le_refl _
theorem tl_kt_pre {T : List tl_T} {l : tl_T} : ∃ X, tl_kt T l = T ++ X := by
  unfold tl_kt
  cases hx : T.idxOf? l with
  | some t => exact ⟨[], by simp⟩
  | none =>
    by_cases h : T.length = 64
    · exact ⟨[], by simp [h]⟩
    · exact ⟨[l], by simp [h]⟩
theorem tl_keeps_pre : ∀ (ls : List tl_T) (T : List tl_T) (rs : List Nat), ∃ X, (tl_keeps T rs ls).1 = T ++ X
  | [], T, rs => ⟨[], by simp [tl_keeps]⟩
  | l :: ls, T, rs => by
    obtain ⟨X, hX⟩ := tl_kt_pre (T := T) (l := l)
    obtain ⟨Y, hY⟩ := tl_keeps_pre ls (tl_kt T l) (if tl_kp T l < 64 then ls_h rs (tl_kp T l) else rs)
    exact ⟨X ++ Y, by rw [tl_keeps, hY, hX, List.append_assoc]⟩
/-- the terms made are forgotten -/
theorem mo_R_back {S : st_S} {D : fx_D} {X : List tl_T} (hR : mo_R (S.1, st_T S ++ X, S.2.2) D) : mo_R S (fx_uf D 0 5 (nI (st_T S).length)) := by
  obtain ⟨r1, r2, r3, r4, r5, r6, r7, r8⟩ := hR
  have fi : ∀ i, i ≠ 5 → (fx_uf D 0 5 (nI (st_T S).length)).2.1 0 i = D.2.1 0 i := fun i h1 => by simp [fx_uf, upd, h1]
  have hl : (st_T S ++ X).length ≤ 64 := r2.1
  rw [List.length_append] at hl
  refine ⟨r1, ⟨by omega, by simp [fx_uf, upd], fun t l ht => r2.2.2 t l ?_⟩, r3, ⟨r4.1, by rw [fi 6 (by decide)]; exact r4.2.1, r4.2.2⟩, ⟨r5.1, by rw [fi 14 (by decide)]; exact r5.2.1, r5.2.2⟩, ⟨r6.1, by rw [fi 27 (by decide)]; exact r6.2.1, r6.2.2⟩, ⟨r7.1, by rw [fi 28 (by decide)]; exact r7.2.1, r7.2.2⟩, ⟨r8.1, by rw [fi 29 (by decide)]; exact r8.2.1, r8.2.2⟩⟩
  show (st_T S ++ X)[t]? = some l
  rw [List.getElem?_append_left (getE_lt ht)]
  exact ht
theorem mo_rw_fr {D D' : fx_D} {rs : List Nat} (h : mo_rw D rs) (hf : mo_fr D D') : mo_rw D' rs := ⟨h.1, by rw [hf.2.1 0 16 (by omega)]; exact h.2.1, fun k t ht => by rw [hf.1 12 (by decide) (by decide) (by decide)]; exact h.2.2 k t ht⟩
theorem mo_hn {S : st_S} {D : fx_D} {p : Nat} (hR : mo_R S D) (hp : p < (st_th S).length) : D.1 7 p = nI (st_hy S p).length := by
  have hx : (st_th S)[p]? = some (st_th S)[p] := List.getElem?_eq_getElem hp
  have e2 : st_hy S p = (st_th S)[p].2.1 := by unfold st_hy; rw [hx]; rfl
  rw [e2]
  exact (hR.2.2.2.2.1.2.2 p _ hx).2.1
theorem dMO_rule_0 : decode prog_13_method_53_code 0 = .ok (.aload_n 0, 1) := by decide +kernel
theorem dMO_rule_1 : decode prog_13_method_53_code 1 = .ok (.iload_n 1, 1) := by decide +kernel
theorem dMO_rule_2 : decode prog_13_method_53_code 2 = .ok (.iload_n 2, 1) := by decide +kernel
theorem dMO_rule_3 : decode prog_13_method_53_code 3 = .ok (.iload_n 3, 1) := by decide +kernel
theorem dMO_rule_4 : decode prog_13_method_53_code 4 = .ok (.iload 4, 2) := by decide +kernel
theorem dMO_rule_6 : decode prog_13_method_53_code 6 = .ok (.invokevirtual 253, 3) := by decide +kernel
theorem dMO_rule_9 : decode prog_13_method_53_code 9 = .ok (.ifCond .ne (5), 3) := by decide +kernel
theorem dMO_rule_12 : decode prog_13_method_53_code 12 = .ok (.iconst (-1), 1) := by decide +kernel
theorem dMO_rule_13 : decode prog_13_method_53_code 13 = .ok (.ireturn, 1) := by decide +kernel
theorem dMO_rule_14 : decode prog_13_method_53_code 14 = .ok (.aload_n 0, 1) := by decide +kernel
theorem dMO_rule_15 : decode prog_13_method_53_code 15 = .ok (.iload_n 1, 1) := by decide +kernel
theorem dMO_rule_16 : decode prog_13_method_53_code 16 = .ok (.iload_n 2, 1) := by decide +kernel
theorem dMO_rule_17 : decode prog_13_method_53_code 17 = .ok (.iload_n 3, 1) := by decide +kernel
theorem dMO_rule_18 : decode prog_13_method_53_code 18 = .ok (.iload 4, 2) := by decide +kernel
theorem dMO_rule_20 : decode prog_13_method_53_code 20 = .ok (.invokevirtual 256, 3) := by decide +kernel
theorem dMO_rule_23 : decode prog_13_method_53_code 23 = .ok (.ifCond .ne (6), 3) := by decide +kernel
theorem dMO_rule_26 : decode prog_13_method_53_code 26 = .ok (.bipush (-4), 2) := by decide +kernel
theorem dMO_rule_28 : decode prog_13_method_53_code 28 = .ok (.ireturn, 1) := by decide +kernel
theorem dMO_rule_29 : decode prog_13_method_53_code 29 = .ok (.aload_n 0, 1) := by decide +kernel
theorem dMO_rule_30 : decode prog_13_method_53_code 30 = .ok (.iconst 0, 1) := by decide +kernel
theorem dMO_rule_31 : decode prog_13_method_53_code 31 = .ok (.putfield 124, 3) := by decide +kernel
theorem dMO_rule_34 : decode prog_13_method_53_code 34 = .ok (.aload_n 0, 1) := by decide +kernel
theorem dMO_rule_35 : decode prog_13_method_53_code 35 = .ok (.iconst 0, 1) := by decide +kernel
theorem dMO_rule_36 : decode prog_13_method_53_code 36 = .ok (.putfield 213, 3) := by decide +kernel
theorem dMO_rule_39 : decode prog_13_method_53_code 39 = .ok (.aload_n 0, 1) := by decide +kernel
theorem dMO_rule_40 : decode prog_13_method_53_code 40 = .ok (.iload_n 1, 1) := by decide +kernel
theorem dMO_rule_41 : decode prog_13_method_53_code 41 = .ok (.iload_n 2, 1) := by decide +kernel
theorem dMO_rule_42 : decode prog_13_method_53_code 42 = .ok (.iload_n 3, 1) := by decide +kernel
theorem dMO_rule_43 : decode prog_13_method_53_code 43 = .ok (.iload 4, 2) := by decide +kernel
theorem dMO_rule_45 : decode prog_13_method_53_code 45 = .ok (.invokevirtual 259, 3) := by decide +kernel
theorem dMO_rule_48 : decode prog_13_method_53_code 48 = .ok (.aload_n 0, 1) := by decide +kernel
theorem dMO_rule_49 : decode prog_13_method_53_code 49 = .ok (.getfield 124, 3) := by decide +kernel
theorem dMO_rule_52 : decode prog_13_method_53_code 52 = .ok (.ifCond .ne (12), 3) := by decide +kernel
theorem dMO_rule_55 : decode prog_13_method_53_code 55 = .ok (.aload_n 0, 1) := by decide +kernel
theorem dMO_rule_56 : decode prog_13_method_53_code 56 = .ok (.getfield 213, 3) := by decide +kernel
theorem dMO_rule_59 : decode prog_13_method_53_code 59 = .ok (.bipush (6), 2) := by decide +kernel
theorem dMO_rule_61 : decode prog_13_method_53_code 61 = .ok (.if_icmp .le (6), 3) := by decide +kernel
theorem dMO_rule_64 : decode prog_13_method_53_code 64 = .ok (.bipush (-5), 2) := by decide +kernel
theorem dMO_rule_66 : decode prog_13_method_53_code 66 = .ok (.ireturn, 1) := by decide +kernel
theorem dMO_rule_67 : decode prog_13_method_53_code 67 = .ok (.aload_n 0, 1) := by decide +kernel
theorem dMO_rule_68 : decode prog_13_method_53_code 68 = .ok (.getfield 117, 3) := by decide +kernel
theorem dMO_rule_71 : decode prog_13_method_53_code 71 = .ok (.istore 5, 2) := by decide +kernel
theorem dMO_rule_73 : decode prog_13_method_53_code 73 = .ok (.aload_n 0, 1) := by decide +kernel
theorem dMO_rule_74 : decode prog_13_method_53_code 74 = .ok (.getfield 148, 3) := by decide +kernel
theorem dMO_rule_77 : decode prog_13_method_53_code 77 = .ok (.bipush (40), 2) := by decide +kernel
theorem dMO_rule_79 : decode prog_13_method_53_code 79 = .ok (.if_icmp .ne (6), 3) := by decide +kernel
theorem dMO_rule_82 : decode prog_13_method_53_code 82 = .ok (.bipush (-6), 2) := by decide +kernel
theorem dMO_rule_84 : decode prog_13_method_53_code 84 = .ok (.ireturn, 1) := by decide +kernel
theorem dMO_rule_85 : decode prog_13_method_53_code 85 = .ok (.iload_n 1, 1) := by decide +kernel
theorem dMO_rule_86 : decode prog_13_method_53_code 86 = .ok (.bipush (8), 2) := by decide +kernel
theorem dMO_rule_88 : decode prog_13_method_53_code 88 = .ok (.if_icmp .ne (55), 3) := by decide +kernel
theorem dMO_rule_91 : decode prog_13_method_53_code 91 = .ok (.iconst 0, 1) := by decide +kernel
theorem dMO_rule_92 : decode prog_13_method_53_code 92 = .ok (.istore 6, 2) := by decide +kernel
theorem dMO_rule_94 : decode prog_13_method_53_code 94 = .ok (.iload 6, 2) := by decide +kernel
theorem dMO_rule_96 : decode prog_13_method_53_code 96 = .ok (.aload_n 0, 1) := by decide +kernel
theorem dMO_rule_97 : decode prog_13_method_53_code 97 = .ok (.getfield 28, 3) := by decide +kernel
theorem dMO_rule_100 : decode prog_13_method_53_code 100 = .ok (.iload_n 2, 1) := by decide +kernel
theorem dMO_rule_101 : decode prog_13_method_53_code 101 = .ok (.iaload, 1) := by decide +kernel
theorem dMO_rule_102 : decode prog_13_method_53_code 102 = .ok (.if_icmp .ge (41), 3) := by decide +kernel
theorem dMO_rule_105 : decode prog_13_method_53_code 105 = .ok (.aload_n 0, 1) := by decide +kernel
theorem dMO_rule_106 : decode prog_13_method_53_code 106 = .ok (.bipush (64), 2) := by decide +kernel
theorem dMO_rule_108 : decode prog_13_method_53_code 108 = .ok (.iload 6, 2) := by decide +kernel
theorem dMO_rule_110 : decode prog_13_method_53_code 110 = .ok (.iadd, 1) := by decide +kernel
theorem dMO_rule_111 : decode prog_13_method_53_code 111 = .ok (.invokevirtual 197, 3) := by decide +kernel
theorem dMO_rule_114 : decode prog_13_method_53_code 114 = .ok (.istore 7, 2) := by decide +kernel
theorem dMO_rule_116 : decode prog_13_method_53_code 116 = .ok (.iload 7, 2) := by decide +kernel
theorem dMO_rule_118 : decode prog_13_method_53_code 118 = .ok (.bipush (64), 2) := by decide +kernel
theorem dMO_rule_120 : decode prog_13_method_53_code 120 = .ok (.if_icmp .ge (12), 3) := by decide +kernel
theorem dMO_rule_123 : decode prog_13_method_53_code 123 = .ok (.aload_n 0, 1) := by decide +kernel
theorem dMO_rule_124 : decode prog_13_method_53_code 124 = .ok (.iload 7, 2) := by decide +kernel
theorem dMO_rule_126 : decode prog_13_method_53_code 126 = .ok (.invokevirtual 216, 3) := by decide +kernel
theorem dMO_rule_129 : decode prog_13_method_53_code 129 = .ok (.goto (8), 3) := by decide +kernel
theorem dMO_rule_132 : decode prog_13_method_53_code 132 = .ok (.aload_n 0, 1) := by decide +kernel
theorem dMO_rule_133 : decode prog_13_method_53_code 133 = .ok (.iconst 1, 1) := by decide +kernel
theorem dMO_rule_134 : decode prog_13_method_53_code 134 = .ok (.putfield 124, 3) := by decide +kernel
theorem dMO_rule_137 : decode prog_13_method_53_code 137 = .ok (.iinc 6 (1), 3) := by decide +kernel
theorem dMO_rule_140 : decode prog_13_method_53_code 140 = .ok (.goto (-46), 3) := by decide +kernel
theorem dMO_rule_143 : decode prog_13_method_53_code 143 = .ok (.aload_n 0, 1) := by decide +kernel
theorem dMO_rule_144 : decode prog_13_method_53_code 144 = .ok (.bipush (71), 2) := by decide +kernel
theorem dMO_rule_146 : decode prog_13_method_53_code 146 = .ok (.invokevirtual 197, 3) := by decide +kernel
theorem dMO_rule_149 : decode prog_13_method_53_code 149 = .ok (.istore 6, 2) := by decide +kernel
theorem dMO_rule_151 : decode prog_13_method_53_code 151 = .ok (.aload_n 0, 1) := by decide +kernel
theorem dMO_rule_152 : decode prog_13_method_53_code 152 = .ok (.getfield 124, 3) := by decide +kernel
theorem dMO_rule_155 : decode prog_13_method_53_code 155 = .ok (.ifCond .ne (10), 3) := by decide +kernel
theorem dMO_rule_158 : decode prog_13_method_53_code 158 = .ok (.iload 6, 2) := by decide +kernel
theorem dMO_rule_160 : decode prog_13_method_53_code 160 = .ok (.bipush (64), 2) := by decide +kernel
theorem dMO_rule_162 : decode prog_13_method_53_code 162 = .ok (.if_icmp .ne (12), 3) := by decide +kernel
theorem dMO_rule_165 : decode prog_13_method_53_code 165 = .ok (.aload_n 0, 1) := by decide +kernel
theorem dMO_rule_166 : decode prog_13_method_53_code 166 = .ok (.iload 5, 2) := by decide +kernel
theorem dMO_rule_168 : decode prog_13_method_53_code 168 = .ok (.putfield 117, 3) := by decide +kernel
theorem dMO_rule_171 : decode prog_13_method_53_code 171 = .ok (.bipush (-6), 2) := by decide +kernel
theorem dMO_rule_173 : decode prog_13_method_53_code 173 = .ok (.ireturn, 1) := by decide +kernel
theorem dMO_rule_174 : decode prog_13_method_53_code 174 = .ok (.aload_n 0, 1) := by decide +kernel
theorem dMO_rule_175 : decode prog_13_method_53_code 175 = .ok (.iload_n 1, 1) := by decide +kernel
theorem dMO_rule_176 : decode prog_13_method_53_code 176 = .ok (.iload 6, 2) := by decide +kernel
theorem dMO_rule_178 : decode prog_13_method_53_code 178 = .ok (.iload_n 1, 1) := by decide +kernel
theorem dMO_rule_179 : decode prog_13_method_53_code 179 = .ok (.iconst 1, 1) := by decide +kernel
theorem dMO_rule_180 : decode prog_13_method_53_code 180 = .ok (.if_icmp .le (12), 3) := by decide +kernel
theorem dMO_rule_183 : decode prog_13_method_53_code 183 = .ok (.iload_n 1, 1) := by decide +kernel
theorem dMO_rule_184 : decode prog_13_method_53_code 184 = .ok (.iconst 5, 1) := by decide +kernel
theorem dMO_rule_185 : decode prog_13_method_53_code 185 = .ok (.if_icmp .eq (7), 3) := by decide +kernel
theorem dMO_rule_188 : decode prog_13_method_53_code 188 = .ok (.iload_n 2, 1) := by decide +kernel
theorem dMO_rule_189 : decode prog_13_method_53_code 189 = .ok (.goto (4), 3) := by decide +kernel
theorem dMO_rule_192 : decode prog_13_method_53_code 192 = .ok (.iconst (-1), 1) := by decide +kernel
theorem dMO_rule_193 : decode prog_13_method_53_code 193 = .ok (.iload_n 1, 1) := by decide +kernel
theorem dMO_rule_194 : decode prog_13_method_53_code 194 = .ok (.iconst 2, 1) := by decide +kernel
theorem dMO_rule_195 : decode prog_13_method_53_code 195 = .ok (.if_icmp .eq (20), 3) := by decide +kernel
theorem dMO_rule_198 : decode prog_13_method_53_code 198 = .ok (.iload_n 1, 1) := by decide +kernel
theorem dMO_rule_199 : decode prog_13_method_53_code 199 = .ok (.iconst 3, 1) := by decide +kernel
theorem dMO_rule_200 : decode prog_13_method_53_code 200 = .ok (.if_icmp .eq (15), 3) := by decide +kernel
theorem dMO_rule_203 : decode prog_13_method_53_code 203 = .ok (.iload_n 1, 1) := by decide +kernel
theorem dMO_rule_204 : decode prog_13_method_53_code 204 = .ok (.bipush (6), 2) := by decide +kernel
theorem dMO_rule_206 : decode prog_13_method_53_code 206 = .ok (.if_icmp .eq (9), 3) := by decide +kernel
theorem dMO_rule_209 : decode prog_13_method_53_code 209 = .ok (.iload_n 1, 1) := by decide +kernel
theorem dMO_rule_210 : decode prog_13_method_53_code 210 = .ok (.bipush (7), 2) := by decide +kernel
theorem dMO_rule_212 : decode prog_13_method_53_code 212 = .ok (.if_icmp .ne (7), 3) := by decide +kernel
theorem dMO_rule_215 : decode prog_13_method_53_code 215 = .ok (.iload_n 3, 1) := by decide +kernel
theorem dMO_rule_216 : decode prog_13_method_53_code 216 = .ok (.goto (4), 3) := by decide +kernel
theorem dMO_rule_219 : decode prog_13_method_53_code 219 = .ok (.iconst (-1), 1) := by decide +kernel
theorem dMO_rule_220 : decode prog_13_method_53_code 220 = .ok (.invokevirtual 263, 3) := by decide +kernel
theorem dMO_rule_223 : decode prog_13_method_53_code 223 = .ok (.ireturn, 1) := by decide +kernel
theorem w_MO_rule {G : sd_G} {o : Nat} {D : fx_D} {h0 : sd_H} {nx : Nat} {S S' : st_S} {k a b f : Nat} {z ans : Int32} {T' : List tl_T} {rs : List Nat} {L : tl_T} (hB : G.2.1 ≤ o) (hR : mo_R (S.1, T', S.2.2) D) (hpre : ∃ X, T' = st_T S ++ X) (hrw : mo_rw D rs) (h6 : rs.length ≤ 6) (hrow : mo_row D 71 L) (hwf : tl_wf L) (hf : D.2.1 0 7 = nI f) (hf2 : f < 2) (h40 : (st_th S).length < 40) (hg : (k = 0 ∨ k = 1 ∨ k = 5) ∨ ((k = 2 ∨ k = 3 ∨ k = 6 ∨ k = 7) ∧ z = nI b) ∨ (k = 4 ∨ k = 8))
    (h1 : f = 1 ∨ ¬ tl_kp T' L < 64 → ans = -6 ∧ S' = S) (h2 : f = 0 → tl_kp T' L < 64 → ans = nI (st_th S).length ∧ S' = (S.1, tl_kt T' L, S.2.2.1, st_th S ++ [(tl_kp T' L, rs, k, ru_fst k a, ru_snd k b)], S.2.2.2.2)) :
    sd_W G mMO_rule 7 0 0 (fx_is G.1.2 mo_S o h0 nx (some (.int ans)) (mo_R S')) 143 [(0, .ref (o + 0)), (1, .int (nI k)), (2, .int (nI a)), (3, .int z), (5, .int (nI (st_T S).length))] [] (fx_h G.1.2 mo_S o D h0) nx 0 0 := by
  have k64 : tl_kp T' L ≤ 64 := Nat.le_trans tl_kp_le hR.2.1.1
  obtain ⟨Y, hY⟩ : ∃ Y, tl_kt T' L = st_T S ++ Y := by
    obtain ⟨X, hX⟩ := hpre
    obtain ⟨Y, hY⟩ := tl_kt_pre (T := T') (l := L)
    exact ⟨X ++ Y, by rw [hY, hX, List.append_assoc]⟩
  have hk9 : k < 9 := by omega
  have kr : ∀ {D1 : fx_D}, (mo_terms D1 (tl_kt T' L) ∧ mo_fr D D1) → mo_R (S.1, tl_kt T' L, S.2.2) D1 := fun h => mo_R_keep (S := (S.1, T', S.2.2)) hR h.1 h.2
  have bk : ∀ {D1 : fx_D}, (mo_terms D1 (tl_kt T' L) ∧ mo_fr D D1) → mo_R S (fx_uf D1 0 5 (nI (st_T S).length)) := fun h => mo_R_back (X := Y) (by rw [← hY]; exact kr h)
  have nt : ∀ {D1 D2 : fx_D} {fa fb : Option Nat}, (mo_terms D1 (tl_kt T' L) ∧ mo_fr D D1) → (mo_th D2 (st_th S ++ [(tl_kp T' L, rs, k, fa, fb)]) ∧ mo_fn D1 D2) → mo_R (S.1, tl_kt T' L, S.2.2.1, st_th S ++ [(tl_kp T' L, rs, k, fa, fb)], S.2.2.2.2) D2 := fun h g => mo_R_note (kr h) g.1 g.2
  have fv : ∀ {D1 : fx_D}, (mo_terms D1 (tl_kt T' L) ∧ mo_fr D D1) → D1.2.1 0 7 = nI f := fun h => by rw [h.2.2.1 0 7 (by omega)]; exact hf
  have th : ∀ {D1 : fx_D}, (mo_terms D1 (tl_kt T' L) ∧ mo_fr D D1) → mo_th D1 (st_th S) := fun h => (kr h).2.2.2.2.1
  rcases hg with hg | ⟨hg, rfl⟩ | hg
  · have e1 : ru_fst k a = none := by unfold ru_fst; rw [if_neg (by omega)]
    have e2 : ru_snd k b = none := by unfold ru_snd; rw [if_neg (by omega)]
    rw [e1, e2] at h2
    refine sd_aload_n dMO_rule_143 rfl rfl ?_
    refine sd_bipush (v := nI 71) dMO_rule_144 (by decide) ?_
    refine fx_cP 10 sR_MO [.int (nI (71))] [] dMO_rule_146 kMO_197 rfl rfl mMO_keep_v (c_MO_keep (r := 71) (T := T') (l := L) hB hR.2.1 (by omega) (by omega) hrow hwf) (by decide) (Nat.le_refl _) (Nat.le_refl _) (Nat.le_of_ble_eq_true rfl) rfl (fun D1 hD1 => ?_)
    refine sd_istore dMO_rule_149 (by decide) ?_
    refine sd_aload_n dMO_rule_151 rfl rfl ?_
    refine fx_getiv (v := (nI (f))) 10 7 dMO_rule_152 fMO_124 rfl rfl (fv hD1) ?_
    refine nn_if_ne 165 dMO_rule_155 (by decide) (by omega) (fun c155 => ?_) (fun c155 => ?_)
    ·
      refine sd_aload_n dMO_rule_165 rfl rfl ?_
      refine sd_iload dMO_rule_166 rfl ?_
      refine fx_puti 10 5 dMO_rule_168 fMO_117 rfl rfl rfl rfl hB ?_
      refine sd_bipush (v := (-6)) dMO_rule_171 (by decide) ?_
      obtain ⟨rfl, rfl⟩ := h1 (by omega)
      exact sd_iret dMO_rule_173 rfl (Nat.le_refl _) (Nat.le_refl _) ⟨rfl, rfl, _, rfl, bk hD1⟩
    ·
      refine sd_iload dMO_rule_158 rfl ?_
      refine sd_bipush (v := nI 64) dMO_rule_160 (by decide) ?_
      refine nn_icmp_ne 174 dMO_rule_162 (by decide) (by omega) (by omega) (fun c162 => ?_) (fun c162 => ?_)
      ·
        refine sd_aload_n dMO_rule_174 rfl rfl ?_
        refine sd_iload_n dMO_rule_175 rfl rfl ?_
        refine sd_iload dMO_rule_176 rfl ?_
        refine sd_iload_n dMO_rule_178 rfl rfl ?_
        refine sd_iconst (v := nI 1) dMO_rule_179 (by decide) ?_
        refine nn_icmp_le 192 dMO_rule_180 (by decide) (by omega) (by omega) (fun c180 => ?_) (fun c180 => ?_)
        ·
          refine sd_iconst (v := (-1)) dMO_rule_192 (by decide) ?_
          refine sd_iload_n dMO_rule_193 rfl rfl ?_
          refine sd_iconst (v := nI 2) dMO_rule_194 (by decide) ?_
          refine nn_icmp_eq 215 dMO_rule_195 (by decide) (by omega) (by omega) (fun c195 => ?_) (fun c195 => ?_)
          ·
            exact absurd c195 (by omega)
          ·
            refine sd_iload_n dMO_rule_198 rfl rfl ?_
            refine sd_iconst (v := nI 3) dMO_rule_199 (by decide) ?_
            refine nn_icmp_eq 215 dMO_rule_200 (by decide) (by omega) (by omega) (fun c200 => ?_) (fun c200 => ?_)
            ·
              exact absurd c200 (by omega)
            ·
              refine sd_iload_n dMO_rule_203 rfl rfl ?_
              refine sd_bipush (v := nI 6) dMO_rule_204 (by decide) ?_
              refine nn_icmp_eq 215 dMO_rule_206 (by decide) (by omega) (by omega) (fun c206 => ?_) (fun c206 => ?_)
              ·
                exact absurd c206 (by omega)
              ·
                refine sd_iload_n dMO_rule_209 rfl rfl ?_
                refine sd_bipush (v := nI 7) dMO_rule_210 (by decide) ?_
                refine nn_icmp_ne 219 dMO_rule_212 (by decide) (by omega) (by omega) (fun c212 => ?_) (fun c212 => ?_)
                ·
                  refine sd_iconst (v := (-1)) dMO_rule_219 (by decide) ?_
                  refine fx_cP 10 sR_MO [.int (nI (k)), .int (nI (tl_kp T' L)), .int ((-1)), .int ((-1))] [] dMO_rule_220 kMO_263 rfl rfl mMO_note_v (c_MO_note (k := k) (t := tl_kp T' L) (fa := none) (fb := none) hB (th hD1) h40 h6 (mo_rw_fr hrw hD1.2)) (by decide) (Nat.le_refl _) (Nat.le_refl _) (Nat.le_of_ble_eq_true rfl) rfl (fun D2 hD2 => ?_)
                  obtain ⟨rfl, rfl⟩ := h2 (by omega) (by omega)
                  exact sd_iret dMO_rule_223 rfl (Nat.le_refl _) (Nat.le_refl _) ⟨rfl, rfl, _, rfl, nt hD1 hD2⟩
                ·
                  exact absurd c212 (by omega)
        ·
          refine sd_iload_n dMO_rule_183 rfl rfl ?_
          refine sd_iconst (v := nI 5) dMO_rule_184 (by decide) ?_
          refine nn_icmp_eq 192 dMO_rule_185 (by decide) (by omega) (by omega) (fun c185 => ?_) (fun c185 => ?_)
          ·
            refine sd_iconst (v := (-1)) dMO_rule_192 (by decide) ?_
            refine sd_iload_n dMO_rule_193 rfl rfl ?_
            refine sd_iconst (v := nI 2) dMO_rule_194 (by decide) ?_
            refine nn_icmp_eq 215 dMO_rule_195 (by decide) (by omega) (by omega) (fun c195 => ?_) (fun c195 => ?_)
            ·
              exact absurd c195 (by omega)
            ·
              refine sd_iload_n dMO_rule_198 rfl rfl ?_
              refine sd_iconst (v := nI 3) dMO_rule_199 (by decide) ?_
              refine nn_icmp_eq 215 dMO_rule_200 (by decide) (by omega) (by omega) (fun c200 => ?_) (fun c200 => ?_)
              ·
                exact absurd c200 (by omega)
              ·
                refine sd_iload_n dMO_rule_203 rfl rfl ?_
                refine sd_bipush (v := nI 6) dMO_rule_204 (by decide) ?_
                refine nn_icmp_eq 215 dMO_rule_206 (by decide) (by omega) (by omega) (fun c206 => ?_) (fun c206 => ?_)
                ·
                  exact absurd c206 (by omega)
                ·
                  refine sd_iload_n dMO_rule_209 rfl rfl ?_
                  refine sd_bipush (v := nI 7) dMO_rule_210 (by decide) ?_
                  refine nn_icmp_ne 219 dMO_rule_212 (by decide) (by omega) (by omega) (fun c212 => ?_) (fun c212 => ?_)
                  ·
                    refine sd_iconst (v := (-1)) dMO_rule_219 (by decide) ?_
                    refine fx_cP 10 sR_MO [.int (nI (k)), .int (nI (tl_kp T' L)), .int ((-1)), .int ((-1))] [] dMO_rule_220 kMO_263 rfl rfl mMO_note_v (c_MO_note (k := k) (t := tl_kp T' L) (fa := none) (fb := none) hB (th hD1) h40 h6 (mo_rw_fr hrw hD1.2)) (by decide) (Nat.le_refl _) (Nat.le_refl _) (Nat.le_of_ble_eq_true rfl) rfl (fun D2 hD2 => ?_)
                    obtain ⟨rfl, rfl⟩ := h2 (by omega) (by omega)
                    exact sd_iret dMO_rule_223 rfl (Nat.le_refl _) (Nat.le_refl _) ⟨rfl, rfl, _, rfl, nt hD1 hD2⟩
                  ·
                    exact absurd c212 (by omega)
          ·
            exact absurd c185 (by omega)
      ·
        refine sd_aload_n dMO_rule_165 rfl rfl ?_
        refine sd_iload dMO_rule_166 rfl ?_
        refine fx_puti 10 5 dMO_rule_168 fMO_117 rfl rfl rfl rfl hB ?_
        refine sd_bipush (v := (-6)) dMO_rule_171 (by decide) ?_
        obtain ⟨rfl, rfl⟩ := h1 (by omega)
        exact sd_iret dMO_rule_173 rfl (Nat.le_refl _) (Nat.le_refl _) ⟨rfl, rfl, _, rfl, bk hD1⟩
  · have e1 : ru_fst k a = some a := by unfold ru_fst; rw [if_pos (by omega)]
    have e2 : ru_snd k b = some b := by unfold ru_snd; rw [if_pos (by omega)]
    rw [e1, e2] at h2
    refine sd_aload_n dMO_rule_143 rfl rfl ?_
    refine sd_bipush (v := nI 71) dMO_rule_144 (by decide) ?_
    refine fx_cP 10 sR_MO [.int (nI (71))] [] dMO_rule_146 kMO_197 rfl rfl mMO_keep_v (c_MO_keep (r := 71) (T := T') (l := L) hB hR.2.1 (by omega) (by omega) hrow hwf) (by decide) (Nat.le_refl _) (Nat.le_refl _) (Nat.le_of_ble_eq_true rfl) rfl (fun D1 hD1 => ?_)
    refine sd_istore dMO_rule_149 (by decide) ?_
    refine sd_aload_n dMO_rule_151 rfl rfl ?_
    refine fx_getiv (v := (nI (f))) 10 7 dMO_rule_152 fMO_124 rfl rfl (fv hD1) ?_
    refine nn_if_ne 165 dMO_rule_155 (by decide) (by omega) (fun c155 => ?_) (fun c155 => ?_)
    ·
      refine sd_aload_n dMO_rule_165 rfl rfl ?_
      refine sd_iload dMO_rule_166 rfl ?_
      refine fx_puti 10 5 dMO_rule_168 fMO_117 rfl rfl rfl rfl hB ?_
      refine sd_bipush (v := (-6)) dMO_rule_171 (by decide) ?_
      obtain ⟨rfl, rfl⟩ := h1 (by omega)
      exact sd_iret dMO_rule_173 rfl (Nat.le_refl _) (Nat.le_refl _) ⟨rfl, rfl, _, rfl, bk hD1⟩
    ·
      refine sd_iload dMO_rule_158 rfl ?_
      refine sd_bipush (v := nI 64) dMO_rule_160 (by decide) ?_
      refine nn_icmp_ne 174 dMO_rule_162 (by decide) (by omega) (by omega) (fun c162 => ?_) (fun c162 => ?_)
      ·
        refine sd_aload_n dMO_rule_174 rfl rfl ?_
        refine sd_iload_n dMO_rule_175 rfl rfl ?_
        refine sd_iload dMO_rule_176 rfl ?_
        refine sd_iload_n dMO_rule_178 rfl rfl ?_
        refine sd_iconst (v := nI 1) dMO_rule_179 (by decide) ?_
        refine nn_icmp_le 192 dMO_rule_180 (by decide) (by omega) (by omega) (fun c180 => ?_) (fun c180 => ?_)
        ·
          exact absurd c180 (by omega)
        ·
          refine sd_iload_n dMO_rule_183 rfl rfl ?_
          refine sd_iconst (v := nI 5) dMO_rule_184 (by decide) ?_
          refine nn_icmp_eq 192 dMO_rule_185 (by decide) (by omega) (by omega) (fun c185 => ?_) (fun c185 => ?_)
          ·
            exact absurd c185 (by omega)
          ·
            refine sd_iload_n dMO_rule_188 rfl rfl ?_
            refine sd_goto 193 dMO_rule_189 (by decide) ?_
            refine sd_iload_n dMO_rule_193 rfl rfl ?_
            refine sd_iconst (v := nI 2) dMO_rule_194 (by decide) ?_
            refine nn_icmp_eq 215 dMO_rule_195 (by decide) (by omega) (by omega) (fun c195 => ?_) (fun c195 => ?_)
            ·
              refine sd_iload_n dMO_rule_215 rfl rfl ?_
              refine sd_goto 220 dMO_rule_216 (by decide) ?_
              refine fx_cP 10 sR_MO [.int (nI (k)), .int (nI (tl_kp T' L)), .int (nI (a)), .int (nI (b))] [] dMO_rule_220 kMO_263 rfl rfl mMO_note_v (c_MO_note (k := k) (t := tl_kp T' L) (fa := some a) (fb := some b) hB (th hD1) h40 h6 (mo_rw_fr hrw hD1.2)) (by decide) (Nat.le_refl _) (Nat.le_refl _) (Nat.le_of_ble_eq_true rfl) rfl (fun D2 hD2 => ?_)
              obtain ⟨rfl, rfl⟩ := h2 (by omega) (by omega)
              exact sd_iret dMO_rule_223 rfl (Nat.le_refl _) (Nat.le_refl _) ⟨rfl, rfl, _, rfl, nt hD1 hD2⟩
            ·
              refine sd_iload_n dMO_rule_198 rfl rfl ?_
              refine sd_iconst (v := nI 3) dMO_rule_199 (by decide) ?_
              refine nn_icmp_eq 215 dMO_rule_200 (by decide) (by omega) (by omega) (fun c200 => ?_) (fun c200 => ?_)
              ·
                refine sd_iload_n dMO_rule_215 rfl rfl ?_
                refine sd_goto 220 dMO_rule_216 (by decide) ?_
                refine fx_cP 10 sR_MO [.int (nI (k)), .int (nI (tl_kp T' L)), .int (nI (a)), .int (nI (b))] [] dMO_rule_220 kMO_263 rfl rfl mMO_note_v (c_MO_note (k := k) (t := tl_kp T' L) (fa := some a) (fb := some b) hB (th hD1) h40 h6 (mo_rw_fr hrw hD1.2)) (by decide) (Nat.le_refl _) (Nat.le_refl _) (Nat.le_of_ble_eq_true rfl) rfl (fun D2 hD2 => ?_)
                obtain ⟨rfl, rfl⟩ := h2 (by omega) (by omega)
                exact sd_iret dMO_rule_223 rfl (Nat.le_refl _) (Nat.le_refl _) ⟨rfl, rfl, _, rfl, nt hD1 hD2⟩
              ·
                refine sd_iload_n dMO_rule_203 rfl rfl ?_
                refine sd_bipush (v := nI 6) dMO_rule_204 (by decide) ?_
                refine nn_icmp_eq 215 dMO_rule_206 (by decide) (by omega) (by omega) (fun c206 => ?_) (fun c206 => ?_)
                ·
                  refine sd_iload_n dMO_rule_215 rfl rfl ?_
                  refine sd_goto 220 dMO_rule_216 (by decide) ?_
                  refine fx_cP 10 sR_MO [.int (nI (k)), .int (nI (tl_kp T' L)), .int (nI (a)), .int (nI (b))] [] dMO_rule_220 kMO_263 rfl rfl mMO_note_v (c_MO_note (k := k) (t := tl_kp T' L) (fa := some a) (fb := some b) hB (th hD1) h40 h6 (mo_rw_fr hrw hD1.2)) (by decide) (Nat.le_refl _) (Nat.le_refl _) (Nat.le_of_ble_eq_true rfl) rfl (fun D2 hD2 => ?_)
                  obtain ⟨rfl, rfl⟩ := h2 (by omega) (by omega)
                  exact sd_iret dMO_rule_223 rfl (Nat.le_refl _) (Nat.le_refl _) ⟨rfl, rfl, _, rfl, nt hD1 hD2⟩
                ·
                  refine sd_iload_n dMO_rule_209 rfl rfl ?_
                  refine sd_bipush (v := nI 7) dMO_rule_210 (by decide) ?_
                  refine nn_icmp_ne 219 dMO_rule_212 (by decide) (by omega) (by omega) (fun c212 => ?_) (fun c212 => ?_)
                  ·
                    exact absurd c212 (by omega)
                  ·
                    refine sd_iload_n dMO_rule_215 rfl rfl ?_
                    refine sd_goto 220 dMO_rule_216 (by decide) ?_
                    refine fx_cP 10 sR_MO [.int (nI (k)), .int (nI (tl_kp T' L)), .int (nI (a)), .int (nI (b))] [] dMO_rule_220 kMO_263 rfl rfl mMO_note_v (c_MO_note (k := k) (t := tl_kp T' L) (fa := some a) (fb := some b) hB (th hD1) h40 h6 (mo_rw_fr hrw hD1.2)) (by decide) (Nat.le_refl _) (Nat.le_refl _) (Nat.le_of_ble_eq_true rfl) rfl (fun D2 hD2 => ?_)
                    obtain ⟨rfl, rfl⟩ := h2 (by omega) (by omega)
                    exact sd_iret dMO_rule_223 rfl (Nat.le_refl _) (Nat.le_refl _) ⟨rfl, rfl, _, rfl, nt hD1 hD2⟩
      ·
        refine sd_aload_n dMO_rule_165 rfl rfl ?_
        refine sd_iload dMO_rule_166 rfl ?_
        refine fx_puti 10 5 dMO_rule_168 fMO_117 rfl rfl rfl rfl hB ?_
        refine sd_bipush (v := (-6)) dMO_rule_171 (by decide) ?_
        obtain ⟨rfl, rfl⟩ := h1 (by omega)
        exact sd_iret dMO_rule_173 rfl (Nat.le_refl _) (Nat.le_refl _) ⟨rfl, rfl, _, rfl, bk hD1⟩
  · have e1 : ru_fst k a = some a := by unfold ru_fst; rw [if_pos (by omega)]
    have e2 : ru_snd k b = none := by unfold ru_snd; rw [if_neg (by omega)]
    rw [e1, e2] at h2
    refine sd_aload_n dMO_rule_143 rfl rfl ?_
    refine sd_bipush (v := nI 71) dMO_rule_144 (by decide) ?_
    refine fx_cP 10 sR_MO [.int (nI (71))] [] dMO_rule_146 kMO_197 rfl rfl mMO_keep_v (c_MO_keep (r := 71) (T := T') (l := L) hB hR.2.1 (by omega) (by omega) hrow hwf) (by decide) (Nat.le_refl _) (Nat.le_refl _) (Nat.le_of_ble_eq_true rfl) rfl (fun D1 hD1 => ?_)
    refine sd_istore dMO_rule_149 (by decide) ?_
    refine sd_aload_n dMO_rule_151 rfl rfl ?_
    refine fx_getiv (v := (nI (f))) 10 7 dMO_rule_152 fMO_124 rfl rfl (fv hD1) ?_
    refine nn_if_ne 165 dMO_rule_155 (by decide) (by omega) (fun c155 => ?_) (fun c155 => ?_)
    ·
      refine sd_aload_n dMO_rule_165 rfl rfl ?_
      refine sd_iload dMO_rule_166 rfl ?_
      refine fx_puti 10 5 dMO_rule_168 fMO_117 rfl rfl rfl rfl hB ?_
      refine sd_bipush (v := (-6)) dMO_rule_171 (by decide) ?_
      obtain ⟨rfl, rfl⟩ := h1 (by omega)
      exact sd_iret dMO_rule_173 rfl (Nat.le_refl _) (Nat.le_refl _) ⟨rfl, rfl, _, rfl, bk hD1⟩
    ·
      refine sd_iload dMO_rule_158 rfl ?_
      refine sd_bipush (v := nI 64) dMO_rule_160 (by decide) ?_
      refine nn_icmp_ne 174 dMO_rule_162 (by decide) (by omega) (by omega) (fun c162 => ?_) (fun c162 => ?_)
      ·
        refine sd_aload_n dMO_rule_174 rfl rfl ?_
        refine sd_iload_n dMO_rule_175 rfl rfl ?_
        refine sd_iload dMO_rule_176 rfl ?_
        refine sd_iload_n dMO_rule_178 rfl rfl ?_
        refine sd_iconst (v := nI 1) dMO_rule_179 (by decide) ?_
        refine nn_icmp_le 192 dMO_rule_180 (by decide) (by omega) (by omega) (fun c180 => ?_) (fun c180 => ?_)
        ·
          exact absurd c180 (by omega)
        ·
          refine sd_iload_n dMO_rule_183 rfl rfl ?_
          refine sd_iconst (v := nI 5) dMO_rule_184 (by decide) ?_
          refine nn_icmp_eq 192 dMO_rule_185 (by decide) (by omega) (by omega) (fun c185 => ?_) (fun c185 => ?_)
          ·
            exact absurd c185 (by omega)
          ·
            refine sd_iload_n dMO_rule_188 rfl rfl ?_
            refine sd_goto 193 dMO_rule_189 (by decide) ?_
            refine sd_iload_n dMO_rule_193 rfl rfl ?_
            refine sd_iconst (v := nI 2) dMO_rule_194 (by decide) ?_
            refine nn_icmp_eq 215 dMO_rule_195 (by decide) (by omega) (by omega) (fun c195 => ?_) (fun c195 => ?_)
            ·
              exact absurd c195 (by omega)
            ·
              refine sd_iload_n dMO_rule_198 rfl rfl ?_
              refine sd_iconst (v := nI 3) dMO_rule_199 (by decide) ?_
              refine nn_icmp_eq 215 dMO_rule_200 (by decide) (by omega) (by omega) (fun c200 => ?_) (fun c200 => ?_)
              ·
                exact absurd c200 (by omega)
              ·
                refine sd_iload_n dMO_rule_203 rfl rfl ?_
                refine sd_bipush (v := nI 6) dMO_rule_204 (by decide) ?_
                refine nn_icmp_eq 215 dMO_rule_206 (by decide) (by omega) (by omega) (fun c206 => ?_) (fun c206 => ?_)
                ·
                  exact absurd c206 (by omega)
                ·
                  refine sd_iload_n dMO_rule_209 rfl rfl ?_
                  refine sd_bipush (v := nI 7) dMO_rule_210 (by decide) ?_
                  refine nn_icmp_ne 219 dMO_rule_212 (by decide) (by omega) (by omega) (fun c212 => ?_) (fun c212 => ?_)
                  ·
                    refine sd_iconst (v := (-1)) dMO_rule_219 (by decide) ?_
                    refine fx_cP 10 sR_MO [.int (nI (k)), .int (nI (tl_kp T' L)), .int (nI (a)), .int ((-1))] [] dMO_rule_220 kMO_263 rfl rfl mMO_note_v (c_MO_note (k := k) (t := tl_kp T' L) (fa := some a) (fb := none) hB (th hD1) h40 h6 (mo_rw_fr hrw hD1.2)) (by decide) (Nat.le_refl _) (Nat.le_refl _) (Nat.le_of_ble_eq_true rfl) rfl (fun D2 hD2 => ?_)
                    obtain ⟨rfl, rfl⟩ := h2 (by omega) (by omega)
                    exact sd_iret dMO_rule_223 rfl (Nat.le_refl _) (Nat.le_refl _) ⟨rfl, rfl, _, rfl, nt hD1 hD2⟩
                  ·
                    exact absurd c212 (by omega)
      ·
        refine sd_aload_n dMO_rule_165 rfl rfl ?_
        refine sd_iload dMO_rule_166 rfl ?_
        refine fx_puti 10 5 dMO_rule_168 fMO_117 rfl rfl rfl rfl hB ?_
        refine sd_bipush (v := (-6)) dMO_rule_171 (by decide) ?_
        obtain ⟨rfl, rfl⟩ := h1 (by omega)
        exact sd_iret dMO_rule_173 rfl (Nat.le_refl _) (Nat.le_refl _) ⟨rfl, rfl, _, rfl, bk hD1⟩
