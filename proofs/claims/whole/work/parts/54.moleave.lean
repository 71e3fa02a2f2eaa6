/-! ===== the model: leave ===== -/
/-- the terms that a tactic leaves -/
def lv_rows (S : st_S) (k x g : Nat) : List tl_T := match k with
  | 2 => [(9, 4) :: (tl_part (su_m S g) 1 ++ st_tm S x), (9, 4) :: (st_tm S x ++ tl_part (su_m S g) (tl_end (su_m S g) 1))]
  | 3 => [(9, 4) :: (tl_part (su_m S g) 2 ++ tl_part (su_m S g) (tl_end (su_m S g) 1 + 1)), (9, 4) :: (tl_part (su_m S g) (tl_end (su_m S g) 2) ++ tl_part (su_m S g) (tl_end (su_m S g) (tl_end (su_m S g) 1 + 1)))]
  | 4 => [(9, 4) :: (tl_fill (su_m S g) 1 (.inr x) ++ tl_fill (su_m S g) (tl_end (su_m S g) 1) (.inr x))]
  | 6 => [(9, 4) :: (st_tm S x ++ su_m S g), st_tm S x]
  | 7 => [tl_part (su_m S g) (tl_end (su_m S g) 1), tl_part (su_m S g) 1]
  | _ => []
/-- a row is written -/
def lv_w (D : fx_D) (r : Nat) (L : tl_T) : fx_D := mo_adds (fx_ua D 3 r (nI 0)) r L
theorem lv_w_ok {S : st_S} {D : fx_D} {r : Nat} {L : tl_T} (hR : mo_R S D) (hr : 64 ≤ r) (hg : ∀ x ∈ L, tl_g1 x) : mo_R S (lv_w D r L) ∧ mo_fa D (lv_w D r L) r ∧ ((L.length ≤ 24 ∧ mo_row (lv_w D r L) r L ∧ (lv_w D r L).2.1 0 7 = D.2.1 0 7) ∨ (24 < L.length ∧ (lv_w D r L).2.1 0 7 = nI 1)) := by
  have hf : mo_fa D (lv_w D r L) r := mo_begin_fa.tr (mo_adds_fa L _ mo_begin_row.okl)
  refine ⟨mo_R_fa hR hf hr, hf, ?_⟩
  have h := mo_adds_row L [] _ (mo_begin_row (D := D) (r := r)) hg
  rw [List.nil_append] at h
  exact h
theorem lv_w_over {D : fx_D} {r : Nat} {L : tl_T} (h : D.2.1 0 7 = nI 1) : (lv_w D r L).2.1 0 7 = nI 1 := mo_adds_over L _ h
/-- behind leave -/
def lv_P (S : st_S) (rows : List tl_T) (D' : fx_D) : Prop := mo_R S D' ∧ (((∀ (j : Nat) (l : tl_T), rows[j]? = some l → l.length ≤ 24 ∧ mo_row D' (64 + j) l) ∧ D'.2.1 0 7 = nI 0) ∨ ((∃ l ∈ rows, 24 < l.length) ∧ D'.2.1 0 7 = nI 1))
theorem lv_one {S : st_S} {D : fx_D} {L : tl_T} (hR : mo_R S D) (hov : D.2.1 0 7 = nI 0) (hg : ∀ x ∈ L, tl_g1 x) : lv_P S [L] (lv_w D 64 L) := by
  obtain ⟨h1, h2, h3⟩ := lv_w_ok (r := 64) hR (by omega) hg
  refine ⟨h1, ?_⟩
  rcases h3 with ⟨a1, a2, a3⟩ | ⟨a1, a2⟩
  · refine Or.inl ⟨fun j l hj => ?_, a3.trans hov⟩
    have hj0 : j < 1 := getE_lt hj
    obtain rfl : j = 0 := by omega
    cases hj
    exact ⟨a1, a2⟩
  · exact Or.inr ⟨⟨L, by simp, a1⟩, a2⟩
theorem lv_two {S : st_S} {D : fx_D} {L M : tl_T} (hR : mo_R S D) (hov : D.2.1 0 7 = nI 0) (hg : ∀ x ∈ L, tl_g1 x) (hm : ∀ x ∈ M, tl_g1 x) : lv_P S [L, M] (lv_w (lv_w D 64 L) 65 M) := by
  obtain ⟨h1, h2, h3⟩ := lv_w_ok (r := 64) hR (by omega) hg
  obtain ⟨k1, k2, k3⟩ := lv_w_ok (r := 65) h1 (by omega) hm
  refine ⟨k1, ?_⟩
  rcases h3 with ⟨a1, a2, a3⟩ | ⟨a1, a2⟩
  · rcases k3 with ⟨b1, b2, b3⟩ | ⟨b1, b2⟩
    · refine Or.inl ⟨fun j l hj => ?_, b3.trans (a3.trans hov)⟩
      have hj0 : j < 2 := getE_lt hj
      rcases (show j = 0 ∨ j = 1 by omega) with rfl | rfl
      · cases hj
        exact ⟨a1, k2.2.2.2.1 64 L (by omega) a2⟩
      · cases hj
        exact ⟨b1, b2⟩
    · exact Or.inr ⟨⟨M, by simp, b1⟩, b2⟩
  · exact Or.inr ⟨⟨L, by simp, a1⟩, lv_w_over a2⟩
theorem dMO_leave_0 : decode prog_13_method_64_code 0 = .ok (.aload_n 0, 1) := by decide +kernel
theorem dMO_leave_1 : decode prog_13_method_64_code 1 = .ok (.iload_n 3, 1) := by decide +kernel
theorem dMO_leave_2 : decode prog_13_method_64_code 2 = .ok (.invokevirtual 222, 3) := by decide +kernel
theorem dMO_leave_5 : decode prog_13_method_64_code 5 = .ok (.ifCond .eq (12), 3) := by decide +kernel
theorem dMO_leave_8 : decode prog_13_method_64_code 8 = .ok (.aload_n 0, 1) := by decide +kernel
theorem dMO_leave_9 : decode prog_13_method_64_code 9 = .ok (.iload_n 3, 1) := by decide +kernel
theorem dMO_leave_10 : decode prog_13_method_64_code 10 = .ok (.iconst 1, 1) := by decide +kernel
theorem dMO_leave_11 : decode prog_13_method_64_code 11 = .ok (.invokevirtual 128, 3) := by decide +kernel
theorem dMO_leave_14 : decode prog_13_method_64_code 14 = .ok (.goto (4), 3) := by decide +kernel
theorem dMO_leave_17 : decode prog_13_method_64_code 17 = .ok (.iconst 0, 1) := by decide +kernel
theorem dMO_leave_18 : decode prog_13_method_64_code 18 = .ok (.istore 4, 2) := by decide +kernel
theorem dMO_leave_20 : decode prog_13_method_64_code 20 = .ok (.iload_n 1, 1) := by decide +kernel
theorem dMO_leave_21 : decode prog_13_method_64_code 21 = .ok (.tableswitch (195) (2) (7) #[39, 62, 100, 195, 138, 164], 39) := by decide +kernel
theorem dMO_leave_60 : decode prog_13_method_64_code 60 = .ok (.aload_n 0, 1) := by decide +kernel
theorem dMO_leave_61 : decode prog_13_method_64_code 61 = .ok (.bipush (64), 2) := by decide +kernel
theorem dMO_leave_63 : decode prog_13_method_64_code 63 = .ok (.iload_n 3, 1) := by decide +kernel
theorem dMO_leave_64 : decode prog_13_method_64_code 64 = .ok (.iconst 1, 1) := by decide +kernel
theorem dMO_leave_65 : decode prog_13_method_64_code 65 = .ok (.iload_n 2, 1) := by decide +kernel
theorem dMO_leave_66 : decode prog_13_method_64_code 66 = .ok (.iconst 0, 1) := by decide +kernel
theorem dMO_leave_67 : decode prog_13_method_64_code 67 = .ok (.invokevirtual 237, 3) := by decide +kernel
theorem dMO_leave_70 : decode prog_13_method_64_code 70 = .ok (.aload_n 0, 1) := by decide +kernel
theorem dMO_leave_71 : decode prog_13_method_64_code 71 = .ok (.bipush (65), 2) := by decide +kernel
theorem dMO_leave_73 : decode prog_13_method_64_code 73 = .ok (.iload_n 2, 1) := by decide +kernel
theorem dMO_leave_74 : decode prog_13_method_64_code 74 = .ok (.iconst 0, 1) := by decide +kernel
theorem dMO_leave_75 : decode prog_13_method_64_code 75 = .ok (.iload_n 3, 1) := by decide +kernel
theorem dMO_leave_76 : decode prog_13_method_64_code 76 = .ok (.iload 4, 2) := by decide +kernel
theorem dMO_leave_78 : decode prog_13_method_64_code 78 = .ok (.invokevirtual 237, 3) := by decide +kernel
theorem dMO_leave_81 : decode prog_13_method_64_code 81 = .ok (.iconst 2, 1) := by decide +kernel
theorem dMO_leave_82 : decode prog_13_method_64_code 82 = .ok (.ireturn, 1) := by decide +kernel
theorem dMO_leave_83 : decode prog_13_method_64_code 83 = .ok (.aload_n 0, 1) := by decide +kernel
theorem dMO_leave_84 : decode prog_13_method_64_code 84 = .ok (.bipush (64), 2) := by decide +kernel
theorem dMO_leave_86 : decode prog_13_method_64_code 86 = .ok (.iload_n 3, 1) := by decide +kernel
theorem dMO_leave_87 : decode prog_13_method_64_code 87 = .ok (.iconst 2, 1) := by decide +kernel
theorem dMO_leave_88 : decode prog_13_method_64_code 88 = .ok (.iload_n 3, 1) := by decide +kernel
theorem dMO_leave_89 : decode prog_13_method_64_code 89 = .ok (.iload 4, 2) := by decide +kernel
theorem dMO_leave_91 : decode prog_13_method_64_code 91 = .ok (.iconst 1, 1) := by decide +kernel
theorem dMO_leave_92 : decode prog_13_method_64_code 92 = .ok (.iadd, 1) := by decide +kernel
theorem dMO_leave_93 : decode prog_13_method_64_code 93 = .ok (.invokevirtual 237, 3) := by decide +kernel
theorem dMO_leave_96 : decode prog_13_method_64_code 96 = .ok (.aload_n 0, 1) := by decide +kernel
theorem dMO_leave_97 : decode prog_13_method_64_code 97 = .ok (.bipush (65), 2) := by decide +kernel
theorem dMO_leave_99 : decode prog_13_method_64_code 99 = .ok (.iload_n 3, 1) := by decide +kernel
theorem dMO_leave_100 : decode prog_13_method_64_code 100 = .ok (.aload_n 0, 1) := by decide +kernel
theorem dMO_leave_101 : decode prog_13_method_64_code 101 = .ok (.iload_n 3, 1) := by decide +kernel
theorem dMO_leave_102 : decode prog_13_method_64_code 102 = .ok (.iconst 2, 1) := by decide +kernel
theorem dMO_leave_103 : decode prog_13_method_64_code 103 = .ok (.invokevirtual 128, 3) := by decide +kernel
theorem dMO_leave_106 : decode prog_13_method_64_code 106 = .ok (.iload_n 3, 1) := by decide +kernel
theorem dMO_leave_107 : decode prog_13_method_64_code 107 = .ok (.aload_n 0, 1) := by decide +kernel
theorem dMO_leave_108 : decode prog_13_method_64_code 108 = .ok (.iload_n 3, 1) := by decide +kernel
theorem dMO_leave_109 : decode prog_13_method_64_code 109 = .ok (.iload 4, 2) := by decide +kernel
theorem dMO_leave_111 : decode prog_13_method_64_code 111 = .ok (.iconst 1, 1) := by decide +kernel
theorem dMO_leave_112 : decode prog_13_method_64_code 112 = .ok (.iadd, 1) := by decide +kernel
theorem dMO_leave_113 : decode prog_13_method_64_code 113 = .ok (.invokevirtual 128, 3) := by decide +kernel
theorem dMO_leave_116 : decode prog_13_method_64_code 116 = .ok (.invokevirtual 237, 3) := by decide +kernel
theorem dMO_leave_119 : decode prog_13_method_64_code 119 = .ok (.iconst 2, 1) := by decide +kernel
theorem dMO_leave_120 : decode prog_13_method_64_code 120 = .ok (.ireturn, 1) := by decide +kernel
theorem dMO_leave_121 : decode prog_13_method_64_code 121 = .ok (.aload_n 0, 1) := by decide +kernel
theorem dMO_leave_122 : decode prog_13_method_64_code 122 = .ok (.bipush (64), 2) := by decide +kernel
theorem dMO_leave_124 : decode prog_13_method_64_code 124 = .ok (.invokevirtual 151, 3) := by decide +kernel
theorem dMO_leave_127 : decode prog_13_method_64_code 127 = .ok (.aload_n 0, 1) := by decide +kernel
theorem dMO_leave_128 : decode prog_13_method_64_code 128 = .ok (.bipush (64), 2) := by decide +kernel
theorem dMO_leave_130 : decode prog_13_method_64_code 130 = .ok (.bipush (9), 2) := by decide +kernel
theorem dMO_leave_132 : decode prog_13_method_64_code 132 = .ok (.iconst 4, 1) := by decide +kernel
theorem dMO_leave_133 : decode prog_13_method_64_code 133 = .ok (.invokevirtual 137, 3) := by decide +kernel
theorem dMO_leave_136 : decode prog_13_method_64_code 136 = .ok (.aload_n 0, 1) := by decide +kernel
theorem dMO_leave_137 : decode prog_13_method_64_code 137 = .ok (.iload_n 3, 1) := by decide +kernel
theorem dMO_leave_138 : decode prog_13_method_64_code 138 = .ok (.iconst 1, 1) := by decide +kernel
theorem dMO_leave_139 : decode prog_13_method_64_code 139 = .ok (.iconst (-1), 1) := by decide +kernel
theorem dMO_leave_140 : decode prog_13_method_64_code 140 = .ok (.iload_n 2, 1) := by decide +kernel
theorem dMO_leave_141 : decode prog_13_method_64_code 141 = .ok (.bipush (64), 2) := by decide +kernel
theorem dMO_leave_143 : decode prog_13_method_64_code 143 = .ok (.invokevirtual 209, 3) := by decide +kernel
theorem dMO_leave_146 : decode prog_13_method_64_code 146 = .ok (.aload_n 0, 1) := by decide +kernel
theorem dMO_leave_147 : decode prog_13_method_64_code 147 = .ok (.iload_n 3, 1) := by decide +kernel
theorem dMO_leave_148 : decode prog_13_method_64_code 148 = .ok (.iload 4, 2) := by decide +kernel
theorem dMO_leave_150 : decode prog_13_method_64_code 150 = .ok (.iconst (-1), 1) := by decide +kernel
theorem dMO_leave_151 : decode prog_13_method_64_code 151 = .ok (.iload_n 2, 1) := by decide +kernel
theorem dMO_leave_152 : decode prog_13_method_64_code 152 = .ok (.bipush (64), 2) := by decide +kernel
theorem dMO_leave_154 : decode prog_13_method_64_code 154 = .ok (.invokevirtual 209, 3) := by decide +kernel
theorem dMO_leave_157 : decode prog_13_method_64_code 157 = .ok (.iconst 1, 1) := by decide +kernel
theorem dMO_leave_158 : decode prog_13_method_64_code 158 = .ok (.ireturn, 1) := by decide +kernel
theorem dMO_leave_159 : decode prog_13_method_64_code 159 = .ok (.aload_n 0, 1) := by decide +kernel
theorem dMO_leave_160 : decode prog_13_method_64_code 160 = .ok (.bipush (64), 2) := by decide +kernel
theorem dMO_leave_162 : decode prog_13_method_64_code 162 = .ok (.iload_n 2, 1) := by decide +kernel
theorem dMO_leave_163 : decode prog_13_method_64_code 163 = .ok (.iconst 0, 1) := by decide +kernel
theorem dMO_leave_164 : decode prog_13_method_64_code 164 = .ok (.iload_n 3, 1) := by decide +kernel
theorem dMO_leave_165 : decode prog_13_method_64_code 165 = .ok (.iconst 0, 1) := by decide +kernel
theorem dMO_leave_166 : decode prog_13_method_64_code 166 = .ok (.invokevirtual 237, 3) := by decide +kernel
theorem dMO_leave_169 : decode prog_13_method_64_code 169 = .ok (.aload_n 0, 1) := by decide +kernel
theorem dMO_leave_170 : decode prog_13_method_64_code 170 = .ok (.bipush (65), 2) := by decide +kernel
theorem dMO_leave_172 : decode prog_13_method_64_code 172 = .ok (.invokevirtual 151, 3) := by decide +kernel
theorem dMO_leave_175 : decode prog_13_method_64_code 175 = .ok (.aload_n 0, 1) := by decide +kernel
theorem dMO_leave_176 : decode prog_13_method_64_code 176 = .ok (.iload_n 2, 1) := by decide +kernel
theorem dMO_leave_177 : decode prog_13_method_64_code 177 = .ok (.iconst 0, 1) := by decide +kernel
theorem dMO_leave_178 : decode prog_13_method_64_code 178 = .ok (.bipush (65), 2) := by decide +kernel
theorem dMO_leave_180 : decode prog_13_method_64_code 180 = .ok (.invokevirtual 155, 3) := by decide +kernel
theorem dMO_leave_183 : decode prog_13_method_64_code 183 = .ok (.iconst 2, 1) := by decide +kernel
theorem dMO_leave_184 : decode prog_13_method_64_code 184 = .ok (.ireturn, 1) := by decide +kernel
theorem dMO_leave_185 : decode prog_13_method_64_code 185 = .ok (.aload_n 0, 1) := by decide +kernel
theorem dMO_leave_186 : decode prog_13_method_64_code 186 = .ok (.bipush (64), 2) := by decide +kernel
theorem dMO_leave_188 : decode prog_13_method_64_code 188 = .ok (.invokevirtual 151, 3) := by decide +kernel
theorem dMO_leave_191 : decode prog_13_method_64_code 191 = .ok (.aload_n 0, 1) := by decide +kernel
theorem dMO_leave_192 : decode prog_13_method_64_code 192 = .ok (.iload_n 3, 1) := by decide +kernel
theorem dMO_leave_193 : decode prog_13_method_64_code 193 = .ok (.iload 4, 2) := by decide +kernel
theorem dMO_leave_195 : decode prog_13_method_64_code 195 = .ok (.bipush (64), 2) := by decide +kernel
theorem dMO_leave_197 : decode prog_13_method_64_code 197 = .ok (.invokevirtual 155, 3) := by decide +kernel
theorem dMO_leave_200 : decode prog_13_method_64_code 200 = .ok (.aload_n 0, 1) := by decide +kernel
theorem dMO_leave_201 : decode prog_13_method_64_code 201 = .ok (.bipush (65), 2) := by decide +kernel
theorem dMO_leave_203 : decode prog_13_method_64_code 203 = .ok (.invokevirtual 151, 3) := by decide +kernel
theorem dMO_leave_206 : decode prog_13_method_64_code 206 = .ok (.aload_n 0, 1) := by decide +kernel
theorem dMO_leave_207 : decode prog_13_method_64_code 207 = .ok (.iload_n 3, 1) := by decide +kernel
theorem dMO_leave_208 : decode prog_13_method_64_code 208 = .ok (.iconst 1, 1) := by decide +kernel
theorem dMO_leave_209 : decode prog_13_method_64_code 209 = .ok (.bipush (65), 2) := by decide +kernel
theorem dMO_leave_211 : decode prog_13_method_64_code 211 = .ok (.invokevirtual 155, 3) := by decide +kernel
theorem dMO_leave_214 : decode prog_13_method_64_code 214 = .ok (.iconst 2, 1) := by decide +kernel
theorem dMO_leave_215 : decode prog_13_method_64_code 215 = .ok (.ireturn, 1) := by decide +kernel
theorem dMO_leave_216 : decode prog_13_method_64_code 216 = .ok (.iconst 0, 1) := by decide +kernel
theorem dMO_leave_217 : decode prog_13_method_64_code 217 = .ok (.ireturn, 1) := by decide +kernel
theorem h_MO_leave {G : sd_G} {o : Nat} {D : fx_D} {h0 : sd_H} {nx k g : Nat} {x : Int32} {S : st_S} {Q : sd_Q} (hR : mo_R S D) (hG : st_okG S) (hg : g < (st_gl S).length)
    (kk : sd_W G mMO_leave 4 0 0 Q 20 [(0, .ref (o + 0)), (1, .int (nI k)), (2, .int x), (3, .int (nI (st_gt S g))), (4, .int (nI (su_e S g)))] [] (fx_h G.1.2 mo_S o D h0) nx 0 0) :
    sd_W G mMO_leave 4 0 0 Q 0 [(0, .ref (o + 0)), (1, .int (nI k)), (2, .int x), (3, .int (nI (st_gt S g)))] [] (fx_h G.1.2 mo_S o D h0) nx 0 0 := by
  obtain ⟨g1, g2, g3, g4, g5, g6⟩ := mo_gg hR hG hg
  obtain ⟨-, m1, m2, m3⟩ := mo_tm hR g2
  have p0 := m2.hd
  by_cases hEt : tl_isE (su_m S g) = true
  · have cE := c_MO_isEqual (G := G) (o := o) (h0 := h0) (nx := nx) (b := 1) (by omega) m1 p0 (by omega) (by simp only [true_iff]; exact tl_isE_iff.mp hEt)
    obtain ⟨l1, l2, l3⟩ := m2.two (tl_E2 hEt)
    have ee : su_e S g = tl_end (st_tm S (st_gt S g)) 1 := by unfold su_e; rw [if_pos hEt]; rfl
    rw [ee] at kk
    refine sd_aload_n dMO_leave_0 rfl rfl ?_
    refine sd_iload_n dMO_leave_1 rfl rfl ?_
    refine fx_cV 10 sR_MO [.int (nI (st_gt S g))] [] dMO_leave_2 kMO_222 rfl rfl mMO_isEqual_v (cE) (by decide) (Nat.le_refl _) (Nat.le_refl _) (Nat.le_of_ble_eq_true rfl) rfl ?_
    refine nn_if_eq 17 dMO_leave_5 (by decide) (by decide) (fun c => absurd c (by decide)) (fun _ => ?_)
    refine sd_aload_n dMO_leave_8 rfl rfl ?_
    refine sd_iload_n dMO_leave_9 rfl rfl ?_
    refine sd_iconst (v := nI 1) dMO_leave_10 (by decide) ?_
    refine fx_cV 10 sR_MO [.int (nI (st_gt S g)), .int (nI (1))] [] dMO_leave_11 kMO_128 rfl rfl mMO_end_v (c_MO_end (by omega) m1 (by omega) (tl_ok_drop _ 1 1 m2.1 m2.2.1 l1)) (by decide) (Nat.le_refl _) (Nat.le_refl _) (Nat.le_of_ble_eq_true rfl) rfl ?_
    refine sd_goto 18 dMO_leave_14 (by decide) ?_
    refine sd_istore dMO_leave_18 (by decide) ?_
    refine sd_locp (al' := [(0, .ref (o + (0))), (1, .int (nI (k))), (2, .int (x)), (3, .int (nI (st_gt S g))), (4, .int (nI (tl_end (st_tm S (st_gt S g)) 1)))]) [1, 2, 3, 4, 0] rfl ?_
    exact kk
  · have cE := c_MO_isEqual (G := G) (o := o) (h0 := h0) (nx := nx) (b := 0) (by omega) m1 p0 (by omega) (by constructor; intro e; cases e; intro e; exact absurd (tl_isE_iff.mpr e) hEt)
    have ee : su_e S g = 0 := by unfold su_e; rw [if_neg hEt]
    rw [ee] at kk
    refine sd_aload_n dMO_leave_0 rfl rfl ?_
    refine sd_iload_n dMO_leave_1 rfl rfl ?_
    refine fx_cV 10 sR_MO [.int (nI (st_gt S g))] [] dMO_leave_2 kMO_222 rfl rfl mMO_isEqual_v (cE) (by decide) (Nat.le_refl _) (Nat.le_refl _) (Nat.le_of_ble_eq_true rfl) rfl ?_
    refine nn_if_eq 17 dMO_leave_5 (by decide) (by decide) (fun _ => ?_) (fun c => absurd c (by decide))
    refine sd_iconst (v := nI 0) dMO_leave_17 (by decide) ?_
    refine sd_istore dMO_leave_18 (by decide) ?_
    refine sd_locp (al' := [(0, .ref (o + (0))), (1, .int (nI (k))), (2, .int (x)), (3, .int (nI (st_gt S g))), (4, .int (nI (0)))]) [1, 2, 3, 4, 0] rfl ?_
    exact kk
theorem c_MO_leave2 {G : sd_G} {o : Nat} {D : fx_D} {h0 : sd_H} {nx g y : Nat} {S : st_S} (hB : G.2.1 ≤ o) (hR : mo_R S D) (hT : st_okT S) (hG : st_okG S) (hg : g < (st_gl S).length) (hov : D.2.1 0 7 = nI 0) (hy : y < (st_T S).length) (hE : tl_isE (su_m S g) = true) : sd_Ct G mMO_leave 4 0 0 [.ref (o + 0), .int (nI 2), .int (nI y), .int (nI (st_gt S g))] (fx_h G.1.2 mo_S o D h0) nx (fx_is G.1.2 mo_S o h0 nx (some (.int (nI 2))) (lv_P S (lv_rows S 2 y g))) := by
  refine sd_Ct_of (by decide) (Nat.le_of_ble_eq_true rfl) (h_MO_leave hR hG hg ?_)
  obtain ⟨g1, g2, g3, g4, g5, g6⟩ := mo_gg hR hG hg
  obtain ⟨-, m1, m2, m3⟩ := mo_tm hR g2
  obtain ⟨l1, l2, l3⟩ := m2.two (tl_E2 hE)
  obtain ⟨-, n1, n2, n3⟩ := mo_tm hR hy
  have ee : su_e S g = tl_end (st_tm S (st_gt S g)) 1 := by unfold su_e; rw [if_pos hE]; rfl
  rw [ee]
  have A := st_g1 hR hT g2
  have B := st_g1 hR hT hy
  have ga : ∀ x ∈ ((9, 4) :: (tl_part (st_tm S (st_gt S g)) 1 ++ st_tm S y) : tl_T), tl_g1 x := fm_cons tl_g1_94 (fm_app (fm_part A) B)
  have gb : ∀ x ∈ ((9, 4) :: (st_tm S y ++ tl_part (st_tm S (st_gt S g)) (tl_end (st_tm S (st_gt S g)) 1)) : tl_T), tl_g1 x := fm_cons tl_g1_94 (fm_app B (fm_part A))
  obtain ⟨R1, f1, -⟩ := lv_w_ok (r := 64) hR (by omega) ga
  have m1' := f1.2.2.2.1 _ _ (show st_gt S g ≠ 64 by omega) m1
  have n1' := f1.2.2.2.1 _ _ (show y ≠ 64 by omega) n1
  have c1 := c_MO_equal (G := G) (o := o) (h0 := h0) (nx := nx) (r := 64) (i := 1) (j := 0) hB (by omega) (show st_gt S g < 72 by omega) (show y < 72 by omega) (by omega) (by omega) m1 n1 (by omega) (by omega) (tl_ok_drop _ 1 1 m2.1 m2.2.1 l1) n2.1
  rw [n2.part] at c1
  have c2 := c_MO_equal (G := G) (o := o) (h0 := h0) (nx := nx) (r := 65) (i := 0) (j := tl_end (st_tm S (st_gt S g)) 1) hB (by omega) (show y < 72 by omega) (show st_gt S g < 72 by omega) (by omega) (by omega) n1' m1' (by omega) (by omega) n2.1 (tl_ok_drop _ 1 _ m2.1 m2.2.1 l2)
  rw [n2.part] at c2
  refine sd_iload_n dMO_leave_20 rfl rfl ?_
  refine sd_tableIn (off := 39) 60 dMO_leave_21 (by decide) (by decide) (by decide) (by decide) ?_
  refine sd_aload_n dMO_leave_60 rfl rfl ?_
  refine sd_bipush (v := nI 64) dMO_leave_61 (by decide) ?_
  refine sd_iload_n dMO_leave_63 rfl rfl ?_
  refine sd_iconst (v := nI 1) dMO_leave_64 (by decide) ?_
  refine sd_iload_n dMO_leave_65 rfl rfl ?_
  refine sd_iconst (v := nI 0) dMO_leave_66 (by decide) ?_
  refine fx_cV 10 sR_MO [.int (nI (64)), .int (nI (st_gt S g)), .int (nI (1)), .int (nI (y)), .int (nI (0))] [] dMO_leave_67 kMO_237 rfl rfl mMO_equal_v (c1) (by decide) (Nat.le_refl _) (Nat.le_refl _) (Nat.le_of_ble_eq_true rfl) rfl ?_
  refine sd_aload_n dMO_leave_70 rfl rfl ?_
  refine sd_bipush (v := nI 65) dMO_leave_71 (by decide) ?_
  refine sd_iload_n dMO_leave_73 rfl rfl ?_
  refine sd_iconst (v := nI 0) dMO_leave_74 (by decide) ?_
  refine sd_iload_n dMO_leave_75 rfl rfl ?_
  refine sd_iload dMO_leave_76 rfl ?_
  refine fx_cV 10 sR_MO [.int (nI (65)), .int (nI (y)), .int (nI (0)), .int (nI (st_gt S g)), .int (nI (tl_end (st_tm S (st_gt S g)) 1))] [] dMO_leave_78 kMO_237 rfl rfl mMO_equal_v (c2) (by decide) (Nat.le_refl _) (Nat.le_refl _) (Nat.le_of_ble_eq_true rfl) rfl ?_
  refine sd_iconst (v := nI 2) dMO_leave_81 (by decide) ?_
  exact sd_iret dMO_leave_82 rfl (Nat.le_refl _) (Nat.le_refl _) ⟨rfl, rfl, _, rfl, lv_two hR hov ga gb⟩
theorem c_MO_leave6 {G : sd_G} {o : Nat} {D : fx_D} {h0 : sd_H} {nx g y : Nat} {S : st_S} (hB : G.2.1 ≤ o) (hR : mo_R S D) (hT : st_okT S) (hG : st_okG S) (hg : g < (st_gl S).length) (hov : D.2.1 0 7 = nI 0) (hy : y < (st_T S).length) : sd_Ct G mMO_leave 4 0 0 [.ref (o + 0), .int (nI 6), .int (nI y), .int (nI (st_gt S g))] (fx_h G.1.2 mo_S o D h0) nx (fx_is G.1.2 mo_S o h0 nx (some (.int (nI 2))) (lv_P S (lv_rows S 6 y g))) := by
  refine sd_Ct_of (by decide) (Nat.le_of_ble_eq_true rfl) (h_MO_leave hR hG hg ?_)
  obtain ⟨g1, g2, g3, g4, g5, g6⟩ := mo_gg hR hG hg
  obtain ⟨-, m1, m2, m3⟩ := mo_tm hR g2
  obtain ⟨-, n1, n2, n3⟩ := mo_tm hR hy
  have A := st_g1 hR hT g2
  have B := st_g1 hR hT hy
  have ga : ∀ x ∈ ((9, 4) :: (st_tm S y ++ st_tm S (st_gt S g)) : tl_T), tl_g1 x := fm_cons tl_g1_94 (fm_app B A)
  obtain ⟨R1, f1, -⟩ := lv_w_ok (r := 64) hR (by omega) ga
  have n1' := f1.2.2.2.1 _ _ (show y ≠ 64 by omega) n1
  have c1 := c_MO_equal (G := G) (o := o) (h0 := h0) (nx := nx) (r := 64) (i := 0) (j := 0) hB (by omega) (show y < 72 by omega) (show st_gt S g < 72 by omega) (by omega) (by omega) n1 m1 (by omega) (by omega) n2.1 m2.1
  rw [n2.part, m2.part] at c1
  have c2 := c_MO_copy (G := G) (o := o) (h0 := h0) (nx := nx) (r := 65) (i := 0) hB (by omega) (show y < 72 by omega) (by omega) (mo_begin_other (r := 65) n1' (by omega)) mo_begin_row.okl (Nat.zero_le _) n2.1
  rw [n2.part] at c2
  refine sd_iload_n dMO_leave_20 rfl rfl ?_
  refine sd_tableIn (off := 138) 159 dMO_leave_21 (by decide) (by decide) (by decide) (by decide) ?_
  refine sd_aload_n dMO_leave_159 rfl rfl ?_
  refine sd_bipush (v := nI 64) dMO_leave_160 (by decide) ?_
  refine sd_iload_n dMO_leave_162 rfl rfl ?_
  refine sd_iconst (v := nI 0) dMO_leave_163 (by decide) ?_
  refine sd_iload_n dMO_leave_164 rfl rfl ?_
  refine sd_iconst (v := nI 0) dMO_leave_165 (by decide) ?_
  refine fx_cV 10 sR_MO [.int (nI (64)), .int (nI (y)), .int (nI (0)), .int (nI (st_gt S g)), .int (nI (0))] [] dMO_leave_166 kMO_237 rfl rfl mMO_equal_v (c1) (by decide) (Nat.le_refl _) (Nat.le_refl _) (Nat.le_of_ble_eq_true rfl) rfl ?_
  refine sd_aload_n dMO_leave_169 rfl rfl ?_
  refine sd_bipush (v := nI 65) dMO_leave_170 (by decide) ?_
  refine fx_cV 10 sR_MO [.int (nI (65))] [] dMO_leave_172 kMO_151 rfl rfl mMO_begin_v (c_MO_begin hB (by omega)) (by decide) (Nat.le_refl _) (Nat.le_refl _) (Nat.le_of_ble_eq_true rfl) rfl ?_
  refine sd_aload_n dMO_leave_175 rfl rfl ?_
  refine sd_iload_n dMO_leave_176 rfl rfl ?_
  refine sd_iconst (v := nI 0) dMO_leave_177 (by decide) ?_
  refine sd_bipush (v := nI 65) dMO_leave_178 (by decide) ?_
  refine fx_cV 10 sR_MO [.int (nI (y)), .int (nI (0)), .int (nI (65))] [] dMO_leave_180 kMO_155 rfl rfl mMO_copy_v (c2) (by decide) (Nat.le_refl _) (Nat.le_refl _) (Nat.le_of_ble_eq_true rfl) rfl ?_
  refine sd_iconst (v := nI 2) dMO_leave_183 (by decide) ?_
  exact sd_iret dMO_leave_184 rfl (Nat.le_refl _) (Nat.le_refl _) ⟨rfl, rfl, _, rfl, lv_two hR hov ga B⟩
theorem c_MO_leave7 {G : sd_G} {o : Nat} {D : fx_D} {h0 : sd_H} {nx g y : Nat} {x : Int32} {S : st_S} (hB : G.2.1 ≤ o) (hR : mo_R S D) (hT : st_okT S) (hG : st_okG S) (hg : g < (st_gl S).length) (hov : D.2.1 0 7 = nI 0) (hE : tl_isE (su_m S g) = true) : sd_Ct G mMO_leave 4 0 0 [.ref (o + 0), .int (nI 7), .int x, .int (nI (st_gt S g))] (fx_h G.1.2 mo_S o D h0) nx (fx_is G.1.2 mo_S o h0 nx (some (.int (nI 2))) (lv_P S (lv_rows S 7 y g))) := by
  refine sd_Ct_of (by decide) (Nat.le_of_ble_eq_true rfl) (h_MO_leave hR hG hg ?_)
  obtain ⟨g1, g2, g3, g4, g5, g6⟩ := mo_gg hR hG hg
  obtain ⟨-, m1, m2, m3⟩ := mo_tm hR g2
  obtain ⟨l1, l2, l3⟩ := m2.two (tl_E2 hE)
  have ee : su_e S g = tl_end (st_tm S (st_gt S g)) 1 := by unfold su_e; rw [if_pos hE]; rfl
  rw [ee]
  have A := st_g1 hR hT g2
  have ga : ∀ x ∈ tl_part (st_tm S (st_gt S g)) (tl_end (st_tm S (st_gt S g)) 1), tl_g1 x := fm_part A
  have gb : ∀ x ∈ tl_part (st_tm S (st_gt S g)) 1, tl_g1 x := fm_part A
  obtain ⟨R1, f1, -⟩ := lv_w_ok (r := 64) hR (by omega) ga
  have m1' := f1.2.2.2.1 _ _ (show st_gt S g ≠ 64 by omega) m1
  have c1 := c_MO_copy (G := G) (o := o) (h0 := h0) (nx := nx) (r := 64) (i := tl_end (st_tm S (st_gt S g)) 1) hB (by omega) (show st_gt S g < 72 by omega) (by omega) (mo_begin_other (r := 64) m1 (by omega)) mo_begin_row.okl (by omega) (tl_ok_drop _ 1 _ m2.1 m2.2.1 l2)
  have c2 := c_MO_copy (G := G) (o := o) (h0 := h0) (nx := nx) (r := 65) (i := 1) hB (by omega) (show st_gt S g < 72 by omega) (by omega) (mo_begin_other (r := 65) m1' (by omega)) mo_begin_row.okl (by omega) (tl_ok_drop _ 1 1 m2.1 m2.2.1 l1)
  refine sd_iload_n dMO_leave_20 rfl rfl ?_
  refine sd_tableIn (off := 164) 185 dMO_leave_21 (by decide) (by decide) (by decide) (by decide) ?_
  refine sd_aload_n dMO_leave_185 rfl rfl ?_
  refine sd_bipush (v := nI 64) dMO_leave_186 (by decide) ?_
  refine fx_cV 10 sR_MO [.int (nI (64))] [] dMO_leave_188 kMO_151 rfl rfl mMO_begin_v (c_MO_begin hB (by omega)) (by decide) (Nat.le_refl _) (Nat.le_refl _) (Nat.le_of_ble_eq_true rfl) rfl ?_
  refine sd_aload_n dMO_leave_191 rfl rfl ?_
  refine sd_iload_n dMO_leave_192 rfl rfl ?_
  refine sd_iload dMO_leave_193 rfl ?_
  refine sd_bipush (v := nI 64) dMO_leave_195 (by decide) ?_
  refine fx_cV 10 sR_MO [.int (nI (st_gt S g)), .int (nI (tl_end (st_tm S (st_gt S g)) 1)), .int (nI (64))] [] dMO_leave_197 kMO_155 rfl rfl mMO_copy_v (c1) (by decide) (Nat.le_refl _) (Nat.le_refl _) (Nat.le_of_ble_eq_true rfl) rfl ?_
  refine sd_aload_n dMO_leave_200 rfl rfl ?_
  refine sd_bipush (v := nI 65) dMO_leave_201 (by decide) ?_
  refine fx_cV 10 sR_MO [.int (nI (65))] [] dMO_leave_203 kMO_151 rfl rfl mMO_begin_v (c_MO_begin hB (by omega)) (by decide) (Nat.le_refl _) (Nat.le_refl _) (Nat.le_of_ble_eq_true rfl) rfl ?_
  refine sd_aload_n dMO_leave_206 rfl rfl ?_
  refine sd_iload_n dMO_leave_207 rfl rfl ?_
  refine sd_iconst (v := nI 1) dMO_leave_208 (by decide) ?_
  refine sd_bipush (v := nI 65) dMO_leave_209 (by decide) ?_
  refine fx_cV 10 sR_MO [.int (nI (st_gt S g)), .int (nI (1)), .int (nI (65))] [] dMO_leave_211 kMO_155 rfl rfl mMO_copy_v (c2) (by decide) (Nat.le_refl _) (Nat.le_refl _) (Nat.le_of_ble_eq_true rfl) rfl ?_
  refine sd_iconst (v := nI 2) dMO_leave_214 (by decide) ?_
  exact sd_iret dMO_leave_215 rfl (Nat.le_refl _) (Nat.le_refl _) ⟨rfl, rfl, _, rfl, lv_two hR hov ga gb⟩
theorem c_MO_leave3 {G : sd_G} {o : Nat} {D : fx_D} {h0 : sd_H} {nx g y : Nat} {x : Int32} {S : st_S} (hB : G.2.1 ≤ o) (hR : mo_R S D) (hT : st_okT S) (hG : st_okG S) (hg : g < (st_gl S).length) (hov : D.2.1 0 7 = nI 0) (hE : tl_isE (su_m S g) = true) (h1 : (tl_at (su_m S g) 1).1 = 8) (h2 : (tl_at (su_m S g) (tl_end (su_m S g) 1)).1 = 8) : sd_Ct G mMO_leave 4 0 0 [.ref (o + 0), .int (nI 3), .int x, .int (nI (st_gt S g))] (fx_h G.1.2 mo_S o D h0) nx (fx_is G.1.2 mo_S o h0 nx (some (.int (nI 2))) (lv_P S (lv_rows S 3 y g))) := by
  refine sd_Ct_of (by decide) (Nat.le_of_ble_eq_true rfl) (h_MO_leave hR hG hg ?_)
  obtain ⟨g1, g2, g3, g4, g5, g6⟩ := mo_gg hR hG hg
  obtain ⟨-, m1, m2, m3⟩ := mo_tm hR g2
  obtain ⟨l1, l2, l3⟩ := m2.two (tl_E2 hE)
  have ee : su_e S g = tl_end (st_tm S (st_gt S g)) 1 := by unfold su_e; rw [if_pos hE]; rfl
  rw [ee]
  unfold su_m at h1 h2
  obtain ⟨p1, p2, -, p4, p5⟩ := tl_two_at (tl_ok_drop _ 1 1 m2.1 m2.2.1 l1) l1 (by rw [h1]; rfl)
  obtain ⟨q1, q2, -, q4, q5⟩ := tl_two_at (tl_ok_drop _ 1 _ m2.1 m2.2.1 l2) l2 (by rw [h2]; rfl)
  have A := st_g1 hR hT g2
  have ga : ∀ x ∈ ((9, 4) :: (tl_part (st_tm S (st_gt S g)) 2 ++ tl_part (st_tm S (st_gt S g)) (tl_end (st_tm S (st_gt S g)) 1 + 1)) : tl_T), tl_g1 x := fm_cons tl_g1_94 (fm_app (fm_part A) (fm_part A))
  have gb : ∀ x ∈ ((9, 4) :: (tl_part (st_tm S (st_gt S g)) (tl_end (st_tm S (st_gt S g)) 2) ++ tl_part (st_tm S (st_gt S g)) (tl_end (st_tm S (st_gt S g)) (tl_end (st_tm S (st_gt S g)) 1 + 1))) : tl_T), tl_g1 x := fm_cons tl_g1_94 (fm_app (fm_part A) (fm_part A))
  obtain ⟨R1, f1, -⟩ := lv_w_ok (r := 64) hR (by omega) ga
  have m1' := f1.2.2.2.1 _ _ (show st_gt S g ≠ 64 by omega) m1
  have c1 := c_MO_equal (G := G) (o := o) (h0 := h0) (nx := nx) (r := 64) (i := 2) (j := tl_end (st_tm S (st_gt S g)) 1 + 1) hB (by omega) (show st_gt S g < 72 by omega) (show st_gt S g < 72 by omega) (by omega) (by omega) m1 m1 (by omega) (by omega) p4 q4
  have c2 := c_MO_equal (G := G) (o := o) (h0 := h0) (nx := nx) (r := 65) (i := tl_end (st_tm S (st_gt S g)) 2) (j := tl_end (st_tm S (st_gt S g)) (tl_end (st_tm S (st_gt S g)) 1 + 1)) hB (by omega) (show st_gt S g < 72 by omega) (show st_gt S g < 72 by omega) (by omega) (by omega) m1' m1' (Nat.le_of_lt p2) (Nat.le_of_lt q2) p5 q5
  refine sd_iload_n dMO_leave_20 rfl rfl ?_
  refine sd_tableIn (off := 62) 83 dMO_leave_21 (by decide) (by decide) (by decide) (by decide) ?_
  refine sd_aload_n dMO_leave_83 rfl rfl ?_
  refine sd_bipush (v := nI 64) dMO_leave_84 (by decide) ?_
  refine sd_iload_n dMO_leave_86 rfl rfl ?_
  refine sd_iconst (v := nI 2) dMO_leave_87 (by decide) ?_
  refine sd_iload_n dMO_leave_88 rfl rfl ?_
  refine sd_iload dMO_leave_89 rfl ?_
  refine sd_iconst (v := nI 1) dMO_leave_91 (by decide) ?_
  refine nn_iadd dMO_leave_92 ?_
  refine fx_cV 10 sR_MO [.int (nI (64)), .int (nI (st_gt S g)), .int (nI (2)), .int (nI (st_gt S g)), .int (nI ((tl_end (st_tm S (st_gt S g)) 1) + 1))] [] dMO_leave_93 kMO_237 rfl rfl mMO_equal_v (c1) (by decide) (Nat.le_refl _) (Nat.le_refl _) (Nat.le_of_ble_eq_true rfl) rfl ?_
  refine sd_aload_n dMO_leave_96 rfl rfl ?_
  refine sd_bipush (v := nI 65) dMO_leave_97 (by decide) ?_
  refine sd_iload_n dMO_leave_99 rfl rfl ?_
  refine sd_aload_n dMO_leave_100 rfl rfl ?_
  refine sd_iload_n dMO_leave_101 rfl rfl ?_
  refine sd_iconst (v := nI 2) dMO_leave_102 (by decide) ?_
  refine fx_cV 10 sR_MO [.int (nI (st_gt S g)), .int (nI (2))] [.int (nI (st_gt S g)), .int (nI (65)), .ref (o + (0))] dMO_leave_103 kMO_128 rfl rfl mMO_end_v (c_MO_end (by omega) m1' (by omega) p4) (by decide) (Nat.le_refl _) (Nat.le_refl _) (Nat.le_of_ble_eq_true rfl) rfl ?_
  refine sd_iload_n dMO_leave_106 rfl rfl ?_
  refine sd_aload_n dMO_leave_107 rfl rfl ?_
  refine sd_iload_n dMO_leave_108 rfl rfl ?_
  refine sd_iload dMO_leave_109 rfl ?_
  refine sd_iconst (v := nI 1) dMO_leave_111 (by decide) ?_
  refine nn_iadd dMO_leave_112 ?_
  refine fx_cV 10 sR_MO [.int (nI (st_gt S g)), .int (nI ((tl_end (st_tm S (st_gt S g)) 1) + 1))] [.int (nI (st_gt S g)), .int (nI (tl_end (st_tm S (st_gt S g)) 2)), .int (nI (st_gt S g)), .int (nI (65)), .ref (o + (0))] dMO_leave_113 kMO_128 rfl rfl mMO_end_v (c_MO_end (by omega) m1' (by omega) q4) (by decide) (Nat.le_refl _) (Nat.le_refl _) (Nat.le_of_ble_eq_true rfl) rfl ?_
  refine fx_cV 10 sR_MO [.int (nI (65)), .int (nI (st_gt S g)), .int (nI (tl_end (st_tm S (st_gt S g)) 2)), .int (nI (st_gt S g)), .int (nI (tl_end (st_tm S (st_gt S g)) (tl_end (st_tm S (st_gt S g)) 1 + 1)))] [] dMO_leave_116 kMO_237 rfl rfl mMO_equal_v (c2) (by decide) (Nat.le_refl _) (Nat.le_refl _) (Nat.le_of_ble_eq_true rfl) rfl ?_
  refine sd_iconst (v := nI 2) dMO_leave_119 (by decide) ?_
  exact sd_iret dMO_leave_120 rfl (Nat.le_refl _) (Nat.le_refl _) ⟨rfl, rfl, _, rfl, lv_two hR hov ga gb⟩
theorem c_MO_leave4 {G : sd_G} {o : Nat} {D : fx_D} {h0 : sd_H} {nx g y : Nat} {S : st_S} (hB : G.2.1 ≤ o) (hR : mo_R S D) (hT : st_okT S) (hG : st_okG S) (hg : g < (st_gl S).length) (hov : D.2.1 0 7 = nI 0) (hy : y < 8) (hE : tl_isE (su_m S g) = true) : sd_Ct G mMO_leave 4 0 0 [.ref (o + 0), .int (nI 4), .int (nI y), .int (nI (st_gt S g))] (fx_h G.1.2 mo_S o D h0) nx (fx_is G.1.2 mo_S o h0 nx (some (.int (nI 1))) (lv_P S (lv_rows S 4 y g))) := by
  refine sd_Ct_of (by decide) (Nat.le_of_ble_eq_true rfl) (h_MO_leave hR hG hg ?_)
  obtain ⟨g1, g2, g3, g4, g5, g6⟩ := mo_gg hR hG hg
  obtain ⟨-, m1, m2, m3⟩ := mo_tm hR g2
  obtain ⟨l1, l2, l3⟩ := m2.two (tl_E2 hE)
  have ee : su_e S g = tl_end (st_tm S (st_gt S g)) 1 := by unfold su_e; rw [if_pos hE]; rfl
  rw [ee]
  have A := st_g1 hR hT g2
  have ga : ∀ x ∈ ((9, 4) :: (tl_fill (st_tm S (st_gt S g)) 1 (.inr y) ++ tl_fill (st_tm S (st_gt S g)) (tl_end (st_tm S (st_gt S g)) 1) (.inr y)) : tl_T), tl_g1 x := fm_cons tl_g1_94 (fm_app (tl_of_g1 A (fun b e => by cases e) (fun v e => by cases e; omega)) (tl_of_g1 A (fun b e => by cases e) (fun v e => by cases e; omega)))
  have z0 := mo_begin_row (D := D) (r := 64)
  have z1 := mo_begin_other (r := 64) m1 (by omega)
  have y0 := mo_add_okl (s := nI 9) (t := nI 4) z0.okl z0.okl
  have y1 := mo_add_other (s := nI 9) (t := nI 4) z1 (show st_gt S g ≠ 64 by omega) z0.okl.ln.1
  have c1 := c_MO_open5 (G := G) (o := o) (h0 := h0) (nx := nx) (r := 64) (q := st_gt S g) (i := 1) (tb := 0) (j := y) (b := []) (c3 := -1) (by_ := .inr y) hB (by omega) (by omega) (by omega) m2 (by omega) l1 y1 y0 (Or.inl ⟨rfl, rfl⟩) (fun e => by cases e)
  obtain ⟨x1, x0⟩ := mo_adds_other (show st_gt S g ≠ 64 by omega) (tl_fill (st_tm S (st_gt S g)) 1 (.inr y)) _ y1 y0
  have c2 := c_MO_open5 (G := G) (o := o) (h0 := h0) (nx := nx) (r := 64) (q := st_gt S g) (i := tl_end (st_tm S (st_gt S g)) 1) (tb := 0) (j := y) (b := []) (c3 := -1) (by_ := .inr y) hB (by omega) (by omega) (by omega) m2 (by omega) l2 x1 x0 (Or.inl ⟨rfl, rfl⟩) (fun e => by cases e)
  have hq := lv_one hR hov ga
  unfold lv_w at hq
  rw [mo_adds, mo_adds_app] at hq
  refine sd_iload_n dMO_leave_20 rfl rfl ?_
  refine sd_tableIn (off := 100) 121 dMO_leave_21 (by decide) (by decide) (by decide) (by decide) ?_
  refine sd_aload_n dMO_leave_121 rfl rfl ?_
  refine sd_bipush (v := nI 64) dMO_leave_122 (by decide) ?_
  refine fx_cV 10 sR_MO [.int (nI (64))] [] dMO_leave_124 kMO_151 rfl rfl mMO_begin_v (c_MO_begin hB (by omega)) (by decide) (Nat.le_refl _) (Nat.le_refl _) (Nat.le_of_ble_eq_true rfl) rfl ?_
  refine sd_aload_n dMO_leave_127 rfl rfl ?_
  refine sd_bipush (v := nI 64) dMO_leave_128 (by decide) ?_
  refine sd_bipush (v := nI 9) dMO_leave_130 (by decide) ?_
  refine sd_iconst (v := nI 4) dMO_leave_132 (by decide) ?_
  refine fx_cV 10 sR_MO [.int (nI (64)), .int (nI (9)), .int (nI (4))] [] dMO_leave_133 kMO_137 rfl rfl mMO_add_v (c_MO_add hB (by omega) z0.okl.ln.1 z0.okl.ln.2) (by decide) (Nat.le_refl _) (Nat.le_refl _) (Nat.le_of_ble_eq_true rfl) rfl ?_
  refine sd_aload_n dMO_leave_136 rfl rfl ?_
  refine sd_iload_n dMO_leave_137 rfl rfl ?_
  refine sd_iconst (v := nI 1) dMO_leave_138 (by decide) ?_
  refine sd_iconst (v := (-1)) dMO_leave_139 (by decide) ?_
  refine sd_iload_n dMO_leave_140 rfl rfl ?_
  refine sd_bipush (v := nI 64) dMO_leave_141 (by decide) ?_
  refine fx_cV 10 sR_MO [.int (nI (st_gt S g)), .int (nI (1)), .int ((-1)), .int (nI (y)), .int (nI (64))] [] dMO_leave_143 kMO_209 rfl rfl mMO_open5_v (c1) (by decide) (Nat.le_refl _) (Nat.le_refl _) (Nat.le_of_ble_eq_true rfl) rfl ?_
  refine sd_aload_n dMO_leave_146 rfl rfl ?_
  refine sd_iload_n dMO_leave_147 rfl rfl ?_
  refine sd_iload dMO_leave_148 rfl ?_
  refine sd_iconst (v := (-1)) dMO_leave_150 (by decide) ?_
  refine sd_iload_n dMO_leave_151 rfl rfl ?_
  refine sd_bipush (v := nI 64) dMO_leave_152 (by decide) ?_
  refine fx_cV 10 sR_MO [.int (nI (st_gt S g)), .int (nI (tl_end (st_tm S (st_gt S g)) 1)), .int ((-1)), .int (nI (y)), .int (nI (64))] [] dMO_leave_154 kMO_209 rfl rfl mMO_open5_v (c2) (by decide) (Nat.le_refl _) (Nat.le_refl _) (Nat.le_of_ble_eq_true rfl) rfl ?_
  refine sd_iconst (v := nI 1) dMO_leave_157 (by decide) ?_
  exact sd_iret dMO_leave_158 rfl (Nat.le_refl _) (Nat.le_refl _) ⟨rfl, rfl, _, rfl, hq⟩
