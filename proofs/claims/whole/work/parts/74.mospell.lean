/-! ===== the model: spell ===== -/
/-- where the LAM of the name at k stands, looking from j down; how many LAMs are between -/
def sp_b (dr : List Nat) (k : Nat) : Nat → Nat → Option (Nat × Nat)
  | 0, _ => none
  | j + 1, b => if dr.getD j 0 = 10 + dr.getD k 0 ∧ k < tl_end (dk_l dr) j then some (j, b) else sp_b dr k j (if 9 < dr.getD j 0 ∧ k < tl_end (dk_l dr) j then b + 1 else b)
def sp_s (dr : List Nat) (k t : Nat) : Nat := if 7 < t then dk_s t else match sp_b dr k k 0 with
  | some p => 11 + p.2
  | none => t
/-- the row of a draft when the first m symbols are spelled -/
def sp_p (dr : List Nat) (m : Nat) : tl_T := dr.mapIdx (fun k t => (if k < m then sp_s dr k t else dk_s t, 1))
def sp_l (dr : List Nat) : tl_T := sp_p dr dr.length
theorem sp_p_len (dr : List Nat) (m : Nat) : (sp_p dr m).length = dr.length := List.length_mapIdx
theorem sp_p_get {dr : List Nat} {m k t : Nat} (h : dr[k]? = some t) : (sp_p dr m)[k]? = some (if k < m then sp_s dr k t else dk_s t, 1) := by
  unfold sp_p
  rw [List.getElem?_mapIdx, h]
  rfl
theorem sp_p_zero (dr : List Nat) : sp_p dr 0 = dk_l dr := by
  apply List.ext_getElem?
  intro k
  unfold sp_p dk_l
  rw [List.getElem?_mapIdx, List.getElem?_map]
  cases dr[k]? <;> simp
theorem sp_b_le {dr : List Nat} {k : Nat} : ∀ (j b : Nat) (p : Nat × Nat), sp_b dr k j b = some p → p.1 < j ∧ p.2 < b + j := by
  intro j
  induction j with
  | zero => intro b p h; cases h
  | succ j ih =>
    intro b p h
    rw [sp_b] at h
    split at h
    · cases h
      exact ⟨by omega, by omega⟩
    · have := ih _ p h
      split at this <;> omega
theorem sp_s_ar {dr : List Nat} {k t : Nat} : tl_ar (sp_s dr k t) = tl_ar (dk_s t) := by
  unfold sp_s
  by_cases h : 7 < t
  · rw [if_pos h]
  · rw [if_neg h]
    have e : tl_ar (dk_s t) = 0 := by
      have e2 : dk_s t = t := by unfold dk_s; rw [if_neg (by omega)]
      rw [e2]
      unfold tl_ar
      rw [if_neg (by omega), if_neg (by omega)]
    rw [e]
    cases sp_b dr k k 0 with
    | none =>
      simp only
      unfold tl_ar
      rw [if_neg (by omega), if_neg (by omega)]
    | some p =>
      simp only
      unfold tl_ar
      rw [if_neg (by omega), if_neg (by omega)]
/-- rows whose symbols ask for the same parts have parts of the same lengths -/
theorem tl_ar_eq : ∀ (l m : tl_T), l.map (fun x => tl_ar x.1) = m.map (fun x => tl_ar x.1) → ∀ e, tl_pl e l = tl_pl e m ∧ (tl_ok e l ↔ tl_ok e m)
  | [], [], _, e => ⟨rfl, Iff.rfl⟩
  | [], y :: m, h, e => by simp at h
  | x :: l, [], h, e => by simp at h
  | x :: l, y :: m, h, 0 => ⟨rfl, Iff.rfl⟩
  | x :: l, y :: m, h, e + 1 => by
    simp only [List.map_cons, List.cons.injEq] at h
    obtain ⟨h1, h2⟩ := tl_ar_eq l m h.2 (e + tl_ar x.1)
    simp only [tl_pl, tl_ok]
    rw [h1, h2, h.1]
    exact ⟨rfl, Iff.rfl⟩
theorem sp_p_ar (dr : List Nat) (m : Nat) : (sp_p dr m).map (fun x => tl_ar x.1) = (dk_l dr).map (fun x => tl_ar x.1) := by
  apply List.ext_getElem?
  intro k
  rw [List.getElem?_map, List.getElem?_map]
  unfold sp_p dk_l
  rw [List.getElem?_mapIdx, List.getElem?_map]
  cases dr[k]? with
  | none => rfl
  | some t =>
    simp only [Option.map_some, Option.some.injEq]
    by_cases h : k < m
    · rw [if_pos h, sp_s_ar]
    · rw [if_neg h]
theorem tl_ar_drop {l m : tl_T} (h : l.map (fun x => tl_ar x.1) = m.map (fun x => tl_ar x.1)) (i : Nat) : tl_end l i = tl_end m i ∧ ∀ e, (tl_ok e (l.drop i) ↔ tl_ok e (m.drop i)) := by
  have h2 : (l.drop i).map (fun x => tl_ar x.1) = (m.drop i).map (fun x => tl_ar x.1) := by rw [List.map_drop, List.map_drop, h]
  refine ⟨?_, fun e => (tl_ar_eq _ _ h2 e).2⟩
  unfold tl_end
  rw [(tl_ar_eq _ _ h2 1).1]
theorem sp_p_end (dr : List Nat) (m j : Nat) : tl_end (sp_p dr m) j = tl_end (dk_l dr) j := (tl_ar_drop (sp_p_ar dr m) j).1
theorem sp_p_ok {dr : List Nat} (m j : Nat) (h : tl_ok 1 ((dk_l dr).drop j)) : tl_ok 1 ((sp_p dr m).drop j) := ((tl_ar_drop (sp_p_ar dr m) j).2 1).mpr h
theorem mo_dr_fa {D D' : fx_D} {dr : List Nat} {r : Nat} (h : mo_dr D dr) (hf : mo_fa D D' r) : mo_dr D' dr := ⟨h.1, by rw [hf.2.1 0 6 (by omega)]; exact h.2.1, fun k x hx => by rw [hf.1 5 (by decide) (by decide) (by decide)]; exact h.2.2 k x hx⟩
theorem mo_fa_sy {D : fx_D} {k : Nat} {v : Int32} (hk : k < 24) : mo_fa D (fx_ua D 1 (1536 + k) v) 64 := by
  refine ⟨fun x h1 h2 h3 => by simp [fx_ua, h1], fun _ _ _ => rfl, rfl, fun q l hq h => ⟨h.1, h.2.1, fun i x hx => ?_⟩, fun q h => h⟩
  have hi := getE_lt hx
  have h24 := h.1
  have hne : ¬ 24 * q + i = 1536 + k := by omega
  simp only [fx_ua, upd, if_true, hne, if_false, show ¬ (2 : Nat) = 1 by decide]
  exact h.2.2 i x hx
theorem sp_row_set {D : fx_D} {dr : List Nat} {m t s : Nat} (h24 : dr.length ≤ 24) (ht : dr[m]? = some t) (hs : sp_s dr m t = s) (hs2 : s < 100) (h : mo_row D 64 (sp_p dr m)) : mo_row (fx_ua D 1 (1536 + m) (nI s)) 64 (sp_p dr (m + 1)) := by
  have hm := getE_lt ht
  refine ⟨by rw [sp_p_len]; exact h24, ?_, fun k x hx => ?_⟩
  · have := h.2.1
    rw [sp_p_len] at this ⊢
    exact this
  · have hk := getE_lt hx
    rw [sp_p_len] at hk
    have hg : dr[k]? = some dr[k] := List.getElem?_eq_getElem hk
    generalize dr[k] = u at hg
    have h0 := h.2.2 k _ (sp_p_get hg)
    rw [sp_p_get hg] at hx
    cases hx
    by_cases e : k = m
    · subst e
      rw [ht] at hg
      cases hg
      rw [if_pos (by omega), hs]
      exact ⟨by simp [fx_ua, upd], by simpa [fx_ua] using h0.2.1, hs2, show 1 < 2 ^ 25 by decide⟩
    · have hne : ¬ 24 * 64 + k = 1536 + m := by omega
      have e2 : (if k < m + 1 then sp_s dr k u else dk_s u) = (if k < m then sp_s dr k u else dk_s u) := by
        by_cases h : k < m
        · rw [if_pos h, if_pos (by omega)]
        · rw [if_neg h, if_neg (by omega)]
      rw [e2]
      simp only [fx_ua, upd, if_true, hne, if_false, show ¬ (2 : Nat) = 1 by decide]
      exact h0
theorem sp_row_skip {dr : List Nat} {m t : Nat} (ht : dr[m]? = some t) (hs : sp_s dr m t = dk_s t) : sp_p dr (m + 1) = sp_p dr m := by
  apply List.ext_getElem?
  intro k
  cases hk : dr[k]? with
  | none =>
    unfold sp_p
    rw [List.getElem?_mapIdx, List.getElem?_mapIdx, hk]
    rfl
  | some u =>
    rw [sp_p_get hk, sp_p_get hk]
    by_cases e : k = m
    · subst e
      rw [ht] at hk
      cases hk
      rw [if_pos (by omega), if_neg (by omega), hs]
    · have e2 : (if k < m + 1 then sp_s dr k u else dk_s u) = (if k < m then sp_s dr k u else dk_s u) := by
        by_cases h : k < m
        · rw [if_pos h, if_pos (by omega)]
        · rw [if_neg h, if_neg (by omega)]
      rw [e2]
theorem dMO_spell_0 : decode prog_13_method_31_code 0 = .ok (.aload_n 0, 1) := by decide +kernel
theorem dMO_spell_1 : decode prog_13_method_31_code 1 = .ok (.bipush (64), 2) := by decide +kernel
theorem dMO_spell_3 : decode prog_13_method_31_code 3 = .ok (.invokevirtual 151, 3) := by decide +kernel
theorem dMO_spell_6 : decode prog_13_method_31_code 6 = .ok (.iconst 0, 1) := by decide +kernel
theorem dMO_spell_7 : decode prog_13_method_31_code 7 = .ok (.istore_n 1, 1) := by decide +kernel
theorem dMO_spell_8 : decode prog_13_method_31_code 8 = .ok (.iload_n 1, 1) := by decide +kernel
theorem dMO_spell_9 : decode prog_13_method_31_code 9 = .ok (.aload_n 0, 1) := by decide +kernel
theorem dMO_spell_10 : decode prog_13_method_31_code 10 = .ok (.getfield 158, 3) := by decide +kernel
theorem dMO_spell_13 : decode prog_13_method_31_code 13 = .ok (.if_icmp .ge (38), 3) := by decide +kernel
theorem dMO_spell_16 : decode prog_13_method_31_code 16 = .ok (.aload_n 0, 1) := by decide +kernel
theorem dMO_spell_17 : decode prog_13_method_31_code 17 = .ok (.bipush (64), 2) := by decide +kernel
theorem dMO_spell_19 : decode prog_13_method_31_code 19 = .ok (.aload_n 0, 1) := by decide +kernel
theorem dMO_spell_20 : decode prog_13_method_31_code 20 = .ok (.getfield 22, 3) := by decide +kernel
theorem dMO_spell_23 : decode prog_13_method_31_code 23 = .ok (.iload_n 1, 1) := by decide +kernel
theorem dMO_spell_24 : decode prog_13_method_31_code 24 = .ok (.iaload, 1) := by decide +kernel
theorem dMO_spell_25 : decode prog_13_method_31_code 25 = .ok (.bipush (9), 2) := by decide +kernel
theorem dMO_spell_27 : decode prog_13_method_31_code 27 = .ok (.if_icmp .le (8), 3) := by decide +kernel
theorem dMO_spell_30 : decode prog_13_method_31_code 30 = .ok (.bipush (10), 2) := by decide +kernel
theorem dMO_spell_32 : decode prog_13_method_31_code 32 = .ok (.goto (9), 3) := by decide +kernel
theorem dMO_spell_35 : decode prog_13_method_31_code 35 = .ok (.aload_n 0, 1) := by decide +kernel
theorem dMO_spell_36 : decode prog_13_method_31_code 36 = .ok (.getfield 22, 3) := by decide +kernel
theorem dMO_spell_39 : decode prog_13_method_31_code 39 = .ok (.iload_n 1, 1) := by decide +kernel
theorem dMO_spell_40 : decode prog_13_method_31_code 40 = .ok (.iaload, 1) := by decide +kernel
theorem dMO_spell_41 : decode prog_13_method_31_code 41 = .ok (.iconst 1, 1) := by decide +kernel
theorem dMO_spell_42 : decode prog_13_method_31_code 42 = .ok (.invokevirtual 137, 3) := by decide +kernel
theorem dMO_spell_45 : decode prog_13_method_31_code 45 = .ok (.iinc 1 (1), 3) := by decide +kernel
theorem dMO_spell_48 : decode prog_13_method_31_code 48 = .ok (.goto (-40), 3) := by decide +kernel
theorem dMO_spell_51 : decode prog_13_method_31_code 51 = .ok (.iconst 0, 1) := by decide +kernel
theorem dMO_spell_52 : decode prog_13_method_31_code 52 = .ok (.istore_n 1, 1) := by decide +kernel
theorem dMO_spell_53 : decode prog_13_method_31_code 53 = .ok (.iload_n 1, 1) := by decide +kernel
theorem dMO_spell_54 : decode prog_13_method_31_code 54 = .ok (.aload_n 0, 1) := by decide +kernel
theorem dMO_spell_55 : decode prog_13_method_31_code 55 = .ok (.getfield 158, 3) := by decide +kernel
theorem dMO_spell_58 : decode prog_13_method_31_code 58 = .ok (.if_icmp .ge (111), 3) := by decide +kernel
theorem dMO_spell_61 : decode prog_13_method_31_code 61 = .ok (.aload_n 0, 1) := by decide +kernel
theorem dMO_spell_62 : decode prog_13_method_31_code 62 = .ok (.getfield 22, 3) := by decide +kernel
theorem dMO_spell_65 : decode prog_13_method_31_code 65 = .ok (.iload_n 1, 1) := by decide +kernel
theorem dMO_spell_66 : decode prog_13_method_31_code 66 = .ok (.iaload, 1) := by decide +kernel
theorem dMO_spell_67 : decode prog_13_method_31_code 67 = .ok (.bipush (7), 2) := by decide +kernel
theorem dMO_spell_69 : decode prog_13_method_31_code 69 = .ok (.if_icmp .le (6), 3) := by decide +kernel
theorem dMO_spell_72 : decode prog_13_method_31_code 72 = .ok (.goto (91), 3) := by decide +kernel
theorem dMO_spell_75 : decode prog_13_method_31_code 75 = .ok (.iconst 0, 1) := by decide +kernel
theorem dMO_spell_76 : decode prog_13_method_31_code 76 = .ok (.istore_n 2, 1) := by decide +kernel
theorem dMO_spell_77 : decode prog_13_method_31_code 77 = .ok (.iload_n 1, 1) := by decide +kernel
theorem dMO_spell_78 : decode prog_13_method_31_code 78 = .ok (.iconst 1, 1) := by decide +kernel
theorem dMO_spell_79 : decode prog_13_method_31_code 79 = .ok (.isub, 1) := by decide +kernel
theorem dMO_spell_80 : decode prog_13_method_31_code 80 = .ok (.istore_n 3, 1) := by decide +kernel
theorem dMO_spell_81 : decode prog_13_method_31_code 81 = .ok (.iload_n 3, 1) := by decide +kernel
theorem dMO_spell_82 : decode prog_13_method_31_code 82 = .ok (.ifCond .lt (63), 3) := by decide +kernel
theorem dMO_spell_85 : decode prog_13_method_31_code 85 = .ok (.aload_n 0, 1) := by decide +kernel
theorem dMO_spell_86 : decode prog_13_method_31_code 86 = .ok (.getfield 22, 3) := by decide +kernel
theorem dMO_spell_89 : decode prog_13_method_31_code 89 = .ok (.iload_n 3, 1) := by decide +kernel
theorem dMO_spell_90 : decode prog_13_method_31_code 90 = .ok (.iaload, 1) := by decide +kernel
theorem dMO_spell_91 : decode prog_13_method_31_code 91 = .ok (.bipush (10), 2) := by decide +kernel
theorem dMO_spell_93 : decode prog_13_method_31_code 93 = .ok (.aload_n 0, 1) := by decide +kernel
theorem dMO_spell_94 : decode prog_13_method_31_code 94 = .ok (.getfield 22, 3) := by decide +kernel
theorem dMO_spell_97 : decode prog_13_method_31_code 97 = .ok (.iload_n 1, 1) := by decide +kernel
theorem dMO_spell_98 : decode prog_13_method_31_code 98 = .ok (.iaload, 1) := by decide +kernel
theorem dMO_spell_99 : decode prog_13_method_31_code 99 = .ok (.iadd, 1) := by decide +kernel
theorem dMO_spell_100 : decode prog_13_method_31_code 100 = .ok (.if_icmp .ne (14), 3) := by decide +kernel
theorem dMO_spell_103 : decode prog_13_method_31_code 103 = .ok (.aload_n 0, 1) := by decide +kernel
theorem dMO_spell_104 : decode prog_13_method_31_code 104 = .ok (.bipush (64), 2) := by decide +kernel
theorem dMO_spell_106 : decode prog_13_method_31_code 106 = .ok (.iload_n 3, 1) := by decide +kernel
theorem dMO_spell_107 : decode prog_13_method_31_code 107 = .ok (.invokevirtual 128, 3) := by decide +kernel
theorem dMO_spell_110 : decode prog_13_method_31_code 110 = .ok (.iload_n 1, 1) := by decide +kernel
theorem dMO_spell_111 : decode prog_13_method_31_code 111 = .ok (.if_icmp .gt (34), 3) := by decide +kernel
theorem dMO_spell_114 : decode prog_13_method_31_code 114 = .ok (.aload_n 0, 1) := by decide +kernel
theorem dMO_spell_115 : decode prog_13_method_31_code 115 = .ok (.getfield 22, 3) := by decide +kernel
theorem dMO_spell_118 : decode prog_13_method_31_code 118 = .ok (.iload_n 3, 1) := by decide +kernel
theorem dMO_spell_119 : decode prog_13_method_31_code 119 = .ok (.iaload, 1) := by decide +kernel
theorem dMO_spell_120 : decode prog_13_method_31_code 120 = .ok (.bipush (9), 2) := by decide +kernel
theorem dMO_spell_122 : decode prog_13_method_31_code 122 = .ok (.if_icmp .le (17), 3) := by decide +kernel
theorem dMO_spell_125 : decode prog_13_method_31_code 125 = .ok (.aload_n 0, 1) := by decide +kernel
theorem dMO_spell_126 : decode prog_13_method_31_code 126 = .ok (.bipush (64), 2) := by decide +kernel
theorem dMO_spell_128 : decode prog_13_method_31_code 128 = .ok (.iload_n 3, 1) := by decide +kernel
theorem dMO_spell_129 : decode prog_13_method_31_code 129 = .ok (.invokevirtual 128, 3) := by decide +kernel
theorem dMO_spell_132 : decode prog_13_method_31_code 132 = .ok (.iload_n 1, 1) := by decide +kernel
theorem dMO_spell_133 : decode prog_13_method_31_code 133 = .ok (.if_icmp .le (6), 3) := by decide +kernel
theorem dMO_spell_136 : decode prog_13_method_31_code 136 = .ok (.iinc 2 (1), 3) := by decide +kernel
theorem dMO_spell_139 : decode prog_13_method_31_code 139 = .ok (.iinc 3 (-1), 3) := by decide +kernel
theorem dMO_spell_142 : decode prog_13_method_31_code 142 = .ok (.goto (-61), 3) := by decide +kernel
theorem dMO_spell_145 : decode prog_13_method_31_code 145 = .ok (.iload_n 3, 1) := by decide +kernel
theorem dMO_spell_146 : decode prog_13_method_31_code 146 = .ok (.ifCond .lt (17), 3) := by decide +kernel
theorem dMO_spell_149 : decode prog_13_method_31_code 149 = .ok (.aload_n 0, 1) := by decide +kernel
theorem dMO_spell_150 : decode prog_13_method_31_code 150 = .ok (.getfield 7, 3) := by decide +kernel
theorem dMO_spell_153 : decode prog_13_method_31_code 153 = .ok (.sipush (1536), 3) := by decide +kernel
theorem dMO_spell_156 : decode prog_13_method_31_code 156 = .ok (.iload_n 1, 1) := by decide +kernel
theorem dMO_spell_157 : decode prog_13_method_31_code 157 = .ok (.iadd, 1) := by decide +kernel
theorem dMO_spell_158 : decode prog_13_method_31_code 158 = .ok (.bipush (11), 2) := by decide +kernel
theorem dMO_spell_160 : decode prog_13_method_31_code 160 = .ok (.iload_n 2, 1) := by decide +kernel
theorem dMO_spell_161 : decode prog_13_method_31_code 161 = .ok (.iadd, 1) := by decide +kernel
theorem dMO_spell_162 : decode prog_13_method_31_code 162 = .ok (.iastore, 1) := by decide +kernel
theorem dMO_spell_163 : decode prog_13_method_31_code 163 = .ok (.iinc 1 (1), 3) := by decide +kernel
theorem dMO_spell_166 : decode prog_13_method_31_code 166 = .ok (.goto (-113), 3) := by decide +kernel
theorem dMO_spell_169 : decode prog_13_method_31_code 169 = .ok (.return_, 1) := by decide +kernel
theorem l_MO_spell1 {G : sd_G} {o : Nat} {D0 : fx_D} {h0 : sd_H} {nx : Nat} {dr : List Nat} {Q : sd_Q} (hB : G.2.1 ≤ o) (hD0 : mo_dr D0 dr) (K : ∀ D : fx_D, mo_fa D0 D 64 → mo_row D 64 (dk_l dr) → sd_W G mMO_spell 2 0 0 Q 51 [(0, .ref (o + 0))] [] (fx_h G.1.2 mo_S o D h0) nx 0 0) : ∀ (n j : Nat) (D : fx_D), dr.length = j + n → mo_fa D0 D 64 → mo_row D 64 (dk_l (dr.take j)) → sd_W G mMO_spell 2 0 0 Q 8 [(0, .ref (o + 0)), (1, .int (nI j))] [] (fx_h G.1.2 mo_S o D h0) nx 0 0 := by
  have h24 := hD0.1
  intro n
  induction n with
  | zero =>
    intro j D hj hf hr
    obtain ⟨-, d6, -⟩ := mo_dr_fa hD0 hf
    refine sd_iload_n dMO_spell_8 rfl rfl ?_
    refine sd_aload_n dMO_spell_9 rfl rfl ?_
    refine fx_getiv (v := (nI (dr.length))) 10 6 dMO_spell_10 fMO_158 rfl rfl (d6) ?_
    refine nn_icmp_ge 51 dMO_spell_13 (by decide) (by omega) (by omega) (fun c13 => ?_) (fun c13 => ?_)
    ·
      refine sd_locp (al' := [(0, .ref (o + (0)))]) [0] rfl ?_
      exact K D hf (by rw [List.take_of_length_le (by omega)] at hr; exact hr)
    ·
      exact absurd c13 (by omega)
  | succ n ih =>
    intro j D hj hf hr
    obtain ⟨-, d6, hx⟩ := mo_dr_fa hD0 hf
    have hg : dr[j]? = some dr[j] := List.getElem?_eq_getElem (by omega)
    have htk : dr.take (j + 1) = dr.take j ++ [dr[j]] := by rw [List.take_add_one, hg]; rfl
    generalize dr[j] = t at hg htk
    obtain ⟨t1, t18⟩ := hx j t hg
    have hl : (dk_l (dr.take j)).length = j := by unfold dk_l; rw [List.length_map, List.length_take]; omega
    have hs : dk_s t < 100 := by unfold dk_s; split <;> omega
    have ha := mo_add_row (s := dk_s t) (t := 1) hr (by omega) hs (by decide) (by decide)
    have hfa := hf.tr (mo_add_fa (s := nI (dk_s t)) (t := nI 1) hr.okl)
    have hnext := ih (j + 1) (mo_add D 64 (nI (dk_s t)) (nI 1)) (by omega) hfa (by rw [htk]; unfold dk_l; rw [List.map_append]; exact ha)
    by_cases h9 : 9 < t
    · have es : dk_s t = 10 := by unfold dk_s; rw [if_pos h9]
      rw [es] at hnext
      refine sd_iload_n dMO_spell_8 rfl rfl ?_
      refine sd_aload_n dMO_spell_9 rfl rfl ?_
      refine fx_getiv (v := (nI (dr.length))) 10 6 dMO_spell_10 fMO_158 rfl rfl (d6) ?_
      refine nn_icmp_ge 51 dMO_spell_13 (by decide) (by omega) (by omega) (fun c13 => ?_) (fun c13 => ?_)
      ·
        exact absurd c13 (by omega)
      ·
        refine sd_aload_n dMO_spell_16 rfl rfl ?_
        refine sd_bipush (v := nI 64) dMO_spell_17 (by decide) ?_
        refine sd_aload_n dMO_spell_19 rfl rfl ?_
        refine fx_getr 10 4 (5) dMO_spell_20 fMO_22 rfl rfl ?_
        refine sd_iload_n dMO_spell_23 rfl rfl ?_
        refine fx_ialdv (v := (nI (t))) (j) dMO_spell_24 rfl rfl (by omega) (by decide) (t1) ?_
        refine sd_bipush (v := nI 9) dMO_spell_25 (by decide) ?_
        refine nn_icmp_le 35 dMO_spell_27 (by decide) (by omega) (by omega) (fun c27 => ?_) (fun c27 => ?_)
        ·
          exact absurd c27 (by omega)
        ·
          refine sd_bipush (v := nI 10) dMO_spell_30 (by decide) ?_
          refine sd_goto 41 dMO_spell_32 (by decide) ?_
          refine sd_iconst (v := nI 1) dMO_spell_41 (by decide) ?_
          refine fx_cV 10 sR_MO [.int (nI (64)), .int (nI (10)), .int (nI (1))] [] dMO_spell_42 kMO_137 rfl rfl mMO_add_v (c_MO_add hB (by omega) hr.okl.ln.1 hr.okl.ln.2) (by decide) (Nat.le_refl _) (Nat.le_refl _) (Nat.le_of_ble_eq_true rfl) rfl ?_
          refine nn_iinc 1 dMO_spell_45 rfl (by decide) ?_
          refine sd_goto 8 dMO_spell_48 (by decide) ?_
          refine sd_locp (al' := [(0, .ref (o + (0))), (1, .int (nI (j + 1)))]) [1, 0] rfl ?_
          exact hnext
    · have es : dk_s t = t := by unfold dk_s; rw [if_neg h9]
      rw [es] at hnext
      refine sd_iload_n dMO_spell_8 rfl rfl ?_
      refine sd_aload_n dMO_spell_9 rfl rfl ?_
      refine fx_getiv (v := (nI (dr.length))) 10 6 dMO_spell_10 fMO_158 rfl rfl (d6) ?_
      refine nn_icmp_ge 51 dMO_spell_13 (by decide) (by omega) (by omega) (fun c13 => ?_) (fun c13 => ?_)
      ·
        exact absurd c13 (by omega)
      ·
        refine sd_aload_n dMO_spell_16 rfl rfl ?_
        refine sd_bipush (v := nI 64) dMO_spell_17 (by decide) ?_
        refine sd_aload_n dMO_spell_19 rfl rfl ?_
        refine fx_getr 10 4 (5) dMO_spell_20 fMO_22 rfl rfl ?_
        refine sd_iload_n dMO_spell_23 rfl rfl ?_
        refine fx_ialdv (v := (nI (t))) (j) dMO_spell_24 rfl rfl (by omega) (by decide) (t1) ?_
        refine sd_bipush (v := nI 9) dMO_spell_25 (by decide) ?_
        refine nn_icmp_le 35 dMO_spell_27 (by decide) (by omega) (by omega) (fun c27 => ?_) (fun c27 => ?_)
        ·
          refine sd_aload_n dMO_spell_35 rfl rfl ?_
          refine fx_getr 10 4 (5) dMO_spell_36 fMO_22 rfl rfl ?_
          refine sd_iload_n dMO_spell_39 rfl rfl ?_
          refine fx_ialdv (v := (nI (t))) (j) dMO_spell_40 rfl rfl (by omega) (by decide) (t1) ?_
          refine sd_iconst (v := nI 1) dMO_spell_41 (by decide) ?_
          refine fx_cV 10 sR_MO [.int (nI (64)), .int (nI (t)), .int (nI (1))] [] dMO_spell_42 kMO_137 rfl rfl mMO_add_v (c_MO_add hB (by omega) hr.okl.ln.1 hr.okl.ln.2) (by decide) (Nat.le_refl _) (Nat.le_refl _) (Nat.le_of_ble_eq_true rfl) rfl ?_
          refine nn_iinc 1 dMO_spell_45 rfl (by decide) ?_
          refine sd_goto 8 dMO_spell_48 (by decide) ?_
          refine sd_locp (al' := [(0, .ref (o + (0))), (1, .int (nI (j + 1)))]) [1, 0] rfl ?_
          exact hnext
        ·
          exact absurd c27 (by omega)
theorem l_MO_spell2 {G : sd_G} {o : Nat} {D : fx_D} {h0 : sd_H} {nx k t m : Nat} {dr : List Nat} {Q : sd_Q} (hD : mo_dr D dr) (hr : mo_row D 64 (sp_p dr m)) (hok : ∀ j, j < dr.length → tl_ok 1 ((dk_l dr).drop j)) (hk : dr[k]? = some t) : ∀ (j b : Nat), j ≤ k → b + j ≤ k + 1 → (∀ p, sp_b dr k j b = some p → sd_W G mMO_spell 2 0 0 Q 145 [(0, .ref (o + 0)), (1, .int (nI k)), (2, .int (nI p.2)), (3, .int (nI p.1))] [] (fx_h G.1.2 mo_S o D h0) nx 0 0) → (sp_b dr k j b = none → ∀ b' : Nat, sd_W G mMO_spell 2 0 0 Q 145 [(0, .ref (o + 0)), (1, .int (nI k)), (2, .int (nI b')), (3, .int (ix 0))] [] (fx_h G.1.2 mo_S o D h0) nx 0 0) → sd_W G mMO_spell 2 0 0 Q 81 [(0, .ref (o + 0)), (1, .int (nI k)), (2, .int (nI b)), (3, .int (ix j))] [] (fx_h G.1.2 mo_S o D h0) nx 0 0 := by
  obtain ⟨h24, d6, hx⟩ := hD
  have hkl := getE_lt hk
  obtain ⟨k1, k18⟩ := hx k t hk
  have hkd : dr.getD k 0 = t := by rw [List.getD_eq_getElem?_getD, hk]; rfl
  intro j
  induction j with
  | zero =>
    intro b hj hb K1 K0
    refine sd_iload_n dMO_spell_81 rfl rfl ?_
    refine sd_if_lt 145 dMO_spell_82 (by decide) (fun c82 => ?_) (fun c82 => ?_)
    ·
      refine sd_locp (al' := [(0, .ref (o + (0))), (1, .int (nI (k))), (2, .int (nI (b))), (3, .int (ix 0))]) [0, 1, 2, 3] rfl ?_
      exact K0 rfl b
    ·
      exact absurd (show ix 0 < 0 by decide) c82
  | succ j ih =>
    intro b hj hb K1 K0
    rw [show ix (j + 1) = nI j from rfl]
    have hg : dr[j]? = some dr[j] := List.getElem?_eq_getElem (by omega)
    have hgd : dr.getD j 0 = dr[j] := by rw [List.getD_eq_getElem?_getD, hg]; rfl
    generalize dr[j] = u at hg hgd
    obtain ⟨u1, u18⟩ := hx j u hg
    rw [sp_b, hgd, hkd] at K1 K0
    have ce := c_MO_end (G := G) (o := o) (h0 := h0) (nx := nx) (r := 64) (i := j) (by omega) hr (by rw [sp_p_len]; omega) (sp_p_ok m j (hok j (by omega)))
    rw [sp_p_end] at ce
    have el : tl_end (dk_l dr) j ≤ dr.length := by
      have := tl_end_le (l := dk_l dr) (i := j) (by unfold dk_l; rw [List.length_map]; omega)
      unfold dk_l at this
      rw [List.length_map] at this
      exact this
    by_cases h1 : u = 10 + t ∧ k < tl_end (dk_l dr) j
    · rw [if_pos h1] at K1
      refine sd_iload_n dMO_spell_81 rfl rfl ?_
      refine nn_if_lt dMO_spell_82 145 (by decide) (by omega) ?_
      refine sd_aload_n dMO_spell_85 rfl rfl ?_
      refine fx_getr 10 4 (5) dMO_spell_86 fMO_22 rfl rfl ?_
      refine sd_iload_n dMO_spell_89 rfl rfl ?_
      refine fx_ialdv (v := (nI (u))) (j) dMO_spell_90 rfl rfl (by omega) (by decide) (u1) ?_
      refine sd_bipush (v := nI 10) dMO_spell_91 (by decide) ?_
      refine sd_aload_n dMO_spell_93 rfl rfl ?_
      refine fx_getr 10 4 (5) dMO_spell_94 fMO_22 rfl rfl ?_
      refine sd_iload_n dMO_spell_97 rfl rfl ?_
      refine fx_ialdv (v := (nI (t))) (k) dMO_spell_98 rfl rfl (by omega) (by decide) (k1) ?_
      refine nn_iadd dMO_spell_99 ?_
      refine nn_icmp_ne 114 dMO_spell_100 (by decide) (by omega) (by omega) (fun c100 => ?_) (fun c100 => ?_)
      ·
        exact absurd c100 (by omega)
      ·
        refine sd_aload_n dMO_spell_103 rfl rfl ?_
        refine sd_bipush (v := nI 64) dMO_spell_104 (by decide) ?_
        refine sd_iload_n dMO_spell_106 rfl rfl ?_
        refine fx_cV 10 sR_MO [.int (nI (64)), .int (nI (j))] [] dMO_spell_107 kMO_128 rfl rfl mMO_end_v (ce) (by decide) (Nat.le_refl _) (Nat.le_refl _) (Nat.le_of_ble_eq_true rfl) rfl ?_
        refine sd_iload_n dMO_spell_110 rfl rfl ?_
        refine nn_icmp_gt 145 dMO_spell_111 (by decide) (by omega) (by omega) (fun c111 => ?_) (fun c111 => ?_)
        ·
          refine sd_locp (al' := [(0, .ref (o + (0))), (1, .int (nI (k))), (2, .int (nI (b))), (3, .int (nI (j)))]) [0, 1, 2, 3] rfl ?_
          exact K1 (j, b) rfl
        ·
          exact absurd c111 (by omega)
    · rw [if_neg h1] at K1 K0
      by_cases h2 : 9 < u ∧ k < tl_end (dk_l dr) j
      · rw [if_pos h2] at K1 K0
        refine sd_iload_n dMO_spell_81 rfl rfl ?_
        refine nn_if_lt dMO_spell_82 145 (by decide) (by omega) ?_
        refine sd_aload_n dMO_spell_85 rfl rfl ?_
        refine fx_getr 10 4 (5) dMO_spell_86 fMO_22 rfl rfl ?_
        refine sd_iload_n dMO_spell_89 rfl rfl ?_
        refine fx_ialdv (v := (nI (u))) (j) dMO_spell_90 rfl rfl (by omega) (by decide) (u1) ?_
        refine sd_bipush (v := nI 10) dMO_spell_91 (by decide) ?_
        refine sd_aload_n dMO_spell_93 rfl rfl ?_
        refine fx_getr 10 4 (5) dMO_spell_94 fMO_22 rfl rfl ?_
        refine sd_iload_n dMO_spell_97 rfl rfl ?_
        refine fx_ialdv (v := (nI (t))) (k) dMO_spell_98 rfl rfl (by omega) (by decide) (k1) ?_
        refine nn_iadd dMO_spell_99 ?_
        refine nn_icmp_ne 114 dMO_spell_100 (by decide) (by omega) (by omega) (fun c100 => ?_) (fun c100 => ?_)
        ·
          refine sd_aload_n dMO_spell_114 rfl rfl ?_
          refine fx_getr 10 4 (5) dMO_spell_115 fMO_22 rfl rfl ?_
          refine sd_iload_n dMO_spell_118 rfl rfl ?_
          refine fx_ialdv (v := (nI (u))) (j) dMO_spell_119 rfl rfl (by omega) (by decide) (u1) ?_
          refine sd_bipush (v := nI 9) dMO_spell_120 (by decide) ?_
          refine nn_icmp_le 139 dMO_spell_122 (by decide) (by omega) (by omega) (fun c122 => ?_) (fun c122 => ?_)
          ·
            exact absurd c122 (by omega)
          ·
            refine sd_aload_n dMO_spell_125 rfl rfl ?_
            refine sd_bipush (v := nI 64) dMO_spell_126 (by decide) ?_
            refine sd_iload_n dMO_spell_128 rfl rfl ?_
            refine fx_cV 10 sR_MO [.int (nI (64)), .int (nI (j))] [] dMO_spell_129 kMO_128 rfl rfl mMO_end_v (ce) (by decide) (Nat.le_refl _) (Nat.le_refl _) (Nat.le_of_ble_eq_true rfl) rfl ?_
            refine sd_iload_n dMO_spell_132 rfl rfl ?_
            refine nn_icmp_le 139 dMO_spell_133 (by decide) (by omega) (by omega) (fun c133 => ?_) (fun c133 => ?_)
            ·
              exact absurd c133 (by omega)
            ·
              refine nn_iinc 1 dMO_spell_136 rfl (by decide) ?_
              refine sd_iinc (ix j) dMO_spell_139 rfl (ix_dec j) (by decide) ?_
              refine sd_goto 81 dMO_spell_142 (by decide) ?_
              refine sd_locp (al' := [(0, .ref (o + (0))), (1, .int (nI (k))), (2, .int (nI (b + 1))), (3, .int (ix j))]) [2, 3, 1, 0] rfl ?_
              exact ih (b + 1) (by omega) (by omega) K1 K0
        ·
          refine sd_aload_n dMO_spell_103 rfl rfl ?_
          refine sd_bipush (v := nI 64) dMO_spell_104 (by decide) ?_
          refine sd_iload_n dMO_spell_106 rfl rfl ?_
          refine fx_cV 10 sR_MO [.int (nI (64)), .int (nI (j))] [] dMO_spell_107 kMO_128 rfl rfl mMO_end_v (ce) (by decide) (Nat.le_refl _) (Nat.le_refl _) (Nat.le_of_ble_eq_true rfl) rfl ?_
          refine sd_iload_n dMO_spell_110 rfl rfl ?_
          refine nn_icmp_gt 145 dMO_spell_111 (by decide) (by omega) (by omega) (fun c111 => ?_) (fun c111 => ?_)
          ·
            exact absurd c111 (by omega)
          ·
            refine sd_aload_n dMO_spell_114 rfl rfl ?_
            refine fx_getr 10 4 (5) dMO_spell_115 fMO_22 rfl rfl ?_
            refine sd_iload_n dMO_spell_118 rfl rfl ?_
            refine fx_ialdv (v := (nI (u))) (j) dMO_spell_119 rfl rfl (by omega) (by decide) (u1) ?_
            refine sd_bipush (v := nI 9) dMO_spell_120 (by decide) ?_
            refine nn_icmp_le 139 dMO_spell_122 (by decide) (by omega) (by omega) (fun c122 => ?_) (fun c122 => ?_)
            ·
              exact absurd c122 (by omega)
            ·
              refine sd_aload_n dMO_spell_125 rfl rfl ?_
              refine sd_bipush (v := nI 64) dMO_spell_126 (by decide) ?_
              refine sd_iload_n dMO_spell_128 rfl rfl ?_
              refine fx_cV 10 sR_MO [.int (nI (64)), .int (nI (j))] [] dMO_spell_129 kMO_128 rfl rfl mMO_end_v (ce) (by decide) (Nat.le_refl _) (Nat.le_refl _) (Nat.le_of_ble_eq_true rfl) rfl ?_
              refine sd_iload_n dMO_spell_132 rfl rfl ?_
              refine nn_icmp_le 139 dMO_spell_133 (by decide) (by omega) (by omega) (fun c133 => ?_) (fun c133 => ?_)
              ·
                exact absurd c133 (by omega)
              ·
                refine nn_iinc 1 dMO_spell_136 rfl (by decide) ?_
                refine sd_iinc (ix j) dMO_spell_139 rfl (ix_dec j) (by decide) ?_
                refine sd_goto 81 dMO_spell_142 (by decide) ?_
                refine sd_locp (al' := [(0, .ref (o + (0))), (1, .int (nI (k))), (2, .int (nI (b + 1))), (3, .int (ix j))]) [2, 3, 1, 0] rfl ?_
                exact ih (b + 1) (by omega) (by omega) K1 K0
      · rw [if_neg h2] at K1 K0
        refine sd_iload_n dMO_spell_81 rfl rfl ?_
        refine nn_if_lt dMO_spell_82 145 (by decide) (by omega) ?_
        refine sd_aload_n dMO_spell_85 rfl rfl ?_
        refine fx_getr 10 4 (5) dMO_spell_86 fMO_22 rfl rfl ?_
        refine sd_iload_n dMO_spell_89 rfl rfl ?_
        refine fx_ialdv (v := (nI (u))) (j) dMO_spell_90 rfl rfl (by omega) (by decide) (u1) ?_
        refine sd_bipush (v := nI 10) dMO_spell_91 (by decide) ?_
        refine sd_aload_n dMO_spell_93 rfl rfl ?_
        refine fx_getr 10 4 (5) dMO_spell_94 fMO_22 rfl rfl ?_
        refine sd_iload_n dMO_spell_97 rfl rfl ?_
        refine fx_ialdv (v := (nI (t))) (k) dMO_spell_98 rfl rfl (by omega) (by decide) (k1) ?_
        refine nn_iadd dMO_spell_99 ?_
        refine nn_icmp_ne 114 dMO_spell_100 (by decide) (by omega) (by omega) (fun c100 => ?_) (fun c100 => ?_)
        ·
          refine sd_aload_n dMO_spell_114 rfl rfl ?_
          refine fx_getr 10 4 (5) dMO_spell_115 fMO_22 rfl rfl ?_
          refine sd_iload_n dMO_spell_118 rfl rfl ?_
          refine fx_ialdv (v := (nI (u))) (j) dMO_spell_119 rfl rfl (by omega) (by decide) (u1) ?_
          refine sd_bipush (v := nI 9) dMO_spell_120 (by decide) ?_
          refine nn_icmp_le 139 dMO_spell_122 (by decide) (by omega) (by omega) (fun c122 => ?_) (fun c122 => ?_)
          ·
            refine sd_iinc (ix j) dMO_spell_139 rfl (ix_dec j) (by decide) ?_
            refine sd_goto 81 dMO_spell_142 (by decide) ?_
            refine sd_locp (al' := [(0, .ref (o + (0))), (1, .int (nI (k))), (2, .int (nI (b))), (3, .int (ix j))]) [1, 2, 3, 0] rfl ?_
            exact ih b (by omega) (by omega) K1 K0
          ·
            refine sd_aload_n dMO_spell_125 rfl rfl ?_
            refine sd_bipush (v := nI 64) dMO_spell_126 (by decide) ?_
            refine sd_iload_n dMO_spell_128 rfl rfl ?_
            refine fx_cV 10 sR_MO [.int (nI (64)), .int (nI (j))] [] dMO_spell_129 kMO_128 rfl rfl mMO_end_v (ce) (by decide) (Nat.le_refl _) (Nat.le_refl _) (Nat.le_of_ble_eq_true rfl) rfl ?_
            refine sd_iload_n dMO_spell_132 rfl rfl ?_
            refine nn_icmp_le 139 dMO_spell_133 (by decide) (by omega) (by omega) (fun c133 => ?_) (fun c133 => ?_)
            ·
              refine sd_iinc (ix j) dMO_spell_139 rfl (ix_dec j) (by decide) ?_
              refine sd_goto 81 dMO_spell_142 (by decide) ?_
              refine sd_locp (al' := [(0, .ref (o + (0))), (1, .int (nI (k))), (2, .int (nI (b))), (3, .int (ix j))]) [1, 2, 3, 0] rfl ?_
              exact ih b (by omega) (by omega) K1 K0
            ·
              exact absurd c133 (by omega)
        ·
          refine sd_aload_n dMO_spell_103 rfl rfl ?_
          refine sd_bipush (v := nI 64) dMO_spell_104 (by decide) ?_
          refine sd_iload_n dMO_spell_106 rfl rfl ?_
          refine fx_cV 10 sR_MO [.int (nI (64)), .int (nI (j))] [] dMO_spell_107 kMO_128 rfl rfl mMO_end_v (ce) (by decide) (Nat.le_refl _) (Nat.le_refl _) (Nat.le_of_ble_eq_true rfl) rfl ?_
          refine sd_iload_n dMO_spell_110 rfl rfl ?_
          refine nn_icmp_gt 145 dMO_spell_111 (by decide) (by omega) (by omega) (fun c111 => ?_) (fun c111 => ?_)
          ·
            exact absurd c111 (by omega)
          ·
            refine sd_aload_n dMO_spell_114 rfl rfl ?_
            refine fx_getr 10 4 (5) dMO_spell_115 fMO_22 rfl rfl ?_
            refine sd_iload_n dMO_spell_118 rfl rfl ?_
            refine fx_ialdv (v := (nI (u))) (j) dMO_spell_119 rfl rfl (by omega) (by decide) (u1) ?_
            refine sd_bipush (v := nI 9) dMO_spell_120 (by decide) ?_
            refine nn_icmp_le 139 dMO_spell_122 (by decide) (by omega) (by omega) (fun c122 => ?_) (fun c122 => ?_)
            ·
              refine sd_iinc (ix j) dMO_spell_139 rfl (ix_dec j) (by decide) ?_
              refine sd_goto 81 dMO_spell_142 (by decide) ?_
              refine sd_locp (al' := [(0, .ref (o + (0))), (1, .int (nI (k))), (2, .int (nI (b))), (3, .int (ix j))]) [1, 2, 3, 0] rfl ?_
              exact ih b (by omega) (by omega) K1 K0
            ·
              refine sd_aload_n dMO_spell_125 rfl rfl ?_
              refine sd_bipush (v := nI 64) dMO_spell_126 (by decide) ?_
              refine sd_iload_n dMO_spell_128 rfl rfl ?_
              refine fx_cV 10 sR_MO [.int (nI (64)), .int (nI (j))] [] dMO_spell_129 kMO_128 rfl rfl mMO_end_v (ce) (by decide) (Nat.le_refl _) (Nat.le_refl _) (Nat.le_of_ble_eq_true rfl) rfl ?_
              refine sd_iload_n dMO_spell_132 rfl rfl ?_
              refine nn_icmp_le 139 dMO_spell_133 (by decide) (by omega) (by omega) (fun c133 => ?_) (fun c133 => ?_)
              ·
                refine sd_iinc (ix j) dMO_spell_139 rfl (ix_dec j) (by decide) ?_
                refine sd_goto 81 dMO_spell_142 (by decide) ?_
                refine sd_locp (al' := [(0, .ref (o + (0))), (1, .int (nI (k))), (2, .int (nI (b))), (3, .int (ix j))]) [1, 2, 3, 0] rfl ?_
                exact ih b (by omega) (by omega) K1 K0
              ·
                exact absurd c133 (by omega)
theorem x_MO_spell {G : sd_G} {o : Nat} {D : fx_D} {h0 : sd_H} {nx k b j : Nat} {Q : sd_Q} (hB : G.2.1 ≤ o) (hk : k < 24) (hj : j < 24) (hb : b < 30) (kk : sd_W G mMO_spell 2 0 0 Q 163 [(0, .ref (o + 0)), (1, .int (nI k))] [] (fx_h G.1.2 mo_S o (fx_ua D 1 (1536 + k) (nI (11 + b))) h0) nx 0 0) : sd_W G mMO_spell 2 0 0 Q 145 [(0, .ref (o + 0)), (1, .int (nI k)), (2, .int (nI b)), (3, .int (nI j))] [] (fx_h G.1.2 mo_S o D h0) nx 0 0 := by
  refine sd_iload_n dMO_spell_145 rfl rfl ?_
  refine nn_if_lt dMO_spell_146 163 (by decide) (by omega) ?_
  refine sd_aload_n dMO_spell_149 rfl rfl ?_
  refine fx_getr 10 0 (1) dMO_spell_150 fMO_7 rfl rfl ?_
  refine sd_sipush (v := nI 1536) dMO_spell_153 (by decide) ?_
  refine sd_iload_n dMO_spell_156 rfl rfl ?_
  refine nn_iadd dMO_spell_157 ?_
  refine sd_bipush (v := nI 11) dMO_spell_158 (by decide) ?_
  refine sd_iload_n dMO_spell_160 rfl rfl ?_
  refine nn_iadd dMO_spell_161 ?_
  refine fx_iast (1536 + k) dMO_spell_162 rfl rfl (by omega) (by decide) hB ?_
  refine sd_locp (al' := [(0, .ref (o + (0))), (1, .int (nI (k)))]) [0, 1] rfl ?_
  exact kk
theorem x_MO_spell0 {G : sd_G} {o : Nat} {D : fx_D} {h0 : sd_H} {nx k b : Nat} {Q : sd_Q} (kk : sd_W G mMO_spell 2 0 0 Q 163 [(0, .ref (o + 0)), (1, .int (nI k))] [] (fx_h G.1.2 mo_S o D h0) nx 0 0) : sd_W G mMO_spell 2 0 0 Q 145 [(0, .ref (o + 0)), (1, .int (nI k)), (2, .int (nI b)), (3, .int (ix 0))] [] (fx_h G.1.2 mo_S o D h0) nx 0 0 := by
  refine sd_iload_n dMO_spell_145 rfl rfl ?_
  refine sd_if_lt 163 dMO_spell_146 (by decide) (fun c146 => ?_) (fun c146 => ?_)
  ·
    refine sd_locp (al' := [(0, .ref (o + (0))), (1, .int (nI (k)))]) [0, 1] rfl ?_
    exact kk
  ·
    exact absurd (show ix 0 < 0 by decide) c146
theorem x_MO_spell1 {G : sd_G} {o : Nat} {D : fx_D} {h0 : sd_H} {nx : Nat} {Q : sd_Q} (kk : sd_W G mMO_spell 2 0 0 Q 53 [(0, .ref (o + 0)), (1, .int (nI 0))] [] (fx_h G.1.2 mo_S o D h0) nx 0 0) : sd_W G mMO_spell 2 0 0 Q 51 [(0, .ref (o + 0))] [] (fx_h G.1.2 mo_S o D h0) nx 0 0 := by
  refine sd_iconst (v := nI 0) dMO_spell_51 (by decide) ?_
  refine sd_istore_n dMO_spell_52 rfl (by decide) ?_
  refine sd_locp (al' := [(0, .ref (o + (0))), (1, .int (nI (0)))]) [1, 0] rfl ?_
  exact kk
theorem l_MO_spell3 {G : sd_G} {o : Nat} {D0 : fx_D} {h0 : sd_H} {nx : Nat} {dr : List Nat} (hB : G.2.1 ≤ o) (hD0 : mo_dr D0 dr) (hok : ∀ j, j < dr.length → tl_ok 1 ((dk_l dr).drop j)) : ∀ (n k : Nat) (D : fx_D), dr.length = k + n → mo_fa D0 D 64 → mo_row D 64 (sp_p dr k) → sd_W G mMO_spell 2 0 0 (fx_is G.1.2 mo_S o h0 nx none (fun D' => mo_row D' 64 (sp_l dr) ∧ mo_fa D0 D' 64)) 53 [(0, .ref (o + 0)), (1, .int (nI k))] [] (fx_h G.1.2 mo_S o D h0) nx 0 0 := by
  have h24 := hD0.1
  intro n
  induction n with
  | zero =>
    intro k D hk hf hr
    obtain ⟨-, d6, -⟩ := mo_dr_fa hD0 hf
    refine sd_iload_n dMO_spell_53 rfl rfl ?_
    refine sd_aload_n dMO_spell_54 rfl rfl ?_
    refine fx_getiv (v := (nI (dr.length))) 10 6 dMO_spell_55 fMO_158 rfl rfl (d6) ?_
    refine nn_icmp_ge 169 dMO_spell_58 (by decide) (by omega) (by omega) (fun c58 => ?_) (fun c58 => ?_)
    ·
      exact sd_vret dMO_spell_169 rfl (Nat.le_refl _) (Nat.le_refl _) ⟨rfl, rfl, _, rfl, by unfold sp_l; rw [show dr.length = k by omega]; exact hr, hf⟩
    ·
      exact absurd c58 (by omega)
  | succ n ih =>
    intro k D hk hf hr
    have hD := mo_dr_fa hD0 hf
    obtain ⟨-, d6, hx⟩ := hD
    have hg : dr[k]? = some dr[k] := List.getElem?_eq_getElem (by omega)
    generalize dr[k] = t at hg
    obtain ⟨t1, t18⟩ := hx k t hg
    have nxt : ∀ D' : fx_D, mo_fa D0 D' 64 → mo_row D' 64 (sp_p dr (k + 1)) → sd_W G mMO_spell 2 0 0 (fx_is G.1.2 mo_S o h0 nx none (fun D' => mo_row D' 64 (sp_l dr) ∧ mo_fa D0 D' 64)) 163 [(0, .ref (o + 0)), (1, .int (nI k))] [] (fx_h G.1.2 mo_S o D' h0) nx 0 0 := by
      intro D' a b
      refine nn_iinc 1 dMO_spell_163 rfl (by decide) ?_
      refine sd_goto 53 dMO_spell_166 (by decide) ?_
      refine sd_locp (al' := [(0, .ref (o + (0))), (1, .int (nI (k + 1)))]) [1, 0] rfl ?_
      exact ih (k + 1) D' (by omega) a b
    by_cases h7 : 7 < t
    · have es : sp_s dr k t = dk_s t := by unfold sp_s; rw [if_pos h7]
      have hn := nxt D hf (by rw [sp_row_skip hg es]; exact hr)
      refine sd_iload_n dMO_spell_53 rfl rfl ?_
      refine sd_aload_n dMO_spell_54 rfl rfl ?_
      refine fx_getiv (v := (nI (dr.length))) 10 6 dMO_spell_55 fMO_158 rfl rfl (d6) ?_
      refine nn_icmp_ge 169 dMO_spell_58 (by decide) (by omega) (by omega) (fun c58 => ?_) (fun c58 => ?_)
      ·
        exact absurd c58 (by omega)
      ·
        refine sd_aload_n dMO_spell_61 rfl rfl ?_
        refine fx_getr 10 4 (5) dMO_spell_62 fMO_22 rfl rfl ?_
        refine sd_iload_n dMO_spell_65 rfl rfl ?_
        refine fx_ialdv (v := (nI (t))) (k) dMO_spell_66 rfl rfl (by omega) (by decide) (t1) ?_
        refine sd_bipush (v := nI 7) dMO_spell_67 (by decide) ?_
        refine nn_icmp_le 75 dMO_spell_69 (by decide) (by omega) (by omega) (fun c69 => ?_) (fun c69 => ?_)
        ·
          exact absurd c69 (by omega)
        ·
          refine sd_goto 163 dMO_spell_72 (by decide) ?_
          refine sd_locp (al' := [(0, .ref (o + (0))), (1, .int (nI (k)))]) [0, 1] rfl ?_
          exact hn
    · have inner := l_MO_spell2 (G := G) (o := o) (h0 := h0) (nx := nx) (Q := fx_is G.1.2 mo_S o h0 nx none (fun D' => mo_row D' 64 (sp_l dr) ∧ mo_fa D0 D' 64)) (mo_dr_fa hD0 hf) hr hok hg k 0 (Nat.le_refl _) (by omega) (fun p hp => by
        have es : sp_s dr k t = 11 + p.2 := by unfold sp_s; rw [if_neg h7, hp]
        obtain ⟨hp1, hp2⟩ := sp_b_le k 0 p hp
        have hn := nxt (fx_ua D 1 (1536 + k) (nI (11 + p.2))) (hf.tr (mo_fa_sy (by omega))) (sp_row_set h24 hg es (by omega) hr)
        exact x_MO_spell hB (by omega) (by omega) (by omega) hn) (fun hp b' => by
        have es : sp_s dr k t = dk_s t := by
          unfold sp_s dk_s
          rw [if_neg h7, hp, if_neg (by omega)]
        have hn := nxt D hf (by rw [sp_row_skip hg es]; exact hr)
        exact x_MO_spell0 hn)
      refine sd_iload_n dMO_spell_53 rfl rfl ?_
      refine sd_aload_n dMO_spell_54 rfl rfl ?_
      refine fx_getiv (v := (nI (dr.length))) 10 6 dMO_spell_55 fMO_158 rfl rfl (d6) ?_
      refine nn_icmp_ge 169 dMO_spell_58 (by decide) (by omega) (by omega) (fun c58 => ?_) (fun c58 => ?_)
      ·
        exact absurd c58 (by omega)
      ·
        refine sd_aload_n dMO_spell_61 rfl rfl ?_
        refine fx_getr 10 4 (5) dMO_spell_62 fMO_22 rfl rfl ?_
        refine sd_iload_n dMO_spell_65 rfl rfl ?_
        refine fx_ialdv (v := (nI (t))) (k) dMO_spell_66 rfl rfl (by omega) (by decide) (t1) ?_
        refine sd_bipush (v := nI 7) dMO_spell_67 (by decide) ?_
        refine nn_icmp_le 75 dMO_spell_69 (by decide) (by omega) (by omega) (fun c69 => ?_) (fun c69 => ?_)
        ·
          refine sd_iconst (v := nI 0) dMO_spell_75 (by decide) ?_
          refine sd_istore_n dMO_spell_76 rfl (by decide) ?_
          refine sd_iload_n dMO_spell_77 rfl rfl ?_
          refine sd_iconst (v := nI 1) dMO_spell_78 (by decide) ?_
          refine sd_isub dMO_spell_79 ?_
          rw [show ((nI (k)) - (nI (1))) = (ix k) from ix_sub k]
          refine sd_istore_n dMO_spell_80 rfl (by decide) ?_
          refine sd_locp (al' := [(0, .ref (o + (0))), (1, .int (nI (k))), (2, .int (nI (0))), (3, .int (ix k))]) [2, 3, 1, 0] rfl ?_
          exact inner
        ·
          exact absurd c69 (by omega)
theorem c_MO_spell {G : sd_G} {o : Nat} {D : fx_D} {h0 : sd_H} {nx : Nat} {dr : List Nat} (hB : G.2.1 ≤ o) (hD : mo_dr D dr) (hsh : tl_cp 1 (dk_l dr)) : sd_Ct G mMO_spell 2 0 0 [.ref (o + 0)] (fx_h G.1.2 mo_S o D h0) nx (fx_is G.1.2 mo_S o h0 nx none (fun D' => mo_row D' 64 (sp_l dr) ∧ mo_fa D D' 64)) := by
  refine sd_Ct_of (by decide) (Nat.le_of_ble_eq_true rfl) ?_
  have hok : ∀ j, j < dr.length → tl_ok 1 ((dk_l dr).drop j) := fun j hj => tl_ok_drop _ 1 j hsh.1 hsh.2 (by unfold dk_l; rw [List.length_map]; exact hj)
  refine sd_aload_n dMO_spell_0 rfl rfl ?_
  refine sd_bipush (v := nI 64) dMO_spell_1 (by decide) ?_
  refine fx_cV 10 sR_MO [.int (nI (64))] [] dMO_spell_3 kMO_151 rfl rfl mMO_begin_v (c_MO_begin hB (by omega)) (by decide) (Nat.le_refl _) (Nat.le_refl _) (Nat.le_of_ble_eq_true rfl) rfl ?_
  refine sd_iconst (v := nI 0) dMO_spell_6 (by decide) ?_
  refine sd_istore_n dMO_spell_7 rfl (by decide) ?_
  refine sd_locp (al' := [(0, .ref (o + (0))), (1, .int (nI (0)))]) [1, 0] rfl ?_
  refine l_MO_spell1 hB hD (fun D1 a1 a2 ↦ ?_) dr.length 0 _ (by omega) mo_begin_fa mo_begin_row
  exact x_MO_spell1 (l_MO_spell3 hB hD hok dr.length 0 D1 (by omega) a1 (by rw [sp_p_zero]; exact a2))
