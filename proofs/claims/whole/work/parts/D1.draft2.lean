/-! ===== the class's Draft: writeTo ===== -/
def dk_5 (dr : List Nat) : tl_T := dr.map (fun t => (dk_s t, 5))
def sp_5 (dr : List Nat) (m : Nat) : tl_T := dr.mapIdx (fun k t => (if k < m then sp_s dr k t else dk_s t, 5))
theorem sp_5_len (dr : List Nat) (m : Nat) : (sp_5 dr m).length = dr.length := List.length_mapIdx
theorem sp_5_get {dr : List Nat} {m k t : Nat} (h : dr[k]? = some t) : (sp_5 dr m)[k]? = some (if k < m then sp_s dr k t else dk_s t, 5) := by
  unfold sp_5
  rw [List.getElem?_mapIdx, h]
  rfl
theorem sp_5_zero (dr : List Nat) : sp_5 dr 0 = dk_5 dr := by
  apply List.ext_getElem?
  intro k
  unfold sp_5 dk_5
  rw [List.getElem?_mapIdx, List.getElem?_map]
  cases dr[k]? <;> simp
theorem sp_5_ar (dr : List Nat) (m : Nat) : (sp_5 dr m).map (fun x => tl_ar x.1) = (dk_l dr).map (fun x => tl_ar x.1) := by
  rw [← sp_p_ar dr m]
  apply List.ext_getElem?
  intro k
  rw [List.getElem?_map, List.getElem?_map]
  unfold sp_5 sp_p
  rw [List.getElem?_mapIdx, List.getElem?_mapIdx]
  cases dr[k]? <;> rfl
theorem sp_5_end (dr : List Nat) (m j : Nat) : tl_end (sp_5 dr m) j = tl_end (dk_l dr) j := (tl_ar_drop (sp_5_ar dr m) j).1
theorem sp_5_ok {dr : List Nat} (m j : Nat) (h : tl_ok 1 ((dk_l dr).drop j)) : tl_ok 1 ((sp_5 dr m).drop j) := ((tl_ar_drop (sp_5_ar dr m) j).2 1).mpr h
theorem dk_s_lt {t : Nat} (h : t < 18) : dk_s t < 11 ∧ (dk_s t = 10 ↔ 9 < t) := by
  unfold dk_s
  split
  · exact ⟨by omega, by omega⟩
  · exact ⟨by omega, by omega⟩
theorem sp_s_lt {dr : List Nat} {k t : Nat} (hk : k < 24) (h : t < 18) : sp_s dr k t < 100 ∧ (sp_s dr k t = 10 ↔ 9 < t) := by
  unfold sp_s
  split
  · have := dk_s_lt h
    exact ⟨by omega, this.2⟩
  · cases e : sp_b dr k k 0 with
    | none => exact ⟨by simp only; omega, by simp only; omega⟩
    | some p =>
      have := (sp_b_le k 0 p e).2
      exact ⟨by simp only; omega, by simp only; omega⟩
theorem tl_arn_snoc (l : tl_T) (a : Nat) : ∀ (n k : Nat), tl_arn l a k (n + 1) = tl_arn l a k n + (if (l[k + n]?.map (·.1)) = some 10 ∧ a < tl_end l (k + n) then 1 else 0)
  | 0, k => by simp [tl_arn]
  | n + 1, k => by
    rw [tl_arn, tl_arn_snoc l a n (k + 1), show tl_arn l a k (n + 1) = (if (l[k]?.map (·.1)) = some 10 ∧ a < tl_end l k then 1 else 0) + tl_arn l a (k + 1) n from rfl, show k + 1 + n = k + (n + 1) by omega, Nat.add_assoc]
/-- a row of a draft, spelled in part: which of its symbols are LAMs -/
def sp_lam (dr : List Nat) (l : tl_T) : Prop := ∀ j, j < dr.length → (((l[j]?.map (·.1)) = some 10 ∧ (tl_at l j).1 = 10) ↔ 9 < dr.getD j 0) ∧ ((l[j]?.map (·.1)) = some 10 ↔ (tl_at l j).1 = 10) ∧ tl_end l j = tl_end (dk_l dr) j
theorem sp_arn {dr : List Nat} {l : tl_T} {k : Nat} (hl : sp_lam dr l) : ∀ (j b : Nat) (p : Nat × Nat), j ≤ dr.length → sp_b dr k j b = some p → p.2 = b + tl_arn l k (p.1 + 1) (j - (p.1 + 1)) := by
  intro j
  induction j with
  | zero => intro b p _ h; cases h
  | succ j ih =>
    intro b p hj h
    have hle := (sp_b_le _ _ _ h).1
    rw [sp_b] at h
    split at h
    · cases h
      simp [tl_arn]
    · have hp := (sp_b_le _ _ _ h).1
      have q := ih _ p (by omega) h
      rw [show j + 1 - (p.1 + 1) = (j - (p.1 + 1)) + 1 by omega, tl_arn_snoc, show p.1 + 1 + (j - (p.1 + 1)) = j by omega, q]
      obtain ⟨a1, a2, a3⟩ := hl j (by omega)
      rw [a3]
      by_cases c : 9 < dr.getD j 0 ∧ k < tl_end (dk_l dr) j
      · rw [if_pos c, if_pos ⟨(a1.mpr c.1).1, c.2⟩]
        omega
      · rw [if_neg c, if_neg (fun z => c ⟨a1.mp ⟨z.1, a2.mp z.1⟩, z.2⟩)]
        omega
theorem sp_bdr {dr : List Nat} {l : tl_T} {k : Nat} (hl : sp_lam dr l) : ∀ (j b : Nat) (p : Nat × Nat), j ≤ dr.length → sp_b dr k j b = some p → b ≤ p.2 ∧ bdr l k j (p.2 - b) = p.1 := by
  intro j
  induction j with
  | zero => intro b p _ h; cases h
  | succ j ih =>
    intro b p hj h
    obtain ⟨a1, a2, a3⟩ := hl j (by omega)
    rw [sp_b] at h
    rw [bdr, a3]
    split at h
    · next c =>
      cases h
      refine ⟨Nat.le_refl _, ?_⟩
      rw [if_pos ⟨(a1.mpr (by omega)).2, c.2⟩, if_pos (by simp)]
    · next c =>
      obtain ⟨q1, q2⟩ := ih _ p (by omega) h
      by_cases d : 9 < dr.getD j 0 ∧ k < tl_end (dk_l dr) j
      · rw [if_pos d] at q1 q2
        rw [if_pos ⟨(a1.mpr d.1).2, d.2⟩, if_neg (by omega)]
        exact ⟨by omega, by rw [show p.2 - b - 1 = p.2 - (b + 1) by omega]; exact q2⟩
      · rw [if_neg d] at q1 q2
        rw [if_neg (fun z => d ⟨a1.mp ⟨a2.mpr z.1, z.1⟩, z.2⟩)]
        exact ⟨q1, q2⟩
theorem sp_5_lam {dr : List Nat} {m : Nat} (h18 : ∀ (k x : Nat), dr[k]? = some x → x < 18) (h24 : dr.length ≤ 24) : sp_lam dr (sp_5 dr m) := by
  intro j hj
  have e := List.getElem?_eq_getElem hj
  have t18 := h18 j _ e
  have g := sp_5_get (m := m) e
  have ed : dr.getD j 0 = dr[j] := by rw [List.getD_eq_getElem?_getD, e]; rfl
  have ea : (tl_at (sp_5 dr m) j).1 = (if j < m then sp_s dr j dr[j] else dk_s dr[j]) := by unfold tl_at; rw [g]; rfl
  have hx : (if j < m then sp_s dr j dr[j] else dk_s dr[j]) = 10 ↔ 9 < dr[j] := by
    split
    · exact (sp_s_lt (by omega) t18).2
    · exact (dk_s_lt t18).2
  rw [g, ed, ea]
  simp only [Option.map_some, Option.some.injEq]
  exact ⟨⟨fun z => hx.mp z.1, fun z => ⟨hx.mpr z, hx.mpr z⟩⟩, trivial, sp_5_end dr m j⟩
theorem sp_l_lam {dr : List Nat} (h18 : ∀ (k x : Nat), dr[k]? = some x → x < 18) (h24 : dr.length ≤ 24) : sp_lam dr (sp_l dr) := by
  intro j hj
  have e := List.getElem?_eq_getElem hj
  have t18 := h18 j _ e
  have g := sp_p_get (m := dr.length) e
  have ed : dr.getD j 0 = dr[j] := by rw [List.getD_eq_getElem?_getD, e]; rfl
  have ea : (tl_at (sp_l dr) j).1 = (if j < dr.length then sp_s dr j dr[j] else dk_s dr[j]) := by unfold tl_at sp_l; rw [g]; rfl
  have hx : (if j < dr.length then sp_s dr j dr[j] else dk_s dr[j]) = 10 ↔ 9 < dr[j] := by
    rw [if_pos hj]
    exact (sp_s_lt (by omega) t18).2
  have g' : (sp_l dr)[j]? = some (if j < dr.length then sp_s dr j dr[j] else dk_s dr[j], 1) := g
  rw [g', ed, ea]
  simp only [Option.map_some, Option.some.injEq]
  exact ⟨⟨fun z => hx.mp z.1, fun z => ⟨hx.mpr z, hx.mpr z⟩⟩, trivial, sp_p_end dr dr.length j⟩
/-- what binders holds -/
def bn_O (dr : List Nat) (i : Nat) : Option Nat := if dr.getD i 0 < 8 then (sp_b dr i i 0).map (·.1) else none
theorem tm_row_sp {D : fx_D} {r m t : Nat} {dr : List Nat} (hm : dr[m]? = some t) (h24 : dr.length ≤ 24) (t18 : t < 18) (h : tm_row D r (sp_5 dr m)) : tm_row (fx_ua D (tmo r + 1) m (nI (sp_s dr m t))) r (sp_5 dr (m + 1)) := by
  have hml := getE_lt hm
  obtain ⟨h1, h2, h3⟩ := h
  rw [sp_5_len] at h1 h2
  refine ⟨by rw [sp_5_len]; exact h1, by rw [sp_5_len]; exact h2, fun k x hx => ?_⟩
  have hk : k < dr.length := by have := getE_lt hx; rw [sp_5_len] at this; exact this
  have e := List.getElem?_eq_getElem hk
  rw [sp_5_get e] at hx
  have hx' := Option.some.inj hx
  have n2 : tmo r + 2 ≠ tmo r + 1 := by omega
  by_cases c : k = m
  · subst c
    rw [e] at hm
    have hm' := Option.some.inj hm
    rw [if_pos (by omega), hm'] at hx'
    subst hx'
    have s := sp_s_lt (dr := dr) (k := k) (t := t) (by omega) t18
    obtain ⟨-, q2, -, -⟩ := h3 k _ (sp_5_get e)
    exact ⟨by simp [fx_ua, upd], by simpa [fx_ua] using q2, s.1, show (5 : Nat) < 2 ^ 25 by decide⟩
  · obtain ⟨q1, q2, q3, q4⟩ := h3 k _ (sp_5_get e)
    have ee : (if k < m + 1 then sp_s dr k dr[k] else dk_s dr[k]) = (if k < m then sp_s dr k dr[k] else dk_s dr[k]) := by
      by_cases z : k < m
      · rw [if_pos z, if_pos (by omega)]
      · rw [if_neg z, if_neg (by omega)]
    rw [ee] at hx'
    subst hx'
    exact ⟨by simpa [fx_ua, upd, c] using q1, by simpa [fx_ua] using q2, q3, q4⟩
theorem sp_5_same {dr : List Nat} {m t : Nat} (hm : dr[m]? = some t) (hs : sp_s dr m t = dk_s t) : sp_5 dr (m + 1) = sp_5 dr m := by
  apply List.ext_getElem?
  intro k
  by_cases hk : k < dr.length
  · have e := List.getElem?_eq_getElem hk
    rw [sp_5_get e, sp_5_get e]
    by_cases c : k = m
    · subst c
      rw [e] at hm
      have hm' := Option.some.inj hm
      rw [if_pos (by omega), if_neg (by omega), hm', hs]
    · have ee : (if k < m + 1 then sp_s dr k dr[k] else dk_s dr[k]) = (if k < m then sp_s dr k dr[k] else dk_s dr[k]) := by
        by_cases z : k < m
        · rw [if_pos z, if_pos (by omega)]
        · rw [if_neg z, if_neg (by omega)]
      rw [ee]
  · rw [List.getElem?_eq_none_iff.mpr (by rw [sp_5_len]; omega), List.getElem?_eq_none_iff.mpr (by rw [sp_5_len]; omega)]
/-- cells that writeTo may change -/
def wt_f (r : Nat) (D D' : fx_D) : Prop := ∀ x, x ≠ tmo r → x ≠ tmo r + 1 → x ≠ tmo r + 2 → x ≠ tmo r + 3 → x ≠ 298 → ag D D' x
theorem wt_f.rf (r : Nat) (D : fx_D) : wt_f r D D := fun _ _ _ _ _ _ => ⟨rfl, rfl, rfl⟩
theorem wt_f.tr {r : Nat} {D D' D2 : fx_D} (h : wt_f r D D') (h2 : wt_f r D' D2) : wt_f r D D2 := fun x a b c d e => (h x a b c d e).tr (h2 x a b c d e)
theorem wt_f.tm {r : Nat} {D D' : fx_D} (h : tm_f r D D') : wt_f r D D' := fun x a b c d _ => h.ag a b c d
theorem dd_R_wt {r : Nat} {D D' : fx_D} {dr : List Nat} (hr : r < 73) (h : wt_f r D D') (hD : dd_R D dr) : dd_R D' dr := dd_R_ag (h 296 (by unfold tmo; omega) (by unfold tmo; omega) (by unfold tmo; omega) (by unfold tmo; omega) (by omega)) (h 297 (by unfold tmo; omega) (by unfold tmo; omega) (by unfold tmo; omega) (by unfold tmo; omega) (by omega)) hD
def wt_P (r : Nat) (dr : List Nat) (D D' : fx_D) : Prop := tm_row D' r (sp_5 dr dr.length) ∧ tm_set D' r (sp_5 dr dr.length) ∧ D'.2.1 (tmo r) 4 = nI 0 ∧ (∀ i, i < dr.length → D'.1 298 i = oi_I (bn_O dr i)) ∧ wt_f r D D'
theorem dDR_writeTo_0 : decode prog_2_method_4_code 0 = .ok (.iconst 0, 1) := by decide +kernel
theorem dDR_writeTo_1 : decode prog_2_method_4_code 1 = .ok (.istore_n 2, 1) := by decide +kernel
theorem dDR_writeTo_2 : decode prog_2_method_4_code 2 = .ok (.iload_n 2, 1) := by decide +kernel
theorem dDR_writeTo_3 : decode prog_2_method_4_code 3 = .ok (.aload_n 0, 1) := by decide +kernel
theorem dDR_writeTo_4 : decode prog_2_method_4_code 4 = .ok (.getfield 18, 3) := by decide +kernel
theorem dDR_writeTo_7 : decode prog_2_method_4_code 7 = .ok (.if_icmp .ge (23), 3) := by decide +kernel
theorem dDR_writeTo_10 : decode prog_2_method_4_code 10 = .ok (.aload_n 1, 1) := by decide +kernel
theorem dDR_writeTo_11 : decode prog_2_method_4_code 11 = .ok (.aload_n 0, 1) := by decide +kernel
theorem dDR_writeTo_12 : decode prog_2_method_4_code 12 = .ok (.getfield 9, 3) := by decide +kernel
theorem dDR_writeTo_15 : decode prog_2_method_4_code 15 = .ok (.iload_n 2, 1) := by decide +kernel
theorem dDR_writeTo_16 : decode prog_2_method_4_code 16 = .ok (.iaload, 1) := by decide +kernel
theorem dDR_writeTo_17 : decode prog_2_method_4_code 17 = .ok (.invokestatic 22, 3) := by decide +kernel
theorem dDR_writeTo_20 : decode prog_2_method_4_code 20 = .ok (.iconst 5, 1) := by decide +kernel
theorem dDR_writeTo_21 : decode prog_2_method_4_code 21 = .ok (.invokevirtual 37, 3) := by decide +kernel
theorem dDR_writeTo_24 : decode prog_2_method_4_code 24 = .ok (.iinc 2 (1), 3) := by decide +kernel
theorem dDR_writeTo_27 : decode prog_2_method_4_code 27 = .ok (.goto (-25), 3) := by decide +kernel
theorem dDR_writeTo_30 : decode prog_2_method_4_code 30 = .ok (.aload_n 1, 1) := by decide +kernel
theorem dDR_writeTo_31 : decode prog_2_method_4_code 31 = .ok (.invokevirtual 41, 3) := by decide +kernel
theorem dDR_writeTo_34 : decode prog_2_method_4_code 34 = .ok (.iconst 0, 1) := by decide +kernel
theorem dDR_writeTo_35 : decode prog_2_method_4_code 35 = .ok (.istore_n 2, 1) := by decide +kernel
theorem dDR_writeTo_36 : decode prog_2_method_4_code 36 = .ok (.iload_n 2, 1) := by decide +kernel
theorem dDR_writeTo_37 : decode prog_2_method_4_code 37 = .ok (.aload_n 0, 1) := by decide +kernel
theorem dDR_writeTo_38 : decode prog_2_method_4_code 38 = .ok (.getfield 18, 3) := by decide +kernel
theorem dDR_writeTo_41 : decode prog_2_method_4_code 41 = .ok (.if_icmp .ge (37), 3) := by decide +kernel
theorem dDR_writeTo_44 : decode prog_2_method_4_code 44 = .ok (.aload_n 0, 1) := by decide +kernel
theorem dDR_writeTo_45 : decode prog_2_method_4_code 45 = .ok (.getfield 15, 3) := by decide +kernel
theorem dDR_writeTo_48 : decode prog_2_method_4_code 48 = .ok (.iload_n 2, 1) := by decide +kernel
theorem dDR_writeTo_49 : decode prog_2_method_4_code 49 = .ok (.aload_n 0, 1) := by decide +kernel
theorem dDR_writeTo_50 : decode prog_2_method_4_code 50 = .ok (.getfield 9, 3) := by decide +kernel
theorem dDR_writeTo_53 : decode prog_2_method_4_code 53 = .ok (.iload_n 2, 1) := by decide +kernel
theorem dDR_writeTo_54 : decode prog_2_method_4_code 54 = .ok (.iaload, 1) := by decide +kernel
theorem dDR_writeTo_55 : decode prog_2_method_4_code 55 = .ok (.invokestatic 44, 3) := by decide +kernel
theorem dDR_writeTo_58 : decode prog_2_method_4_code 58 = .ok (.ifCond .eq (12), 3) := by decide +kernel
theorem dDR_writeTo_61 : decode prog_2_method_4_code 61 = .ok (.aload_n 0, 1) := by decide +kernel
theorem dDR_writeTo_62 : decode prog_2_method_4_code 62 = .ok (.aload_n 1, 1) := by decide +kernel
theorem dDR_writeTo_63 : decode prog_2_method_4_code 63 = .ok (.iload_n 2, 1) := by decide +kernel
theorem dDR_writeTo_64 : decode prog_2_method_4_code 64 = .ok (.invokevirtual 48, 3) := by decide +kernel
theorem dDR_writeTo_67 : decode prog_2_method_4_code 67 = .ok (.goto (4), 3) := by decide +kernel
theorem dDR_writeTo_70 : decode prog_2_method_4_code 70 = .ok (.iconst (-1), 1) := by decide +kernel
theorem dDR_writeTo_71 : decode prog_2_method_4_code 71 = .ok (.iastore, 1) := by decide +kernel
theorem dDR_writeTo_72 : decode prog_2_method_4_code 72 = .ok (.iinc 2 (1), 3) := by decide +kernel
theorem dDR_writeTo_75 : decode prog_2_method_4_code 75 = .ok (.goto (-39), 3) := by decide +kernel
theorem dDR_writeTo_78 : decode prog_2_method_4_code 78 = .ok (.iconst 0, 1) := by decide +kernel
theorem dDR_writeTo_79 : decode prog_2_method_4_code 79 = .ok (.istore_n 2, 1) := by decide +kernel
theorem dDR_writeTo_80 : decode prog_2_method_4_code 80 = .ok (.iload_n 2, 1) := by decide +kernel
theorem dDR_writeTo_81 : decode prog_2_method_4_code 81 = .ok (.aload_n 0, 1) := by decide +kernel
theorem dDR_writeTo_82 : decode prog_2_method_4_code 82 = .ok (.getfield 18, 3) := by decide +kernel
theorem dDR_writeTo_85 : decode prog_2_method_4_code 85 = .ok (.if_icmp .ge (41), 3) := by decide +kernel
theorem dDR_writeTo_88 : decode prog_2_method_4_code 88 = .ok (.aload_n 0, 1) := by decide +kernel
theorem dDR_writeTo_89 : decode prog_2_method_4_code 89 = .ok (.getfield 15, 3) := by decide +kernel
theorem dDR_writeTo_92 : decode prog_2_method_4_code 92 = .ok (.iload_n 2, 1) := by decide +kernel
theorem dDR_writeTo_93 : decode prog_2_method_4_code 93 = .ok (.iaload, 1) := by decide +kernel
theorem dDR_writeTo_94 : decode prog_2_method_4_code 94 = .ok (.iconst (-1), 1) := by decide +kernel
theorem dDR_writeTo_95 : decode prog_2_method_4_code 95 = .ok (.if_icmp .eq (25), 3) := by decide +kernel
theorem dDR_writeTo_98 : decode prog_2_method_4_code 98 = .ok (.aload_n 1, 1) := by decide +kernel
theorem dDR_writeTo_99 : decode prog_2_method_4_code 99 = .ok (.getfield 52, 3) := by decide +kernel
theorem dDR_writeTo_102 : decode prog_2_method_4_code 102 = .ok (.iload_n 2, 1) := by decide +kernel
theorem dDR_writeTo_103 : decode prog_2_method_4_code 103 = .ok (.bipush (11), 2) := by decide +kernel
theorem dDR_writeTo_105 : decode prog_2_method_4_code 105 = .ok (.aload_n 1, 1) := by decide +kernel
theorem dDR_writeTo_106 : decode prog_2_method_4_code 106 = .ok (.aload_n 0, 1) := by decide +kernel
theorem dDR_writeTo_107 : decode prog_2_method_4_code 107 = .ok (.getfield 15, 3) := by decide +kernel
theorem dDR_writeTo_110 : decode prog_2_method_4_code 110 = .ok (.iload_n 2, 1) := by decide +kernel
theorem dDR_writeTo_111 : decode prog_2_method_4_code 111 = .ok (.iaload, 1) := by decide +kernel
theorem dDR_writeTo_112 : decode prog_2_method_4_code 112 = .ok (.iconst 1, 1) := by decide +kernel
theorem dDR_writeTo_113 : decode prog_2_method_4_code 113 = .ok (.iadd, 1) := by decide +kernel
theorem dDR_writeTo_114 : decode prog_2_method_4_code 114 = .ok (.iload_n 2, 1) := by decide +kernel
theorem dDR_writeTo_115 : decode prog_2_method_4_code 115 = .ok (.invokevirtual 55, 3) := by decide +kernel
theorem dDR_writeTo_118 : decode prog_2_method_4_code 118 = .ok (.iadd, 1) := by decide +kernel
theorem dDR_writeTo_119 : decode prog_2_method_4_code 119 = .ok (.iastore, 1) := by decide +kernel
theorem dDR_writeTo_120 : decode prog_2_method_4_code 120 = .ok (.iinc 2 (1), 3) := by decide +kernel
theorem dDR_writeTo_123 : decode prog_2_method_4_code 123 = .ok (.goto (-43), 3) := by decide +kernel
theorem dDR_writeTo_126 : decode prog_2_method_4_code 126 = .ok (.return_, 1) := by decide +kernel
theorem l_DR_w3 {G : sd_G} {o : Nat} {D0 : fx_D} {h0 : sd_H} {nx r : Nat} {dr : List Nat} (hB : G.2.1 ≤ o) (hr : r < 73) (hD0 : dd_R D0 dr) : ∀ (n m : Nat) (D : fx_D), dr.length = m + n → tm_row D r (sp_5 dr m) → tm_set D r (sp_5 dr m) → D.2.1 (tmo r) 4 = nI 0 → (∀ i, i < dr.length → D.1 298 i = oi_I (bn_O dr i)) → wt_f r D0 D → sd_W G mDR_writeTo 2 0 0 (fx_is G.1.2 dk_S o h0 nx none (wt_P r dr D0)) 80 [(0, .ref (o + 296)), (1, .ref (o + tmo r)), (2, .int (nI m))] [] (fx_h G.1.2 dk_S o D h0) nx 0 0 := by
  intro n
  induction n with
  | zero =>
    intro m D hm h1 h2 h3 h4 hf
    have hD := dd_R_wt hr hf hD0
    have l24 := hD.1
    have e : m = dr.length := by omega
    subst e
    refine sd_iload_n dDR_writeTo_80 rfl rfl ?_
    refine sd_aload_n dDR_writeTo_81 rfl rfl ?_
    refine fx_getiv (v := (nI (dr.length))) 1 2 dDR_writeTo_82 fDR_18 rfl rfl (hD.2.1) ?_
    refine nn_icmp_ge 126 dDR_writeTo_85 (by decide) (by omega) (by omega) (fun c85 => ?_) (fun c85 => ?_)
    ·
      exact sd_vret dDR_writeTo_126 rfl (Nat.le_refl _) (Nat.le_refl _) ⟨rfl, rfl, _, rfl, h1, h2, h3, h4, hf⟩
    ·
      exact absurd c85 (by omega)
  | succ n ih =>
    intro m D hm h1 h2 h3 h4 hf
    have hD := dd_R_wt hr hf hD0
    have l24 := hD.1
    have hml : m < dr.length := by omega
    have e := List.getElem?_eq_getElem hml
    have t18 := (hD.2.2 m _ e).2
    have ed : dr.getD m 0 = dr[m] := by rw [List.getD_eq_getElem?_getD, e]; rfl
    have b4 := h4 m hml
    cases hb : bn_O dr m with
    | none =>
      rw [hb] at b4
      have hs : sp_s dr m dr[m] = dk_s dr[m] := by
        unfold bn_O at hb
        rw [ed] at hb
        unfold sp_s
        by_cases q : 7 < dr[m]
        · rw [if_pos q]
        · rw [if_neg q]
          rw [if_pos (by omega)] at hb
          cases eb : sp_b dr m m 0 with
          | none =>
            unfold dk_s
            rw [if_neg (by omega)]
          | some p => rw [eb] at hb; cases hb
      have hsame := sp_5_same e hs
      refine sd_iload_n dDR_writeTo_80 rfl rfl ?_
      refine sd_aload_n dDR_writeTo_81 rfl rfl ?_
      refine fx_getiv (v := (nI (dr.length))) 1 2 dDR_writeTo_82 fDR_18 rfl rfl (hD.2.1) ?_
      refine nn_icmp_ge 126 dDR_writeTo_85 (by decide) (by omega) (by omega) (fun c85 => ?_) (fun c85 => ?_)
      ·
        exact absurd c85 (by omega)
      ·
        refine sd_aload_n dDR_writeTo_88 rfl rfl ?_
        refine fx_getr 1 1 (298) dDR_writeTo_89 fDR_15 rfl rfl ?_
        refine sd_iload_n dDR_writeTo_92 rfl rfl ?_
        refine fx_ialdv (v := ((-1))) (m) dDR_writeTo_93 rfl rfl (by omega) (by decide) (b4) ?_
        refine sd_iconst (v := (-1)) dDR_writeTo_94 (by decide) ?_
        refine sd_icmp_eq 120 dDR_writeTo_95 (by decide) (fun c95 => ?_) (fun c95 => ?_)
        ·
          refine nn_iinc 1 dDR_writeTo_120 rfl (by decide) ?_
          refine sd_goto 80 dDR_writeTo_123 (by decide) ?_
          refine sd_locp (al' := [(0, .ref (o + (296))), (1, .ref (o + (tmo (r)))), (2, .int (nI (m + 1)))]) [1, 2, 0] rfl ?_
          exact ih (m + 1) D (by omega) (by rw [hsame]; exact h1) (by rw [hsame]; exact h2) h3 h4 hf
        ·
          exact absurd rfl c95
    | some j =>
      rw [hb] at b4
      obtain ⟨p, hp, hpj⟩ : ∃ p, sp_b dr m m 0 = some p ∧ p.1 = j := by
        unfold bn_O at hb
        split at hb
        · cases eb : sp_b dr m m 0 with
          | none => rw [eb] at hb; cases hb
          | some p => rw [eb] at hb; exact ⟨p, rfl, Option.some.inj hb⟩
        · cases hb
      have h7 : ¬ 7 < dr[m] := fun q => by
        unfold bn_O at hb
        rw [ed, if_neg (by omega)] at hb
        cases hb
      have hlt := (sp_b_le m 0 p hp)
      have har := sp_arn (sp_5_lam (m := m) (fun k x hx => (hD.2.2 k x hx).2) l24) m 0 p (by omega) hp
      rw [Nat.zero_add] at har
      have hsp : sp_s dr m dr[m] = 11 + p.2 := by
        unfold sp_s
        rw [if_neg h7, hp]
      have ca := c_TM_around (G := G) (o := o) (h0 := h0) (nx := nx) (f := p.1 + 1) (a := m) hr h1 h2 (by omega) (by rw [sp_5_len]; omega)
      rw [← har] at ca
      have hrow := tm_row_sp e l24 t18 h1
      rw [hsp] at hrow
      subst hpj
      refine sd_iload_n dDR_writeTo_80 rfl rfl ?_
      refine sd_aload_n dDR_writeTo_81 rfl rfl ?_
      refine fx_getiv (v := (nI (dr.length))) 1 2 dDR_writeTo_82 fDR_18 rfl rfl (hD.2.1) ?_
      refine nn_icmp_ge 126 dDR_writeTo_85 (by decide) (by omega) (by omega) (fun c85 => ?_) (fun c85 => ?_)
      ·
        exact absurd c85 (by omega)
      ·
        refine sd_aload_n dDR_writeTo_88 rfl rfl ?_
        refine fx_getr 1 1 (298) dDR_writeTo_89 fDR_15 rfl rfl ?_
        refine sd_iload_n dDR_writeTo_92 rfl rfl ?_
        refine fx_ialdv (v := (nI (p.1))) (m) dDR_writeTo_93 rfl rfl (by omega) (by decide) (b4) ?_
        refine sd_iconst (v := (-1)) dDR_writeTo_94 (by decide) ?_
        refine sd_icmp_eq 120 dDR_writeTo_95 (by decide) (fun c95 => ?_) (fun c95 => ?_)
        ·
          exact absurd c95 (nI_ne_m1 (by omega))
        ·
          refine sd_aload_n dDR_writeTo_98 rfl rfl ?_
          refine fx_getr 7 0 (tmo (r) + 1) dDR_writeTo_99 fDR_52 (dk_tm (by omega)) rfl ?_
          refine sd_iload_n dDR_writeTo_102 rfl rfl ?_
          refine sd_bipush (v := nI 11) dDR_writeTo_103 (by decide) ?_
          refine sd_aload_n dDR_writeTo_105 rfl rfl ?_
          refine sd_aload_n dDR_writeTo_106 rfl rfl ?_
          refine fx_getr 1 1 (298) dDR_writeTo_107 fDR_15 rfl rfl ?_
          refine sd_iload_n dDR_writeTo_110 rfl rfl ?_
          refine fx_ialdv (v := (nI (p.1))) (m) dDR_writeTo_111 rfl rfl (by omega) (by decide) (b4) ?_
          refine sd_iconst (v := nI 1) dDR_writeTo_112 (by decide) ?_
          refine nn_iadd dDR_writeTo_113 ?_
          refine sd_iload_n dDR_writeTo_114 rfl rfl ?_
          refine fx_cV 7 sR_TM [.int (nI (p.1 + 1)), .int (nI (m))] [.int (nI (11)), .int (nI (m)), .ref (o + (tmo (r) + 1))] dDR_writeTo_115 kDR_55 rfl (dk_tm (by omega)) mTM_lambdasAround_v (ca) (by decide) (Nat.le_refl _) (Nat.le_refl _) (Nat.le_of_ble_eq_true rfl) rfl ?_
          refine nn_iadd dDR_writeTo_118 ?_
          refine fx_iast (m) dDR_writeTo_119 (dk_tm1 (by omega)) rfl (by omega) (by decide) hB ?_
          refine nn_iinc 1 dDR_writeTo_120 rfl (by decide) ?_
          refine sd_goto 80 dDR_writeTo_123 (by decide) ?_
          refine sd_locp (al' := [(0, .ref (o + (296))), (1, .ref (o + (tmo (r)))), (2, .int (nI (m + 1)))]) [1, 2, 0] rfl ?_
          exact ih (m + 1) _ (by omega) hrow (fun k hk => by rw [sp_5_len] at hk; rw [sp_5_end, ← sp_5_end dr m]; have := h2 k (by rw [sp_5_len]; exact hk); simpa [fx_ua] using this) h3 (fun i hi => by simpa [fx_ua, show (298 : Nat) ≠ tmo r + 1 by unfold tmo; omega] using h4 i hi) (hf.tr (fun x a b c d e => ag_ua b))
theorem l_DR_w2 {G : sd_G} {o : Nat} {D0 : fx_D} {h0 : sd_H} {nx r : Nat} {dr : List Nat} (hB : G.2.1 ≤ o) (hr : r < 73) (hD0 : dd_R D0 dr) : ∀ (n m : Nat) (D : fx_D), dr.length = m + n → tm_row D r (sp_5 dr 0) → tm_set D r (sp_5 dr 0) → D.2.1 (tmo r) 4 = nI 0 → (∀ i, i < m → D.1 298 i = oi_I (bn_O dr i)) → wt_f r D0 D → sd_W G mDR_writeTo 2 0 0 (fx_is G.1.2 dk_S o h0 nx none (wt_P r dr D0)) 36 [(0, .ref (o + 296)), (1, .ref (o + tmo r)), (2, .int (nI m))] [] (fx_h G.1.2 dk_S o D h0) nx 0 0 := by
  intro n
  induction n with
  | zero =>
    intro m D hm h1 h2 h3 h4 hf
    have hD := dd_R_wt hr hf hD0
    have l24 := hD.1
    refine sd_iload_n dDR_writeTo_36 rfl rfl ?_
    refine sd_aload_n dDR_writeTo_37 rfl rfl ?_
    refine fx_getiv (v := (nI (dr.length))) 1 2 dDR_writeTo_38 fDR_18 rfl rfl (hD.2.1) ?_
    refine nn_icmp_ge 78 dDR_writeTo_41 (by decide) (by omega) (by omega) (fun c41 => ?_) (fun c41 => ?_)
    ·
      refine sd_iconst (v := nI 0) dDR_writeTo_78 (by decide) ?_
      refine sd_istore_n dDR_writeTo_79 rfl (by decide) ?_
      refine sd_locp (al' := [(0, .ref (o + (296))), (1, .ref (o + (tmo (r)))), (2, .int (nI (0)))]) [1, 2, 0] rfl ?_
      exact l_DR_w3 hB hr hD0 dr.length 0 D (by omega) h1 h2 h3 (fun i hi => h4 i (by omega)) hf
    ·
      exact absurd c41 (by omega)
  | succ n ih =>
    intro m D hm h1 h2 h3 h4 hf
    have hD := dd_R_wt hr hf hD0
    have l24 := hD.1
    have hml : m < dr.length := by omega
    have e := List.getElem?_eq_getElem hml
    obtain ⟨tk, t18⟩ := hD.2.2 m _ e
    have ed : dr.getD m 0 = dr[m] := by rw [List.getD_eq_getElem?_getD, e]; rfl
    have hset : ∀ j, j < dr.length → D.1 (tmo r + 3) j = nI (tl_end (dk_l dr) j) := fun j hj => by rw [h2 j (by rw [sp_5_len]; exact hj), sp_5_end]
    have go : ∀ v, v = oi_I (bn_O dr m) → tm_row (fx_ua D 298 m v) r (sp_5 dr 0) ∧ tm_set (fx_ua D 298 m v) r (sp_5 dr 0) ∧ (fx_ua D 298 m v).2.1 (tmo r) 4 = nI 0 ∧ (∀ i, i < m + 1 → (fx_ua D 298 m v).1 298 i = oi_I (bn_O dr i)) ∧ wt_f r D0 (fx_ua D 298 m v) := fun v hv => by
      have a : ∀ i, i ≤ 3 → ag D (fx_ua D 298 m v) (tmo r + i) := fun i hi => ag_ua (by unfold tmo; omega)
      refine ⟨tm_row_ag a h1, tm_set_ag a h2, h3, fun i hi => ?_, hf.tr (fun x a b c d e => ag_ua e)⟩
      by_cases c : i = m
      · subst c
        simp [fx_ua, upd, hv]
      · simpa [fx_ua, upd, c] using h4 i (by omega)
    by_cases hn : dr[m] < 8
    · have hbo : dd_b dr m m 0 = oi_I (bn_O dr m) := by
        unfold dd_b bn_O
        rw [ed, if_pos hn]
        cases sp_b dr m m 0 <;> rfl
      have cb := c_DR_binderOf (G := G) (o := o) (h0 := h0) (nx := nx) hr hD hml hset
      rw [hbo] at cb
      obtain ⟨g1, g2, g3, g4, g5⟩ := go _ rfl
      refine sd_iload_n dDR_writeTo_36 rfl rfl ?_
      refine sd_aload_n dDR_writeTo_37 rfl rfl ?_
      refine fx_getiv (v := (nI (dr.length))) 1 2 dDR_writeTo_38 fDR_18 rfl rfl (hD.2.1) ?_
      refine nn_icmp_ge 78 dDR_writeTo_41 (by decide) (by omega) (by omega) (fun c41 => ?_) (fun c41 => ?_)
      ·
        exact absurd c41 (by omega)
      ·
        refine sd_aload_n dDR_writeTo_44 rfl rfl ?_
        refine fx_getr 1 1 (298) dDR_writeTo_45 fDR_15 rfl rfl ?_
        refine sd_iload_n dDR_writeTo_48 rfl rfl ?_
        refine sd_aload_n dDR_writeTo_49 rfl rfl ?_
        refine fx_getr 1 0 (297) dDR_writeTo_50 fDR_9 rfl rfl ?_
        refine sd_iload_n dDR_writeTo_53 rfl rfl ?_
        refine fx_ialdv (v := (nI (dr[m]))) (m) dDR_writeTo_54 rfl rfl (by omega) (by decide) (tk) ?_
        refine sd_cS [.int (nI (dr[m]))] [.int (nI (m)), .ref (o + (298))] dDR_writeTo_55 kDR_44 mDK_isName_s (c_DK_isName (b := 1) (by omega) (by simp only [true_iff]; exact ⟨_, hn, rfl⟩)) (by decide) (Nat.le_refl _) (Nat.le_refl _) (Nat.le_of_ble_eq_true rfl) rfl ?_
        refine nn_if_eq 70 dDR_writeTo_58 (by decide) (by decide) (fun c => absurd c (by decide)) (fun _ => ?_)
        refine sd_aload_n dDR_writeTo_61 rfl rfl ?_
        refine sd_aload_n dDR_writeTo_62 rfl rfl ?_
        refine sd_iload_n dDR_writeTo_63 rfl rfl ?_
        refine fx_cV 1 sR_DR [.ref (o + (tmo (r))), .int (nI (m))] [.int (nI (m)), .ref (o + (298))] dDR_writeTo_64 kDR_48 rfl rfl mDR_binderOf_v (cb) (by decide) (Nat.le_refl _) (Nat.le_refl _) (Nat.le_of_ble_eq_true rfl) rfl ?_
        refine sd_goto 71 dDR_writeTo_67 (by decide) ?_
        refine fx_iast (m) dDR_writeTo_71 rfl rfl (by omega) (by decide) hB ?_
        refine nn_iinc 1 dDR_writeTo_72 rfl (by decide) ?_
        refine sd_goto 36 dDR_writeTo_75 (by decide) ?_
        refine sd_locp (al' := [(0, .ref (o + (296))), (1, .ref (o + (tmo (r)))), (2, .int (nI (m + 1)))]) [1, 2, 0] rfl ?_
        exact ih (m + 1) _ (by omega) g1 g2 g3 g4 g5
    · have hbo : (-1 : Int32) = oi_I (bn_O dr m) := by
        unfold bn_O
        rw [ed, if_neg hn]
        rfl
      obtain ⟨g1, g2, g3, g4, g5⟩ := go _ hbo
      refine sd_iload_n dDR_writeTo_36 rfl rfl ?_
      refine sd_aload_n dDR_writeTo_37 rfl rfl ?_
      refine fx_getiv (v := (nI (dr.length))) 1 2 dDR_writeTo_38 fDR_18 rfl rfl (hD.2.1) ?_
      refine nn_icmp_ge 78 dDR_writeTo_41 (by decide) (by omega) (by omega) (fun c41 => ?_) (fun c41 => ?_)
      ·
        exact absurd c41 (by omega)
      ·
        refine sd_aload_n dDR_writeTo_44 rfl rfl ?_
        refine fx_getr 1 1 (298) dDR_writeTo_45 fDR_15 rfl rfl ?_
        refine sd_iload_n dDR_writeTo_48 rfl rfl ?_
        refine sd_aload_n dDR_writeTo_49 rfl rfl ?_
        refine fx_getr 1 0 (297) dDR_writeTo_50 fDR_9 rfl rfl ?_
        refine sd_iload_n dDR_writeTo_53 rfl rfl ?_
        refine fx_ialdv (v := (nI (dr[m]))) (m) dDR_writeTo_54 rfl rfl (by omega) (by decide) (tk) ?_
        refine sd_cS [.int (nI (dr[m]))] [.int (nI (m)), .ref (o + (298))] dDR_writeTo_55 kDR_44 mDK_isName_s (c_DK_isName (b := 0) (by omega) ⟨fun e ↦ absurd e (by decide), fun ⟨t, q1, q2⟩ ↦ absurd (nI_inj (by omega) (by omega) q2) (by omega)⟩) (by decide) (Nat.le_refl _) (Nat.le_refl _) (Nat.le_of_ble_eq_true rfl) rfl ?_
        refine nn_if_eq 70 dDR_writeTo_58 (by decide) (by decide) (fun _ => ?_) (fun c => absurd c (by decide))
        refine sd_iconst (v := (-1)) dDR_writeTo_70 (by decide) ?_
        refine fx_iast (m) dDR_writeTo_71 rfl rfl (by omega) (by decide) hB ?_
        refine nn_iinc 1 dDR_writeTo_72 rfl (by decide) ?_
        refine sd_goto 36 dDR_writeTo_75 (by decide) ?_
        refine sd_locp (al' := [(0, .ref (o + (296))), (1, .ref (o + (tmo (r)))), (2, .int (nI (m + 1)))]) [1, 2, 0] rfl ?_
        exact ih (m + 1) _ (by omega) g1 g2 g3 g4 g5
theorem l_DR_w1 {G : sd_G} {o : Nat} {D0 : fx_D} {h0 : sd_H} {nx r : Nat} {dr : List Nat} (hB : G.2.1 ≤ o) (hr : r < 73) (hD0 : dd_R D0 dr) (hcp : tl_cp 1 (dk_l dr)) : ∀ (n m : Nat) (D : fx_D), dr.length = m + n → tw D r ((dk_5 dr).take m) → wt_f r D0 D → sd_W G mDR_writeTo 2 0 0 (fx_is G.1.2 dk_S o h0 nx none (wt_P r dr D0)) 2 [(0, .ref (o + 296)), (1, .ref (o + tmo r)), (2, .int (nI m))] [] (fx_h G.1.2 dk_S o D h0) nx 0 0 := by
  have hl5 : (dk_5 dr).length = dr.length := List.length_map ..
  intro n
  induction n with
  | zero =>
    intro m D hm h1 hf
    have hD := dd_R_wt hr hf hD0
    have l24 := hD.1
    rw [List.take_of_length_le (by omega)] at h1
    have hrow := tw_row h1 (by omega)
    have hb : D.2.1 (tmo r) 4 = nI 0 := by
      rcases h1 with ⟨-, -, q⟩ | ⟨q, -⟩
      · exact q
      · omega
    rw [← sp_5_zero] at hrow
    have hok : ∀ j, j < (sp_5 dr 0).length → tl_ok 1 ((sp_5 dr 0).drop j) := fun j hj => by
      rw [sp_5_len] at hj
      exact sp_5_ok 0 j (tl_ok_drop _ 1 j hcp.1 hcp.2 (by unfold dk_l; rw [List.length_map]; exact hj))
    refine sd_iload_n dDR_writeTo_2 rfl rfl ?_
    refine sd_aload_n dDR_writeTo_3 rfl rfl ?_
    refine fx_getiv (v := (nI (dr.length))) 1 2 dDR_writeTo_4 fDR_18 rfl rfl (hD.2.1) ?_
    refine nn_icmp_ge 30 dDR_writeTo_7 (by decide) (by omega) (by omega) (fun c7 => ?_) (fun c7 => ?_)
    ·
      refine sd_aload_n dDR_writeTo_30 rfl rfl ?_
      refine fx_cP 7 sR_TM [] [] dDR_writeTo_31 kDR_41 rfl (dk_tm (by omega)) mTM_settle_v (c_TM_settle hB hr hrow hok) (by decide) (Nat.le_refl _) (Nat.le_refl _) (Nat.le_of_ble_eq_true rfl) rfl (fun D1 h2 => ?_)
      refine sd_iconst (v := nI 0) dDR_writeTo_34 (by decide) ?_
      refine sd_istore_n dDR_writeTo_35 rfl (by decide) ?_
      refine sd_locp (al' := [(0, .ref (o + (296))), (1, .ref (o + (tmo (r)))), (2, .int (nI (0)))]) [1, 2, 0] rfl ?_
      exact l_DR_w2 hB hr hD0 dr.length 0 D1 (by omega) (tm_row_s h2.2.1 h2.2.2 hrow) h2.1 (by rw [h2.2.2]; exact hb) (fun i hi => by omega) (hf.tr (wt_f.tm (tm_f_s h2.2.1 h2.2.2)))
    ·
      exact absurd c7 (by omega)
  | succ n ih =>
    intro m D hm h1 hf
    have hD := dd_R_wt hr hf hD0
    have l24 := hD.1
    have hml : m < dr.length := by omega
    have e := List.getElem?_eq_getElem hml
    obtain ⟨tk, t18⟩ := hD.2.2 m _ e
    have ht : (dk_5 dr).take (m + 1) = (dk_5 dr).take m ++ [(dk_s dr[m], 5)] := by
      rw [List.take_succ, show (dk_5 dr)[m]? = some (dk_s dr[m], 5) by unfold dk_5; rw [List.getElem?_map, e]; rfl]
      rfl
    have := (dk_s_lt t18).1
    refine sd_iload_n dDR_writeTo_2 rfl rfl ?_
    refine sd_aload_n dDR_writeTo_3 rfl rfl ?_
    refine fx_getiv (v := (nI (dr.length))) 1 2 dDR_writeTo_4 fDR_18 rfl rfl (hD.2.1) ?_
    refine nn_icmp_ge 30 dDR_writeTo_7 (by decide) (by omega) (by omega) (fun c7 => ?_) (fun c7 => ?_)
    ·
      exact absurd c7 (by omega)
    ·
      refine sd_aload_n dDR_writeTo_10 rfl rfl ?_
      refine sd_aload_n dDR_writeTo_11 rfl rfl ?_
      refine fx_getr 1 0 (297) dDR_writeTo_12 fDR_9 rfl rfl ?_
      refine sd_iload_n dDR_writeTo_15 rfl rfl ?_
      refine fx_ialdv (v := (nI (dr[m]))) (m) dDR_writeTo_16 rfl rfl (by omega) (by decide) (tk) ?_
      refine sd_cS [.int (nI (dr[m]))] [.ref (o + (tmo (r)))] dDR_writeTo_17 kDR_22 mDR_symbolOf_s (c_DR_symbolOf t18) (by decide) (Nat.le_refl _) (Nat.le_refl _) (Nat.le_of_ble_eq_true rfl) rfl ?_
      refine sd_iconst (v := nI 5) dDR_writeTo_20 (by decide) ?_
      refine fx_cP 7 sR_TM [.int (nI (dk_s dr[m])), .int (nI (5))] [] dDR_writeTo_21 kDR_37 rfl (dk_tm (by omega)) mTM_add_v (c_TM_add (t := 5) hB hr h1 (by omega) (by omega)) (by decide) (Nat.le_refl _) (Nat.le_refl _) (Nat.le_of_ble_eq_true rfl) rfl (fun D1 h2 => ?_)
      refine nn_iinc 1 dDR_writeTo_24 rfl (by decide) ?_
      refine sd_goto 2 dDR_writeTo_27 (by decide) ?_
      refine sd_locp (al' := [(0, .ref (o + (296))), (1, .ref (o + (tmo (r)))), (2, .int (nI (m + 1)))]) [1, 2, 0] rfl ?_
      exact ih (m + 1) D1 (by omega) (by rw [ht]; exact h2.1) (hf.tr (wt_f.tm h2.2))
theorem c_DR_writeTo {G : sd_G} {o : Nat} {D : fx_D} {h0 : sd_H} {nx r : Nat} {dr : List Nat} (hB : G.2.1 ≤ o) (hr : r < 73) (hD : dd_R D dr) (hcp : tl_cp 1 (dk_l dr)) (h : tw D r []) : sd_Ct G mDR_writeTo 2 0 0 [.ref (o + 296), .ref (o + tmo r)] (fx_h G.1.2 dk_S o D h0) nx (fx_is G.1.2 dk_S o h0 nx none (wt_P r dr D)) := by
  refine sd_Ct_of (by decide) (Nat.le_of_ble_eq_true rfl) ?_
  refine sd_iconst (v := nI 0) dDR_writeTo_0 (by decide) ?_
  refine sd_istore_n dDR_writeTo_1 rfl (by decide) ?_
  refine sd_locp (al' := [(0, .ref (o + (296))), (1, .ref (o + (tmo (r)))), (2, .int (nI (0)))]) [1, 2, 0] rfl ?_
  exact l_DR_w1 hB hr hD hcp dr.length 0 D (by omega) (by simpa using h) (wt_f.rf r D)
