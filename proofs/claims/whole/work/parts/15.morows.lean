/-! ===== the model: writing rows, comparing, keeping ===== -/
/-- the length of row r -/
def mo_ln (D : fx_D) (r : Nat) : Nat := (D.1 3 r).toNatClampNeg
/-- what add does -/
def mo_add (D : fx_D) (r : Nat) (s t : Int32) : fx_D := if mo_ln D r = 24 ∨ t = 0 then fx_uf D 0 7 (nI 1) else fx_ua (fx_ua (fx_ua D 1 (24 * r + mo_ln D r) s) 3 r (nI (mo_ln D r + 1))) 2 (24 * r + mo_ln D r) t
theorem mo_row.ln {D : fx_D} {r : Nat} {l : tl_T} (h : mo_row D r l) : mo_ln D r = l.length := by
  unfold mo_ln
  rw [h.2.1, nI_clamp (by have := h.1; omega)]
theorem dMO_add_0 : decode prog_13_method_18_code 0 = .ok (.aload_n 0, 1) := by decide +kernel
theorem dMO_add_1 : decode prog_13_method_18_code 1 = .ok (.getfield 16, 3) := by decide +kernel
theorem dMO_add_4 : decode prog_13_method_18_code 4 = .ok (.iload_n 1, 1) := by decide +kernel
theorem dMO_add_5 : decode prog_13_method_18_code 5 = .ok (.iaload, 1) := by decide +kernel
theorem dMO_add_6 : decode prog_13_method_18_code 6 = .ok (.bipush (24), 2) := by decide +kernel
theorem dMO_add_8 : decode prog_13_method_18_code 8 = .ok (.if_icmp .eq (7), 3) := by decide +kernel
theorem dMO_add_11 : decode prog_13_method_18_code 11 = .ok (.iload_n 3, 1) := by decide +kernel
theorem dMO_add_12 : decode prog_13_method_18_code 12 = .ok (.ifCond .ne (9), 3) := by decide +kernel
theorem dMO_add_15 : decode prog_13_method_18_code 15 = .ok (.aload_n 0, 1) := by decide +kernel
theorem dMO_add_16 : decode prog_13_method_18_code 16 = .ok (.iconst 1, 1) := by decide +kernel
theorem dMO_add_17 : decode prog_13_method_18_code 17 = .ok (.putfield 124, 3) := by decide +kernel
theorem dMO_add_20 : decode prog_13_method_18_code 20 = .ok (.return_, 1) := by decide +kernel
theorem dMO_add_21 : decode prog_13_method_18_code 21 = .ok (.aload_n 0, 1) := by decide +kernel
theorem dMO_add_22 : decode prog_13_method_18_code 22 = .ok (.getfield 7, 3) := by decide +kernel
theorem dMO_add_25 : decode prog_13_method_18_code 25 = .ok (.bipush (24), 2) := by decide +kernel
theorem dMO_add_27 : decode prog_13_method_18_code 27 = .ok (.iload_n 1, 1) := by decide +kernel
theorem dMO_add_28 : decode prog_13_method_18_code 28 = .ok (.imul, 1) := by decide +kernel
theorem dMO_add_29 : decode prog_13_method_18_code 29 = .ok (.aload_n 0, 1) := by decide +kernel
theorem dMO_add_30 : decode prog_13_method_18_code 30 = .ok (.getfield 16, 3) := by decide +kernel
theorem dMO_add_33 : decode prog_13_method_18_code 33 = .ok (.iload_n 1, 1) := by decide +kernel
theorem dMO_add_34 : decode prog_13_method_18_code 34 = .ok (.iaload, 1) := by decide +kernel
theorem dMO_add_35 : decode prog_13_method_18_code 35 = .ok (.iadd, 1) := by decide +kernel
theorem dMO_add_36 : decode prog_13_method_18_code 36 = .ok (.iload_n 2, 1) := by decide +kernel
theorem dMO_add_37 : decode prog_13_method_18_code 37 = .ok (.iastore, 1) := by decide +kernel
theorem dMO_add_38 : decode prog_13_method_18_code 38 = .ok (.aload_n 0, 1) := by decide +kernel
theorem dMO_add_39 : decode prog_13_method_18_code 39 = .ok (.getfield 13, 3) := by decide +kernel
theorem dMO_add_42 : decode prog_13_method_18_code 42 = .ok (.bipush (24), 2) := by decide +kernel
theorem dMO_add_44 : decode prog_13_method_18_code 44 = .ok (.iload_n 1, 1) := by decide +kernel
theorem dMO_add_45 : decode prog_13_method_18_code 45 = .ok (.imul, 1) := by decide +kernel
theorem dMO_add_46 : decode prog_13_method_18_code 46 = .ok (.aload_n 0, 1) := by decide +kernel
theorem dMO_add_47 : decode prog_13_method_18_code 47 = .ok (.getfield 16, 3) := by decide +kernel
theorem dMO_add_50 : decode prog_13_method_18_code 50 = .ok (.iload_n 1, 1) := by decide +kernel
theorem dMO_add_51 : decode prog_13_method_18_code 51 = .ok (.dup2, 1) := by decide +kernel
theorem dMO_add_52 : decode prog_13_method_18_code 52 = .ok (.iaload, 1) := by decide +kernel
theorem dMO_add_53 : decode prog_13_method_18_code 53 = .ok (.dup_x2, 1) := by decide +kernel
theorem dMO_add_54 : decode prog_13_method_18_code 54 = .ok (.iconst 1, 1) := by decide +kernel
theorem dMO_add_55 : decode prog_13_method_18_code 55 = .ok (.iadd, 1) := by decide +kernel
theorem dMO_add_56 : decode prog_13_method_18_code 56 = .ok (.iastore, 1) := by decide +kernel
theorem dMO_add_57 : decode prog_13_method_18_code 57 = .ok (.iadd, 1) := by decide +kernel
theorem dMO_add_58 : decode prog_13_method_18_code 58 = .ok (.iload_n 3, 1) := by decide +kernel
theorem dMO_add_59 : decode prog_13_method_18_code 59 = .ok (.iastore, 1) := by decide +kernel
theorem dMO_add_60 : decode prog_13_method_18_code 60 = .ok (.return_, 1) := by decide +kernel
theorem c_MO_add {G : sd_G} {o : Nat} {D : fx_D} {h0 : sd_H} {nx r k : Nat} {s t : Int32} (hB : G.2.1 ≤ o) (hr : r < 72) (hk : k ≤ 24) (hl : D.1 3 r = nI k) : sd_Ct G mMO_add 0 0 0 [.ref (o + 0), .int (nI r), .int s, .int t] (fx_h G.1.2 mo_S o D h0) nx (sd_is none (fx_h G.1.2 mo_S o (mo_add D r s t) h0) nx) := by
  refine sd_Ct_of (by decide) (Nat.le_of_ble_eq_true rfl) ?_
  have e1 : mo_ln D r = k := by unfold mo_ln; rw [hl, nI_clamp (by omega)]
  refine sd_aload_n dMO_add_0 rfl rfl ?_
  refine fx_getr 10 2 (3) dMO_add_1 fMO_16 rfl rfl ?_
  refine sd_iload_n dMO_add_4 rfl rfl ?_
  refine fx_ialdv (r) dMO_add_5 rfl rfl (by omega) (by decide) (hl) ?_
  refine sd_bipush (v := nI 24) dMO_add_6 (by decide) ?_
  refine nn_icmp_eq 15 dMO_add_8 (by decide) (by omega) (by omega) (fun c8 => ?_) (fun c8 => ?_)
  ·
    rw [show mo_add D r s t = fx_uf D 0 7 (nI 1) by unfold mo_add; rw [e1, if_pos (Or.inl c8)]]
    refine sd_aload_n dMO_add_15 rfl rfl ?_
    refine sd_iconst (v := nI 1) dMO_add_16 (by decide) ?_
    refine fx_putz 10 7 dMO_add_17 fMO_124 rfl rfl (Or.inr rfl) rfl rfl hB ?_
    exact sd_vret dMO_add_20 rfl (Nat.le_refl _) (Nat.le_refl _) ⟨rfl, rfl, rfl⟩
  ·
    refine sd_iload_n dMO_add_11 rfl rfl ?_
    refine sd_if_ne 21 dMO_add_12 (by decide) (fun c12 => ?_) (fun c12 => ?_)
    ·
      rw [show mo_add D r s t = fx_ua (fx_ua (fx_ua D 1 (24 * r + k) s) 3 r (nI (k + 1))) 2 (24 * r + k) t by unfold mo_add; rw [e1, if_neg (by rintro (q | q); exact c8 q; exact c12 q)]]
      refine sd_aload_n dMO_add_21 rfl rfl ?_
      refine fx_getr 10 0 (1) dMO_add_22 fMO_7 rfl rfl ?_
      refine sd_bipush (v := nI 24) dMO_add_25 (by decide) ?_
      refine sd_iload_n dMO_add_27 rfl rfl ?_
      refine nn_imul dMO_add_28 ?_
      refine sd_aload_n dMO_add_29 rfl rfl ?_
      refine fx_getr 10 2 (3) dMO_add_30 fMO_16 rfl rfl ?_
      refine sd_iload_n dMO_add_33 rfl rfl ?_
      refine fx_ialdv (r) dMO_add_34 rfl rfl (by omega) (by decide) (hl) ?_
      refine nn_iadd dMO_add_35 ?_
      refine sd_iload_n dMO_add_36 rfl rfl ?_
      refine fx_iast ((24 * r) + k) dMO_add_37 rfl rfl (by omega) (by decide) hB ?_
      refine sd_aload_n dMO_add_38 rfl rfl ?_
      refine fx_getr 10 1 (2) dMO_add_39 fMO_13 rfl rfl ?_
      refine sd_bipush (v := nI 24) dMO_add_42 (by decide) ?_
      refine sd_iload_n dMO_add_44 rfl rfl ?_
      refine nn_imul dMO_add_45 ?_
      refine sd_aload_n dMO_add_46 rfl rfl ?_
      refine fx_getr 10 2 (3) dMO_add_47 fMO_16 rfl rfl ?_
      refine sd_iload_n dMO_add_50 rfl rfl ?_
      refine sd_dup2_11 dMO_add_51 rfl rfl ?_
      refine fx_ialdv (r) dMO_add_52 rfl rfl (by omega) (by decide) (hl) ?_
      refine sd_dup_x2 dMO_add_53 rfl rfl rfl ?_
      refine sd_iconst (v := nI 1) dMO_add_54 (by decide) ?_
      refine nn_iadd dMO_add_55 ?_
      refine fx_iast (r) dMO_add_56 rfl rfl (by omega) (by decide) hB ?_
      refine nn_iadd dMO_add_57 ?_
      refine sd_iload_n dMO_add_58 rfl rfl ?_
      refine fx_iast ((24 * r) + k) dMO_add_59 rfl rfl (by omega) (by decide) hB ?_
      exact sd_vret dMO_add_60 rfl (Nat.le_refl _) (Nat.le_refl _) ⟨rfl, rfl, rfl⟩
    ·
      rw [show mo_add D r s t = fx_uf D 0 7 (nI 1) by unfold mo_add; rw [if_pos (Or.inr c12)]]
      refine sd_aload_n dMO_add_15 rfl rfl ?_
      refine sd_iconst (v := nI 1) dMO_add_16 (by decide) ?_
      refine fx_putz 10 7 dMO_add_17 fMO_124 rfl rfl (Or.inr rfl) rfl rfl hB ?_
      exact sd_vret dMO_add_20 rfl (Nat.le_refl _) (Nat.le_refl _) ⟨rfl, rfl, rfl⟩
/-- the row grows by one -/
theorem mo_add_row {D : fx_D} {r : Nat} {l : tl_T} {s t : Nat} (hl : mo_row D r l) (h24 : l.length < 24) (hs : s < 100) (ht0 : t ≠ 0) (ht : t < 2 ^ 25) : mo_row (mo_add D r (nI s) (nI t)) r (l ++ [(s, t)]) := by
  have e0 : ¬ (mo_ln D r = 24 ∨ nI t = 0) := by
    rw [hl.ln]
    rintro (q | q)
    · omega
    · exact ht0 ((nI_eq (b := 0) (by omega) (by omega)).mp q)
  unfold mo_add
  rw [if_neg e0, hl.ln]
  refine ⟨by simp; omega, by simp [fx_ua, upd], fun k x hx => ?_⟩
  by_cases hk : k < l.length
  · rw [List.getElem?_append_left hk] at hx
    obtain ⟨q1, q2, q3, q4⟩ := hl.2.2 k x hx
    refine ⟨?_, ?_, q3, q4⟩
    · simp [fx_ua, upd, show ¬ (k = l.length) by omega, q1]
    · simp [fx_ua, upd, show ¬ (k = l.length) by omega, q2]
  · rw [List.getElem?_append_right (by omega)] at hx
    have hk2 : k - l.length < 1 := (List.getElem?_eq_some_iff.mp hx).1
    obtain rfl : k = l.length := by omega
    simp at hx
    subst hx
    refine ⟨by simp [fx_ua, upd], by simp [fx_ua, upd], hs, ht⟩
theorem mo_add_other {D : fx_D} {r q : Nat} {l : tl_T} {s t : Int32} (hq : mo_row D q l) (hn : q ≠ r) (hln : mo_ln D r ≤ 24) : mo_row (mo_add D r s t) q l := by
  unfold mo_add
  have h24 := hq.1
  split
  · exact hq
  · rename_i h1
    refine ⟨hq.1, by simp [fx_ua, upd, hn, hq.2.1], fun k x hx => ?_⟩
    obtain ⟨q1, q2, q3, q4⟩ := hq.2.2 k x hx
    have hk : k < l.length := (List.getElem?_eq_some_iff.mp hx).1
    have e : ¬ (24 * q + k = 24 * r + mo_ln D r) := by
      have : mo_ln D r ≠ 24 := fun z => h1 (Or.inl z)
      omega
    exact ⟨by simp [fx_ua, upd, e, q1], by simp [fx_ua, upd, e, q2], q3, q4⟩
/-- lengths stay within 24 -/
def mo_okl (D : fx_D) (r : Nat) : Prop := ∃ k : Nat, k ≤ 24 ∧ D.1 3 r = nI k
theorem mo_okl.ln {D : fx_D} {r : Nat} (h : mo_okl D r) : mo_ln D r ≤ 24 ∧ D.1 3 r = nI (mo_ln D r) := by
  obtain ⟨k, h1, h2⟩ := h
  have : mo_ln D r = k := by unfold mo_ln; rw [h2, nI_clamp (by omega)]
  rw [this]
  exact ⟨h1, h2⟩
theorem mo_row.okl {D : fx_D} {r : Nat} {l : tl_T} (h : mo_row D r l) : mo_okl D r := ⟨l.length, h.1, h.2.1⟩
theorem mo_add_okl {D : fx_D} {r q : Nat} {s t : Int32} (hq : mo_okl D q) (hr : mo_okl D r) : mo_okl (mo_add D r s t) q := by
  unfold mo_add
  split
  · exact hq
  · rename_i h1
    by_cases e : q = r
    · subst e
      have := hr.ln.1
      exact ⟨mo_ln D q + 1, by have : mo_ln D q ≠ 24 := fun z => h1 (Or.inl z); omega, by simp [fx_ua, upd]⟩
    · obtain ⟨k, k1, k2⟩ := hq
      exact ⟨k, k1, by simp [fx_ua, upd, e, k2]⟩
/-- a list of symbols and types is added -/
def mo_adds (D : fx_D) (r : Nat) : tl_T → fx_D
  | [] => D
  | x :: l => mo_adds (mo_add D r (nI x.1) (nI x.2)) r l
theorem mo_adds_app (r : Nat) : ∀ (l l2 : tl_T) (D : fx_D), mo_adds D r (l ++ l2) = mo_adds (mo_adds D r l) r l2
  | [], l2, D => rfl
  | x :: l, l2, D => mo_adds_app r l l2 _
theorem mo_adds_other {r q : Nat} {lq : tl_T} (hn : q ≠ r) : ∀ (l : tl_T) (D : fx_D), mo_row D q lq → mo_okl D r → mo_row (mo_adds D r l) q lq ∧ mo_okl (mo_adds D r l) r
  | [], D, h, hr => ⟨h, hr⟩
  | x :: l, D, h, hr => mo_adds_other hn l _ (mo_add_other h hn hr.ln.1) (mo_add_okl hr hr)
theorem mo_adds_okl {r q : Nat} : ∀ (l : tl_T) (D : fx_D), mo_okl D q → mo_okl D r → mo_okl (mo_adds D r l) q ∧ mo_okl (mo_adds D r l) r
  | [], D, h, hr => ⟨h, hr⟩
  | x :: l, D, h, hr => mo_adds_okl l _ (mo_add_okl h hr) (mo_add_okl hr hr)
theorem dMO_copy_0 : decode prog_13_method_19_code 0 = .ok (.aload_n 0, 1) := by decide +kernel
theorem dMO_copy_1 : decode prog_13_method_19_code 1 = .ok (.iload_n 1, 1) := by decide +kernel
theorem dMO_copy_2 : decode prog_13_method_19_code 2 = .ok (.iload_n 2, 1) := by decide +kernel
theorem dMO_copy_3 : decode prog_13_method_19_code 3 = .ok (.invokevirtual 128, 3) := by decide +kernel
theorem dMO_copy_6 : decode prog_13_method_19_code 6 = .ok (.istore 4, 2) := by decide +kernel
theorem dMO_copy_8 : decode prog_13_method_19_code 8 = .ok (.iload_n 2, 1) := by decide +kernel
theorem dMO_copy_9 : decode prog_13_method_19_code 9 = .ok (.istore 5, 2) := by decide +kernel
theorem dMO_copy_11 : decode prog_13_method_19_code 11 = .ok (.iload 5, 2) := by decide +kernel
theorem dMO_copy_13 : decode prog_13_method_19_code 13 = .ok (.iload 4, 2) := by decide +kernel
theorem dMO_copy_15 : decode prog_13_method_19_code 15 = .ok (.if_icmp .ge (28), 3) := by decide +kernel
theorem dMO_copy_18 : decode prog_13_method_19_code 18 = .ok (.aload_n 0, 1) := by decide +kernel
theorem dMO_copy_19 : decode prog_13_method_19_code 19 = .ok (.iload_n 3, 1) := by decide +kernel
theorem dMO_copy_20 : decode prog_13_method_19_code 20 = .ok (.aload_n 0, 1) := by decide +kernel
theorem dMO_copy_21 : decode prog_13_method_19_code 21 = .ok (.iload_n 1, 1) := by decide +kernel
theorem dMO_copy_22 : decode prog_13_method_19_code 22 = .ok (.iload 5, 2) := by decide +kernel
theorem dMO_copy_24 : decode prog_13_method_19_code 24 = .ok (.invokevirtual 131, 3) := by decide +kernel
theorem dMO_copy_27 : decode prog_13_method_19_code 27 = .ok (.aload_n 0, 1) := by decide +kernel
theorem dMO_copy_28 : decode prog_13_method_19_code 28 = .ok (.iload_n 1, 1) := by decide +kernel
theorem dMO_copy_29 : decode prog_13_method_19_code 29 = .ok (.iload 5, 2) := by decide +kernel
theorem dMO_copy_31 : decode prog_13_method_19_code 31 = .ok (.invokevirtual 134, 3) := by decide +kernel
theorem dMO_copy_34 : decode prog_13_method_19_code 34 = .ok (.invokevirtual 137, 3) := by decide +kernel
theorem dMO_copy_37 : decode prog_13_method_19_code 37 = .ok (.iinc 5 (1), 3) := by decide +kernel
theorem dMO_copy_40 : decode prog_13_method_19_code 40 = .ok (.goto (-29), 3) := by decide +kernel
theorem dMO_copy_43 : decode prog_13_method_19_code 43 = .ok (.return_, 1) := by decide +kernel
theorem l_MO_copy {G : sd_G} {o : Nat} {h0 : sd_H} {nx r q e : Nat} {l : tl_T} (hB : G.2.1 ≤ o) (hr : r < 72) (hq : q < 72) (hn : q ≠ r) (he : e ≤ l.length) : ∀ (n k : Nat) (D D2 : fx_D), e = k + n → mo_row D q l → mo_okl D r → D2 = mo_adds D r ((l.drop k).take n) → sd_W G mMO_copy 2 0 0 (sd_is none (fx_h G.1.2 mo_S o D2 h0) nx) 11 [(0, .ref (o + 0)), (1, .int (nI q)), (3, .int (nI r)), (4, .int (nI e)), (5, .int (nI k))] [] (fx_h G.1.2 mo_S o D h0) nx 0 0 := by
  intro n
  induction n with
  | zero =>
    intro k D D2 hk hl hrk hD
    have h24 := hl.1
    subst hD
    refine sd_iload dMO_copy_11 rfl ?_
    refine sd_iload dMO_copy_13 rfl ?_
    refine nn_icmp_ge 43 dMO_copy_15 (by decide) (by omega) (by omega) (fun c15 => ?_) (fun c15 => ?_)
    ·
      exact sd_vret dMO_copy_43 rfl (Nat.le_refl _) (Nat.le_refl _) ⟨rfl, by simp [mo_adds], rfl⟩
    ·
      exact absurd c15 (by omega)
  | succ n ih =>
    intro k D D2 hk hl hrk hD
    have h24 := hl.1
    obtain ⟨x, hx⟩ : ∃ x, l[k]? = some x := ⟨l[k], List.getElem?_eq_getElem (by omega)⟩
    obtain ⟨q1, q2, q3, q4⟩ := hl.2.2 k x hx
    have hc1 := c_MO_symbolAt (G := G) (o := o) (D := D) (h0 := h0) (nx := nx) (r := q) (i := k) (by omega)
    rw [q1] at hc1
    have hc2 := c_MO_typeAt (G := G) (o := o) (D := D) (h0 := h0) (nx := nx) (r := q) (i := k) (by omega)
    rw [q2] at hc2
    rw [tl_drop_get hx, List.take_succ_cons] at hD
    refine sd_iload dMO_copy_11 rfl ?_
    refine sd_iload dMO_copy_13 rfl ?_
    refine nn_icmp_ge 43 dMO_copy_15 (by decide) (by omega) (by omega) (fun c15 => ?_) (fun c15 => ?_)
    ·
      exact absurd c15 (by omega)
    ·
      refine sd_aload_n dMO_copy_18 rfl rfl ?_
      refine sd_iload_n dMO_copy_19 rfl rfl ?_
      refine sd_aload_n dMO_copy_20 rfl rfl ?_
      refine sd_iload_n dMO_copy_21 rfl rfl ?_
      refine sd_iload dMO_copy_22 rfl ?_
      refine fx_cV 10 sR_MO [.int (nI (q)), .int (nI (k))] [.int (nI (r)), .ref (o + (0))] dMO_copy_24 kMO_131 rfl rfl mMO_symbolAt_v (hc1) (by decide) (Nat.le_refl _) (Nat.le_refl _) (Nat.le_of_ble_eq_true rfl) rfl ?_
      refine sd_aload_n dMO_copy_27 rfl rfl ?_
      refine sd_iload_n dMO_copy_28 rfl rfl ?_
      refine sd_iload dMO_copy_29 rfl ?_
      refine fx_cV 10 sR_MO [.int (nI (q)), .int (nI (k))] [.int (nI (x.1)), .int (nI (r)), .ref (o + (0))] dMO_copy_31 kMO_134 rfl rfl mMO_typeAt_v (hc2) (by decide) (Nat.le_refl _) (Nat.le_refl _) (Nat.le_of_ble_eq_true rfl) rfl ?_
      refine fx_cV 10 sR_MO [.int (nI (r)), .int (nI (x.1)), .int (nI (x.2))] [] dMO_copy_34 kMO_137 rfl rfl mMO_add_v (c_MO_add hB hr hrk.ln.1 hrk.ln.2) (by decide) (Nat.le_refl _) (Nat.le_refl _) (Nat.le_of_ble_eq_true rfl) rfl ?_
      refine nn_iinc 1 dMO_copy_37 rfl (by decide) ?_
      refine sd_goto 11 dMO_copy_40 (by decide) ?_
      refine sd_locp (al' := [(0, .ref (o + (0))), (1, .int (nI (q))), (3, .int (nI (r))), (4, .int (nI (e))), (5, .int (nI (k + 1)))]) [1, 2, 3, 4, 0] rfl ?_
      exact ih (k + 1) _ D2 (by omega) (mo_add_other hl hn hrk.ln.1) (mo_add_okl hrk hrk) hD
theorem c_MO_copy {G : sd_G} {o : Nat} {D : fx_D} {h0 : sd_H} {nx r q i : Nat} {l : tl_T} (hB : G.2.1 ≤ o) (hr : r < 72) (hq : q < 72) (hn : q ≠ r) (hl : mo_row D q l) (hrk : mo_okl D r) (hi : i ≤ l.length) (ho : tl_ok 1 (l.drop i)) : sd_Ct G mMO_copy 2 0 0 [.ref (o + 0), .int (nI q), .int (nI i), .int (nI r)] (fx_h G.1.2 mo_S o D h0) nx (sd_is none (fx_h G.1.2 mo_S o (mo_adds D r (tl_part l i)) h0) nx) := by
  refine sd_Ct_of (by decide) (Nat.le_of_ble_eq_true rfl) ?_
  refine sd_aload_n dMO_copy_0 rfl rfl ?_
  refine sd_iload_n dMO_copy_1 rfl rfl ?_
  refine sd_iload_n dMO_copy_2 rfl rfl ?_
  refine fx_cV 10 sR_MO [.int (nI (q)), .int (nI (i))] [] dMO_copy_3 kMO_128 rfl rfl mMO_end_v (c_MO_end hq hl hi ho) (by decide) (Nat.le_refl _) (Nat.le_refl _) (Nat.le_of_ble_eq_true rfl) rfl ?_
  refine sd_istore dMO_copy_6 (by decide) ?_
  refine sd_iload_n dMO_copy_8 rfl rfl ?_
  refine sd_istore dMO_copy_9 (by decide) ?_
  refine sd_locp (al' := [(0, .ref (o + (0))), (1, .int (nI (q))), (3, .int (nI (r))), (4, .int (nI (tl_end l i))), (5, .int (nI (i)))]) [2, 3, 5, 1, 0] rfl ?_
  exact l_MO_copy hB hr hq hn (tl_end_le hi) (tl_pl 1 (l.drop i)) i D _ rfl hl hrk rfl
