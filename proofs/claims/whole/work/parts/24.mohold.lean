/-! ===== the model: isEqual, isBeta, beta, hold, gather ===== -/
theorem c_MO_sym {G : sd_G} {o : Nat} {D : fx_D} {h0 : sd_H} {nx r i : Nat} {l : tl_T} {x : Nat × Nat} (hr : r < 72) (hl : mo_row D r l) (hx : l[i]? = some x) : sd_Ct G mMO_symbolAt 0 0 0 [.ref (o + 0), .int (nI r), .int (nI i)] (fx_h G.1.2 mo_S o D h0) nx (sd_is (some (.int (nI x.1))) (fx_h G.1.2 mo_S o D h0) nx) := by
  have h1 := hl.1
  have h2 := getE_lt hx
  have := c_MO_symbolAt (G := G) (o := o) (D := D) (h0 := h0) (nx := nx) (r := r) (i := i) (by omega)
  rw [(hl.2.2 i x hx).1] at this
  exact this
theorem c_MO_typ {G : sd_G} {o : Nat} {D : fx_D} {h0 : sd_H} {nx r i : Nat} {l : tl_T} {x : Nat × Nat} (hr : r < 72) (hl : mo_row D r l) (hx : l[i]? = some x) : sd_Ct G mMO_typeAt 0 0 0 [.ref (o + 0), .int (nI r), .int (nI i)] (fx_h G.1.2 mo_S o D h0) nx (sd_is (some (.int (nI x.2))) (fx_h G.1.2 mo_S o D h0) nx) := by
  have h1 := hl.1
  have h2 := getE_lt hx
  have := c_MO_typeAt (G := G) (o := o) (D := D) (h0 := h0) (nx := nx) (r := r) (i := i) (by omega)
  rw [(hl.2.2 i x hx).2.1] at this
  exact this
theorem c_MO_typ0 {G : sd_G} {o : Nat} {D : fx_D} {h0 : sd_H} {nx r : Nat} {l : tl_T} {x : Nat × Nat} (hr : r < 72) (hl : mo_row D r l) (hx : l[0]? = some x) : sd_Ct G mMO_typeOf 0 0 0 [.ref (o + 0), .int (nI r)] (fx_h G.1.2 mo_S o D h0) nx (sd_is (some (.int (nI x.2))) (fx_h G.1.2 mo_S o D h0) nx) := by
  have := c_MO_typeOf (G := G) (o := o) (D := D) (h0 := h0) (nx := nx) (r := r) hr
  rw [show D.1 2 (24 * r) = nI x.2 from (hl.2.2 0 x hx).2.1] at this
  exact this
theorem dMO_isEqual_0 : decode prog_13_method_45_code 0 = .ok (.aload_n 0, 1) := by decide +kernel
theorem dMO_isEqual_1 : decode prog_13_method_45_code 1 = .ok (.iload_n 1, 1) := by decide +kernel
theorem dMO_isEqual_2 : decode prog_13_method_45_code 2 = .ok (.iconst 0, 1) := by decide +kernel
theorem dMO_isEqual_3 : decode prog_13_method_45_code 3 = .ok (.invokevirtual 131, 3) := by decide +kernel
theorem dMO_isEqual_6 : decode prog_13_method_45_code 6 = .ok (.bipush (9), 2) := by decide +kernel
theorem dMO_isEqual_8 : decode prog_13_method_45_code 8 = .ok (.if_icmp .ne (7), 3) := by decide +kernel
theorem dMO_isEqual_11 : decode prog_13_method_45_code 11 = .ok (.iconst 1, 1) := by decide +kernel
theorem dMO_isEqual_12 : decode prog_13_method_45_code 12 = .ok (.goto (4), 3) := by decide +kernel
theorem dMO_isEqual_15 : decode prog_13_method_45_code 15 = .ok (.iconst 0, 1) := by decide +kernel
theorem dMO_isEqual_16 : decode prog_13_method_45_code 16 = .ok (.ireturn, 1) := by decide +kernel
theorem c_MO_isEqual {G : sd_G} {o : Nat} {D : fx_D} {h0 : sd_H} {nx r b : Nat} {l : tl_T} {x : Nat × Nat} (hr : r < 72) (hl : mo_row D r l) (hx : l[0]? = some x) (hb2 : b < 2) (hb : b = 1 ↔ x.1 = 9) : sd_Ct G mMO_isEqual 1 0 0 [.ref (o + 0), .int (nI r)] (fx_h G.1.2 mo_S o D h0) nx (sd_is (some (.int (nI b))) (fx_h G.1.2 mo_S o D h0) nx) := by
  refine sd_Ct_of (by decide) (Nat.le_of_ble_eq_true rfl) ?_
  have q3 := (hl.2.2 0 x hx).2.2.1
  refine sd_aload_n dMO_isEqual_0 rfl rfl ?_
  refine sd_iload_n dMO_isEqual_1 rfl rfl ?_
  refine sd_iconst (v := nI 0) dMO_isEqual_2 (by decide) ?_
  refine fx_cV 10 sR_MO [.int (nI (r)), .int (nI (0))] [] dMO_isEqual_3 kMO_131 rfl rfl mMO_symbolAt_v (c_MO_sym hr hl hx) (by decide) (Nat.le_refl _) (Nat.le_refl _) (Nat.le_of_ble_eq_true rfl) rfl ?_
  refine sd_bipush (v := nI 9) dMO_isEqual_6 (by decide) ?_
  refine nn_icmp_ne 15 dMO_isEqual_8 (by decide) (by omega) (by omega) (fun c8 => ?_) (fun c8 => ?_)
  ·
    refine sd_iconst (v := nI 0) dMO_isEqual_15 (by decide) ?_
    exact sd_zret dMO_isEqual_16 rfl (by first | exact Or.inl rfl | exact Or.inr rfl) (Nat.le_refl _) (Nat.le_refl _) ⟨by first | rw [show b = 1 by omega] | rw [show b = 0 by omega], rfl, rfl⟩
  ·
    refine sd_iconst (v := nI 1) dMO_isEqual_11 (by decide) ?_
    refine sd_goto 16 dMO_isEqual_12 (by decide) ?_
    exact sd_zret dMO_isEqual_16 rfl (by first | exact Or.inl rfl | exact Or.inr rfl) (Nat.le_refl _) (Nat.le_refl _) ⟨by first | rw [show b = 1 by omega] | rw [show b = 0 by omega], rfl, rfl⟩
theorem dMO_isBeta_0 : decode prog_13_method_46_code 0 = .ok (.aload_n 0, 1) := by decide +kernel
theorem dMO_isBeta_1 : decode prog_13_method_46_code 1 = .ok (.iload_n 1, 1) := by decide +kernel
theorem dMO_isBeta_2 : decode prog_13_method_46_code 2 = .ok (.iload_n 2, 1) := by decide +kernel
theorem dMO_isBeta_3 : decode prog_13_method_46_code 3 = .ok (.invokevirtual 131, 3) := by decide +kernel
theorem dMO_isBeta_6 : decode prog_13_method_46_code 6 = .ok (.bipush (8), 2) := by decide +kernel
theorem dMO_isBeta_8 : decode prog_13_method_46_code 8 = .ok (.if_icmp .ne (20), 3) := by decide +kernel
theorem dMO_isBeta_11 : decode prog_13_method_46_code 11 = .ok (.aload_n 0, 1) := by decide +kernel
theorem dMO_isBeta_12 : decode prog_13_method_46_code 12 = .ok (.iload_n 1, 1) := by decide +kernel
theorem dMO_isBeta_13 : decode prog_13_method_46_code 13 = .ok (.iload_n 2, 1) := by decide +kernel
theorem dMO_isBeta_14 : decode prog_13_method_46_code 14 = .ok (.iconst 1, 1) := by decide +kernel
theorem dMO_isBeta_15 : decode prog_13_method_46_code 15 = .ok (.iadd, 1) := by decide +kernel
theorem dMO_isBeta_16 : decode prog_13_method_46_code 16 = .ok (.invokevirtual 131, 3) := by decide +kernel
theorem dMO_isBeta_19 : decode prog_13_method_46_code 19 = .ok (.bipush (10), 2) := by decide +kernel
theorem dMO_isBeta_21 : decode prog_13_method_46_code 21 = .ok (.if_icmp .ne (7), 3) := by decide +kernel
theorem dMO_isBeta_24 : decode prog_13_method_46_code 24 = .ok (.iconst 1, 1) := by decide +kernel
theorem dMO_isBeta_25 : decode prog_13_method_46_code 25 = .ok (.goto (4), 3) := by decide +kernel
theorem dMO_isBeta_28 : decode prog_13_method_46_code 28 = .ok (.iconst 0, 1) := by decide +kernel
theorem dMO_isBeta_29 : decode prog_13_method_46_code 29 = .ok (.ireturn, 1) := by decide +kernel
theorem c_MO_isBeta {G : sd_G} {o : Nat} {D : fx_D} {h0 : sd_H} {nx r i b : Nat} {l : tl_T} {x : Nat × Nat} (hr : r < 72) (hl : mo_row D r l) (hw : tl_wf l) (hx : l[i]? = some x) (hb2 : b < 2) (hb : b = 1 ↔ x.1 = 8 ∧ ∃ y, l[i + 1]? = some y ∧ y.1 = 10) : sd_Ct G mMO_isBeta 1 0 0 [.ref (o + 0), .int (nI r), .int (nI i)] (fx_h G.1.2 mo_S o D h0) nx (sd_is (some (.int (nI b))) (fx_h G.1.2 mo_S o D h0) nx) := by
  refine sd_Ct_of (by decide) (Nat.le_of_ble_eq_true rfl) ?_
  have q3 := (hl.2.2 i x hx).2.2.1
  by_cases h8 : x.1 = 8
  · have hil := getE_lt hx
    obtain ⟨y, hy⟩ : ∃ y, l[i + 1]? = some y := by
      have ho := tl_ok_drop l 1 i hw.1 hw.2.1 hil
      rw [tl_drop_get hx] at ho
      simp only [tl_ok, tl_ar, h8] at ho
      cases hd : l.drop (i + 1) with
      | nil => rw [hd] at ho; exact ho.elim
      | cons y t =>
        refine ⟨y, ?_⟩
        have := List.getElem?_drop (xs := l) (i := i + 1) (j := 0)
        rw [hd] at this
        simpa using this.symm
    have y3 := (hl.2.2 _ y hy).2.2.1
    have hb : b = 1 ↔ y.1 = 10 := by
      rw [hb]
      constructor
      · rintro ⟨-, y', h1, h2⟩
        rw [hy] at h1
        cases h1
        exact h2
      · exact fun h => ⟨h8, y, hy, h⟩
    refine sd_aload_n dMO_isBeta_0 rfl rfl ?_
    refine sd_iload_n dMO_isBeta_1 rfl rfl ?_
    refine sd_iload_n dMO_isBeta_2 rfl rfl ?_
    refine fx_cV 10 sR_MO [.int (nI (r)), .int (nI (i))] [] dMO_isBeta_3 kMO_131 rfl rfl mMO_symbolAt_v (c_MO_sym hr hl hx) (by decide) (Nat.le_refl _) (Nat.le_refl _) (Nat.le_of_ble_eq_true rfl) rfl ?_
    refine sd_bipush (v := nI 8) dMO_isBeta_6 (by decide) ?_
    refine nn_icmp_ne 28 dMO_isBeta_8 (by decide) (by omega) (by omega) (fun c8 => ?_) (fun c8 => ?_)
    ·
      exact absurd h8 c8
    ·
      refine sd_aload_n dMO_isBeta_11 rfl rfl ?_
      refine sd_iload_n dMO_isBeta_12 rfl rfl ?_
      refine sd_iload_n dMO_isBeta_13 rfl rfl ?_
      refine sd_iconst (v := nI 1) dMO_isBeta_14 (by decide) ?_
      refine nn_iadd dMO_isBeta_15 ?_
      refine fx_cV 10 sR_MO [.int (nI (r)), .int (nI (i + 1))] [] dMO_isBeta_16 kMO_131 rfl rfl mMO_symbolAt_v (c_MO_sym hr hl hy) (by decide) (Nat.le_refl _) (Nat.le_refl _) (Nat.le_of_ble_eq_true rfl) rfl ?_
      refine sd_bipush (v := nI 10) dMO_isBeta_19 (by decide) ?_
      refine nn_icmp_ne 28 dMO_isBeta_21 (by decide) (by omega) (by omega) (fun c21 => ?_) (fun c21 => ?_)
      ·
        refine sd_iconst (v := nI 0) dMO_isBeta_28 (by decide) ?_
        exact sd_zret dMO_isBeta_29 rfl (by first | exact Or.inl rfl | exact Or.inr rfl) (Nat.le_refl _) (Nat.le_refl _) ⟨by first | rw [show b = 1 by omega] | rw [show b = 0 by omega], rfl, rfl⟩
      ·
        refine sd_iconst (v := nI 1) dMO_isBeta_24 (by decide) ?_
        refine sd_goto 29 dMO_isBeta_25 (by decide) ?_
        exact sd_zret dMO_isBeta_29 rfl (by first | exact Or.inl rfl | exact Or.inr rfl) (Nat.le_refl _) (Nat.le_refl _) ⟨by first | rw [show b = 1 by omega] | rw [show b = 0 by omega], rfl, rfl⟩
  · have hb1 : ¬ b = 1 := fun e => h8 (hb.mp e).1
    obtain rfl : b = 0 := by omega
    refine sd_aload_n dMO_isBeta_0 rfl rfl ?_
    refine sd_iload_n dMO_isBeta_1 rfl rfl ?_
    refine sd_iload_n dMO_isBeta_2 rfl rfl ?_
    refine fx_cV 10 sR_MO [.int (nI (r)), .int (nI (i))] [] dMO_isBeta_3 kMO_131 rfl rfl mMO_symbolAt_v (c_MO_sym hr hl hx) (by decide) (Nat.le_refl _) (Nat.le_refl _) (Nat.le_of_ble_eq_true rfl) rfl ?_
    refine sd_bipush (v := nI 8) dMO_isBeta_6 (by decide) ?_
    refine nn_icmp_ne 28 dMO_isBeta_8 (by decide) (by omega) (by omega) (fun c8 => ?_) (fun c8 => ?_)
    ·
      refine sd_iconst (v := nI 0) dMO_isBeta_28 (by decide) ?_
      exact sd_zret dMO_isBeta_29 rfl (Or.inl rfl) (Nat.le_refl _) (Nat.le_refl _) ⟨rfl, rfl, rfl⟩
    ·
      exact absurd c8 h8
theorem dMO_beta_0 : decode prog_13_method_47_code 0 = .ok (.aload_n 0, 1) := by decide +kernel
theorem dMO_beta_1 : decode prog_13_method_47_code 1 = .ok (.iload_n 1, 1) := by decide +kernel
theorem dMO_beta_2 : decode prog_13_method_47_code 2 = .ok (.iload_n 2, 1) := by decide +kernel
theorem dMO_beta_3 : decode prog_13_method_47_code 3 = .ok (.iconst 1, 1) := by decide +kernel
theorem dMO_beta_4 : decode prog_13_method_47_code 4 = .ok (.iadd, 1) := by decide +kernel
theorem dMO_beta_5 : decode prog_13_method_47_code 5 = .ok (.invokevirtual 128, 3) := by decide +kernel
theorem dMO_beta_8 : decode prog_13_method_47_code 8 = .ok (.istore 4, 2) := by decide +kernel
theorem dMO_beta_10 : decode prog_13_method_47_code 10 = .ok (.aload_n 0, 1) := by decide +kernel
theorem dMO_beta_11 : decode prog_13_method_47_code 11 = .ok (.iload_n 1, 1) := by decide +kernel
theorem dMO_beta_12 : decode prog_13_method_47_code 12 = .ok (.iload_n 2, 1) := by decide +kernel
theorem dMO_beta_13 : decode prog_13_method_47_code 13 = .ok (.iconst 1, 1) := by decide +kernel
theorem dMO_beta_14 : decode prog_13_method_47_code 14 = .ok (.iadd, 1) := by decide +kernel
theorem dMO_beta_15 : decode prog_13_method_47_code 15 = .ok (.iload_n 1, 1) := by decide +kernel
theorem dMO_beta_16 : decode prog_13_method_47_code 16 = .ok (.iload 4, 2) := by decide +kernel
theorem dMO_beta_18 : decode prog_13_method_47_code 18 = .ok (.iload_n 3, 1) := by decide +kernel
theorem dMO_beta_19 : decode prog_13_method_47_code 19 = .ok (.invokevirtual 209, 3) := by decide +kernel
theorem dMO_beta_22 : decode prog_13_method_47_code 22 = .ok (.return_, 1) := by decide +kernel
theorem c_MO_beta {G : sd_G} {o : Nat} {D : fx_D} {h0 : sd_H} {nx r q i : Nat} {l : tl_T} (hB : G.2.1 ≤ o) (hr : r < 72) (hq : q < 72) (hn : q ≠ r) (hw : tl_wf l) (hl : mo_row D q l) (hrk : mo_okl D r) (hi : i + 1 < l.length) (hu : tl_end l (i + 1) < l.length) : sd_Ct G mMO_beta 4 0 0 [.ref (o + 0), .int (nI q), .int (nI i), .int (nI r)] (fx_h G.1.2 mo_S o D h0) nx (sd_is none (fx_h G.1.2 mo_S o (mo_adds D r (tl_sub (tl_of l (i + 2) (.inl (tl_part l (tl_end l (i + 1))))) l (i + 2) (tl_end l (i + 1) - (i + 2)))) h0) nx) := by
  refine sd_Ct_of (by decide) (Nat.le_of_ble_eq_true rfl) ?_
  have l24 := hl.1
  refine sd_aload_n dMO_beta_0 rfl rfl ?_
  refine sd_iload_n dMO_beta_1 rfl rfl ?_
  refine sd_iload_n dMO_beta_2 rfl rfl ?_
  refine sd_iconst (v := nI 1) dMO_beta_3 (by decide) ?_
  refine nn_iadd dMO_beta_4 ?_
  refine fx_cV 10 sR_MO [.int (nI (q)), .int (nI (i + 1))] [] dMO_beta_5 kMO_128 rfl rfl mMO_end_v (c_MO_end hq hl (by omega) (tl_ok_drop l 1 (i + 1) hw.1 hw.2.1 hi)) (by decide) (Nat.le_refl _) (Nat.le_refl _) (Nat.le_of_ble_eq_true rfl) rfl ?_
  refine sd_istore dMO_beta_8 (by decide) ?_
  refine sd_aload_n dMO_beta_10 rfl rfl ?_
  refine sd_iload_n dMO_beta_11 rfl rfl ?_
  refine sd_iload_n dMO_beta_12 rfl rfl ?_
  refine sd_iconst (v := nI 1) dMO_beta_13 (by decide) ?_
  refine nn_iadd dMO_beta_14 ?_
  refine sd_iload_n dMO_beta_15 rfl rfl ?_
  refine sd_iload dMO_beta_16 rfl ?_
  refine sd_iload_n dMO_beta_18 rfl rfl ?_
  refine fx_cV 10 sR_MO [.int (nI (q)), .int (nI (i + 1)), .int (nI (q)), .int (nI (tl_end l (i + 1))), .int (nI (r))] [] dMO_beta_19 kMO_209 rfl rfl mMO_open5_v (c_MO_open5 (tb := q) (b := l) hB hr hq hn hw (by omega) hi hl hrk (Or.inr ⟨rfl, hq, hn, rfl, by omega, tl_ok_drop l 1 _ hw.1 hw.2.1 hu⟩) (fun _ ↦ hl)) (by decide) (Nat.le_refl _) (Nat.le_refl _) (Nat.le_of_ble_eq_true rfl) rfl ?_
  exact sd_vret dMO_beta_22 rfl (Nat.le_refl _) (Nat.le_refl _) ⟨rfl, rfl, rfl⟩
/-- the hypotheses that are gathered -/
def mo_rw (D : fx_D) (rs : List Nat) : Prop := rs.length ≤ 12 ∧ D.2.1 0 16 = nI rs.length ∧ ∀ (k t : Nat), rs[k]? = some t → D.1 12 k = nI t ∧ t < 2 ^ 30
def ls_h (rs : List Nat) (t : Nat) : List Nat := if t ∈ rs then rs else rs ++ [t]
def ls_g (rs : List Nat) (but : Int32) : List Nat → List Nat
  | [] => rs
  | t :: hs => ls_g (if nI t = but then rs else ls_h rs t) but hs
theorem ls_h_len (rs : List Nat) (t : Nat) : (ls_h rs t).length ≤ rs.length + 1 := by
  unfold ls_h
  split <;> simp
/-- D' differs from D in what is gathered -/
def mo_fw (D D' : fx_D) : Prop := (∀ x, x ≠ 12 → D'.1 x = D.1 x) ∧ (∀ x j, ¬ (x = 0 ∧ j = 16) → D'.2.1 x j = D.2.1 x j) ∧ D'.2.2 = D.2.2
theorem mo_fw.rf (D : fx_D) : mo_fw D D := ⟨fun _ _ => rfl, fun _ _ _ => rfl, rfl⟩
theorem mo_fw.tr {D D' D2 : fx_D} (h : mo_fw D D') (h2 : mo_fw D' D2) : mo_fw D D2 := ⟨fun x a => (h2.1 x a).trans (h.1 x a), fun x j a => (h2.2.1 x j a).trans (h.2.1 x j a), h2.2.2.trans h.2.2⟩
theorem dMO_hold_0 : decode prog_13_method_48_code 0 = .ok (.iconst 0, 1) := by decide +kernel
theorem dMO_hold_1 : decode prog_13_method_48_code 1 = .ok (.istore_n 2, 1) := by decide +kernel
theorem dMO_hold_2 : decode prog_13_method_48_code 2 = .ok (.iload_n 2, 1) := by decide +kernel
theorem dMO_hold_3 : decode prog_13_method_48_code 3 = .ok (.aload_n 0, 1) := by decide +kernel
theorem dMO_hold_4 : decode prog_13_method_48_code 4 = .ok (.getfield 213, 3) := by decide +kernel
theorem dMO_hold_7 : decode prog_13_method_48_code 7 = .ok (.if_icmp .ge (20), 3) := by decide +kernel
theorem dMO_hold_10 : decode prog_13_method_48_code 10 = .ok (.aload_n 0, 1) := by decide +kernel
theorem dMO_hold_11 : decode prog_13_method_48_code 11 = .ok (.getfield 43, 3) := by decide +kernel
theorem dMO_hold_14 : decode prog_13_method_48_code 14 = .ok (.iload_n 2, 1) := by decide +kernel
theorem dMO_hold_15 : decode prog_13_method_48_code 15 = .ok (.iaload, 1) := by decide +kernel
theorem dMO_hold_16 : decode prog_13_method_48_code 16 = .ok (.iload_n 1, 1) := by decide +kernel
theorem dMO_hold_17 : decode prog_13_method_48_code 17 = .ok (.if_icmp .ne (4), 3) := by decide +kernel
theorem dMO_hold_20 : decode prog_13_method_48_code 20 = .ok (.return_, 1) := by decide +kernel
theorem dMO_hold_21 : decode prog_13_method_48_code 21 = .ok (.iinc 2 (1), 3) := by decide +kernel
theorem dMO_hold_24 : decode prog_13_method_48_code 24 = .ok (.goto (-22), 3) := by decide +kernel
theorem dMO_hold_27 : decode prog_13_method_48_code 27 = .ok (.aload_n 0, 1) := by decide +kernel
theorem dMO_hold_28 : decode prog_13_method_48_code 28 = .ok (.getfield 43, 3) := by decide +kernel
theorem dMO_hold_31 : decode prog_13_method_48_code 31 = .ok (.aload_n 0, 1) := by decide +kernel
theorem dMO_hold_32 : decode prog_13_method_48_code 32 = .ok (.dup, 1) := by decide +kernel
theorem dMO_hold_33 : decode prog_13_method_48_code 33 = .ok (.getfield 213, 3) := by decide +kernel
theorem dMO_hold_36 : decode prog_13_method_48_code 36 = .ok (.dup_x1, 1) := by decide +kernel
theorem dMO_hold_37 : decode prog_13_method_48_code 37 = .ok (.iconst 1, 1) := by decide +kernel
theorem dMO_hold_38 : decode prog_13_method_48_code 38 = .ok (.iadd, 1) := by decide +kernel
theorem dMO_hold_39 : decode prog_13_method_48_code 39 = .ok (.putfield 213, 3) := by decide +kernel
theorem dMO_hold_42 : decode prog_13_method_48_code 42 = .ok (.iload_n 1, 1) := by decide +kernel
theorem dMO_hold_43 : decode prog_13_method_48_code 43 = .ok (.iastore, 1) := by decide +kernel
theorem dMO_hold_44 : decode prog_13_method_48_code 44 = .ok (.return_, 1) := by decide +kernel
theorem l_MO_hold {G : sd_G} {o : Nat} {D : fx_D} {h0 : sd_H} {nx t : Nat} {rs : List Nat} (hB : G.2.1 ≤ o) (hR : mo_rw D rs) (h12 : rs.length < 12) (ht : t < 2 ^ 30) : ∀ (n k : Nat), rs.length = k + n → (∀ a x, a < k → rs[a]? = some x → x ≠ t) → sd_W G mMO_hold 0 0 0 (fx_is G.1.2 mo_S o h0 nx none (fun D' => mo_rw D' (ls_h rs t) ∧ mo_fw D D')) 2 [(0, .ref (o + 0)), (1, .int (nI t)), (2, .int (nI k))] [] (fx_h G.1.2 mo_S o D h0) nx 0 0 := by
  intro n
  induction n with
  | zero =>
    intro k hk ha
    have hnt : t ∉ rs := fun hm => by
      obtain ⟨a, h1⟩ := List.getElem?_of_mem hm
      exact ha a t (by have := getE_lt h1; omega) h1 rfl
    have e1 : ls_h rs t = rs ++ [t] := if_neg hnt
    refine sd_iload_n dMO_hold_2 rfl rfl ?_
    refine sd_aload_n dMO_hold_3 rfl rfl ?_
    refine fx_getiv (v := (nI (rs.length))) 10 16 dMO_hold_4 fMO_213 rfl rfl (hR.2.1) ?_
    refine nn_icmp_ge 27 dMO_hold_7 (by decide) (by omega) (by omega) (fun c7 => ?_) (fun c7 => ?_)
    ·
      refine sd_aload_n dMO_hold_27 rfl rfl ?_
      refine fx_getr 10 15 (12) dMO_hold_28 fMO_43 rfl rfl ?_
      refine sd_aload_n dMO_hold_31 rfl rfl ?_
      refine sd_dup dMO_hold_32 rfl ?_
      refine fx_getiv (v := (nI (rs.length))) 10 16 dMO_hold_33 fMO_213 rfl rfl (hR.2.1) ?_
      refine sd_dup_x1 dMO_hold_36 rfl rfl ?_
      refine sd_iconst (v := nI 1) dMO_hold_37 (by decide) ?_
      refine nn_iadd dMO_hold_38 ?_
      refine fx_puti 10 16 dMO_hold_39 fMO_213 rfl rfl rfl rfl hB ?_
      refine sd_iload_n dMO_hold_42 rfl rfl ?_
      refine fx_iast (rs.length) dMO_hold_43 rfl rfl (by omega) (by decide) hB ?_
      refine sd_vret dMO_hold_44 rfl (Nat.le_refl _) (Nat.le_refl _) ⟨rfl, rfl, _, rfl, ?_, ?_⟩
      · rw [e1]
        refine ⟨by simp; omega, by simp [fx_ua, fx_uf, upd], fun a x hx => ?_⟩
        by_cases hal : a < rs.length
        · rw [List.getElem?_append_left hal] at hx
          simpa [fx_ua, fx_uf, upd, show ¬ a = rs.length by omega] using hR.2.2 a x hx
        · rw [List.getElem?_append_right (by omega)] at hx
          have hk2 : a - rs.length < 1 := getE_lt hx
          obtain rfl : a = rs.length := by omega
          simp at hx
          subst hx
          exact ⟨by simp [fx_ua, fx_uf, upd], ht⟩
      · refine ⟨fun x hx => by simp [fx_ua, fx_uf, hx], fun x j hj => ?_, rfl⟩
        by_cases hx : x = 0
        · subst hx
          have : ¬ j = 16 := fun z => hj ⟨rfl, z⟩
          simp [fx_ua, fx_uf, upd, this]
        · simp [fx_ua, fx_uf, hx]
    ·
      exact absurd c7 (by omega)
  | succ n ih =>
    intro k hk ha
    obtain ⟨x, hx⟩ : ∃ x, rs[k]? = some x := ⟨rs[k], List.getElem?_eq_getElem (by omega)⟩
    obtain ⟨q1, q2⟩ := hR.2.2 k x hx
    refine sd_iload_n dMO_hold_2 rfl rfl ?_
    refine sd_aload_n dMO_hold_3 rfl rfl ?_
    refine fx_getiv (v := (nI (rs.length))) 10 16 dMO_hold_4 fMO_213 rfl rfl (hR.2.1) ?_
    refine nn_icmp_ge 27 dMO_hold_7 (by decide) (by omega) (by omega) (fun c7 => ?_) (fun c7 => ?_)
    ·
      exact absurd c7 (by omega)
    ·
      refine sd_aload_n dMO_hold_10 rfl rfl ?_
      refine fx_getr 10 15 (12) dMO_hold_11 fMO_43 rfl rfl ?_
      refine sd_iload_n dMO_hold_14 rfl rfl ?_
      refine fx_ialdv (v := (nI (x))) (k) dMO_hold_15 rfl rfl (by omega) (by decide) (q1) ?_
      refine sd_iload_n dMO_hold_16 rfl rfl ?_
      refine nn_icmp_ne 21 dMO_hold_17 (by decide) (by omega) (by omega) (fun c17 => ?_) (fun c17 => ?_)
      ·
        refine nn_iinc 1 dMO_hold_21 rfl (by decide) ?_
        refine sd_goto 2 dMO_hold_24 (by decide) ?_
        refine sd_locp (al' := [(0, .ref (o + (0))), (1, .int (nI (t))), (2, .int (nI (k + 1)))]) [1, 2, 0] rfl ?_
        refine ih (k + 1) (by omega) (fun a y h h1 => ?_)
        rcases Nat.lt_or_ge a k with z | z
        · exact ha a y z h1
        · obtain rfl : a = k := by omega
          rw [hx] at h1; cases h1; exact c17
      ·
        refine sd_vret dMO_hold_20 rfl (Nat.le_refl _) (Nat.le_refl _) ⟨rfl, rfl, D, rfl, ?_, mo_fw.rf D⟩
        rw [show ls_h rs t = rs from if_pos (by rw [← c17]; exact List.mem_of_getElem? hx)]
        exact hR
theorem c_MO_hold {G : sd_G} {o : Nat} {D : fx_D} {h0 : sd_H} {nx t : Nat} {rs : List Nat} (hB : G.2.1 ≤ o) (hR : mo_rw D rs) (h12 : rs.length < 12) (ht : t < 2 ^ 30) : sd_Ct G mMO_hold 0 0 0 [.ref (o + 0), .int (nI t)] (fx_h G.1.2 mo_S o D h0) nx (fx_is G.1.2 mo_S o h0 nx none (fun D' => mo_rw D' (ls_h rs t) ∧ mo_fw D D')) := by
  refine sd_Ct_of (by decide) (Nat.le_of_ble_eq_true rfl) ?_
  refine sd_iconst (v := nI 0) dMO_hold_0 (by decide) ?_
  refine sd_istore_n dMO_hold_1 rfl (by decide) ?_
  refine sd_locp (al' := [(0, .ref (o + (0))), (1, .int (nI (t))), (2, .int (nI (0)))]) [1, 2, 0] rfl ?_
  exact l_MO_hold hB hR h12 ht rs.length 0 (by omega) (fun a x h => absurd h (by omega))
theorem dMO_gather_0 : decode prog_13_method_49_code 0 = .ok (.iconst 0, 1) := by decide +kernel
theorem dMO_gather_1 : decode prog_13_method_49_code 1 = .ok (.istore_n 3, 1) := by decide +kernel
theorem dMO_gather_2 : decode prog_13_method_49_code 2 = .ok (.iload_n 3, 1) := by decide +kernel
theorem dMO_gather_3 : decode prog_13_method_49_code 3 = .ok (.aload_n 0, 1) := by decide +kernel
theorem dMO_gather_4 : decode prog_13_method_49_code 4 = .ok (.getfield 28, 3) := by decide +kernel
theorem dMO_gather_7 : decode prog_13_method_49_code 7 = .ok (.iload_n 1, 1) := by decide +kernel
theorem dMO_gather_8 : decode prog_13_method_49_code 8 = .ok (.iaload, 1) := by decide +kernel
theorem dMO_gather_9 : decode prog_13_method_49_code 9 = .ok (.if_icmp .ge (39), 3) := by decide +kernel
theorem dMO_gather_12 : decode prog_13_method_49_code 12 = .ok (.aload_n 0, 1) := by decide +kernel
theorem dMO_gather_13 : decode prog_13_method_49_code 13 = .ok (.getfield 31, 3) := by decide +kernel
theorem dMO_gather_16 : decode prog_13_method_49_code 16 = .ok (.bipush (6), 2) := by decide +kernel
theorem dMO_gather_18 : decode prog_13_method_49_code 18 = .ok (.iload_n 1, 1) := by decide +kernel
theorem dMO_gather_19 : decode prog_13_method_49_code 19 = .ok (.imul, 1) := by decide +kernel
theorem dMO_gather_20 : decode prog_13_method_49_code 20 = .ok (.iload_n 3, 1) := by decide +kernel
theorem dMO_gather_21 : decode prog_13_method_49_code 21 = .ok (.iadd, 1) := by decide +kernel
theorem dMO_gather_22 : decode prog_13_method_49_code 22 = .ok (.iaload, 1) := by decide +kernel
theorem dMO_gather_23 : decode prog_13_method_49_code 23 = .ok (.iload_n 2, 1) := by decide +kernel
theorem dMO_gather_24 : decode prog_13_method_49_code 24 = .ok (.if_icmp .eq (18), 3) := by decide +kernel
theorem dMO_gather_27 : decode prog_13_method_49_code 27 = .ok (.aload_n 0, 1) := by decide +kernel
theorem dMO_gather_28 : decode prog_13_method_49_code 28 = .ok (.aload_n 0, 1) := by decide +kernel
theorem dMO_gather_29 : decode prog_13_method_49_code 29 = .ok (.getfield 31, 3) := by decide +kernel
theorem dMO_gather_32 : decode prog_13_method_49_code 32 = .ok (.bipush (6), 2) := by decide +kernel
theorem dMO_gather_34 : decode prog_13_method_49_code 34 = .ok (.iload_n 1, 1) := by decide +kernel
theorem dMO_gather_35 : decode prog_13_method_49_code 35 = .ok (.imul, 1) := by decide +kernel
theorem dMO_gather_36 : decode prog_13_method_49_code 36 = .ok (.iload_n 3, 1) := by decide +kernel
theorem dMO_gather_37 : decode prog_13_method_49_code 37 = .ok (.iadd, 1) := by decide +kernel
theorem dMO_gather_38 : decode prog_13_method_49_code 38 = .ok (.iaload, 1) := by decide +kernel
theorem dMO_gather_39 : decode prog_13_method_49_code 39 = .ok (.invokevirtual 216, 3) := by decide +kernel
theorem dMO_gather_42 : decode prog_13_method_49_code 42 = .ok (.iinc 3 (1), 3) := by decide +kernel
theorem dMO_gather_45 : decode prog_13_method_49_code 45 = .ok (.goto (-43), 3) := by decide +kernel
theorem dMO_gather_48 : decode prog_13_method_49_code 48 = .ok (.return_, 1) := by decide +kernel
theorem l_MO_gather {G : sd_G} {o : Nat} {D0 : fx_D} {h0 : sd_H} {nx p : Nat} {hs rs0 : List Nat} {but : Int32} (hB : G.2.1 ≤ o) (hp : p < 40) (h6 : hs.length ≤ 6) (hH : D0.1 7 p = nI hs.length) (hh : ∀ k t, hs[k]? = some t → D0.1 8 (6 * p + k) = nI t ∧ t < 2 ^ 30) : ∀ (n k : Nat) (rs : List Nat) (D : fx_D), hs.length = k + n → mo_rw D rs → rs.length + n ≤ 12 → mo_fw D0 D → ls_g rs but (hs.drop k) = ls_g rs0 but hs → sd_W G mMO_gather 1 0 0 (fx_is G.1.2 mo_S o h0 nx none (fun D' => mo_rw D' (ls_g rs0 but hs) ∧ mo_fw D0 D')) 2 [(0, .ref (o + 0)), (1, .int (nI p)), (2, .int but), (3, .int (nI k))] [] (fx_h G.1.2 mo_S o D h0) nx 0 0 := by
  intro n
  induction n with
  | zero =>
    intro k rs D hk hR h12 hf hg
    rw [List.drop_of_length_le (by omega)] at hg
    refine sd_iload_n dMO_gather_2 rfl rfl ?_
    refine sd_aload_n dMO_gather_3 rfl rfl ?_
    refine fx_getr 10 9 (7) dMO_gather_4 fMO_28 rfl rfl ?_
    refine sd_iload_n dMO_gather_7 rfl rfl ?_
    refine fx_ialdv (v := (nI (hs.length))) (p) dMO_gather_8 rfl rfl (by omega) (by decide) ((by rw [hf.1 7 (by decide)]; exact hH)) ?_
    refine nn_icmp_ge 48 dMO_gather_9 (by decide) (by omega) (by omega) (fun c9 => ?_) (fun c9 => ?_)
    ·
      exact sd_vret dMO_gather_48 rfl (Nat.le_refl _) (Nat.le_refl _) ⟨rfl, rfl, D, rfl, by rw [← hg]; exact hR, hf⟩
    ·
      exact absurd c9 (by omega)
  | succ n ih =>
    intro k rs D hk hR h12 hf hg
    obtain ⟨t, ht⟩ : ∃ t, hs[k]? = some t := ⟨hs[k], List.getElem?_eq_getElem (by omega)⟩
    obtain ⟨q1, q2⟩ := hh k t ht
    have q1 : D.1 8 (6 * p + k) = nI t := by rw [hf.1 8 (by decide)]; exact q1
    have hdr : hs.drop k = t :: hs.drop (k + 1) := by
      obtain ⟨z1, z2⟩ := List.getElem?_eq_some_iff.mp ht
      rw [List.drop_eq_getElem_cons z1, z2]
    rw [hdr, ls_g] at hg
    refine sd_iload_n dMO_gather_2 rfl rfl ?_
    refine sd_aload_n dMO_gather_3 rfl rfl ?_
    refine fx_getr 10 9 (7) dMO_gather_4 fMO_28 rfl rfl ?_
    refine sd_iload_n dMO_gather_7 rfl rfl ?_
    refine fx_ialdv (v := (nI (hs.length))) (p) dMO_gather_8 rfl rfl (by omega) (by decide) ((by rw [hf.1 7 (by decide)]; exact hH)) ?_
    refine nn_icmp_ge 48 dMO_gather_9 (by decide) (by omega) (by omega) (fun c9 => ?_) (fun c9 => ?_)
    ·
      exact absurd c9 (by omega)
    ·
      refine sd_aload_n dMO_gather_12 rfl rfl ?_
      refine fx_getr 10 10 (8) dMO_gather_13 fMO_31 rfl rfl ?_
      refine sd_bipush (v := nI 6) dMO_gather_16 (by decide) ?_
      refine sd_iload_n dMO_gather_18 rfl rfl ?_
      refine nn_imul dMO_gather_19 ?_
      refine sd_iload_n dMO_gather_20 rfl rfl ?_
      refine nn_iadd dMO_gather_21 ?_
      refine fx_ialdv (v := (nI (t))) ((6 * p) + k) dMO_gather_22 rfl rfl (by omega) (by decide) (q1) ?_
      refine sd_iload_n dMO_gather_23 rfl rfl ?_
      refine sd_icmp_eq 42 dMO_gather_24 (by decide) (fun c24 => ?_) (fun c24 => ?_)
      ·
        rw [if_pos c24] at hg
        refine nn_iinc 1 dMO_gather_42 rfl (by decide) ?_
        refine sd_goto 2 dMO_gather_45 (by decide) ?_
        refine sd_locp (al' := [(0, .ref (o + (0))), (1, .int (nI (p))), (2, .int (but)), (3, .int (nI (k + 1)))]) [1, 2, 3, 0] rfl ?_
        first | exact ih (k + 1) rs D (by omega) hR (by omega) hf hg | exact ih (k + 1) _ D1 (by omega) hD1.1 (by have := ls_h_len rs t; omega) (hf.tr hD1.2) hg
      ·
        rw [if_neg c24] at hg
        refine sd_aload_n dMO_gather_27 rfl rfl ?_
        refine sd_aload_n dMO_gather_28 rfl rfl ?_
        refine fx_getr 10 10 (8) dMO_gather_29 fMO_31 rfl rfl ?_
        refine sd_bipush (v := nI 6) dMO_gather_32 (by decide) ?_
        refine sd_iload_n dMO_gather_34 rfl rfl ?_
        refine nn_imul dMO_gather_35 ?_
        refine sd_iload_n dMO_gather_36 rfl rfl ?_
        refine nn_iadd dMO_gather_37 ?_
        refine fx_ialdv (v := (nI (t))) ((6 * p) + k) dMO_gather_38 rfl rfl (by omega) (by decide) (q1) ?_
        refine fx_cP 10 sR_MO [.int (nI (t))] [] dMO_gather_39 kMO_216 rfl rfl mMO_hold_v (c_MO_hold hB hR (by omega) q2) (by decide) (Nat.le_refl _) (Nat.le_refl _) (Nat.le_of_ble_eq_true rfl) rfl (fun D1 hD1 => ?_)
        refine nn_iinc 1 dMO_gather_42 rfl (by decide) ?_
        refine sd_goto 2 dMO_gather_45 (by decide) ?_
        refine sd_locp (al' := [(0, .ref (o + (0))), (1, .int (nI (p))), (2, .int (but)), (3, .int (nI (k + 1)))]) [1, 2, 3, 0] rfl ?_
        first | exact ih (k + 1) rs D (by omega) hR (by omega) hf hg | exact ih (k + 1) _ D1 (by omega) hD1.1 (by have := ls_h_len rs t; omega) (hf.tr hD1.2) hg
theorem c_MO_gather {G : sd_G} {o : Nat} {D : fx_D} {h0 : sd_H} {nx p : Nat} {hs rs : List Nat} {but : Int32} (hB : G.2.1 ≤ o) (hp : p < 40) (h6 : hs.length ≤ 6) (hH : D.1 7 p = nI hs.length) (hh : ∀ k t, hs[k]? = some t → D.1 8 (6 * p + k) = nI t ∧ t < 2 ^ 30) (hR : mo_rw D rs) (h12 : rs.length + hs.length ≤ 12) : sd_Ct G mMO_gather 1 0 0 [.ref (o + 0), .int (nI p), .int but] (fx_h G.1.2 mo_S o D h0) nx (fx_is G.1.2 mo_S o h0 nx none (fun D' => mo_rw D' (ls_g rs but hs) ∧ mo_fw D D')) := by
  refine sd_Ct_of (by decide) (Nat.le_of_ble_eq_true rfl) ?_
  refine sd_iconst (v := nI 0) dMO_gather_0 (by decide) ?_
  refine sd_istore_n dMO_gather_1 rfl (by decide) ?_
  refine sd_locp (al' := [(0, .ref (o + (0))), (1, .int (nI (p))), (2, .int (but)), (3, .int (nI (0)))]) [1, 2, 3, 0] rfl ?_
  exact l_MO_gather hB hp h6 hH hh hs.length 0 rs D (by omega) hR (by omega) (mo_fw.rf D) (by rw [List.drop_zero])
