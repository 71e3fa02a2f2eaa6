/-! ===== the model: declare, token, clear, count, symbol ===== -/
theorem mo_in_of {x : Int32} {n : Nat} (hn : n + 1 < 2 ^ 30) : (¬ x < nI 0 ∧ ¬ nI n < x) ↔ nn_lt x (n + 1) := by
  have := nn_has (x := x) (n := n + 1) hn
  rw [pk_sub (by omega), Nat.add_sub_cancel] at this
  exact this
theorem bw_b (P : Prop) : ∃ b : Nat, b < 2 ∧ (b = 1 ↔ P) := by
  by_cases h : P
  · exact ⟨1, by omega, by simp [h]⟩
  · exact ⟨0, by omega, by simp [h]⟩
theorem dMO_declare_0 : decode prog_13_method_11_code 0 = .ok (.iload_n 1, 1) := by decide +kernel
theorem dMO_declare_1 : decode prog_13_method_11_code 1 = .ok (.iconst 0, 1) := by decide +kernel
theorem dMO_declare_2 : decode prog_13_method_11_code 2 = .ok (.bipush (7), 2) := by decide +kernel
theorem dMO_declare_4 : decode prog_13_method_11_code 4 = .ok (.invokestatic 102, 3) := by decide +kernel
theorem dMO_declare_7 : decode prog_13_method_11_code 7 = .ok (.ifCond .eq (10), 3) := by decide +kernel
theorem dMO_declare_10 : decode prog_13_method_11_code 10 = .ok (.iload_n 2, 1) := by decide +kernel
theorem dMO_declare_11 : decode prog_13_method_11_code 11 = .ok (.invokestatic 110, 3) := by decide +kernel
theorem dMO_declare_14 : decode prog_13_method_11_code 14 = .ok (.ifCond .ne (5), 3) := by decide +kernel
theorem dMO_declare_17 : decode prog_13_method_11_code 17 = .ok (.iconst (-1), 1) := by decide +kernel
theorem dMO_declare_18 : decode prog_13_method_11_code 18 = .ok (.ireturn, 1) := by decide +kernel
theorem dMO_declare_19 : decode prog_13_method_11_code 19 = .ok (.aload_n 0, 1) := by decide +kernel
theorem dMO_declare_20 : decode prog_13_method_11_code 20 = .ok (.getfield 117, 3) := by decide +kernel
theorem dMO_declare_23 : decode prog_13_method_11_code 23 = .ok (.ifCond .le (6), 3) := by decide +kernel
theorem dMO_declare_26 : decode prog_13_method_11_code 26 = .ok (.bipush (-7), 2) := by decide +kernel
theorem dMO_declare_28 : decode prog_13_method_11_code 28 = .ok (.ireturn, 1) := by decide +kernel
theorem dMO_declare_29 : decode prog_13_method_11_code 29 = .ok (.aload_n 0, 1) := by decide +kernel
theorem dMO_declare_30 : decode prog_13_method_11_code 30 = .ok (.getfield 19, 3) := by decide +kernel
theorem dMO_declare_33 : decode prog_13_method_11_code 33 = .ok (.iload_n 1, 1) := by decide +kernel
theorem dMO_declare_34 : decode prog_13_method_11_code 34 = .ok (.iaload, 1) := by decide +kernel
theorem dMO_declare_35 : decode prog_13_method_11_code 35 = .ok (.istore_n 3, 1) := by decide +kernel
theorem dMO_declare_36 : decode prog_13_method_11_code 36 = .ok (.aload_n 0, 1) := by decide +kernel
theorem dMO_declare_37 : decode prog_13_method_11_code 37 = .ok (.getfield 19, 3) := by decide +kernel
theorem dMO_declare_40 : decode prog_13_method_11_code 40 = .ok (.iload_n 1, 1) := by decide +kernel
theorem dMO_declare_41 : decode prog_13_method_11_code 41 = .ok (.iload_n 2, 1) := by decide +kernel
theorem dMO_declare_42 : decode prog_13_method_11_code 42 = .ok (.iastore, 1) := by decide +kernel
theorem dMO_declare_43 : decode prog_13_method_11_code 43 = .ok (.iload_n 3, 1) := by decide +kernel
theorem dMO_declare_44 : decode prog_13_method_11_code 44 = .ok (.ireturn, 1) := by decide +kernel
theorem c_MO_declare {G : sd_G} {o : Nat} {D : fx_D} {h0 : sd_H} {nx : Nat} {S S' : st_S} {x y a : Int32} (hB : G.2.1 ≤ o) (hR : mo_R S D) (hs : sp_declare S x y a S') : sd_Ct G mMO_declare 2 0 0 [.ref (o + 0), .int x, .int y] (fx_h G.1.2 mo_S o D h0) nx (fx_is G.1.2 mo_S o h0 nx (some (.int a)) (mo_R S')) := by
  refine sd_Ct_of (by decide) (Nat.le_of_ble_eq_true rfl) ?_
  have hT := hR.2.1
  have h64 := hT.1
  rcases hs with ⟨hn, rfl, rfl⟩ | ⟨h1, h2, h3, rfl, rfl⟩ | ⟨v, t, hv, rfl, rfl, ht, hE, rfl, rfl⟩
  · by_cases h1 : nn_lt x 8
    · have h2 : ¬ ty_is y := fun q => hn ⟨h1, q⟩
      refine sd_iload_n dMO_declare_0 rfl rfl ?_
      refine sd_iconst (v := nI 0) dMO_declare_1 (by decide) ?_
      refine sd_bipush (v := nI 7) dMO_declare_2 (by decide) ?_
      refine sd_cS [.int (x), .int (nI (0)), .int (nI (7))] [] dMO_declare_4 kMO_102 mMO_in_s (c_MO_in (b := 1) (by omega) (by rw [mo_in_of (by omega)]; simp [h1])) (by decide) (Nat.le_refl _) (Nat.le_refl _) (Nat.le_of_ble_eq_true rfl) rfl ?_
      refine nn_if_eq 17 dMO_declare_7 (by decide) (by decide) (fun c => absurd c (by decide)) (fun _ => ?_)
      refine sd_iload_n dMO_declare_10 rfl rfl ?_
      refine sd_cS [.int (y)] [] dMO_declare_11 kMO_110 mMO_isType_s (c_MO_isType (b := 0) (by omega) (by simp [h2])) (by decide) (Nat.le_refl _) (Nat.le_refl _) (Nat.le_of_ble_eq_true rfl) rfl ?_
      refine nn_if_ne 19 dMO_declare_14 (by decide) (by decide) (fun c => absurd c (by decide)) (fun _ => ?_)
      refine sd_iconst (v := (-1)) dMO_declare_17 (by decide) ?_
      exact sd_iret dMO_declare_18 rfl (Nat.le_refl _) (Nat.le_refl _) ⟨rfl, rfl, D, rfl, hR⟩
    ·
      refine sd_iload_n dMO_declare_0 rfl rfl ?_
      refine sd_iconst (v := nI 0) dMO_declare_1 (by decide) ?_
      refine sd_bipush (v := nI 7) dMO_declare_2 (by decide) ?_
      refine sd_cS [.int (x), .int (nI (0)), .int (nI (7))] [] dMO_declare_4 kMO_102 mMO_in_s (c_MO_in (b := 0) (by omega) (by rw [mo_in_of (by omega)]; simp [h1])) (by decide) (Nat.le_refl _) (Nat.le_refl _) (Nat.le_of_ble_eq_true rfl) rfl ?_
      refine nn_if_eq 17 dMO_declare_7 (by decide) (by decide) (fun _ => ?_) (fun c => absurd c (by decide))
      refine sd_iconst (v := (-1)) dMO_declare_17 (by decide) ?_
      exact sd_iret dMO_declare_18 rfl (Nat.le_refl _) (Nat.le_refl _) ⟨rfl, rfl, D, rfl, hR⟩
  · have hne : 0 < (st_T S').length := by
      cases hx : st_T S' with
      | nil => exact absurd hx h3
      | cons q r => simp
    refine sd_iload_n dMO_declare_0 rfl rfl ?_
    refine sd_iconst (v := nI 0) dMO_declare_1 (by decide) ?_
    refine sd_bipush (v := nI 7) dMO_declare_2 (by decide) ?_
    refine sd_cS [.int (x), .int (nI (0)), .int (nI (7))] [] dMO_declare_4 kMO_102 mMO_in_s (c_MO_in (b := 1) (by omega) (by rw [mo_in_of (by omega)]; simp [h1])) (by decide) (Nat.le_refl _) (Nat.le_refl _) (Nat.le_of_ble_eq_true rfl) rfl ?_
    refine nn_if_eq 17 dMO_declare_7 (by decide) (by decide) (fun c => absurd c (by decide)) (fun _ => ?_)
    refine sd_iload_n dMO_declare_10 rfl rfl ?_
    refine sd_cS [.int (y)] [] dMO_declare_11 kMO_110 mMO_isType_s (c_MO_isType (b := 1) (by omega) (by simp [h2])) (by decide) (Nat.le_refl _) (Nat.le_refl _) (Nat.le_of_ble_eq_true rfl) rfl ?_
    refine nn_if_ne 19 dMO_declare_14 (by decide) (by decide) (fun _ => ?_) (fun c => absurd c (by decide))
    refine sd_aload_n dMO_declare_19 rfl rfl ?_
    refine fx_getiv 10 5 dMO_declare_20 fMO_117 rfl rfl (hT.2.1) ?_
    refine nn_if_le 29 dMO_declare_23 (by decide) (by omega) (fun c23 => ?_) (fun c23 => ?_)
    ·
      exact absurd c23 (by omega)
    ·
      refine sd_bipush (v := (-7)) dMO_declare_26 (by decide) ?_
      exact sd_iret dMO_declare_28 rfl (Nat.le_refl _) (Nat.le_refl _) ⟨rfl, rfl, D, rfl, hR⟩
  · have h1 : nn_lt (nI v) 8 := ⟨v, hv, rfl⟩
    have hl : (st_T S).length = 0 := by rw [hE]; rfl
    refine sd_iload_n dMO_declare_0 rfl rfl ?_
    refine sd_iconst (v := nI 0) dMO_declare_1 (by decide) ?_
    refine sd_bipush (v := nI 7) dMO_declare_2 (by decide) ?_
    refine sd_cS [.int (nI (v)), .int (nI (0)), .int (nI (7))] [] dMO_declare_4 kMO_102 mMO_in_s (c_MO_in (b := 1) (by omega) (by rw [mo_in_of (by omega)]; simp [h1])) (by decide) (Nat.le_refl _) (Nat.le_refl _) (Nat.le_of_ble_eq_true rfl) rfl ?_
    refine nn_if_eq 17 dMO_declare_7 (by decide) (by decide) (fun c => absurd c (by decide)) (fun _ => ?_)
    refine sd_iload_n dMO_declare_10 rfl rfl ?_
    refine sd_cS [.int (nI (t))] [] dMO_declare_11 kMO_110 mMO_isType_s (c_MO_isType (b := 1) (by omega) (by simp [ty_is_ok ht])) (by decide) (Nat.le_refl _) (Nat.le_refl _) (Nat.le_of_ble_eq_true rfl) rfl ?_
    refine nn_if_ne 19 dMO_declare_14 (by decide) (by decide) (fun _ => ?_) (fun c => absurd c (by decide))
    refine sd_aload_n dMO_declare_19 rfl rfl ?_
    refine fx_getiv 10 5 dMO_declare_20 fMO_117 rfl rfl (hT.2.1) ?_
    refine nn_if_le 29 dMO_declare_23 (by decide) (by omega) (fun c23 => ?_) (fun c23 => ?_)
    ·
      refine sd_aload_n dMO_declare_29 rfl rfl ?_
      refine fx_getr 10 3 (4) dMO_declare_30 fMO_19 rfl rfl ?_
      refine sd_iload_n dMO_declare_33 rfl rfl ?_
      refine fx_ialdv (v) dMO_declare_34 rfl rfl (by omega) (by decide) ((hR.1 v hv).1) ?_
      refine sd_istore_n dMO_declare_35 rfl (by decide) ?_
      refine sd_aload_n dMO_declare_36 rfl rfl ?_
      refine fx_getr 10 3 (4) dMO_declare_37 fMO_19 rfl rfl ?_
      refine sd_iload_n dMO_declare_40 rfl rfl ?_
      refine sd_iload_n dMO_declare_41 rfl rfl ?_
      refine fx_iast (v) dMO_declare_42 rfl rfl (by omega) (by decide) hB ?_
      refine sd_iload_n dMO_declare_43 rfl rfl ?_
      refine sd_iret dMO_declare_44 rfl (Nat.le_refl _) (Nat.le_refl _) ⟨rfl, rfl, _, rfl, ?_⟩
      obtain ⟨r1, r2, r3, r4, r5, r6, r7, r8⟩ := hR
      refine ⟨fun w hw => ?_, r2, r3, r4, r5, r6, r7, r8⟩
      by_cases e : w = v
      · subst e
        simpa [fx_ua, upd, st_nt] using ht
      · simpa [fx_ua, upd, st_nt, e] using r1 w hw
    ·
      exact absurd c23 (by omega)
theorem dMO_token_0 : decode prog_13_method_28_code 0 = .ok (.iload_n 1, 1) := by decide +kernel
theorem dMO_token_1 : decode prog_13_method_28_code 1 = .ok (.iconst 0, 1) := by decide +kernel
theorem dMO_token_2 : decode prog_13_method_28_code 2 = .ok (.bipush (17), 2) := by decide +kernel
theorem dMO_token_4 : decode prog_13_method_28_code 4 = .ok (.invokestatic 102, 3) := by decide +kernel
theorem dMO_token_7 : decode prog_13_method_28_code 7 = .ok (.ifCond .ne (5), 3) := by decide +kernel
theorem dMO_token_10 : decode prog_13_method_28_code 10 = .ok (.iconst (-1), 1) := by decide +kernel
theorem dMO_token_11 : decode prog_13_method_28_code 11 = .ok (.ireturn, 1) := by decide +kernel
theorem dMO_token_12 : decode prog_13_method_28_code 12 = .ok (.aload_n 0, 1) := by decide +kernel
theorem dMO_token_13 : decode prog_13_method_28_code 13 = .ok (.getfield 158, 3) := by decide +kernel
theorem dMO_token_16 : decode prog_13_method_28_code 16 = .ok (.bipush (24), 2) := by decide +kernel
theorem dMO_token_18 : decode prog_13_method_28_code 18 = .ok (.if_icmp .ne (6), 3) := by decide +kernel
theorem dMO_token_21 : decode prog_13_method_28_code 21 = .ok (.bipush (-6), 2) := by decide +kernel
theorem dMO_token_23 : decode prog_13_method_28_code 23 = .ok (.ireturn, 1) := by decide +kernel
theorem dMO_token_24 : decode prog_13_method_28_code 24 = .ok (.aload_n 0, 1) := by decide +kernel
theorem dMO_token_25 : decode prog_13_method_28_code 25 = .ok (.getfield 22, 3) := by decide +kernel
theorem dMO_token_28 : decode prog_13_method_28_code 28 = .ok (.aload_n 0, 1) := by decide +kernel
theorem dMO_token_29 : decode prog_13_method_28_code 29 = .ok (.getfield 158, 3) := by decide +kernel
theorem dMO_token_32 : decode prog_13_method_28_code 32 = .ok (.iload_n 1, 1) := by decide +kernel
theorem dMO_token_33 : decode prog_13_method_28_code 33 = .ok (.iastore, 1) := by decide +kernel
theorem dMO_token_34 : decode prog_13_method_28_code 34 = .ok (.aload_n 0, 1) := by decide +kernel
theorem dMO_token_35 : decode prog_13_method_28_code 35 = .ok (.dup, 1) := by decide +kernel
theorem dMO_token_36 : decode prog_13_method_28_code 36 = .ok (.getfield 158, 3) := by decide +kernel
theorem dMO_token_39 : decode prog_13_method_28_code 39 = .ok (.iconst 1, 1) := by decide +kernel
theorem dMO_token_40 : decode prog_13_method_28_code 40 = .ok (.iadd, 1) := by decide +kernel
theorem dMO_token_41 : decode prog_13_method_28_code 41 = .ok (.dup_x1, 1) := by decide +kernel
theorem dMO_token_42 : decode prog_13_method_28_code 42 = .ok (.putfield 158, 3) := by decide +kernel
theorem dMO_token_45 : decode prog_13_method_28_code 45 = .ok (.ireturn, 1) := by decide +kernel
theorem c_MO_token {G : sd_G} {o : Nat} {D : fx_D} {h0 : sd_H} {nx : Nat} {S S' : st_S} {x a : Int32} (hB : G.2.1 ≤ o) (hR : mo_R S D) (hs : sp_token S x a S') : sd_Ct G mMO_token 1 0 0 [.ref (o + 0), .int x] (fx_h G.1.2 mo_S o D h0) nx (fx_is G.1.2 mo_S o h0 nx (some (.int a)) (mo_R S')) := by
  refine sd_Ct_of (by decide) (Nat.le_of_ble_eq_true rfl) ?_
  have hd := hR.2.2.2.1
  have h24 := hd.1
  rcases hs with ⟨hn, rfl, rfl⟩ | ⟨h1, h2, rfl, rfl⟩ | ⟨t, ht, rfl, hl, rfl, rfl⟩
  ·
    refine sd_iload_n dMO_token_0 rfl rfl ?_
    refine sd_iconst (v := nI 0) dMO_token_1 (by decide) ?_
    refine sd_bipush (v := nI 17) dMO_token_2 (by decide) ?_
    refine sd_cS [.int (x), .int (nI (0)), .int (nI (17))] [] dMO_token_4 kMO_102 mMO_in_s (c_MO_in (b := 0) (by omega) (by rw [mo_in_of (by omega)]; simp [hn])) (by decide) (Nat.le_refl _) (Nat.le_refl _) (Nat.le_of_ble_eq_true rfl) rfl ?_
    refine nn_if_ne 12 dMO_token_7 (by decide) (by decide) (fun c => absurd c (by decide)) (fun _ => ?_)
    refine sd_iconst (v := (-1)) dMO_token_10 (by decide) ?_
    exact sd_iret dMO_token_11 rfl (Nat.le_refl _) (Nat.le_refl _) ⟨rfl, rfl, D, rfl, hR⟩
  ·
    refine sd_iload_n dMO_token_0 rfl rfl ?_
    refine sd_iconst (v := nI 0) dMO_token_1 (by decide) ?_
    refine sd_bipush (v := nI 17) dMO_token_2 (by decide) ?_
    refine sd_cS [.int (x), .int (nI (0)), .int (nI (17))] [] dMO_token_4 kMO_102 mMO_in_s (c_MO_in (b := 1) (by omega) (by rw [mo_in_of (by omega)]; simp [h1])) (by decide) (Nat.le_refl _) (Nat.le_refl _) (Nat.le_of_ble_eq_true rfl) rfl ?_
    refine nn_if_ne 12 dMO_token_7 (by decide) (by decide) (fun _ => ?_) (fun c => absurd c (by decide))
    refine sd_aload_n dMO_token_12 rfl rfl ?_
    refine fx_getiv 10 6 dMO_token_13 fMO_158 rfl rfl (hd.2.1) ?_
    refine sd_bipush (v := nI 24) dMO_token_16 (by decide) ?_
    refine nn_icmp_ne 24 dMO_token_18 (by decide) (by omega) (by omega) (fun c18 => ?_) (fun c18 => ?_)
    ·
      exact absurd c18 (by omega)
    ·
      refine sd_bipush (v := (-6)) dMO_token_21 (by decide) ?_
      exact sd_iret dMO_token_23 rfl (Nat.le_refl _) (Nat.le_refl _) ⟨rfl, rfl, D, rfl, hR⟩
  · have h1 : nn_lt (nI t) 18 := ⟨t, ht, rfl⟩
    refine sd_iload_n dMO_token_0 rfl rfl ?_
    refine sd_iconst (v := nI 0) dMO_token_1 (by decide) ?_
    refine sd_bipush (v := nI 17) dMO_token_2 (by decide) ?_
    refine sd_cS [.int (nI (t)), .int (nI (0)), .int (nI (17))] [] dMO_token_4 kMO_102 mMO_in_s (c_MO_in (b := 1) (by omega) (by rw [mo_in_of (by omega)]; simp [h1])) (by decide) (Nat.le_refl _) (Nat.le_refl _) (Nat.le_of_ble_eq_true rfl) rfl ?_
    refine nn_if_ne 12 dMO_token_7 (by decide) (by decide) (fun _ => ?_) (fun c => absurd c (by decide))
    refine sd_aload_n dMO_token_12 rfl rfl ?_
    refine fx_getiv 10 6 dMO_token_13 fMO_158 rfl rfl (hd.2.1) ?_
    refine sd_bipush (v := nI 24) dMO_token_16 (by decide) ?_
    refine nn_icmp_ne 24 dMO_token_18 (by decide) (by omega) (by omega) (fun c18 => ?_) (fun c18 => ?_)
    ·
      refine sd_aload_n dMO_token_24 rfl rfl ?_
      refine fx_getr 10 4 (5) dMO_token_25 fMO_22 rfl rfl ?_
      refine sd_aload_n dMO_token_28 rfl rfl ?_
      refine fx_getiv 10 6 dMO_token_29 fMO_158 rfl rfl (hd.2.1) ?_
      refine sd_iload_n dMO_token_32 rfl rfl ?_
      refine fx_iast ((st_dr S).length) dMO_token_33 rfl rfl (by omega) (by decide) hB ?_
      refine sd_aload_n dMO_token_34 rfl rfl ?_
      refine sd_dup dMO_token_35 rfl ?_
      refine fx_getiv 10 6 dMO_token_36 fMO_158 rfl rfl ((by exact hd.2.1)) ?_
      refine sd_iconst (v := nI 1) dMO_token_39 (by decide) ?_
      refine nn_iadd dMO_token_40 ?_
      refine sd_dup_x1 dMO_token_41 rfl rfl ?_
      refine fx_puti 10 6 dMO_token_42 fMO_158 rfl rfl rfl rfl hB ?_
      refine sd_iret dMO_token_45 rfl (Nat.le_refl _) (Nat.le_refl _) ⟨rfl, rfl, _, rfl, ?_⟩
      obtain ⟨r1, r2, r3, r4, r5, r6, r7, r8⟩ := hR
      refine ⟨r1, r2, r3, ⟨by simp [st_dr] at hl ⊢; omega, by simp [st_dr, fx_uf, upd], fun k y hy => ?_⟩, r5, r6, r7, r8⟩
      change (st_dr S ++ [t])[k]? = some y at hy
      by_cases hk : k < (st_dr S).length
      · rw [List.getElem?_append_left hk] at hy
        simpa [fx_ua, fx_uf, upd, show ¬ k = (st_dr S).length by omega] using r4.2.2 k y hy
      · rw [List.getElem?_append_right (by omega)] at hy
        have hk2 : k - (st_dr S).length < 1 := (List.getElem?_eq_some_iff.mp hy).1
        obtain rfl : k = (st_dr S).length := by omega
        simp at hy
        subst hy
        simpa [fx_ua, fx_uf, upd] using ht
    ·
      exact absurd c18 (by omega)
theorem dMO_clear_0 : decode prog_13_method_29_code 0 = .ok (.aload_n 0, 1) := by decide +kernel
theorem dMO_clear_1 : decode prog_13_method_29_code 1 = .ok (.getfield 158, 3) := by decide +kernel
theorem dMO_clear_4 : decode prog_13_method_29_code 4 = .ok (.istore_n 1, 1) := by decide +kernel
theorem dMO_clear_5 : decode prog_13_method_29_code 5 = .ok (.aload_n 0, 1) := by decide +kernel
theorem dMO_clear_6 : decode prog_13_method_29_code 6 = .ok (.iconst 0, 1) := by decide +kernel
theorem dMO_clear_7 : decode prog_13_method_29_code 7 = .ok (.putfield 158, 3) := by decide +kernel
theorem dMO_clear_10 : decode prog_13_method_29_code 10 = .ok (.iload_n 1, 1) := by decide +kernel
theorem dMO_clear_11 : decode prog_13_method_29_code 11 = .ok (.ireturn, 1) := by decide +kernel
theorem c_MO_clear {G : sd_G} {o : Nat} {D : fx_D} {h0 : sd_H} {nx : Nat} {S S' : st_S} {a : Int32} (hB : G.2.1 ≤ o) (hR : mo_R S D) (hs : sp_clear S a S') : sd_Ct G mMO_clear 0 0 0 [.ref (o + 0)] (fx_h G.1.2 mo_S o D h0) nx (fx_is G.1.2 mo_S o h0 nx (some (.int a)) (mo_R S')) := by
  refine sd_Ct_of (by decide) (Nat.le_of_ble_eq_true rfl) ?_
  obtain ⟨rfl, rfl⟩ := hs
  refine sd_aload_n dMO_clear_0 rfl rfl ?_
  refine fx_getiv 10 6 dMO_clear_1 fMO_158 rfl rfl (hR.2.2.2.1.2.1) ?_
  refine sd_istore_n dMO_clear_4 rfl (by decide) ?_
  refine sd_aload_n dMO_clear_5 rfl rfl ?_
  refine sd_iconst (v := nI 0) dMO_clear_6 (by decide) ?_
  refine fx_puti 10 6 dMO_clear_7 fMO_158 rfl rfl rfl rfl hB ?_
  refine sd_iload_n dMO_clear_10 rfl rfl ?_
  refine sd_iret dMO_clear_11 rfl (Nat.le_refl _) (Nat.le_refl _) ⟨rfl, rfl, _, rfl, ?_⟩
  obtain ⟨r1, r2, r3, r4, r5, r6, r7, r8⟩ := hR
  exact ⟨r1, r2, r3, ⟨by simp [st_dr], by simp [st_dr, fx_uf, upd], fun k y hy => by simp [st_dr] at hy⟩, r5, r6, r7, r8⟩
theorem dMO_count_0 : decode prog_13_method_70_code 0 = .ok (.iload_n 1, 1) := by decide +kernel
theorem dMO_count_1 : decode prog_13_method_70_code 1 = .ok (.tableswitch (60) (0) (4) #[35, 40, 45, 50, 55], 35) := by decide +kernel
theorem dMO_count_36 : decode prog_13_method_70_code 36 = .ok (.aload_n 0, 1) := by decide +kernel
theorem dMO_count_37 : decode prog_13_method_70_code 37 = .ok (.getfield 117, 3) := by decide +kernel
theorem dMO_count_40 : decode prog_13_method_70_code 40 = .ok (.ireturn, 1) := by decide +kernel
theorem dMO_count_41 : decode prog_13_method_70_code 41 = .ok (.aload_n 0, 1) := by decide +kernel
theorem dMO_count_42 : decode prog_13_method_70_code 42 = .ok (.getfield 148, 3) := by decide +kernel
theorem dMO_count_45 : decode prog_13_method_70_code 45 = .ok (.ireturn, 1) := by decide +kernel
theorem dMO_count_46 : decode prog_13_method_70_code 46 = .ok (.aload_n 0, 1) := by decide +kernel
theorem dMO_count_47 : decode prog_13_method_70_code 47 = .ok (.getfield 270, 3) := by decide +kernel
theorem dMO_count_50 : decode prog_13_method_70_code 50 = .ok (.ireturn, 1) := by decide +kernel
theorem dMO_count_51 : decode prog_13_method_70_code 51 = .ok (.aload_n 0, 1) := by decide +kernel
theorem dMO_count_52 : decode prog_13_method_70_code 52 = .ok (.getfield 273, 3) := by decide +kernel
theorem dMO_count_55 : decode prog_13_method_70_code 55 = .ok (.ireturn, 1) := by decide +kernel
theorem dMO_count_56 : decode prog_13_method_70_code 56 = .ok (.aload_n 0, 1) := by decide +kernel
theorem dMO_count_57 : decode prog_13_method_70_code 57 = .ok (.getfield 158, 3) := by decide +kernel
theorem dMO_count_60 : decode prog_13_method_70_code 60 = .ok (.ireturn, 1) := by decide +kernel
theorem dMO_count_61 : decode prog_13_method_70_code 61 = .ok (.iconst (-1), 1) := by decide +kernel
theorem dMO_count_62 : decode prog_13_method_70_code 62 = .ok (.ireturn, 1) := by decide +kernel
theorem c_MO_count {G : sd_G} {o : Nat} {D : fx_D} {h0 : sd_H} {nx : Nat} {S : st_S} {x a : Int32} (hR : mo_R S D) (hs : sp_count S x a) : sd_Ct G mMO_count 0 0 0 [.ref (o + 0), .int x] (fx_h G.1.2 mo_S o D h0) nx (sd_is (some (.int a)) (fx_h G.1.2 mo_S o D h0) nx) := by
  refine sd_Ct_of (by decide) (Nat.le_of_ble_eq_true rfl) ?_
  obtain ⟨r1, r2, r3, r4, r5, r6, r7, r8⟩ := hR
  rcases hs with ⟨hn, rfl⟩ | ⟨w, hw, rfl, rfl⟩
  ·
    refine sd_iload_n dMO_count_0 rfl rfl ?_
    refine sd_tableOut 61 dMO_count_1 (nn_tab hn) (by decide) ?_
    refine sd_iconst (v := (-1)) dMO_count_61 (by decide) ?_
    exact sd_iret dMO_count_62 rfl (Nat.le_refl _) (Nat.le_refl _) ⟨rfl, rfl, rfl⟩
  · match w, hw with
    | 0, _ =>
      refine sd_iload_n dMO_count_0 rfl rfl ?_
      refine sd_tableIn (off := 35) 36 dMO_count_1 (by decide) (by decide) (by decide) (by decide) ?_
      refine sd_aload_n dMO_count_36 rfl rfl ?_
      refine fx_getiv 10 5 dMO_count_37 fMO_117 rfl rfl (r2.2.1) ?_
      exact sd_iret dMO_count_40 rfl (Nat.le_refl _) (Nat.le_refl _) ⟨rfl, rfl, rfl⟩
    | 1, _ =>
      refine sd_iload_n dMO_count_0 rfl rfl ?_
      refine sd_tableIn (off := 40) 41 dMO_count_1 (by decide) (by decide) (by decide) (by decide) ?_
      refine sd_aload_n dMO_count_41 rfl rfl ?_
      refine fx_getiv 10 14 dMO_count_42 fMO_148 rfl rfl (r5.2.1) ?_
      exact sd_iret dMO_count_45 rfl (Nat.le_refl _) (Nat.le_refl _) ⟨rfl, rfl, rfl⟩
    | 2, _ =>
      refine sd_iload_n dMO_count_0 rfl rfl ?_
      refine sd_tableIn (off := 45) 46 dMO_count_1 (by decide) (by decide) (by decide) (by decide) ?_
      refine sd_aload_n dMO_count_46 rfl rfl ?_
      refine fx_getiv 10 27 dMO_count_47 fMO_270 rfl rfl (r6.2.1) ?_
      exact sd_iret dMO_count_50 rfl (Nat.le_refl _) (Nat.le_refl _) ⟨rfl, rfl, rfl⟩
    | 3, _ =>
      refine sd_iload_n dMO_count_0 rfl rfl ?_
      refine sd_tableIn (off := 50) 51 dMO_count_1 (by decide) (by decide) (by decide) (by decide) ?_
      refine sd_aload_n dMO_count_51 rfl rfl ?_
      refine fx_getiv 10 28 dMO_count_52 fMO_273 rfl rfl (r7.2.1) ?_
      exact sd_iret dMO_count_55 rfl (Nat.le_refl _) (Nat.le_refl _) ⟨rfl, rfl, rfl⟩
    | 4, _ =>
      refine sd_iload_n dMO_count_0 rfl rfl ?_
      refine sd_tableIn (off := 55) 56 dMO_count_1 (by decide) (by decide) (by decide) (by decide) ?_
      refine sd_aload_n dMO_count_56 rfl rfl ?_
      refine fx_getiv 10 6 dMO_count_57 fMO_158 rfl rfl (r4.2.1) ?_
      exact sd_iret dMO_count_60 rfl (Nat.le_refl _) (Nat.le_refl _) ⟨rfl, rfl, rfl⟩
