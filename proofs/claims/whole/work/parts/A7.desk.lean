/-! ===== the class's own: isName, function, term ===== -/
theorem dDK_isName_0 : decode prog_1_method_20_code 0 = .ok (.iload_n 0, 1) := by decide +kernel
theorem dDK_isName_1 : decode prog_1_method_20_code 1 = .ok (.ifCond .lt (13), 3) := by decide +kernel
theorem dDK_isName_4 : decode prog_1_method_20_code 4 = .ok (.iload_n 0, 1) := by decide +kernel
theorem dDK_isName_5 : decode prog_1_method_20_code 5 = .ok (.bipush (8), 2) := by decide +kernel
theorem dDK_isName_7 : decode prog_1_method_20_code 7 = .ok (.if_icmp .ge (7), 3) := by decide +kernel
theorem dDK_isName_10 : decode prog_1_method_20_code 10 = .ok (.iconst 1, 1) := by decide +kernel
theorem dDK_isName_11 : decode prog_1_method_20_code 11 = .ok (.goto (4), 3) := by decide +kernel
theorem dDK_isName_14 : decode prog_1_method_20_code 14 = .ok (.iconst 0, 1) := by decide +kernel
theorem dDK_isName_15 : decode prog_1_method_20_code 15 = .ok (.ireturn, 1) := by decide +kernel
theorem c_DK_isName {G : sd_G} {h : sd_H} {nx b : Nat} {x : Int32} (hb2 : b < 2) (hb : b = 1 ↔ nn_lt x 8) : sd_Ct G mDK_isName 0 0 0 [.int x] h nx (sd_is (some (.int (nI b))) h nx) := by
  refine sd_Ct_of (by decide) (Nat.le_of_ble_eq_true rfl) ?_
  by_cases h0' : x < 0
  · obtain rfl : b = 0 := by
      have : ¬ b = 1 := fun e => by
        obtain ⟨t, ht, rfl⟩ := hb.mp e
        exact nI_pos (by omega) h0'
      omega
    refine sd_iload_n dDK_isName_0 rfl rfl ?_
    refine sd_if_lt 14 dDK_isName_1 (by decide) (fun c1 => ?_) (fun c1 => ?_)
    ·
      refine sd_iconst (v := nI 0) dDK_isName_14 (by decide) ?_
      exact sd_zret dDK_isName_15 rfl (Or.inl rfl) (Nat.le_refl _) (Nat.le_refl _) ⟨rfl, rfl, rfl⟩
    ·
      exact absurd h0' c1
  · obtain ⟨t, ht, rfl⟩ := nI_of h0'
    have hb' : b = 1 ↔ t < 8 := hb.trans ⟨fun ⟨t', h1, h2⟩ => by
      have := nI_inj ht (by omega) h2
      omega, fun h => ⟨t, h, rfl⟩⟩
    refine sd_iload_n dDK_isName_0 rfl rfl ?_
    refine nn_if_lt dDK_isName_1 14 (by decide) (by omega) ?_
    refine sd_iload_n dDK_isName_4 rfl rfl ?_
    refine sd_bipush (v := nI 8) dDK_isName_5 (by decide) ?_
    refine nn_icmp_ge 14 dDK_isName_7 (by decide) (by omega) (by omega) (fun c7 => ?_) (fun c7 => ?_)
    ·
      refine sd_iconst (v := nI 0) dDK_isName_14 (by decide) ?_
      exact sd_zret dDK_isName_15 rfl (nn_01 (by omega)) (Nat.le_refl _) (Nat.le_refl _) ⟨by rw [show b = (0) by omega], rfl, rfl⟩
    ·
      refine sd_iconst (v := nI 1) dDK_isName_10 (by decide) ?_
      refine sd_goto 15 dDK_isName_11 (by decide) ?_
      exact sd_zret dDK_isName_15 rfl (nn_01 (by omega)) (Nat.le_refl _) (Nat.le_refl _) ⟨by rw [show b = (1) by omega], rfl, rfl⟩
theorem dDK_function_0 : decode prog_1_method_2_code 0 = .ok (.iload_n 1, 1) := by decide +kernel
theorem dDK_function_1 : decode prog_1_method_2_code 1 = .ok (.invokestatic 48, 3) := by decide +kernel
theorem dDK_function_4 : decode prog_1_method_2_code 4 = .ok (.ifCond .eq (10), 3) := by decide +kernel
theorem dDK_function_7 : decode prog_1_method_2_code 7 = .ok (.iload_n 2, 1) := by decide +kernel
theorem dDK_function_8 : decode prog_1_method_2_code 8 = .ok (.invokestatic 48, 3) := by decide +kernel
theorem dDK_function_11 : decode prog_1_method_2_code 11 = .ok (.ifCond .ne (5), 3) := by decide +kernel
theorem dDK_function_14 : decode prog_1_method_2_code 14 = .ok (.iconst (-1), 1) := by decide +kernel
theorem dDK_function_15 : decode prog_1_method_2_code 15 = .ok (.ireturn, 1) := by decide +kernel
theorem dDK_function_16 : decode prog_1_method_2_code 16 = .ok (.iload_n 1, 1) := by decide +kernel
theorem dDK_function_17 : decode prog_1_method_2_code 17 = .ok (.iload_n 2, 1) := by decide +kernel
theorem dDK_function_18 : decode prog_1_method_2_code 18 = .ok (.invokestatic 54, 3) := by decide +kernel
theorem dDK_function_21 : decode prog_1_method_2_code 21 = .ok (.istore_n 3, 1) := by decide +kernel
theorem dDK_function_22 : decode prog_1_method_2_code 22 = .ok (.iload_n 3, 1) := by decide +kernel
theorem dDK_function_23 : decode prog_1_method_2_code 23 = .ok (.iconst (-1), 1) := by decide +kernel
theorem dDK_function_24 : decode prog_1_method_2_code 24 = .ok (.if_icmp .ne (8), 3) := by decide +kernel
theorem dDK_function_27 : decode prog_1_method_2_code 27 = .ok (.bipush (-5), 2) := by decide +kernel
theorem dDK_function_29 : decode prog_1_method_2_code 29 = .ok (.goto (4), 3) := by decide +kernel
theorem dDK_function_32 : decode prog_1_method_2_code 32 = .ok (.iload_n 3, 1) := by decide +kernel
theorem dDK_function_33 : decode prog_1_method_2_code 33 = .ok (.ireturn, 1) := by decide +kernel
theorem c_DK_function {G : sd_G} {o : Nat} {D : fx_D} {h0 : sd_H} {nx : Nat} {x y a : Int32} (hs : sp_function x y a) : sd_Ct G mDK_function 2 0 0 [.ref (o + 0), .int x, .int y] (fx_h G.1.2 dk_S o D h0) nx (sd_is (some (.int a)) (fx_h G.1.2 dk_S o D h0) nx) := by
  refine sd_Ct_of (by decide) (Nat.le_of_ble_eq_true rfl) ?_
  rcases hs with ⟨hn, rfl⟩ | ⟨s, t, rfl, rfl, hs, ht, rfl⟩
  · by_cases h1 : ty_is x
    · have h2 : ¬ ty_is y := fun q => hn ⟨h1, q⟩
      refine sd_iload_n dDK_function_0 rfl rfl ?_
      refine sd_cS [.int (x)] [] dDK_function_1 kDK_48 mTY_isType_s (c_TY_isType (b := 1) (by omega) (by simp [h1])) (by decide) (Nat.le_refl _) (Nat.le_refl _) (Nat.le_of_ble_eq_true rfl) rfl ?_
      refine nn_if_eq 14 dDK_function_4 (by decide) (by decide) (fun c => absurd c (by decide)) (fun _ => ?_)
      refine sd_iload_n dDK_function_7 rfl rfl ?_
      refine sd_cS [.int (y)] [] dDK_function_8 kDK_48 mTY_isType_s (c_TY_isType (b := 0) (by omega) (by simp [h2])) (by decide) (Nat.le_refl _) (Nat.le_refl _) (Nat.le_of_ble_eq_true rfl) rfl ?_
      refine nn_if_ne 16 dDK_function_11 (by decide) (by decide) (fun c => absurd c (by decide)) (fun _ => ?_)
      refine sd_iconst (v := (-1)) dDK_function_14 (by decide) ?_
      exact sd_iret dDK_function_15 rfl (Nat.le_refl _) (Nat.le_refl _) ⟨rfl, rfl, rfl⟩
    ·
      refine sd_iload_n dDK_function_0 rfl rfl ?_
      refine sd_cS [.int (x)] [] dDK_function_1 kDK_48 mTY_isType_s (c_TY_isType (b := 0) (by omega) (by simp [h1])) (by decide) (Nat.le_refl _) (Nat.le_refl _) (Nat.le_of_ble_eq_true rfl) rfl ?_
      refine nn_if_eq 14 dDK_function_4 (by decide) (by decide) (fun _ => ?_) (fun c => absurd c (by decide))
      refine sd_iconst (v := (-1)) dDK_function_14 (by decide) ?_
      exact sd_iret dDK_function_15 rfl (Nat.le_refl _) (Nat.le_refl _) ⟨rfl, rfl, rfl⟩
  · have b1 := hs.1
    have b2 := ht.1
    have p1 := hs.2.1
    have p2 := ht.2.1
    have hj := c_TY_join (G := G) (h := fx_h G.1.2 dk_S o D h0) (nx := nx) (a := s) (b := t) (by omega) (by omega) hs.1 ht.1
    by_cases hc : Nat.log2 s + Nat.log2 t ≤ 23
    · rw [if_pos hc] at hj ⊢
      have hjn : ty_jn s t ≠ 0 ∧ ty_jn s t < 2 ^ 31 := by
        have q1 := tp_am (t := Nat.log2 t) (show 2 ^ (Nat.log2 s + 1) + s < 2 ^ (Nat.log2 s + 1 + 1) by rw [Nat.pow_succ _ (Nat.log2 s + 1)]; have := tp_lt s; omega)
        have q2 := Nat.mod_lt t (Nat.two_pow_pos (Nat.log2 t))
        have q3 := tp_31 (k := Nat.log2 s + 1 + Nat.log2 t + 1 + 1) (by omega)
        have q4 := tp_pw (a := Nat.log2 t) (b := Nat.log2 s + 1 + Nat.log2 t + 1) (by omega)
        have q5 : 2 ^ Nat.log2 t ≤ (2 ^ (Nat.log2 s + 1) + s) * 2 ^ Nat.log2 t := Nat.le_mul_of_pos_left _ (Nat.lt_of_lt_of_le (show 0 < s by omega) (Nat.le_add_left _ _))
        have q6 := Nat.two_pow_pos (Nat.log2 t)
        rw [Nat.pow_succ _ (Nat.log2 s + 1 + Nat.log2 t + 1)] at q3
        unfold ty_jn
        omega
      have hne : ¬ nI (ty_jn s t) = -1 := fun e => by
        have := nI_toInt (n := ty_jn s t) hjn.2
        rw [e] at this
        have e1 : (-1 : Int32).toInt = -1 := rfl
        omega
      refine sd_iload_n dDK_function_0 rfl rfl ?_
      refine sd_cS [.int (nI (s))] [] dDK_function_1 kDK_48 mTY_isType_s (c_TY_isType (b := 1) (by omega) (by simp [ty_is_ok hs])) (by decide) (Nat.le_refl _) (Nat.le_refl _) (Nat.le_of_ble_eq_true rfl) rfl ?_
      refine nn_if_eq 14 dDK_function_4 (by decide) (by decide) (fun c => absurd c (by decide)) (fun _ => ?_)
      refine sd_iload_n dDK_function_7 rfl rfl ?_
      refine sd_cS [.int (nI (t))] [] dDK_function_8 kDK_48 mTY_isType_s (c_TY_isType (b := 1) (by omega) (by simp [ty_is_ok ht])) (by decide) (Nat.le_refl _) (Nat.le_refl _) (Nat.le_of_ble_eq_true rfl) rfl ?_
      refine nn_if_ne 16 dDK_function_11 (by decide) (by decide) (fun _ => ?_) (fun c => absurd c (by decide))
      refine sd_iload_n dDK_function_16 rfl rfl ?_
      refine sd_iload_n dDK_function_17 rfl rfl ?_
      refine sd_cS [.int (nI (s)), .int (nI (t))] [] dDK_function_18 kDK_54 mTY_join_s (hj) (by decide) (Nat.le_refl _) (Nat.le_refl _) (Nat.le_of_ble_eq_true rfl) rfl ?_
      refine sd_istore_n dDK_function_21 rfl (by decide) ?_
      refine sd_iload_n dDK_function_22 rfl rfl ?_
      refine sd_iconst (v := (-1)) dDK_function_23 (by decide) ?_
      refine sd_icmp_ne 32 dDK_function_24 (by decide) (fun c24 => ?_) (fun c24 => ?_)
      ·
        refine sd_iload_n dDK_function_32 rfl rfl ?_
        exact sd_iret dDK_function_33 rfl (Nat.le_refl _) (Nat.le_refl _) ⟨rfl, rfl, rfl⟩
      ·
        exact absurd c24 hne
    · rw [if_neg hc] at hj ⊢
      refine sd_iload_n dDK_function_0 rfl rfl ?_
      refine sd_cS [.int (nI (s))] [] dDK_function_1 kDK_48 mTY_isType_s (c_TY_isType (b := 1) (by omega) (by simp [ty_is_ok hs])) (by decide) (Nat.le_refl _) (Nat.le_refl _) (Nat.le_of_ble_eq_true rfl) rfl ?_
      refine nn_if_eq 14 dDK_function_4 (by decide) (by decide) (fun c => absurd c (by decide)) (fun _ => ?_)
      refine sd_iload_n dDK_function_7 rfl rfl ?_
      refine sd_cS [.int (nI (t))] [] dDK_function_8 kDK_48 mTY_isType_s (c_TY_isType (b := 1) (by omega) (by simp [ty_is_ok ht])) (by decide) (Nat.le_refl _) (Nat.le_refl _) (Nat.le_of_ble_eq_true rfl) rfl ?_
      refine nn_if_ne 16 dDK_function_11 (by decide) (by decide) (fun _ => ?_) (fun c => absurd c (by decide))
      refine sd_iload_n dDK_function_16 rfl rfl ?_
      refine sd_iload_n dDK_function_17 rfl rfl ?_
      refine sd_cS [.int (nI (s)), .int (nI (t))] [] dDK_function_18 kDK_54 mTY_join_s (hj) (by decide) (Nat.le_refl _) (Nat.le_refl _) (Nat.le_of_ble_eq_true rfl) rfl ?_
      refine sd_istore_n dDK_function_21 rfl (by decide) ?_
      refine sd_iload_n dDK_function_22 rfl rfl ?_
      refine sd_iconst (v := (-1)) dDK_function_23 (by decide) ?_
      refine sd_icmp_ne 32 dDK_function_24 (by decide) (fun c24 => ?_) (fun c24 => ?_)
      ·
        exact absurd rfl c24
      ·
        refine sd_bipush (v := (-5)) dDK_function_27 (by decide) ?_
        refine sd_goto 33 dDK_function_29 (by decide) ?_
        exact sd_iret dDK_function_33 rfl (Nat.le_refl _) (Nat.le_refl _) ⟨rfl, rfl, rfl⟩
theorem dDK_term_0 : decode prog_1_method_7_code 0 = .ok (.aload_n 0, 1) := by decide +kernel
theorem dDK_term_1 : decode prog_1_method_7_code 1 = .ok (.getfield 10, 3) := by decide +kernel
theorem dDK_term_4 : decode prog_1_method_7_code 4 = .ok (.iload_n 1, 1) := by decide +kernel
theorem dDK_term_5 : decode prog_1_method_7_code 5 = .ok (.invokevirtual 101, 3) := by decide +kernel
theorem dDK_term_8 : decode prog_1_method_7_code 8 = .ok (.ifCond .ne (5), 3) := by decide +kernel
theorem dDK_term_11 : decode prog_1_method_7_code 11 = .ok (.iconst (-1), 1) := by decide +kernel
theorem dDK_term_12 : decode prog_1_method_7_code 12 = .ok (.ireturn, 1) := by decide +kernel
theorem dDK_term_13 : decode prog_1_method_7_code 13 = .ok (.aload_n 0, 1) := by decide +kernel
theorem dDK_term_14 : decode prog_1_method_7_code 14 = .ok (.getfield 10, 3) := by decide +kernel
theorem dDK_term_17 : decode prog_1_method_7_code 17 = .ok (.getfield 104, 3) := by decide +kernel
theorem dDK_term_20 : decode prog_1_method_7_code 20 = .ok (.iload_n 1, 1) := by decide +kernel
theorem dDK_term_21 : decode prog_1_method_7_code 21 = .ok (.aaload, 1) := by decide +kernel
theorem dDK_term_22 : decode prog_1_method_7_code 22 = .ok (.astore_n 3, 1) := by decide +kernel
theorem dDK_term_23 : decode prog_1_method_7_code 23 = .ok (.iload_n 2, 1) := by decide +kernel
theorem dDK_term_24 : decode prog_1_method_7_code 24 = .ok (.tableswitch (54) (0) (3) #[32, 37, 44, 49], 32) := by decide +kernel
theorem dDK_term_56 : decode prog_1_method_7_code 56 = .ok (.aload_n 3, 1) := by decide +kernel
theorem dDK_term_57 : decode prog_1_method_7_code 57 = .ok (.getfield 108, 3) := by decide +kernel
theorem dDK_term_60 : decode prog_1_method_7_code 60 = .ok (.ireturn, 1) := by decide +kernel
theorem dDK_term_61 : decode prog_1_method_7_code 61 = .ok (.aload_n 3, 1) := by decide +kernel
theorem dDK_term_62 : decode prog_1_method_7_code 62 = .ok (.getfield 111, 3) := by decide +kernel
theorem dDK_term_65 : decode prog_1_method_7_code 65 = .ok (.iconst 0, 1) := by decide +kernel
theorem dDK_term_66 : decode prog_1_method_7_code 66 = .ok (.iaload, 1) := by decide +kernel
theorem dDK_term_67 : decode prog_1_method_7_code 67 = .ok (.ireturn, 1) := by decide +kernel
theorem dDK_term_68 : decode prog_1_method_7_code 68 = .ok (.aload_n 3, 1) := by decide +kernel
theorem dDK_term_69 : decode prog_1_method_7_code 69 = .ok (.invokevirtual 114, 3) := by decide +kernel
theorem dDK_term_72 : decode prog_1_method_7_code 72 = .ok (.ireturn, 1) := by decide +kernel
theorem dDK_term_73 : decode prog_1_method_7_code 73 = .ok (.aload_n 3, 1) := by decide +kernel
theorem dDK_term_74 : decode prog_1_method_7_code 74 = .ok (.invokevirtual 117, 3) := by decide +kernel
theorem dDK_term_77 : decode prog_1_method_7_code 77 = .ok (.ireturn, 1) := by decide +kernel
theorem dDK_term_78 : decode prog_1_method_7_code 78 = .ok (.iconst (-1), 1) := by decide +kernel
theorem dDK_term_79 : decode prog_1_method_7_code 79 = .ok (.ireturn, 1) := by decide +kernel
theorem c_DK_term {G : sd_G} {o : Nat} {D : fx_D} {h0 : sd_H} {nx : Nat} {S : st_S} {x y a : Int32} (hT : ts_T D (st_T S)) (hs : sp_term S x y a) : sd_Ct G mDK_term 2 0 0 [.ref (o + 0), .int x, .int y] (fx_h G.1.2 dk_S o D h0) nx (sd_is (some (.int a)) (fx_h G.1.2 dk_S o D h0) nx) := by
  refine sd_Ct_of (by decide) (Nat.le_of_ble_eq_true rfl) ?_
  have h71 := hT.1
  rcases hs with ⟨hn, rfl⟩ | ⟨t, w, l, rfl, rfl, ht, hw, hv⟩
  · by_cases h1 : nn_lt x (st_T S).length
    · have h2 : ¬ nn_lt y 4 := fun e => hn ⟨h1, e⟩
      have h3 := h1
      obtain ⟨t, htl, rfl⟩ := h3
      refine sd_aload_n dDK_term_0 rfl rfl ?_
      refine fx_getr 0 0 (1) dDK_term_1 fDK_10 rfl rfl ?_
      refine sd_iload_n dDK_term_4 rfl rfl ?_
      refine fx_cV 8 sR_TS [.int (nI (t))] [] dDK_term_5 kDK_101 rfl rfl mTS_has_v (c_TS_has (b := 1) (by omega) hT.2.1 (by omega) (by simp only [true_iff]; exact h1)) (by decide) (Nat.le_refl _) (Nat.le_refl _) (Nat.le_of_ble_eq_true rfl) rfl ?_
      refine nn_if_ne 13 dDK_term_8 (by decide) (by decide) (fun _ => ?_) (fun c => absurd c (by decide))
      refine sd_aload_n dDK_term_13 rfl rfl ?_
      refine fx_getr 0 0 (1) dDK_term_14 fDK_10 rfl rfl ?_
      refine fx_getr 8 1 (3) dDK_term_17 fDK_104 rfl rfl ?_
      refine sd_iload_n dDK_term_20 rfl rfl ?_
      refine fx_aald (t) dDK_term_21 rfl rfl rfl (by omega) (by decide) ?_
      refine sd_astore_n dDK_term_22 rfl (by decide) ?_
      refine sd_iload_n dDK_term_23 rfl rfl ?_
      refine sd_tableOut 78 dDK_term_24 (nn_tab h2) (by decide) ?_
      refine sd_iconst (v := (-1)) dDK_term_78 (by decide) ?_
      exact sd_iret dDK_term_79 rfl (Nat.le_refl _) (Nat.le_refl _) ⟨rfl, rfl, rfl⟩
    ·
      refine sd_aload_n dDK_term_0 rfl rfl ?_
      refine fx_getr 0 0 (1) dDK_term_1 fDK_10 rfl rfl ?_
      refine sd_iload_n dDK_term_4 rfl rfl ?_
      refine fx_cV 8 sR_TS [.int (x)] [] dDK_term_5 kDK_101 rfl rfl mTS_has_v (c_TS_has (b := 0) (by omega) hT.2.1 (by omega) (by constructor; intro e; cases e; intro e; exact absurd e h1)) (by decide) (Nat.le_refl _) (Nat.le_refl _) (Nat.le_of_ble_eq_true rfl) rfl ?_
      refine nn_if_ne 13 dDK_term_8 (by decide) (by decide) (fun c => absurd c (by decide)) (fun _ => ?_)
      refine sd_iconst (v := (-1)) dDK_term_11 (by decide) ?_
      exact sd_iret dDK_term_12 rfl (Nat.le_refl _) (Nat.le_refl _) ⟨rfl, rfl, rfl⟩
  · obtain ⟨hl, hst, hwf⟩ := hT.2.2 t l ht
    have l24 := hl.1
    have htl := getE_lt ht
    have hp := hwf.pos
    have h1 : nn_lt (nI t) (st_T S).length := ⟨t, htl, rfl⟩
    have hx := tl_at_some (l := l) (i := 0) hp
    obtain ⟨q1, q2, q3, q4⟩ := hl.2.2 0 _ hx
    have hhd : (l.map (·.2)).headD 0 = (tl_at l 0).2 := by
      cases l with
      | nil => simp at hp
      | cons p r =>
        rw [List.getElem?_cons_zero] at hx
        rw [← Option.some.inj hx]
        rfl
    have hsl := tl_set_lt l
    have hdl := tl_deep_le l l.length
    rcases (show w = 0 ∨ w = 1 ∨ w = 2 ∨ w = 3 by omega) with rfl | rfl | rfl | rfl
    · obtain rfl : a = nI l.length := hv
      refine sd_aload_n dDK_term_0 rfl rfl ?_
      refine fx_getr 0 0 (1) dDK_term_1 fDK_10 rfl rfl ?_
      refine sd_iload_n dDK_term_4 rfl rfl ?_
      refine fx_cV 8 sR_TS [.int (nI (t))] [] dDK_term_5 kDK_101 rfl rfl mTS_has_v (c_TS_has (b := 1) (by omega) hT.2.1 (by omega) (by simp only [true_iff]; exact h1)) (by decide) (Nat.le_refl _) (Nat.le_refl _) (Nat.le_of_ble_eq_true rfl) rfl ?_
      refine nn_if_ne 13 dDK_term_8 (by decide) (by decide) (fun _ => ?_) (fun c => absurd c (by decide))
      refine sd_aload_n dDK_term_13 rfl rfl ?_
      refine fx_getr 0 0 (1) dDK_term_14 fDK_10 rfl rfl ?_
      refine fx_getr 8 1 (3) dDK_term_17 fDK_104 rfl rfl ?_
      refine sd_iload_n dDK_term_20 rfl rfl ?_
      refine fx_aald (t) dDK_term_21 rfl rfl rfl (by omega) (by decide) ?_
      refine sd_astore_n dDK_term_22 rfl (by decide) ?_
      refine sd_iload_n dDK_term_23 rfl rfl ?_
      refine sd_tableIn (off := 32) 56 dDK_term_24 (by decide) (by decide) (by decide) (by decide) ?_
      refine sd_aload_n dDK_term_56 rfl rfl ?_
      refine fx_getiv (v := (nI (l.length))) 7 3 dDK_term_57 fDK_108 (dk_tm (by omega)) rfl (hl.2.1) ?_
      exact sd_iret dDK_term_60 rfl (Nat.le_refl _) (Nat.le_refl _) ⟨rfl, rfl, rfl⟩
    · obtain rfl : a = nI (tl_at l 0).2 := by rw [← hhd]; exact hv
      refine sd_aload_n dDK_term_0 rfl rfl ?_
      refine fx_getr 0 0 (1) dDK_term_1 fDK_10 rfl rfl ?_
      refine sd_iload_n dDK_term_4 rfl rfl ?_
      refine fx_cV 8 sR_TS [.int (nI (t))] [] dDK_term_5 kDK_101 rfl rfl mTS_has_v (c_TS_has (b := 1) (by omega) hT.2.1 (by omega) (by simp only [true_iff]; exact h1)) (by decide) (Nat.le_refl _) (Nat.le_refl _) (Nat.le_of_ble_eq_true rfl) rfl ?_
      refine nn_if_ne 13 dDK_term_8 (by decide) (by decide) (fun _ => ?_) (fun c => absurd c (by decide))
      refine sd_aload_n dDK_term_13 rfl rfl ?_
      refine fx_getr 0 0 (1) dDK_term_14 fDK_10 rfl rfl ?_
      refine fx_getr 8 1 (3) dDK_term_17 fDK_104 rfl rfl ?_
      refine sd_iload_n dDK_term_20 rfl rfl ?_
      refine fx_aald (t) dDK_term_21 rfl rfl rfl (by omega) (by decide) ?_
      refine sd_astore_n dDK_term_22 rfl (by decide) ?_
      refine sd_iload_n dDK_term_23 rfl rfl ?_
      refine sd_tableIn (off := 37) 61 dDK_term_24 (by decide) (by decide) (by decide) (by decide) ?_
      refine sd_aload_n dDK_term_61 rfl rfl ?_
      refine fx_getr 7 1 (tmo ((t) + 1) + 2) dDK_term_62 fDK_111 (dk_tm (by omega)) rfl ?_
      refine sd_iconst (v := nI 0) dDK_term_65 (by decide) ?_
      refine fx_ialdv (v := (nI ((tl_at l 0).2))) (0) dDK_term_66 (dk_tm2 (by omega)) rfl (by omega) (by decide) (q2) ?_
      exact sd_iret dDK_term_67 rfl (Nat.le_refl _) (Nat.le_refl _) ⟨rfl, rfl, rfl⟩
    · obtain rfl : a = nI (tl_set l) := hv
      refine sd_aload_n dDK_term_0 rfl rfl ?_
      refine fx_getr 0 0 (1) dDK_term_1 fDK_10 rfl rfl ?_
      refine sd_iload_n dDK_term_4 rfl rfl ?_
      refine fx_cV 8 sR_TS [.int (nI (t))] [] dDK_term_5 kDK_101 rfl rfl mTS_has_v (c_TS_has (b := 1) (by omega) hT.2.1 (by omega) (by simp only [true_iff]; exact h1)) (by decide) (Nat.le_refl _) (Nat.le_refl _) (Nat.le_of_ble_eq_true rfl) rfl ?_
      refine nn_if_ne 13 dDK_term_8 (by decide) (by decide) (fun _ => ?_) (fun c => absurd c (by decide))
      refine sd_aload_n dDK_term_13 rfl rfl ?_
      refine fx_getr 0 0 (1) dDK_term_14 fDK_10 rfl rfl ?_
      refine fx_getr 8 1 (3) dDK_term_17 fDK_104 rfl rfl ?_
      refine sd_iload_n dDK_term_20 rfl rfl ?_
      refine fx_aald (t) dDK_term_21 rfl rfl rfl (by omega) (by decide) ?_
      refine sd_astore_n dDK_term_22 rfl (by decide) ?_
      refine sd_iload_n dDK_term_23 rfl rfl ?_
      refine sd_tableIn (off := 44) 68 dDK_term_24 (by decide) (by decide) (by decide) (by decide) ?_
      refine sd_aload_n dDK_term_68 rfl rfl ?_
      refine fx_cV 7 sR_TM [] [] dDK_term_69 kDK_114 rfl (dk_tm (by omega)) mTM_names_v (c_TM_names (by omega) hl) (by decide) (Nat.le_refl _) (Nat.le_refl _) (Nat.le_of_ble_eq_true rfl) rfl ?_
      exact sd_iret dDK_term_72 rfl (Nat.le_refl _) (Nat.le_refl _) ⟨rfl, rfl, rfl⟩
    · obtain rfl : a = nI (tl_deep l l.length) := hv
      refine sd_aload_n dDK_term_0 rfl rfl ?_
      refine fx_getr 0 0 (1) dDK_term_1 fDK_10 rfl rfl ?_
      refine sd_iload_n dDK_term_4 rfl rfl ?_
      refine fx_cV 8 sR_TS [.int (nI (t))] [] dDK_term_5 kDK_101 rfl rfl mTS_has_v (c_TS_has (b := 1) (by omega) hT.2.1 (by omega) (by simp only [true_iff]; exact h1)) (by decide) (Nat.le_refl _) (Nat.le_refl _) (Nat.le_of_ble_eq_true rfl) rfl ?_
      refine nn_if_ne 13 dDK_term_8 (by decide) (by decide) (fun _ => ?_) (fun c => absurd c (by decide))
      refine sd_aload_n dDK_term_13 rfl rfl ?_
      refine fx_getr 0 0 (1) dDK_term_14 fDK_10 rfl rfl ?_
      refine fx_getr 8 1 (3) dDK_term_17 fDK_104 rfl rfl ?_
      refine sd_iload_n dDK_term_20 rfl rfl ?_
      refine fx_aald (t) dDK_term_21 rfl rfl rfl (by omega) (by decide) ?_
      refine sd_astore_n dDK_term_22 rfl (by decide) ?_
      refine sd_iload_n dDK_term_23 rfl rfl ?_
      refine sd_tableIn (off := 49) 73 dDK_term_24 (by decide) (by decide) (by decide) (by decide) ?_
      refine sd_aload_n dDK_term_73 rfl rfl ?_
      refine fx_cV 7 sR_TM [] [] dDK_term_74 kDK_117 rfl (dk_tm (by omega)) mTM_deepness_v (c_TM_deepness (by omega) hl hst) (by decide) (Nat.le_refl _) (Nat.le_refl _) (Nat.le_of_ble_eq_true rfl) rfl ?_
      exact sd_iret dDK_term_77 rfl (Nat.le_refl _) (Nat.le_refl _) ⟨rfl, rfl, rfl⟩
