/-! ===== the class's own: declare, count, hypothesis ===== -/
theorem dk_R_nt {S : st_S} {D D' : fx_D} {nt : Nat → Nat} (hR : dk_R S D) (a : ∀ x, x ≠ 2 → ag D D' x) (h : dk_nt D' nt) : dk_R (nt, S.2) D' := by
  obtain ⟨r1, r2, r3, r4, r5, r6, r7⟩ := hR
  exact ⟨h, dk_tms_ag (a 1 (by omega)) (fun x _ _ => a x (by omega)) r2, dd_R_ag (a 296 (by omega)) (a 297 (by omega)) r3, dk_thm_ag (a 307 (by omega)) (fun x _ _ => a x (by omega)) r4, dk_glL_ag (a 432 (by omega)) (fun x _ _ => a x (by omega)) r5, dk_opn_ag (a 432 (by omega)) (a 434 (by omega)) r6, dk_tkn_ag (a 432 (by omega)) (a 435 (by omega)) r7⟩
theorem dDK_declare_0 : decode prog_1_method_3_code 0 = .ok (.iload_n 1, 1) := by decide +kernel
theorem dDK_declare_1 : decode prog_1_method_3_code 1 = .ok (.invokestatic 58, 3) := by decide +kernel
theorem dDK_declare_4 : decode prog_1_method_3_code 4 = .ok (.ifCond .eq (10), 3) := by decide +kernel
theorem dDK_declare_7 : decode prog_1_method_3_code 7 = .ok (.iload_n 2, 1) := by decide +kernel
theorem dDK_declare_8 : decode prog_1_method_3_code 8 = .ok (.invokestatic 48, 3) := by decide +kernel
theorem dDK_declare_11 : decode prog_1_method_3_code 11 = .ok (.ifCond .ne (5), 3) := by decide +kernel
theorem dDK_declare_14 : decode prog_1_method_3_code 14 = .ok (.iconst (-1), 1) := by decide +kernel
theorem dDK_declare_15 : decode prog_1_method_3_code 15 = .ok (.ireturn, 1) := by decide +kernel
theorem dDK_declare_16 : decode prog_1_method_3_code 16 = .ok (.aload_n 0, 1) := by decide +kernel
theorem dDK_declare_17 : decode prog_1_method_3_code 17 = .ok (.getfield 10, 3) := by decide +kernel
theorem dDK_declare_20 : decode prog_1_method_3_code 20 = .ok (.getfield 61, 3) := by decide +kernel
theorem dDK_declare_23 : decode prog_1_method_3_code 23 = .ok (.ifCond .le (6), 3) := by decide +kernel
theorem dDK_declare_26 : decode prog_1_method_3_code 26 = .ok (.bipush (-7), 2) := by decide +kernel
theorem dDK_declare_28 : decode prog_1_method_3_code 28 = .ok (.ireturn, 1) := by decide +kernel
theorem dDK_declare_29 : decode prog_1_method_3_code 29 = .ok (.aload_n 0, 1) := by decide +kernel
theorem dDK_declare_30 : decode prog_1_method_3_code 30 = .ok (.getfield 10, 3) := by decide +kernel
theorem dDK_declare_33 : decode prog_1_method_3_code 33 = .ok (.getfield 65, 3) := by decide +kernel
theorem dDK_declare_36 : decode prog_1_method_3_code 36 = .ok (.iload_n 1, 1) := by decide +kernel
theorem dDK_declare_37 : decode prog_1_method_3_code 37 = .ok (.iaload, 1) := by decide +kernel
theorem dDK_declare_38 : decode prog_1_method_3_code 38 = .ok (.istore_n 3, 1) := by decide +kernel
theorem dDK_declare_39 : decode prog_1_method_3_code 39 = .ok (.aload_n 0, 1) := by decide +kernel
theorem dDK_declare_40 : decode prog_1_method_3_code 40 = .ok (.getfield 10, 3) := by decide +kernel
theorem dDK_declare_43 : decode prog_1_method_3_code 43 = .ok (.getfield 65, 3) := by decide +kernel
theorem dDK_declare_46 : decode prog_1_method_3_code 46 = .ok (.iload_n 1, 1) := by decide +kernel
theorem dDK_declare_47 : decode prog_1_method_3_code 47 = .ok (.iload_n 2, 1) := by decide +kernel
theorem dDK_declare_48 : decode prog_1_method_3_code 48 = .ok (.iastore, 1) := by decide +kernel
theorem dDK_declare_49 : decode prog_1_method_3_code 49 = .ok (.iload_n 3, 1) := by decide +kernel
theorem dDK_declare_50 : decode prog_1_method_3_code 50 = .ok (.ireturn, 1) := by decide +kernel
theorem c_DK_declare {G : sd_G} {o : Nat} {D : fx_D} {h0 : sd_H} {nx : Nat} {S S' : st_S} {x y a : Int32} (hB : G.2.1 ≤ o) (hR : dk_R S D) (hs : sp_declare S x y a S') : sd_Ct G mDK_declare 2 0 0 [.ref (o + 0), .int x, .int y] (fx_h G.1.2 dk_S o D h0) nx (fx_is G.1.2 dk_S o h0 nx (some (.int a)) (dk_R S')) := by
  refine sd_Ct_of (by decide) (Nat.le_of_ble_eq_true rfl) ?_
  have hT := hR.2.1.2
  have h64 := hR.2.1.1
  rcases hs with ⟨hn, rfl, hS⟩ | ⟨h1, h2, h3, rfl, hS⟩ | ⟨v, t, hv, rfl, rfl, ht, hE, rfl, rfl⟩
  · rw [hS]
    by_cases h1 : nn_lt x 8
    · have h2 : ¬ ty_is y := fun q => hn ⟨h1, q⟩
      refine sd_iload_n dDK_declare_0 rfl rfl ?_
      refine sd_cS [.int (x)] [] dDK_declare_1 kDK_58 mDK_isName_s (c_DK_isName (b := 1) (by omega) (by simp [h1])) (by decide) (Nat.le_refl _) (Nat.le_refl _) (Nat.le_of_ble_eq_true rfl) rfl ?_
      refine nn_if_eq 14 dDK_declare_4 (by decide) (by decide) (fun c => absurd c (by decide)) (fun _ => ?_)
      refine sd_iload_n dDK_declare_7 rfl rfl ?_
      refine sd_cS [.int (y)] [] dDK_declare_8 kDK_48 mTY_isType_s (c_TY_isType (b := 0) (by omega) (by simp [h2])) (by decide) (Nat.le_refl _) (Nat.le_refl _) (Nat.le_of_ble_eq_true rfl) rfl ?_
      refine nn_if_ne 16 dDK_declare_11 (by decide) (by decide) (fun c => absurd c (by decide)) (fun _ => ?_)
      refine sd_iconst (v := (-1)) dDK_declare_14 (by decide) ?_
      exact sd_iret dDK_declare_15 rfl (Nat.le_refl _) (Nat.le_refl _) ⟨rfl, rfl, D, rfl, hR⟩
    ·
      refine sd_iload_n dDK_declare_0 rfl rfl ?_
      refine sd_cS [.int (x)] [] dDK_declare_1 kDK_58 mDK_isName_s (c_DK_isName (b := 0) (by omega) (by simp [h1])) (by decide) (Nat.le_refl _) (Nat.le_refl _) (Nat.le_of_ble_eq_true rfl) rfl ?_
      refine nn_if_eq 14 dDK_declare_4 (by decide) (by decide) (fun _ => ?_) (fun c => absurd c (by decide))
      refine sd_iconst (v := (-1)) dDK_declare_14 (by decide) ?_
      exact sd_iret dDK_declare_15 rfl (Nat.le_refl _) (Nat.le_refl _) ⟨rfl, rfl, D, rfl, hR⟩
  · rw [hS]
    have hne : 0 < (st_T S).length := by
      cases hx : st_T S with
      | nil => exact absurd hx h3
      | cons q r => simp
    refine sd_iload_n dDK_declare_0 rfl rfl ?_
    refine sd_cS [.int (x)] [] dDK_declare_1 kDK_58 mDK_isName_s (c_DK_isName (b := 1) (by omega) (by simp [h1])) (by decide) (Nat.le_refl _) (Nat.le_refl _) (Nat.le_of_ble_eq_true rfl) rfl ?_
    refine nn_if_eq 14 dDK_declare_4 (by decide) (by decide) (fun c => absurd c (by decide)) (fun _ => ?_)
    refine sd_iload_n dDK_declare_7 rfl rfl ?_
    refine sd_cS [.int (y)] [] dDK_declare_8 kDK_48 mTY_isType_s (c_TY_isType (b := 1) (by omega) (by simp [h2])) (by decide) (Nat.le_refl _) (Nat.le_refl _) (Nat.le_of_ble_eq_true rfl) rfl ?_
    refine nn_if_ne 16 dDK_declare_11 (by decide) (by decide) (fun _ => ?_) (fun c => absurd c (by decide))
    refine sd_aload_n dDK_declare_16 rfl rfl ?_
    refine fx_getr 0 0 (1) dDK_declare_17 fDK_10 rfl rfl ?_
    refine fx_getiv (v := (nI ((st_T S).length))) 8 2 dDK_declare_20 fDK_61 rfl rfl (hT.2.1) ?_
    refine nn_if_le 29 dDK_declare_23 (by decide) (by omega) (fun c23 => ?_) (fun c23 => ?_)
    ·
      exact absurd c23 (by omega)
    ·
      refine sd_bipush (v := (-7)) dDK_declare_26 (by decide) ?_
      exact sd_iret dDK_declare_28 rfl (Nat.le_refl _) (Nat.le_refl _) ⟨rfl, rfl, D, rfl, hR⟩
  · have h1 : nn_lt (nI v) 8 := ⟨v, hv, rfl⟩
    have hl : (st_T S).length = 0 := by rw [hE]; rfl
    have t25 := ht.1
    have hnt : dk_nt (fx_ua D 2 v (nI t)) (fun w => if w = v then t else st_nt S w) := fun w hw => by
      by_cases e : w = v
      · subst e
        simpa [fx_ua, upd] using ht
      · simpa [fx_ua, upd, e] using hR.1 w hw
    have hq := dk_R_nt hR (fun x hx => ag_ua hx) hnt
    refine sd_iload_n dDK_declare_0 rfl rfl ?_
    refine sd_cS [.int (nI (v))] [] dDK_declare_1 kDK_58 mDK_isName_s (c_DK_isName (b := 1) (by omega) (by simp [h1])) (by decide) (Nat.le_refl _) (Nat.le_refl _) (Nat.le_of_ble_eq_true rfl) rfl ?_
    refine nn_if_eq 14 dDK_declare_4 (by decide) (by decide) (fun c => absurd c (by decide)) (fun _ => ?_)
    refine sd_iload_n dDK_declare_7 rfl rfl ?_
    refine sd_cS [.int (nI (t))] [] dDK_declare_8 kDK_48 mTY_isType_s (c_TY_isType (b := 1) (by omega) (by simp [ty_is_ok ht])) (by decide) (Nat.le_refl _) (Nat.le_refl _) (Nat.le_of_ble_eq_true rfl) rfl ?_
    refine nn_if_ne 16 dDK_declare_11 (by decide) (by decide) (fun _ => ?_) (fun c => absurd c (by decide))
    refine sd_aload_n dDK_declare_16 rfl rfl ?_
    refine fx_getr 0 0 (1) dDK_declare_17 fDK_10 rfl rfl ?_
    refine fx_getiv (v := (nI ((st_T S).length))) 8 2 dDK_declare_20 fDK_61 rfl rfl (hT.2.1) ?_
    refine nn_if_le 29 dDK_declare_23 (by decide) (by omega) (fun c23 => ?_) (fun c23 => ?_)
    ·
      refine sd_aload_n dDK_declare_29 rfl rfl ?_
      refine fx_getr 0 0 (1) dDK_declare_30 fDK_10 rfl rfl ?_
      refine fx_getr 8 0 (2) dDK_declare_33 fDK_65 rfl rfl ?_
      refine sd_iload_n dDK_declare_36 rfl rfl ?_
      refine fx_ialdv (v := (nI (st_nt S v))) (v) dDK_declare_37 rfl rfl (by omega) (by decide) ((hR.1 v hv).1) ?_
      refine sd_istore_n dDK_declare_38 rfl (by decide) ?_
      refine sd_aload_n dDK_declare_39 rfl rfl ?_
      refine fx_getr 0 0 (1) dDK_declare_40 fDK_10 rfl rfl ?_
      refine fx_getr 8 0 (2) dDK_declare_43 fDK_65 rfl rfl ?_
      refine sd_iload_n dDK_declare_46 rfl rfl ?_
      refine sd_iload_n dDK_declare_47 rfl rfl ?_
      refine fx_iast (v) dDK_declare_48 rfl rfl (by omega) (by decide) hB ?_
      refine sd_iload_n dDK_declare_49 rfl rfl ?_
      exact sd_iret dDK_declare_50 rfl (Nat.le_refl _) (Nat.le_refl _) ⟨rfl, rfl, _, rfl, hq⟩
    ·
      exact absurd c23 (by omega)
theorem dDK_count_0 : decode prog_1_method_19_code 0 = .ok (.iload_n 1, 1) := by decide +kernel
theorem dDK_count_1 : decode prog_1_method_19_code 1 = .ok (.tableswitch (75) (0) (4) #[35, 43, 51, 59, 67], 35) := by decide +kernel
theorem dDK_count_36 : decode prog_1_method_19_code 36 = .ok (.aload_n 0, 1) := by decide +kernel
theorem dDK_count_37 : decode prog_1_method_19_code 37 = .ok (.getfield 10, 3) := by decide +kernel
theorem dDK_count_40 : decode prog_1_method_19_code 40 = .ok (.getfield 61, 3) := by decide +kernel
theorem dDK_count_43 : decode prog_1_method_19_code 43 = .ok (.ireturn, 1) := by decide +kernel
theorem dDK_count_44 : decode prog_1_method_19_code 44 = .ok (.aload_n 0, 1) := by decide +kernel
theorem dDK_count_45 : decode prog_1_method_19_code 45 = .ok (.getfield 35, 3) := by decide +kernel
theorem dDK_count_48 : decode prog_1_method_19_code 48 = .ok (.getfield 201, 3) := by decide +kernel
theorem dDK_count_51 : decode prog_1_method_19_code 51 = .ok (.ireturn, 1) := by decide +kernel
theorem dDK_count_52 : decode prog_1_method_19_code 52 = .ok (.aload_n 0, 1) := by decide +kernel
theorem dDK_count_53 : decode prog_1_method_19_code 53 = .ok (.getfield 44, 3) := by decide +kernel
theorem dDK_count_56 : decode prog_1_method_19_code 56 = .ok (.getfield 202, 3) := by decide +kernel
theorem dDK_count_59 : decode prog_1_method_19_code 59 = .ok (.ireturn, 1) := by decide +kernel
theorem dDK_count_60 : decode prog_1_method_19_code 60 = .ok (.aload_n 0, 1) := by decide +kernel
theorem dDK_count_61 : decode prog_1_method_19_code 61 = .ok (.getfield 44, 3) := by decide +kernel
theorem dDK_count_64 : decode prog_1_method_19_code 64 = .ok (.getfield 171, 3) := by decide +kernel
theorem dDK_count_67 : decode prog_1_method_19_code 67 = .ok (.ireturn, 1) := by decide +kernel
theorem dDK_count_68 : decode prog_1_method_19_code 68 = .ok (.aload_n 0, 1) := by decide +kernel
theorem dDK_count_69 : decode prog_1_method_19_code 69 = .ok (.getfield 19, 3) := by decide +kernel
theorem dDK_count_72 : decode prog_1_method_19_code 72 = .ok (.getfield 69, 3) := by decide +kernel
theorem dDK_count_75 : decode prog_1_method_19_code 75 = .ok (.ireturn, 1) := by decide +kernel
theorem dDK_count_76 : decode prog_1_method_19_code 76 = .ok (.iconst (-1), 1) := by decide +kernel
theorem dDK_count_77 : decode prog_1_method_19_code 77 = .ok (.ireturn, 1) := by decide +kernel
theorem c_DK_count {G : sd_G} {o : Nat} {D : fx_D} {h0 : sd_H} {nx : Nat} {S : st_S} {x a : Int32} (hR : dk_R S D) (hs : sp_count S x a) : sd_Ct G mDK_count 0 0 0 [.ref (o + 0), .int x] (fx_h G.1.2 dk_S o D h0) nx (sd_is (some (.int a)) (fx_h G.1.2 dk_S o D h0) nx) := by
  refine sd_Ct_of (by decide) (Nat.le_of_ble_eq_true rfl) ?_
  obtain ⟨r1, r2, r3, r4, r5, r6, r7⟩ := hR
  rcases hs with ⟨hn, rfl⟩ | ⟨w, hw, rfl, rfl⟩
  ·
    refine sd_iload_n dDK_count_0 rfl rfl ?_
    refine sd_tableOut 76 dDK_count_1 (nn_tab hn) (by decide) ?_
    refine sd_iconst (v := (-1)) dDK_count_76 (by decide) ?_
    exact sd_iret dDK_count_77 rfl (Nat.le_refl _) (Nat.le_refl _) ⟨rfl, rfl, rfl⟩
  · match w, hw with
    | 0, _ =>
      refine sd_iload_n dDK_count_0 rfl rfl ?_
      refine sd_tableIn (off := 35) 36 dDK_count_1 (by decide) (by decide) (by decide) (by decide) ?_
      refine sd_aload_n dDK_count_36 rfl rfl ?_
      refine fx_getr 0 0 (1) dDK_count_37 fDK_10 rfl rfl ?_
      refine fx_getiv (v := (nI ((st_T S).length))) 8 2 dDK_count_40 fDK_61 rfl rfl (r2.2.2.1) ?_
      exact sd_iret dDK_count_43 rfl (Nat.le_refl _) (Nat.le_refl _) ⟨rfl, rfl, rfl⟩
    | 1, _ =>
      refine sd_iload_n dDK_count_0 rfl rfl ?_
      refine sd_tableIn (off := 43) 44 dDK_count_1 (by decide) (by decide) (by decide) (by decide) ?_
      refine sd_aload_n dDK_count_44 rfl rfl ?_
      refine fx_getr 0 3 (307) dDK_count_45 fDK_35 rfl rfl ?_
      refine fx_getiv (v := (nI ((st_th S).length))) 5 2 dDK_count_48 fDK_201 rfl rfl (r4.2.1) ?_
      exact sd_iret dDK_count_51 rfl (Nat.le_refl _) (Nat.le_refl _) ⟨rfl, rfl, rfl⟩
    | 2, _ =>
      refine sd_iload_n dDK_count_0 rfl rfl ?_
      refine sd_tableIn (off := 51) 52 dDK_count_1 (by decide) (by decide) (by decide) (by decide) ?_
      refine sd_aload_n dDK_count_52 rfl rfl ?_
      refine fx_getr 0 4 (432) dDK_count_53 fDK_44 rfl rfl ?_
      refine fx_getiv (v := (nI ((st_gl S).length))) 3 3 dDK_count_56 fDK_202 rfl rfl (r5.2.1) ?_
      exact sd_iret dDK_count_59 rfl (Nat.le_refl _) (Nat.le_refl _) ⟨rfl, rfl, rfl⟩
    | 3, _ =>
      refine sd_iload_n dDK_count_0 rfl rfl ?_
      refine sd_tableIn (off := 59) 60 dDK_count_1 (by decide) (by decide) (by decide) (by decide) ?_
      refine sd_aload_n dDK_count_60 rfl rfl ?_
      refine fx_getr 0 4 (432) dDK_count_61 fDK_44 rfl rfl ?_
      refine fx_getiv (v := (nI ((st_op S).length))) 3 5 dDK_count_64 fDK_171 rfl rfl (r6.2.1) ?_
      exact sd_iret dDK_count_67 rfl (Nat.le_refl _) (Nat.le_refl _) ⟨rfl, rfl, rfl⟩
    | 4, _ =>
      refine sd_iload_n dDK_count_0 rfl rfl ?_
      refine sd_tableIn (off := 67) 68 dDK_count_1 (by decide) (by decide) (by decide) (by decide) ?_
      refine sd_aload_n dDK_count_68 rfl rfl ?_
      refine fx_getr 0 1 (296) dDK_count_69 fDK_19 rfl rfl ?_
      refine fx_getiv (v := (nI ((st_dr S).length))) 1 2 dDK_count_72 fDK_69 rfl rfl (r3.2.1) ?_
      exact sd_iret dDK_count_75 rfl (Nat.le_refl _) (Nat.le_refl _) ⟨rfl, rfl, rfl⟩
theorem dRU_has_0 : decode prog_6_method_2_code 0 = .ok (.iload_n 1, 1) := by decide +kernel
theorem dRU_has_1 : decode prog_6_method_2_code 1 = .ok (.ifCond .lt (15), 3) := by decide +kernel
theorem dRU_has_4 : decode prog_6_method_2_code 4 = .ok (.iload_n 1, 1) := by decide +kernel
theorem dRU_has_5 : decode prog_6_method_2_code 5 = .ok (.aload_n 0, 1) := by decide +kernel
theorem dRU_has_6 : decode prog_6_method_2_code 6 = .ok (.getfield 22, 3) := by decide +kernel
theorem dRU_has_9 : decode prog_6_method_2_code 9 = .ok (.if_icmp .ge (7), 3) := by decide +kernel
theorem dRU_has_12 : decode prog_6_method_2_code 12 = .ok (.iconst 1, 1) := by decide +kernel
theorem dRU_has_13 : decode prog_6_method_2_code 13 = .ok (.goto (4), 3) := by decide +kernel
theorem dRU_has_16 : decode prog_6_method_2_code 16 = .ok (.iconst 0, 1) := by decide +kernel
theorem dRU_has_17 : decode prog_6_method_2_code 17 = .ok (.ireturn, 1) := by decide +kernel
theorem c_RU_has {G : sd_G} {o : Nat} {D : fx_D} {h0 : sd_H} {nx n b : Nat} {x : Int32} (hn : n ≤ 100) (hl : D.2.1 307 2 = nI n) (hb2 : b < 2) (hb : b = 1 ↔ nn_lt x n) : sd_Ct G mRU_has 0 0 0 [.ref (o + 307), .int x] (fx_h G.1.2 dk_S o D h0) nx (sd_is (some (.int (nI b))) (fx_h G.1.2 dk_S o D h0) nx) := by
  refine sd_Ct_of (by decide) (Nat.le_of_ble_eq_true rfl) ?_
  by_cases h0' : x < 0
  · obtain rfl : b = 0 := by
      have : ¬ b = 1 := fun e => by
        obtain ⟨t, ht, rfl⟩ := hb.mp e
        exact nI_pos (by omega) h0'
      omega
    refine sd_iload_n dRU_has_0 rfl rfl ?_
    refine sd_if_lt 16 dRU_has_1 (by decide) (fun c1 => ?_) (fun c1 => ?_)
    ·
      refine sd_iconst (v := nI 0) dRU_has_16 (by decide) ?_
      exact sd_zret dRU_has_17 rfl (Or.inl rfl) (Nat.le_refl _) (Nat.le_refl _) ⟨rfl, rfl, rfl⟩
    ·
      exact absurd h0' c1
  · obtain ⟨t, ht, rfl⟩ := nI_of h0'
    have hb' : b = 1 ↔ t < n := hb.trans ⟨fun ⟨t', h1, h2⟩ => by
      have := nI_inj ht (by omega) h2
      omega, fun h => ⟨t, h, rfl⟩⟩
    refine sd_iload_n dRU_has_0 rfl rfl ?_
    refine nn_if_lt dRU_has_1 16 (by decide) (by omega) ?_
    refine sd_iload_n dRU_has_4 rfl rfl ?_
    refine sd_aload_n dRU_has_5 rfl rfl ?_
    refine fx_getiv (v := (nI (n))) 5 2 dRU_has_6 fRU_22 rfl rfl (hl) ?_
    refine nn_icmp_ge 16 dRU_has_9 (by decide) (by omega) (by omega) (fun c9 => ?_) (fun c9 => ?_)
    ·
      refine sd_iconst (v := nI 0) dRU_has_16 (by decide) ?_
      exact sd_zret dRU_has_17 rfl (nn_01 (by omega)) (Nat.le_refl _) (Nat.le_refl _) ⟨by rw [show b = (0) by omega], rfl, rfl⟩
    ·
      refine sd_iconst (v := nI 1) dRU_has_12 (by decide) ?_
      refine sd_goto 17 dRU_has_13 (by decide) ?_
      exact sd_zret dRU_has_17 rfl (nn_01 (by omega)) (Nat.le_refl _) (Nat.le_refl _) ⟨by rw [show b = (1) by omega], rfl, rfl⟩
