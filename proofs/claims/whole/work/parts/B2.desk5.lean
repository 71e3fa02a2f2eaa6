/-! ===== the class's own: symbol ===== -/
theorem lk_sym {z : Int32} {d : Int} (h : ¬ nn_lt z 2) : Op.lookupswitch.offset [(0, 26), (1, 41)] d z.toInt = d := by
  rcases nn_tab (n := 1) h with q | q
  · rw [Op.lookupswitch.offset_cons, if_neg (by omega), Op.lookupswitch.offset_cons, if_neg (by omega)]
    rfl
  · rw [Op.lookupswitch.offset_cons, if_neg (by omega), Op.lookupswitch.offset_cons, if_neg (by omega)]
    rfl
theorem dDK_symbol_0 : decode prog_1_method_8_code 0 = .ok (.aload_n 0, 1) := by decide +kernel
theorem dDK_symbol_1 : decode prog_1_method_8_code 1 = .ok (.getfield 10, 3) := by decide +kernel
theorem dDK_symbol_4 : decode prog_1_method_8_code 4 = .ok (.iload_n 1, 1) := by decide +kernel
theorem dDK_symbol_5 : decode prog_1_method_8_code 5 = .ok (.invokevirtual 101, 3) := by decide +kernel
theorem dDK_symbol_8 : decode prog_1_method_8_code 8 = .ok (.ifCond .eq (23), 3) := by decide +kernel
theorem dDK_symbol_11 : decode prog_1_method_8_code 11 = .ok (.iload_n 2, 1) := by decide +kernel
theorem dDK_symbol_12 : decode prog_1_method_8_code 12 = .ok (.ifCond .lt (19), 3) := by decide +kernel
theorem dDK_symbol_15 : decode prog_1_method_8_code 15 = .ok (.iload_n 2, 1) := by decide +kernel
theorem dDK_symbol_16 : decode prog_1_method_8_code 16 = .ok (.aload_n 0, 1) := by decide +kernel
theorem dDK_symbol_17 : decode prog_1_method_8_code 17 = .ok (.getfield 10, 3) := by decide +kernel
theorem dDK_symbol_20 : decode prog_1_method_8_code 20 = .ok (.getfield 104, 3) := by decide +kernel
theorem dDK_symbol_23 : decode prog_1_method_8_code 23 = .ok (.iload_n 1, 1) := by decide +kernel
theorem dDK_symbol_24 : decode prog_1_method_8_code 24 = .ok (.aaload, 1) := by decide +kernel
theorem dDK_symbol_25 : decode prog_1_method_8_code 25 = .ok (.getfield 108, 3) := by decide +kernel
theorem dDK_symbol_28 : decode prog_1_method_8_code 28 = .ok (.if_icmp .lt (5), 3) := by decide +kernel
theorem dDK_symbol_31 : decode prog_1_method_8_code 31 = .ok (.iconst (-1), 1) := by decide +kernel
theorem dDK_symbol_32 : decode prog_1_method_8_code 32 = .ok (.ireturn, 1) := by decide +kernel
theorem dDK_symbol_33 : decode prog_1_method_8_code 33 = .ok (.iload_n 3, 1) := by decide +kernel
theorem dDK_symbol_34 : decode prog_1_method_8_code 34 = .ok (.lookupswitch (56) #[(0, 26), (1, 41)], 26) := by decide +kernel
theorem dDK_symbol_60 : decode prog_1_method_8_code 60 = .ok (.aload_n 0, 1) := by decide +kernel
theorem dDK_symbol_61 : decode prog_1_method_8_code 61 = .ok (.getfield 10, 3) := by decide +kernel
theorem dDK_symbol_64 : decode prog_1_method_8_code 64 = .ok (.getfield 104, 3) := by decide +kernel
theorem dDK_symbol_67 : decode prog_1_method_8_code 67 = .ok (.iload_n 1, 1) := by decide +kernel
theorem dDK_symbol_68 : decode prog_1_method_8_code 68 = .ok (.aaload, 1) := by decide +kernel
theorem dDK_symbol_69 : decode prog_1_method_8_code 69 = .ok (.getfield 120, 3) := by decide +kernel
theorem dDK_symbol_72 : decode prog_1_method_8_code 72 = .ok (.iload_n 2, 1) := by decide +kernel
theorem dDK_symbol_73 : decode prog_1_method_8_code 73 = .ok (.iaload, 1) := by decide +kernel
theorem dDK_symbol_74 : decode prog_1_method_8_code 74 = .ok (.ireturn, 1) := by decide +kernel
theorem dDK_symbol_75 : decode prog_1_method_8_code 75 = .ok (.aload_n 0, 1) := by decide +kernel
theorem dDK_symbol_76 : decode prog_1_method_8_code 76 = .ok (.getfield 10, 3) := by decide +kernel
theorem dDK_symbol_79 : decode prog_1_method_8_code 79 = .ok (.getfield 104, 3) := by decide +kernel
theorem dDK_symbol_82 : decode prog_1_method_8_code 82 = .ok (.iload_n 1, 1) := by decide +kernel
theorem dDK_symbol_83 : decode prog_1_method_8_code 83 = .ok (.aaload, 1) := by decide +kernel
theorem dDK_symbol_84 : decode prog_1_method_8_code 84 = .ok (.getfield 111, 3) := by decide +kernel
theorem dDK_symbol_87 : decode prog_1_method_8_code 87 = .ok (.iload_n 2, 1) := by decide +kernel
theorem dDK_symbol_88 : decode prog_1_method_8_code 88 = .ok (.iaload, 1) := by decide +kernel
theorem dDK_symbol_89 : decode prog_1_method_8_code 89 = .ok (.ireturn, 1) := by decide +kernel
theorem dDK_symbol_90 : decode prog_1_method_8_code 90 = .ok (.iconst (-1), 1) := by decide +kernel
theorem dDK_symbol_91 : decode prog_1_method_8_code 91 = .ok (.ireturn, 1) := by decide +kernel
theorem c_DK_symbol {G : sd_G} {o : Nat} {D : fx_D} {h0 : sd_H} {nx : Nat} {S : st_S} {x y z a : Int32} (hT : ts_T D (st_T S)) (hs : sp_symbol S x y z a) : sd_Ct G mDK_symbol 1 0 0 [.ref (o + 0), .int x, .int y, .int z] (fx_h G.1.2 dk_S o D h0) nx (sd_is (some (.int a)) (fx_h G.1.2 dk_S o D h0) nx) := by
  refine sd_Ct_of (by decide) (Nat.le_of_ble_eq_true rfl) ?_
  have h71 := hT.1
  rcases hs with ⟨hn, rfl⟩ | ⟨t, i, w, l, q, rfl, rfl, rfl, hw, ht, hi, rfl⟩
  · by_cases h1 : nn_lt x (st_T S).length
    · have h1' := h1
      obtain ⟨t, l, htl, rfl, ht⟩ := nn_lt_get h1'
      obtain ⟨hl, hst, hwf⟩ := hT.2.2 t l ht
      have l24 := hl.1
      by_cases h2 : y < 0
      ·
        refine sd_aload_n dDK_symbol_0 rfl rfl ?_
        refine fx_getr 0 0 (1) dDK_symbol_1 fDK_10 rfl rfl ?_
        refine sd_iload_n dDK_symbol_4 rfl rfl ?_
        refine fx_cV 8 sR_TS [.int (nI (t))] [] dDK_symbol_5 kDK_101 rfl rfl mTS_has_v (c_TS_has (b := 1) (by omega) hT.2.1 (by omega) (by simp only [true_iff]; exact h1)) (by decide) (Nat.le_refl _) (Nat.le_refl _) (Nat.le_of_ble_eq_true rfl) rfl ?_
        refine nn_if_eq 31 dDK_symbol_8 (by decide) (by decide) (fun c => absurd c (by decide)) (fun _ => ?_)
        refine sd_iload_n dDK_symbol_11 rfl rfl ?_
        refine sd_if_lt 31 dDK_symbol_12 (by decide) (fun c12 => ?_) (fun c12 => ?_)
        ·
          refine sd_iconst (v := (-1)) dDK_symbol_31 (by decide) ?_
          exact sd_iret dDK_symbol_32 rfl (Nat.le_refl _) (Nat.le_refl _) ⟨rfl, rfl, rfl⟩
        ·
          exact absurd h2 c12
      · obtain ⟨i, hi31, rfl⟩ := nI_of h2
        by_cases hil : i < l.length
        · have h3 : ¬ nn_lt z 2 := by
            rintro ⟨w, hw, rfl⟩
            exact hn ⟨t, i, w, l, _, rfl, rfl, rfl, hw, ht, List.getElem?_eq_getElem hil⟩
          refine sd_aload_n dDK_symbol_0 rfl rfl ?_
          refine fx_getr 0 0 (1) dDK_symbol_1 fDK_10 rfl rfl ?_
          refine sd_iload_n dDK_symbol_4 rfl rfl ?_
          refine fx_cV 8 sR_TS [.int (nI (t))] [] dDK_symbol_5 kDK_101 rfl rfl mTS_has_v (c_TS_has (b := 1) (by omega) hT.2.1 (by omega) (by simp only [true_iff]; exact h1)) (by decide) (Nat.le_refl _) (Nat.le_refl _) (Nat.le_of_ble_eq_true rfl) rfl ?_
          refine nn_if_eq 31 dDK_symbol_8 (by decide) (by decide) (fun c => absurd c (by decide)) (fun _ => ?_)
          refine sd_iload_n dDK_symbol_11 rfl rfl ?_
          refine nn_if_lt dDK_symbol_12 31 (by decide) (by omega) ?_
          refine sd_iload_n dDK_symbol_15 rfl rfl ?_
          refine sd_aload_n dDK_symbol_16 rfl rfl ?_
          refine fx_getr 0 0 (1) dDK_symbol_17 fDK_10 rfl rfl ?_
          refine fx_getr 8 1 (3) dDK_symbol_20 fDK_104 rfl rfl ?_
          refine sd_iload_n dDK_symbol_23 rfl rfl ?_
          refine fx_aald (t) dDK_symbol_24 rfl rfl rfl (by omega) (by decide) ?_
          refine fx_getiv (v := (nI (l.length))) 7 3 dDK_symbol_25 fDK_108 (dk_tm (by omega)) rfl (hl.2.1) ?_
          refine nn_icmp_lt 33 dDK_symbol_28 (by decide) (by omega) (by omega) (fun c28 => ?_) (fun c28 => ?_)
          ·
            refine sd_iload_n dDK_symbol_33 rfl rfl ?_
            refine sd_lookup 90 dDK_symbol_34 (by decide) (lk_sym h3) (by decide) ?_
            refine sd_iconst (v := (-1)) dDK_symbol_90 (by decide) ?_
            exact sd_iret dDK_symbol_91 rfl (Nat.le_refl _) (Nat.le_refl _) ⟨rfl, rfl, rfl⟩
          ·
            exact absurd c28 (by omega)
        ·
          refine sd_aload_n dDK_symbol_0 rfl rfl ?_
          refine fx_getr 0 0 (1) dDK_symbol_1 fDK_10 rfl rfl ?_
          refine sd_iload_n dDK_symbol_4 rfl rfl ?_
          refine fx_cV 8 sR_TS [.int (nI (t))] [] dDK_symbol_5 kDK_101 rfl rfl mTS_has_v (c_TS_has (b := 1) (by omega) hT.2.1 (by omega) (by simp only [true_iff]; exact h1)) (by decide) (Nat.le_refl _) (Nat.le_refl _) (Nat.le_of_ble_eq_true rfl) rfl ?_
          refine nn_if_eq 31 dDK_symbol_8 (by decide) (by decide) (fun c => absurd c (by decide)) (fun _ => ?_)
          refine sd_iload_n dDK_symbol_11 rfl rfl ?_
          refine nn_if_lt dDK_symbol_12 31 (by decide) (by omega) ?_
          refine sd_iload_n dDK_symbol_15 rfl rfl ?_
          refine sd_aload_n dDK_symbol_16 rfl rfl ?_
          refine fx_getr 0 0 (1) dDK_symbol_17 fDK_10 rfl rfl ?_
          refine fx_getr 8 1 (3) dDK_symbol_20 fDK_104 rfl rfl ?_
          refine sd_iload_n dDK_symbol_23 rfl rfl ?_
          refine fx_aald (t) dDK_symbol_24 rfl rfl rfl (by omega) (by decide) ?_
          refine fx_getiv (v := (nI (l.length))) 7 3 dDK_symbol_25 fDK_108 (dk_tm (by omega)) rfl (hl.2.1) ?_
          refine nn_icmp_lt 33 dDK_symbol_28 (by decide) (by omega) (by omega) (fun c28 => ?_) (fun c28 => ?_)
          ·
            exact absurd c28 hil
          ·
            refine sd_iconst (v := (-1)) dDK_symbol_31 (by decide) ?_
            exact sd_iret dDK_symbol_32 rfl (Nat.le_refl _) (Nat.le_refl _) ⟨rfl, rfl, rfl⟩
    ·
      refine sd_aload_n dDK_symbol_0 rfl rfl ?_
      refine fx_getr 0 0 (1) dDK_symbol_1 fDK_10 rfl rfl ?_
      refine sd_iload_n dDK_symbol_4 rfl rfl ?_
      refine fx_cV 8 sR_TS [.int (x)] [] dDK_symbol_5 kDK_101 rfl rfl mTS_has_v (c_TS_has (b := 0) (by omega) hT.2.1 (by omega) (by constructor; intro e; cases e; intro e; exact absurd e h1)) (by decide) (Nat.le_refl _) (Nat.le_refl _) (Nat.le_of_ble_eq_true rfl) rfl ?_
      refine nn_if_eq 31 dDK_symbol_8 (by decide) (by decide) (fun _ => ?_) (fun c => absurd c (by decide))
      refine sd_iconst (v := (-1)) dDK_symbol_31 (by decide) ?_
      exact sd_iret dDK_symbol_32 rfl (Nat.le_refl _) (Nat.le_refl _) ⟨rfl, rfl, rfl⟩
  · obtain ⟨hl, hst, hwf⟩ := hT.2.2 t l ht
    have l24 := hl.1
    have htl := getE_lt ht
    have hil := getE_lt hi
    obtain ⟨q1, q2, q3, q4⟩ := hl.2.2 i q hi
    have h1 : nn_lt (nI t) (st_T S).length := ⟨t, htl, rfl⟩
    rcases (show w = 0 ∨ w = 1 by omega) with rfl | rfl
    ·
      refine sd_aload_n dDK_symbol_0 rfl rfl ?_
      refine fx_getr 0 0 (1) dDK_symbol_1 fDK_10 rfl rfl ?_
      refine sd_iload_n dDK_symbol_4 rfl rfl ?_
      refine fx_cV 8 sR_TS [.int (nI (t))] [] dDK_symbol_5 kDK_101 rfl rfl mTS_has_v (c_TS_has (b := 1) (by omega) hT.2.1 (by omega) (by simp only [true_iff]; exact h1)) (by decide) (Nat.le_refl _) (Nat.le_refl _) (Nat.le_of_ble_eq_true rfl) rfl ?_
      refine nn_if_eq 31 dDK_symbol_8 (by decide) (by decide) (fun c => absurd c (by decide)) (fun _ => ?_)
      refine sd_iload_n dDK_symbol_11 rfl rfl ?_
      refine nn_if_lt dDK_symbol_12 31 (by decide) (by omega) ?_
      refine sd_iload_n dDK_symbol_15 rfl rfl ?_
      refine sd_aload_n dDK_symbol_16 rfl rfl ?_
      refine fx_getr 0 0 (1) dDK_symbol_17 fDK_10 rfl rfl ?_
      refine fx_getr 8 1 (3) dDK_symbol_20 fDK_104 rfl rfl ?_
      refine sd_iload_n dDK_symbol_23 rfl rfl ?_
      refine fx_aald (t) dDK_symbol_24 rfl rfl rfl (by omega) (by decide) ?_
      refine fx_getiv (v := (nI (l.length))) 7 3 dDK_symbol_25 fDK_108 (dk_tm (by omega)) rfl (hl.2.1) ?_
      refine nn_icmp_lt 33 dDK_symbol_28 (by decide) (by omega) (by omega) (fun c28 => ?_) (fun c28 => ?_)
      ·
        refine sd_iload_n dDK_symbol_33 rfl rfl ?_
        refine sd_lookup 60 dDK_symbol_34 (by decide) (show _ = (26 : Int) by decide) (by decide) ?_
        refine sd_aload_n dDK_symbol_60 rfl rfl ?_
        refine fx_getr 0 0 (1) dDK_symbol_61 fDK_10 rfl rfl ?_
        refine fx_getr 8 1 (3) dDK_symbol_64 fDK_104 rfl rfl ?_
        refine sd_iload_n dDK_symbol_67 rfl rfl ?_
        refine fx_aald (t) dDK_symbol_68 rfl rfl rfl (by omega) (by decide) ?_
        refine fx_getr 7 0 (tmo ((t) + 1) + 1) dDK_symbol_69 fDK_120 (dk_tm (by omega)) rfl ?_
        refine sd_iload_n dDK_symbol_72 rfl rfl ?_
        refine fx_ialdv (v := (nI (q.1))) (i) dDK_symbol_73 (dk_tm1 (by omega)) rfl (by omega) (by decide) (q1) ?_
        exact sd_iret dDK_symbol_74 rfl (Nat.le_refl _) (Nat.le_refl _) ⟨rfl, rfl, rfl⟩
      ·
        exact absurd c28 (by omega)
    ·
      refine sd_aload_n dDK_symbol_0 rfl rfl ?_
      refine fx_getr 0 0 (1) dDK_symbol_1 fDK_10 rfl rfl ?_
      refine sd_iload_n dDK_symbol_4 rfl rfl ?_
      refine fx_cV 8 sR_TS [.int (nI (t))] [] dDK_symbol_5 kDK_101 rfl rfl mTS_has_v (c_TS_has (b := 1) (by omega) hT.2.1 (by omega) (by simp only [true_iff]; exact h1)) (by decide) (Nat.le_refl _) (Nat.le_refl _) (Nat.le_of_ble_eq_true rfl) rfl ?_
      refine nn_if_eq 31 dDK_symbol_8 (by decide) (by decide) (fun c => absurd c (by decide)) (fun _ => ?_)
      refine sd_iload_n dDK_symbol_11 rfl rfl ?_
      refine nn_if_lt dDK_symbol_12 31 (by decide) (by omega) ?_
      refine sd_iload_n dDK_symbol_15 rfl rfl ?_
      refine sd_aload_n dDK_symbol_16 rfl rfl ?_
      refine fx_getr 0 0 (1) dDK_symbol_17 fDK_10 rfl rfl ?_
      refine fx_getr 8 1 (3) dDK_symbol_20 fDK_104 rfl rfl ?_
      refine sd_iload_n dDK_symbol_23 rfl rfl ?_
      refine fx_aald (t) dDK_symbol_24 rfl rfl rfl (by omega) (by decide) ?_
      refine fx_getiv (v := (nI (l.length))) 7 3 dDK_symbol_25 fDK_108 (dk_tm (by omega)) rfl (hl.2.1) ?_
      refine nn_icmp_lt 33 dDK_symbol_28 (by decide) (by omega) (by omega) (fun c28 => ?_) (fun c28 => ?_)
      ·
        refine sd_iload_n dDK_symbol_33 rfl rfl ?_
        refine sd_lookup 75 dDK_symbol_34 (by decide) (show _ = (41 : Int) by decide) (by decide) ?_
        refine sd_aload_n dDK_symbol_75 rfl rfl ?_
        refine fx_getr 0 0 (1) dDK_symbol_76 fDK_10 rfl rfl ?_
        refine fx_getr 8 1 (3) dDK_symbol_79 fDK_104 rfl rfl ?_
        refine sd_iload_n dDK_symbol_82 rfl rfl ?_
        refine fx_aald (t) dDK_symbol_83 rfl rfl rfl (by omega) (by decide) ?_
        refine fx_getr 7 1 (tmo ((t) + 1) + 2) dDK_symbol_84 fDK_111 (dk_tm (by omega)) rfl ?_
        refine sd_iload_n dDK_symbol_87 rfl rfl ?_
        refine fx_ialdv (v := (nI (q.2))) (i) dDK_symbol_88 (dk_tm2 (by omega)) rfl (by omega) (by decide) (q2) ?_
        exact sd_iret dDK_symbol_89 rfl (Nat.le_refl _) (Nat.le_refl _) ⟨rfl, rfl, rfl⟩
      ·
        exact absurd c28 (by omega)
