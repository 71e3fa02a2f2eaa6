/-! ===== the class's Rules: areThere ===== -/
theorem dRU_areThere_0 : decode prog_6_method_4_code 0 = .ok (.iload_n 1, 1) := by decide +kernel
theorem dRU_areThere_1 : decode prog_6_method_4_code 1 = .ok (.tableswitch (136) (0) (8) #[51, 51, 60, 60, 82, 51, 60, 60, 103], 51) := by decide +kernel
theorem dRU_areThere_52 : decode prog_6_method_4_code 52 = .ok (.aload_n 0, 1) := by decide +kernel
theorem dRU_areThere_53 : decode prog_6_method_4_code 53 = .ok (.getfield 17, 3) := by decide +kernel
theorem dRU_areThere_56 : decode prog_6_method_4_code 56 = .ok (.iload_n 2, 1) := by decide +kernel
theorem dRU_areThere_57 : decode prog_6_method_4_code 57 = .ok (.invokevirtual 54, 3) := by decide +kernel
theorem dRU_areThere_60 : decode prog_6_method_4_code 60 = .ok (.ireturn, 1) := by decide +kernel
theorem dRU_areThere_61 : decode prog_6_method_4_code 61 = .ok (.aload_n 0, 1) := by decide +kernel
theorem dRU_areThere_62 : decode prog_6_method_4_code 62 = .ok (.iload_n 2, 1) := by decide +kernel
theorem dRU_areThere_63 : decode prog_6_method_4_code 63 = .ok (.invokevirtual 58, 3) := by decide +kernel
theorem dRU_areThere_66 : decode prog_6_method_4_code 66 = .ok (.ifCond .eq (15), 3) := by decide +kernel
theorem dRU_areThere_69 : decode prog_6_method_4_code 69 = .ok (.aload_n 0, 1) := by decide +kernel
theorem dRU_areThere_70 : decode prog_6_method_4_code 70 = .ok (.iload_n 3, 1) := by decide +kernel
theorem dRU_areThere_71 : decode prog_6_method_4_code 71 = .ok (.invokevirtual 58, 3) := by decide +kernel
theorem dRU_areThere_74 : decode prog_6_method_4_code 74 = .ok (.ifCond .eq (7), 3) := by decide +kernel
theorem dRU_areThere_77 : decode prog_6_method_4_code 77 = .ok (.iconst 1, 1) := by decide +kernel
theorem dRU_areThere_78 : decode prog_6_method_4_code 78 = .ok (.goto (4), 3) := by decide +kernel
theorem dRU_areThere_81 : decode prog_6_method_4_code 81 = .ok (.iconst 0, 1) := by decide +kernel
theorem dRU_areThere_82 : decode prog_6_method_4_code 82 = .ok (.ireturn, 1) := by decide +kernel
theorem dRU_areThere_83 : decode prog_6_method_4_code 83 = .ok (.aload_n 0, 1) := by decide +kernel
theorem dRU_areThere_84 : decode prog_6_method_4_code 84 = .ok (.iload_n 2, 1) := by decide +kernel
theorem dRU_areThere_85 : decode prog_6_method_4_code 85 = .ok (.invokevirtual 58, 3) := by decide +kernel
theorem dRU_areThere_88 : decode prog_6_method_4_code 88 = .ok (.ifCond .eq (14), 3) := by decide +kernel
theorem dRU_areThere_91 : decode prog_6_method_4_code 91 = .ok (.iload_n 3, 1) := by decide +kernel
theorem dRU_areThere_92 : decode prog_6_method_4_code 92 = .ok (.invokestatic 59, 3) := by decide +kernel
theorem dRU_areThere_95 : decode prog_6_method_4_code 95 = .ok (.ifCond .eq (7), 3) := by decide +kernel
theorem dRU_areThere_98 : decode prog_6_method_4_code 98 = .ok (.iconst 1, 1) := by decide +kernel
theorem dRU_areThere_99 : decode prog_6_method_4_code 99 = .ok (.goto (4), 3) := by decide +kernel
theorem dRU_areThere_102 : decode prog_6_method_4_code 102 = .ok (.iconst 0, 1) := by decide +kernel
theorem dRU_areThere_103 : decode prog_6_method_4_code 103 = .ok (.ireturn, 1) := by decide +kernel
theorem dRU_areThere_104 : decode prog_6_method_4_code 104 = .ok (.aload_n 0, 1) := by decide +kernel
theorem dRU_areThere_105 : decode prog_6_method_4_code 105 = .ok (.iload_n 2, 1) := by decide +kernel
theorem dRU_areThere_106 : decode prog_6_method_4_code 106 = .ok (.invokevirtual 58, 3) := by decide +kernel
theorem dRU_areThere_109 : decode prog_6_method_4_code 109 = .ok (.ifCond .eq (26), 3) := by decide +kernel
theorem dRU_areThere_112 : decode prog_6_method_4_code 112 = .ok (.iload_n 3, 1) := by decide +kernel
theorem dRU_areThere_113 : decode prog_6_method_4_code 113 = .ok (.invokestatic 59, 3) := by decide +kernel
theorem dRU_areThere_116 : decode prog_6_method_4_code 116 = .ok (.ifCond .eq (19), 3) := by decide +kernel
theorem dRU_areThere_119 : decode prog_6_method_4_code 119 = .ok (.aload_n 0, 1) := by decide +kernel
theorem dRU_areThere_120 : decode prog_6_method_4_code 120 = .ok (.getfield 17, 3) := by decide +kernel
theorem dRU_areThere_123 : decode prog_6_method_4_code 123 = .ok (.iload 4, 2) := by decide +kernel
theorem dRU_areThere_125 : decode prog_6_method_4_code 125 = .ok (.invokevirtual 54, 3) := by decide +kernel
theorem dRU_areThere_128 : decode prog_6_method_4_code 128 = .ok (.ifCond .eq (7), 3) := by decide +kernel
theorem dRU_areThere_131 : decode prog_6_method_4_code 131 = .ok (.iconst 1, 1) := by decide +kernel
theorem dRU_areThere_132 : decode prog_6_method_4_code 132 = .ok (.goto (4), 3) := by decide +kernel
theorem dRU_areThere_135 : decode prog_6_method_4_code 135 = .ok (.iconst 0, 1) := by decide +kernel
theorem dRU_areThere_136 : decode prog_6_method_4_code 136 = .ok (.ireturn, 1) := by decide +kernel
theorem dRU_areThere_137 : decode prog_6_method_4_code 137 = .ok (.iconst 0, 1) := by decide +kernel
theorem dRU_areThere_138 : decode prog_6_method_4_code 138 = .ok (.ireturn, 1) := by decide +kernel
theorem c_RU_there0 {G : sd_G} {o : Nat} {D : fx_D} {h0 : sd_H} {nx n m b : Nat} {y z w : Int32} (hn : n ≤ 100) (hl : D.2.1 1 2 = nI n) (hb2 : b < 2) (hb : b = 1 ↔ nn_lt y n) : sd_Ct G mRU_areThere 1 0 0 [.ref (o + 307), .int (nI 0), .int y, .int z, .int w] (fx_h G.1.2 dk_S o D h0) nx (sd_is (some (.int (nI b))) (fx_h G.1.2 dk_S o D h0) nx) := by
  refine sd_Ct_of (by decide) (Nat.le_of_ble_eq_true rfl) ?_
  refine sd_iload_n dRU_areThere_0 rfl rfl ?_
  refine sd_tableIn (off := 51) 52 dRU_areThere_1 (by decide) (by decide) (by decide) (by decide) ?_
  refine sd_aload_n dRU_areThere_52 rfl rfl ?_
  refine fx_getr 5 0 (1) dRU_areThere_53 fRU_17 rfl rfl ?_
  refine sd_iload_n dRU_areThere_56 rfl rfl ?_
  refine fx_cV 8 sR_TS [.int (y)] [] dRU_areThere_57 kRU_54 rfl rfl mTS_has_v (c_TS_has hn hl hb2 hb) (by decide) (Nat.le_refl _) (Nat.le_refl _) (Nat.le_of_ble_eq_true rfl) rfl ?_
  exact sd_zret dRU_areThere_60 rfl (nn_01 hb2) (Nat.le_refl _) (Nat.le_refl _) ⟨rfl, rfl, rfl⟩
theorem c_RU_there1 {G : sd_G} {o : Nat} {D : fx_D} {h0 : sd_H} {nx n m b : Nat} {y z w : Int32} (hn : n ≤ 100) (hl : D.2.1 1 2 = nI n) (hb2 : b < 2) (hb : b = 1 ↔ nn_lt y n) : sd_Ct G mRU_areThere 1 0 0 [.ref (o + 307), .int (nI 1), .int y, .int z, .int w] (fx_h G.1.2 dk_S o D h0) nx (sd_is (some (.int (nI b))) (fx_h G.1.2 dk_S o D h0) nx) := by
  refine sd_Ct_of (by decide) (Nat.le_of_ble_eq_true rfl) ?_
  refine sd_iload_n dRU_areThere_0 rfl rfl ?_
  refine sd_tableIn (off := 51) 52 dRU_areThere_1 (by decide) (by decide) (by decide) (by decide) ?_
  refine sd_aload_n dRU_areThere_52 rfl rfl ?_
  refine fx_getr 5 0 (1) dRU_areThere_53 fRU_17 rfl rfl ?_
  refine sd_iload_n dRU_areThere_56 rfl rfl ?_
  refine fx_cV 8 sR_TS [.int (y)] [] dRU_areThere_57 kRU_54 rfl rfl mTS_has_v (c_TS_has hn hl hb2 hb) (by decide) (Nat.le_refl _) (Nat.le_refl _) (Nat.le_of_ble_eq_true rfl) rfl ?_
  exact sd_zret dRU_areThere_60 rfl (nn_01 hb2) (Nat.le_refl _) (Nat.le_refl _) ⟨rfl, rfl, rfl⟩
theorem c_RU_there5 {G : sd_G} {o : Nat} {D : fx_D} {h0 : sd_H} {nx n m b : Nat} {y z w : Int32} (hn : n ≤ 100) (hl : D.2.1 1 2 = nI n) (hb2 : b < 2) (hb : b = 1 ↔ nn_lt y n) : sd_Ct G mRU_areThere 1 0 0 [.ref (o + 307), .int (nI 5), .int y, .int z, .int w] (fx_h G.1.2 dk_S o D h0) nx (sd_is (some (.int (nI b))) (fx_h G.1.2 dk_S o D h0) nx) := by
  refine sd_Ct_of (by decide) (Nat.le_of_ble_eq_true rfl) ?_
  refine sd_iload_n dRU_areThere_0 rfl rfl ?_
  refine sd_tableIn (off := 51) 52 dRU_areThere_1 (by decide) (by decide) (by decide) (by decide) ?_
  refine sd_aload_n dRU_areThere_52 rfl rfl ?_
  refine fx_getr 5 0 (1) dRU_areThere_53 fRU_17 rfl rfl ?_
  refine sd_iload_n dRU_areThere_56 rfl rfl ?_
  refine fx_cV 8 sR_TS [.int (y)] [] dRU_areThere_57 kRU_54 rfl rfl mTS_has_v (c_TS_has hn hl hb2 hb) (by decide) (Nat.le_refl _) (Nat.le_refl _) (Nat.le_of_ble_eq_true rfl) rfl ?_
  exact sd_zret dRU_areThere_60 rfl (nn_01 hb2) (Nat.le_refl _) (Nat.le_refl _) ⟨rfl, rfl, rfl⟩
theorem c_RU_there2 {G : sd_G} {o : Nat} {D : fx_D} {h0 : sd_H} {nx n m b : Nat} {y z w : Int32} (hn : n ≤ 100) (hl : D.2.1 307 2 = nI n) (hb2 : b < 2) (hb : b = 1 ↔ nn_lt y n ∧ nn_lt z n) : sd_Ct G mRU_areThere 1 0 0 [.ref (o + 307), .int (nI 2), .int y, .int z, .int w] (fx_h G.1.2 dk_S o D h0) nx (sd_is (some (.int (nI b))) (fx_h G.1.2 dk_S o D h0) nx) := by
  refine sd_Ct_of (by decide) (Nat.le_of_ble_eq_true rfl) ?_
  by_cases h1 : nn_lt y n
  · have hb' : b = 1 ↔ nn_lt z n := hb.trans ⟨fun q => q.2, fun q => ⟨h1, q⟩⟩
    have cz := c_RU_has (G := G) (o := o) (h0 := h0) (nx := nx) hn hl hb2 hb'
    refine sd_iload_n dRU_areThere_0 rfl rfl ?_
    refine sd_tableIn (off := 60) 61 dRU_areThere_1 (by decide) (by decide) (by decide) (by decide) ?_
    refine sd_aload_n dRU_areThere_61 rfl rfl ?_
    refine sd_iload_n dRU_areThere_62 rfl rfl ?_
    refine fx_cV 5 sR_RU [.int (y)] [] dRU_areThere_63 kRU_58 rfl rfl mRU_has_v (c_RU_has (b := 1) hn hl (by omega) (by simp only [true_iff]; exact h1)) (by decide) (Nat.le_refl _) (Nat.le_refl _) (Nat.le_of_ble_eq_true rfl) rfl ?_
    refine nn_if_eq 81 dRU_areThere_66 (by decide) (by decide) (fun c => absurd c (by decide)) (fun _ => ?_)
    refine sd_aload_n dRU_areThere_69 rfl rfl ?_
    refine sd_iload_n dRU_areThere_70 rfl rfl ?_
    refine fx_cV 5 sR_RU [.int (z)] [] dRU_areThere_71 kRU_58 rfl rfl mRU_has_v (cz) (by decide) (Nat.le_refl _) (Nat.le_refl _) (Nat.le_of_ble_eq_true rfl) rfl ?_
    refine nn_if_eq 81 dRU_areThere_74 (by decide) (by omega) (fun c74 => ?_) (fun c74 => ?_)
    ·
      refine sd_iconst (v := nI 0) dRU_areThere_81 (by decide) ?_
      exact sd_zret dRU_areThere_82 rfl (nn_01 (by omega)) (Nat.le_refl _) (Nat.le_refl _) ⟨by rw [show b = (0) by omega], rfl, rfl⟩
    ·
      refine sd_iconst (v := nI 1) dRU_areThere_77 (by decide) ?_
      refine sd_goto 82 dRU_areThere_78 (by decide) ?_
      exact sd_zret dRU_areThere_82 rfl (nn_01 (by omega)) (Nat.le_refl _) (Nat.le_refl _) ⟨by rw [show b = (1) by omega], rfl, rfl⟩
  · obtain rfl : b = 0 := by
      have : ¬ b = 1 := fun q => h1 (hb.mp q).1
      omega
    refine sd_iload_n dRU_areThere_0 rfl rfl ?_
    refine sd_tableIn (off := 60) 61 dRU_areThere_1 (by decide) (by decide) (by decide) (by decide) ?_
    refine sd_aload_n dRU_areThere_61 rfl rfl ?_
    refine sd_iload_n dRU_areThere_62 rfl rfl ?_
    refine fx_cV 5 sR_RU [.int (y)] [] dRU_areThere_63 kRU_58 rfl rfl mRU_has_v (c_RU_has (b := 0) hn hl (by omega) (by constructor; intro e; cases e; intro e; exact absurd e h1)) (by decide) (Nat.le_refl _) (Nat.le_refl _) (Nat.le_of_ble_eq_true rfl) rfl ?_
    refine nn_if_eq 81 dRU_areThere_66 (by decide) (by decide) (fun _ => ?_) (fun c => absurd c (by decide))
    refine sd_iconst (v := nI 0) dRU_areThere_81 (by decide) ?_
    exact sd_zret dRU_areThere_82 rfl (Or.inl rfl) (Nat.le_refl _) (Nat.le_refl _) ⟨rfl, rfl, rfl⟩
theorem c_RU_there3 {G : sd_G} {o : Nat} {D : fx_D} {h0 : sd_H} {nx n m b : Nat} {y z w : Int32} (hn : n ≤ 100) (hl : D.2.1 307 2 = nI n) (hb2 : b < 2) (hb : b = 1 ↔ nn_lt y n ∧ nn_lt z n) : sd_Ct G mRU_areThere 1 0 0 [.ref (o + 307), .int (nI 3), .int y, .int z, .int w] (fx_h G.1.2 dk_S o D h0) nx (sd_is (some (.int (nI b))) (fx_h G.1.2 dk_S o D h0) nx) := by
  refine sd_Ct_of (by decide) (Nat.le_of_ble_eq_true rfl) ?_
  by_cases h1 : nn_lt y n
  · have hb' : b = 1 ↔ nn_lt z n := hb.trans ⟨fun q => q.2, fun q => ⟨h1, q⟩⟩
    have cz := c_RU_has (G := G) (o := o) (h0 := h0) (nx := nx) hn hl hb2 hb'
    refine sd_iload_n dRU_areThere_0 rfl rfl ?_
    refine sd_tableIn (off := 60) 61 dRU_areThere_1 (by decide) (by decide) (by decide) (by decide) ?_
    refine sd_aload_n dRU_areThere_61 rfl rfl ?_
    refine sd_iload_n dRU_areThere_62 rfl rfl ?_
    refine fx_cV 5 sR_RU [.int (y)] [] dRU_areThere_63 kRU_58 rfl rfl mRU_has_v (c_RU_has (b := 1) hn hl (by omega) (by simp only [true_iff]; exact h1)) (by decide) (Nat.le_refl _) (Nat.le_refl _) (Nat.le_of_ble_eq_true rfl) rfl ?_
    refine nn_if_eq 81 dRU_areThere_66 (by decide) (by decide) (fun c => absurd c (by decide)) (fun _ => ?_)
    refine sd_aload_n dRU_areThere_69 rfl rfl ?_
    refine sd_iload_n dRU_areThere_70 rfl rfl ?_
    refine fx_cV 5 sR_RU [.int (z)] [] dRU_areThere_71 kRU_58 rfl rfl mRU_has_v (cz) (by decide) (Nat.le_refl _) (Nat.le_refl _) (Nat.le_of_ble_eq_true rfl) rfl ?_
    refine nn_if_eq 81 dRU_areThere_74 (by decide) (by omega) (fun c74 => ?_) (fun c74 => ?_)
    ·
      refine sd_iconst (v := nI 0) dRU_areThere_81 (by decide) ?_
      exact sd_zret dRU_areThere_82 rfl (nn_01 (by omega)) (Nat.le_refl _) (Nat.le_refl _) ⟨by rw [show b = (0) by omega], rfl, rfl⟩
    ·
      refine sd_iconst (v := nI 1) dRU_areThere_77 (by decide) ?_
      refine sd_goto 82 dRU_areThere_78 (by decide) ?_
      exact sd_zret dRU_areThere_82 rfl (nn_01 (by omega)) (Nat.le_refl _) (Nat.le_refl _) ⟨by rw [show b = (1) by omega], rfl, rfl⟩
  · obtain rfl : b = 0 := by
      have : ¬ b = 1 := fun q => h1 (hb.mp q).1
      omega
    refine sd_iload_n dRU_areThere_0 rfl rfl ?_
    refine sd_tableIn (off := 60) 61 dRU_areThere_1 (by decide) (by decide) (by decide) (by decide) ?_
    refine sd_aload_n dRU_areThere_61 rfl rfl ?_
    refine sd_iload_n dRU_areThere_62 rfl rfl ?_
    refine fx_cV 5 sR_RU [.int (y)] [] dRU_areThere_63 kRU_58 rfl rfl mRU_has_v (c_RU_has (b := 0) hn hl (by omega) (by constructor; intro e; cases e; intro e; exact absurd e h1)) (by decide) (Nat.le_refl _) (Nat.le_refl _) (Nat.le_of_ble_eq_true rfl) rfl ?_
    refine nn_if_eq 81 dRU_areThere_66 (by decide) (by decide) (fun _ => ?_) (fun c => absurd c (by decide))
    refine sd_iconst (v := nI 0) dRU_areThere_81 (by decide) ?_
    exact sd_zret dRU_areThere_82 rfl (Or.inl rfl) (Nat.le_refl _) (Nat.le_refl _) ⟨rfl, rfl, rfl⟩
theorem c_RU_there6 {G : sd_G} {o : Nat} {D : fx_D} {h0 : sd_H} {nx n m b : Nat} {y z w : Int32} (hn : n ≤ 100) (hl : D.2.1 307 2 = nI n) (hb2 : b < 2) (hb : b = 1 ↔ nn_lt y n ∧ nn_lt z n) : sd_Ct G mRU_areThere 1 0 0 [.ref (o + 307), .int (nI 6), .int y, .int z, .int w] (fx_h G.1.2 dk_S o D h0) nx (sd_is (some (.int (nI b))) (fx_h G.1.2 dk_S o D h0) nx) := by
  refine sd_Ct_of (by decide) (Nat.le_of_ble_eq_true rfl) ?_
  by_cases h1 : nn_lt y n
  · have hb' : b = 1 ↔ nn_lt z n := hb.trans ⟨fun q => q.2, fun q => ⟨h1, q⟩⟩
    have cz := c_RU_has (G := G) (o := o) (h0 := h0) (nx := nx) hn hl hb2 hb'
    refine sd_iload_n dRU_areThere_0 rfl rfl ?_
    refine sd_tableIn (off := 60) 61 dRU_areThere_1 (by decide) (by decide) (by decide) (by decide) ?_
    refine sd_aload_n dRU_areThere_61 rfl rfl ?_
    refine sd_iload_n dRU_areThere_62 rfl rfl ?_
    refine fx_cV 5 sR_RU [.int (y)] [] dRU_areThere_63 kRU_58 rfl rfl mRU_has_v (c_RU_has (b := 1) hn hl (by omega) (by simp only [true_iff]; exact h1)) (by decide) (Nat.le_refl _) (Nat.le_refl _) (Nat.le_of_ble_eq_true rfl) rfl ?_
    refine nn_if_eq 81 dRU_areThere_66 (by decide) (by decide) (fun c => absurd c (by decide)) (fun _ => ?_)
    refine sd_aload_n dRU_areThere_69 rfl rfl ?_
    refine sd_iload_n dRU_areThere_70 rfl rfl ?_
    refine fx_cV 5 sR_RU [.int (z)] [] dRU_areThere_71 kRU_58 rfl rfl mRU_has_v (cz) (by decide) (Nat.le_refl _) (Nat.le_refl _) (Nat.le_of_ble_eq_true rfl) rfl ?_
    refine nn_if_eq 81 dRU_areThere_74 (by decide) (by omega) (fun c74 => ?_) (fun c74 => ?_)
    ·
      refine sd_iconst (v := nI 0) dRU_areThere_81 (by decide) ?_
      exact sd_zret dRU_areThere_82 rfl (nn_01 (by omega)) (Nat.le_refl _) (Nat.le_refl _) ⟨by rw [show b = (0) by omega], rfl, rfl⟩
    ·
      refine sd_iconst (v := nI 1) dRU_areThere_77 (by decide) ?_
      refine sd_goto 82 dRU_areThere_78 (by decide) ?_
      exact sd_zret dRU_areThere_82 rfl (nn_01 (by omega)) (Nat.le_refl _) (Nat.le_refl _) ⟨by rw [show b = (1) by omega], rfl, rfl⟩
  · obtain rfl : b = 0 := by
      have : ¬ b = 1 := fun q => h1 (hb.mp q).1
      omega
    refine sd_iload_n dRU_areThere_0 rfl rfl ?_
    refine sd_tableIn (off := 60) 61 dRU_areThere_1 (by decide) (by decide) (by decide) (by decide) ?_
    refine sd_aload_n dRU_areThere_61 rfl rfl ?_
    refine sd_iload_n dRU_areThere_62 rfl rfl ?_
    refine fx_cV 5 sR_RU [.int (y)] [] dRU_areThere_63 kRU_58 rfl rfl mRU_has_v (c_RU_has (b := 0) hn hl (by omega) (by constructor; intro e; cases e; intro e; exact absurd e h1)) (by decide) (Nat.le_refl _) (Nat.le_refl _) (Nat.le_of_ble_eq_true rfl) rfl ?_
    refine nn_if_eq 81 dRU_areThere_66 (by decide) (by decide) (fun _ => ?_) (fun c => absurd c (by decide))
    refine sd_iconst (v := nI 0) dRU_areThere_81 (by decide) ?_
    exact sd_zret dRU_areThere_82 rfl (Or.inl rfl) (Nat.le_refl _) (Nat.le_refl _) ⟨rfl, rfl, rfl⟩
theorem c_RU_there7 {G : sd_G} {o : Nat} {D : fx_D} {h0 : sd_H} {nx n m b : Nat} {y z w : Int32} (hn : n ≤ 100) (hl : D.2.1 307 2 = nI n) (hb2 : b < 2) (hb : b = 1 ↔ nn_lt y n ∧ nn_lt z n) : sd_Ct G mRU_areThere 1 0 0 [.ref (o + 307), .int (nI 7), .int y, .int z, .int w] (fx_h G.1.2 dk_S o D h0) nx (sd_is (some (.int (nI b))) (fx_h G.1.2 dk_S o D h0) nx) := by
  refine sd_Ct_of (by decide) (Nat.le_of_ble_eq_true rfl) ?_
  by_cases h1 : nn_lt y n
  · have hb' : b = 1 ↔ nn_lt z n := hb.trans ⟨fun q => q.2, fun q => ⟨h1, q⟩⟩
    have cz := c_RU_has (G := G) (o := o) (h0 := h0) (nx := nx) hn hl hb2 hb'
    refine sd_iload_n dRU_areThere_0 rfl rfl ?_
    refine sd_tableIn (off := 60) 61 dRU_areThere_1 (by decide) (by decide) (by decide) (by decide) ?_
    refine sd_aload_n dRU_areThere_61 rfl rfl ?_
    refine sd_iload_n dRU_areThere_62 rfl rfl ?_
    refine fx_cV 5 sR_RU [.int (y)] [] dRU_areThere_63 kRU_58 rfl rfl mRU_has_v (c_RU_has (b := 1) hn hl (by omega) (by simp only [true_iff]; exact h1)) (by decide) (Nat.le_refl _) (Nat.le_refl _) (Nat.le_of_ble_eq_true rfl) rfl ?_
    refine nn_if_eq 81 dRU_areThere_66 (by decide) (by decide) (fun c => absurd c (by decide)) (fun _ => ?_)
    refine sd_aload_n dRU_areThere_69 rfl rfl ?_
    refine sd_iload_n dRU_areThere_70 rfl rfl ?_
    refine fx_cV 5 sR_RU [.int (z)] [] dRU_areThere_71 kRU_58 rfl rfl mRU_has_v (cz) (by decide) (Nat.le_refl _) (Nat.le_refl _) (Nat.le_of_ble_eq_true rfl) rfl ?_
    refine nn_if_eq 81 dRU_areThere_74 (by decide) (by omega) (fun c74 => ?_) (fun c74 => ?_)
    ·
      refine sd_iconst (v := nI 0) dRU_areThere_81 (by decide) ?_
      exact sd_zret dRU_areThere_82 rfl (nn_01 (by omega)) (Nat.le_refl _) (Nat.le_refl _) ⟨by rw [show b = (0) by omega], rfl, rfl⟩
    ·
      refine sd_iconst (v := nI 1) dRU_areThere_77 (by decide) ?_
      refine sd_goto 82 dRU_areThere_78 (by decide) ?_
      exact sd_zret dRU_areThere_82 rfl (nn_01 (by omega)) (Nat.le_refl _) (Nat.le_refl _) ⟨by rw [show b = (1) by omega], rfl, rfl⟩
  · obtain rfl : b = 0 := by
      have : ¬ b = 1 := fun q => h1 (hb.mp q).1
      omega
    refine sd_iload_n dRU_areThere_0 rfl rfl ?_
    refine sd_tableIn (off := 60) 61 dRU_areThere_1 (by decide) (by decide) (by decide) (by decide) ?_
    refine sd_aload_n dRU_areThere_61 rfl rfl ?_
    refine sd_iload_n dRU_areThere_62 rfl rfl ?_
    refine fx_cV 5 sR_RU [.int (y)] [] dRU_areThere_63 kRU_58 rfl rfl mRU_has_v (c_RU_has (b := 0) hn hl (by omega) (by constructor; intro e; cases e; intro e; exact absurd e h1)) (by decide) (Nat.le_refl _) (Nat.le_refl _) (Nat.le_of_ble_eq_true rfl) rfl ?_
    refine nn_if_eq 81 dRU_areThere_66 (by decide) (by decide) (fun _ => ?_) (fun c => absurd c (by decide))
    refine sd_iconst (v := nI 0) dRU_areThere_81 (by decide) ?_
    exact sd_zret dRU_areThere_82 rfl (Or.inl rfl) (Nat.le_refl _) (Nat.le_refl _) ⟨rfl, rfl, rfl⟩
theorem c_RU_there4 {G : sd_G} {o : Nat} {D : fx_D} {h0 : sd_H} {nx n b : Nat} {y z w : Int32} (hn : n ≤ 100) (hl : D.2.1 307 2 = nI n) (hb2 : b < 2) (hb : b = 1 ↔ nn_lt y n ∧ nn_lt z 8) : sd_Ct G mRU_areThere 1 0 0 [.ref (o + 307), .int (nI 4), .int y, .int z, .int w] (fx_h G.1.2 dk_S o D h0) nx (sd_is (some (.int (nI b))) (fx_h G.1.2 dk_S o D h0) nx) := by
  refine sd_Ct_of (by decide) (Nat.le_of_ble_eq_true rfl) ?_
  by_cases h1 : nn_lt y n
  · have hb' : b = 1 ↔ nn_lt z 8 := hb.trans ⟨fun q => q.2, fun q => ⟨h1, q⟩⟩
    refine sd_iload_n dRU_areThere_0 rfl rfl ?_
    refine sd_tableIn (off := 82) 83 dRU_areThere_1 (by decide) (by decide) (by decide) (by decide) ?_
    refine sd_aload_n dRU_areThere_83 rfl rfl ?_
    refine sd_iload_n dRU_areThere_84 rfl rfl ?_
    refine fx_cV 5 sR_RU [.int (y)] [] dRU_areThere_85 kRU_58 rfl rfl mRU_has_v (c_RU_has (b := 1) hn hl (by omega) (by simp only [true_iff]; exact h1)) (by decide) (Nat.le_refl _) (Nat.le_refl _) (Nat.le_of_ble_eq_true rfl) rfl ?_
    refine nn_if_eq 102 dRU_areThere_88 (by decide) (by decide) (fun c => absurd c (by decide)) (fun _ => ?_)
    refine sd_iload_n dRU_areThere_91 rfl rfl ?_
    refine sd_cS [.int (z)] [] dRU_areThere_92 kRU_59 mDK_isName_s (c_DK_isName hb2 hb') (by decide) (Nat.le_refl _) (Nat.le_refl _) (Nat.le_of_ble_eq_true rfl) rfl ?_
    refine nn_if_eq 102 dRU_areThere_95 (by decide) (by omega) (fun c95 => ?_) (fun c95 => ?_)
    ·
      refine sd_iconst (v := nI 0) dRU_areThere_102 (by decide) ?_
      exact sd_zret dRU_areThere_103 rfl (nn_01 (by omega)) (Nat.le_refl _) (Nat.le_refl _) ⟨by rw [show b = (0) by omega], rfl, rfl⟩
    ·
      refine sd_iconst (v := nI 1) dRU_areThere_98 (by decide) ?_
      refine sd_goto 103 dRU_areThere_99 (by decide) ?_
      exact sd_zret dRU_areThere_103 rfl (nn_01 (by omega)) (Nat.le_refl _) (Nat.le_refl _) ⟨by rw [show b = (1) by omega], rfl, rfl⟩
  · obtain rfl : b = 0 := by
      have : ¬ b = 1 := fun q => h1 (hb.mp q).1
      omega
    refine sd_iload_n dRU_areThere_0 rfl rfl ?_
    refine sd_tableIn (off := 82) 83 dRU_areThere_1 (by decide) (by decide) (by decide) (by decide) ?_
    refine sd_aload_n dRU_areThere_83 rfl rfl ?_
    refine sd_iload_n dRU_areThere_84 rfl rfl ?_
    refine fx_cV 5 sR_RU [.int (y)] [] dRU_areThere_85 kRU_58 rfl rfl mRU_has_v (c_RU_has (b := 0) hn hl (by omega) (by constructor; intro e; cases e; intro e; exact absurd e h1)) (by decide) (Nat.le_refl _) (Nat.le_refl _) (Nat.le_of_ble_eq_true rfl) rfl ?_
    refine nn_if_eq 102 dRU_areThere_88 (by decide) (by decide) (fun _ => ?_) (fun c => absurd c (by decide))
    refine sd_iconst (v := nI 0) dRU_areThere_102 (by decide) ?_
    exact sd_zret dRU_areThere_103 rfl (Or.inl rfl) (Nat.le_refl _) (Nat.le_refl _) ⟨rfl, rfl, rfl⟩
theorem c_RU_there8 {G : sd_G} {o : Nat} {D : fx_D} {h0 : sd_H} {nx n m b : Nat} {y z w : Int32} (hn : n ≤ 100) (hl : D.2.1 307 2 = nI n) (hm : m ≤ 100) (hk : D.2.1 1 2 = nI m) (hb2 : b < 2) (hb : b = 1 ↔ nn_lt y n ∧ nn_lt z 8 ∧ nn_lt w m) : sd_Ct G mRU_areThere 1 0 0 [.ref (o + 307), .int (nI 8), .int y, .int z, .int w] (fx_h G.1.2 dk_S o D h0) nx (sd_is (some (.int (nI b))) (fx_h G.1.2 dk_S o D h0) nx) := by
  refine sd_Ct_of (by decide) (Nat.le_of_ble_eq_true rfl) ?_
  by_cases h1 : nn_lt y n
  · by_cases h2 : nn_lt z 8
    · have hb' : b = 1 ↔ nn_lt w m := hb.trans ⟨fun q => q.2.2, fun q => ⟨h1, h2, q⟩⟩
      have cw := c_TS_has (G := G) (o := o) (h0 := h0) (nx := nx) hm hk hb2 hb'
      refine sd_iload_n dRU_areThere_0 rfl rfl ?_
      refine sd_tableIn (off := 103) 104 dRU_areThere_1 (by decide) (by decide) (by decide) (by decide) ?_
      refine sd_aload_n dRU_areThere_104 rfl rfl ?_
      refine sd_iload_n dRU_areThere_105 rfl rfl ?_
      refine fx_cV 5 sR_RU [.int (y)] [] dRU_areThere_106 kRU_58 rfl rfl mRU_has_v (c_RU_has (b := 1) hn hl (by omega) (by simp only [true_iff]; exact h1)) (by decide) (Nat.le_refl _) (Nat.le_refl _) (Nat.le_of_ble_eq_true rfl) rfl ?_
      refine nn_if_eq 135 dRU_areThere_109 (by decide) (by decide) (fun c => absurd c (by decide)) (fun _ => ?_)
      refine sd_iload_n dRU_areThere_112 rfl rfl ?_
      refine sd_cS [.int (z)] [] dRU_areThere_113 kRU_59 mDK_isName_s (c_DK_isName (b := 1) (by omega) (by simp only [true_iff]; exact h2)) (by decide) (Nat.le_refl _) (Nat.le_refl _) (Nat.le_of_ble_eq_true rfl) rfl ?_
      refine nn_if_eq 135 dRU_areThere_116 (by decide) (by decide) (fun c => absurd c (by decide)) (fun _ => ?_)
      refine sd_aload_n dRU_areThere_119 rfl rfl ?_
      refine fx_getr 5 0 (1) dRU_areThere_120 fRU_17 rfl rfl ?_
      refine sd_iload dRU_areThere_123 rfl ?_
      refine fx_cV 8 sR_TS [.int (w)] [] dRU_areThere_125 kRU_54 rfl rfl mTS_has_v (cw) (by decide) (Nat.le_refl _) (Nat.le_refl _) (Nat.le_of_ble_eq_true rfl) rfl ?_
      refine nn_if_eq 135 dRU_areThere_128 (by decide) (by omega) (fun c128 => ?_) (fun c128 => ?_)
      ·
        refine sd_iconst (v := nI 0) dRU_areThere_135 (by decide) ?_
        exact sd_zret dRU_areThere_136 rfl (nn_01 (by omega)) (Nat.le_refl _) (Nat.le_refl _) ⟨by rw [show b = (0) by omega], rfl, rfl⟩
      ·
        refine sd_iconst (v := nI 1) dRU_areThere_131 (by decide) ?_
        refine sd_goto 136 dRU_areThere_132 (by decide) ?_
        exact sd_zret dRU_areThere_136 rfl (nn_01 (by omega)) (Nat.le_refl _) (Nat.le_refl _) ⟨by rw [show b = (1) by omega], rfl, rfl⟩
    · obtain rfl : b = 0 := by
        have : ¬ b = 1 := fun q => h2 (hb.mp q).2.1
        omega
      refine sd_iload_n dRU_areThere_0 rfl rfl ?_
      refine sd_tableIn (off := 103) 104 dRU_areThere_1 (by decide) (by decide) (by decide) (by decide) ?_
      refine sd_aload_n dRU_areThere_104 rfl rfl ?_
      refine sd_iload_n dRU_areThere_105 rfl rfl ?_
      refine fx_cV 5 sR_RU [.int (y)] [] dRU_areThere_106 kRU_58 rfl rfl mRU_has_v (c_RU_has (b := 1) hn hl (by omega) (by simp only [true_iff]; exact h1)) (by decide) (Nat.le_refl _) (Nat.le_refl _) (Nat.le_of_ble_eq_true rfl) rfl ?_
      refine nn_if_eq 135 dRU_areThere_109 (by decide) (by decide) (fun c => absurd c (by decide)) (fun _ => ?_)
      refine sd_iload_n dRU_areThere_112 rfl rfl ?_
      refine sd_cS [.int (z)] [] dRU_areThere_113 kRU_59 mDK_isName_s (c_DK_isName (b := 0) (by omega) (by constructor; intro e; cases e; intro e; exact absurd e h2)) (by decide) (Nat.le_refl _) (Nat.le_refl _) (Nat.le_of_ble_eq_true rfl) rfl ?_
      refine nn_if_eq 135 dRU_areThere_116 (by decide) (by decide) (fun _ => ?_) (fun c => absurd c (by decide))
      refine sd_iconst (v := nI 0) dRU_areThere_135 (by decide) ?_
      exact sd_zret dRU_areThere_136 rfl (Or.inl rfl) (Nat.le_refl _) (Nat.le_refl _) ⟨rfl, rfl, rfl⟩
  · obtain rfl : b = 0 := by
      have : ¬ b = 1 := fun q => h1 (hb.mp q).1
      omega
    refine sd_iload_n dRU_areThere_0 rfl rfl ?_
    refine sd_tableIn (off := 103) 104 dRU_areThere_1 (by decide) (by decide) (by decide) (by decide) ?_
    refine sd_aload_n dRU_areThere_104 rfl rfl ?_
    refine sd_iload_n dRU_areThere_105 rfl rfl ?_
    refine fx_cV 5 sR_RU [.int (y)] [] dRU_areThere_106 kRU_58 rfl rfl mRU_has_v (c_RU_has (b := 0) hn hl (by omega) (by constructor; intro e; cases e; intro e; exact absurd e h1)) (by decide) (Nat.le_refl _) (Nat.le_refl _) (Nat.le_of_ble_eq_true rfl) rfl ?_
    refine nn_if_eq 135 dRU_areThere_109 (by decide) (by decide) (fun _ => ?_) (fun c => absurd c (by decide))
    refine sd_iconst (v := nI 0) dRU_areThere_135 (by decide) ?_
    exact sd_zret dRU_areThere_136 rfl (Or.inl rfl) (Nat.le_refl _) (Nat.le_refl _) ⟨rfl, rfl, rfl⟩
theorem c_RU_there9 {G : sd_G} {o : Nat} {D : fx_D} {h0 : sd_H} {nx : Nat} {x y z w : Int32} (hx : ¬ nn_lt x 9) : sd_Ct G mRU_areThere 1 0 0 [.ref (o + 307), .int x, .int y, .int z, .int w] (fx_h G.1.2 dk_S o D h0) nx (sd_is (some (.int (nI 0))) (fx_h G.1.2 dk_S o D h0) nx) := by
  refine sd_Ct_of (by decide) (Nat.le_of_ble_eq_true rfl) ?_
  refine sd_iload_n dRU_areThere_0 rfl rfl ?_
  refine sd_tableOut 137 dRU_areThere_1 (nn_tab hx) (by decide) ?_
  refine sd_iconst (v := nI 0) dRU_areThere_137 (by decide) ?_
  exact sd_zret dRU_areThere_138 rfl (Or.inl rfl) (Nat.le_refl _) (Nat.le_refl _) ⟨rfl, rfl, rfl⟩
