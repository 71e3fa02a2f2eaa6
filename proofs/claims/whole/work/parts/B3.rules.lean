/-! ===== the class's Rules: conclusionOf, canPass, canChain ===== -/
theorem dRU_conclusionOf_0 : decode prog_6_method_5_code 0 = .ok (.aload_n 0, 1) := by decide +kernel
theorem dRU_conclusionOf_1 : decode prog_6_method_5_code 1 = .ok (.getfield 17, 3) := by decide +kernel
theorem dRU_conclusionOf_4 : decode prog_6_method_5_code 4 = .ok (.getfield 62, 3) := by decide +kernel
theorem dRU_conclusionOf_7 : decode prog_6_method_5_code 7 = .ok (.aload_n 0, 1) := by decide +kernel
theorem dRU_conclusionOf_8 : decode prog_6_method_5_code 8 = .ok (.getfield 11, 3) := by decide +kernel
theorem dRU_conclusionOf_11 : decode prog_6_method_5_code 11 = .ok (.iload_n 1, 1) := by decide +kernel
theorem dRU_conclusionOf_12 : decode prog_6_method_5_code 12 = .ok (.aaload, 1) := by decide +kernel
theorem dRU_conclusionOf_13 : decode prog_6_method_5_code 13 = .ok (.getfield 40, 3) := by decide +kernel
theorem dRU_conclusionOf_16 : decode prog_6_method_5_code 16 = .ok (.getfield 65, 3) := by decide +kernel
theorem dRU_conclusionOf_19 : decode prog_6_method_5_code 19 = .ok (.aaload, 1) := by decide +kernel
theorem dRU_conclusionOf_20 : decode prog_6_method_5_code 20 = .ok (.areturn, 1) := by decide +kernel
theorem c_RU_conclusionOf {G : sd_G} {o : Nat} {D : fx_D} {h0 : sd_H} {nx p : Nat} {L : List st_Th} {h : st_Th} (hT : dk_thm D L) (hp : L[p]? = some h) (hc : h.1 < 72) : sd_Ct G mRU_conclusionOf 0 0 0 [.ref (o + 307), .int (nI p)] (fx_h G.1.2 dk_S o D h0) nx (sd_is (some (.ref (o + tmo (h.1 + 1)))) (fx_h G.1.2 dk_S o D h0) nx) := by
  refine sd_Ct_of (by decide) (Nat.le_of_ble_eq_true rfl) ?_
  have h40 := hT.1
  have hpl := getE_lt hp
  obtain ⟨-, b2, -⟩ := hT.2.2 p h hp
  refine sd_aload_n dRU_conclusionOf_0 rfl rfl ?_
  refine fx_getr 5 0 (1) dRU_conclusionOf_1 fRU_17 rfl rfl ?_
  refine fx_getr 8 1 (3) dRU_conclusionOf_4 fRU_62 rfl rfl ?_
  refine sd_aload_n dRU_conclusionOf_7 rfl rfl ?_
  refine fx_getr 5 1 (308) dRU_conclusionOf_8 fRU_11 rfl rfl ?_
  refine sd_iload_n dRU_conclusionOf_11 rfl rfl ?_
  refine fx_aald (p) dRU_conclusionOf_12 rfl rfl rfl (by omega) (by decide) ?_
  refine fx_getr 9 0 (309 + 3 * (p) + 1) dRU_conclusionOf_13 fRU_40 (dk_th (by omega)) rfl ?_
  refine fx_getiv (v := (nI (h.1))) 6 2 dRU_conclusionOf_16 fRU_65 (dk_ths (p := p) (by omega)).1 rfl (b2) ?_
  refine fx_aald (h.1) dRU_conclusionOf_19 rfl rfl rfl (by omega) (by decide) ?_
  exact sd_aret dRU_conclusionOf_20 rfl (Nat.le_refl _) (Nat.le_refl _) ⟨rfl, rfl, rfl⟩
theorem dRU_canPass_0 : decode prog_6_method_9_code 0 = .ok (.aload_n 0, 1) := by decide +kernel
theorem dRU_canPass_1 : decode prog_6_method_9_code 1 = .ok (.invokevirtual 85, 3) := by decide +kernel
theorem dRU_canPass_4 : decode prog_6_method_9_code 4 = .ok (.ifCond .eq (17), 3) := by decide +kernel
theorem dRU_canPass_7 : decode prog_6_method_9_code 7 = .ok (.aload_n 0, 1) := by decide +kernel
theorem dRU_canPass_8 : decode prog_6_method_9_code 8 = .ok (.iconst 1, 1) := by decide +kernel
theorem dRU_canPass_9 : decode prog_6_method_9_code 9 = .ok (.aload_n 1, 1) := by decide +kernel
theorem dRU_canPass_10 : decode prog_6_method_9_code 10 = .ok (.iconst 0, 1) := by decide +kernel
theorem dRU_canPass_11 : decode prog_6_method_9_code 11 = .ok (.invokestatic 105, 3) := by decide +kernel
theorem dRU_canPass_14 : decode prog_6_method_9_code 14 = .ok (.ifCond .eq (7), 3) := by decide +kernel
theorem dRU_canPass_17 : decode prog_6_method_9_code 17 = .ok (.iconst 1, 1) := by decide +kernel
theorem dRU_canPass_18 : decode prog_6_method_9_code 18 = .ok (.goto (4), 3) := by decide +kernel
theorem dRU_canPass_21 : decode prog_6_method_9_code 21 = .ok (.iconst 0, 1) := by decide +kernel
theorem dRU_canPass_22 : decode prog_6_method_9_code 22 = .ok (.ireturn, 1) := by decide +kernel
theorem c_RU_canPass {G : sd_G} {o : Nat} {D : fx_D} {h0 : sd_H} {nx r q b : Nat} {l m : tl_T} (hr : r < 73) (hq : q < 73) (hl : tm_row D r l) (sl : tm_set D r l) (wl : tl_wf l) (hm : tm_row D q m) (sm : tm_set D q m) (wm : tl_wf m) (hb2 : b < 2) (hb : b = 1 ↔ (tl_at l 0).1 = 9 ∧ tl_part l 1 = m) : sd_Ct G mRU_canPass 1 0 0 [.ref (o + tmo r), .ref (o + tmo q)] (fx_h G.1.2 dk_S o D h0) nx (sd_is (some (.int (nI b))) (fx_h G.1.2 dk_S o D h0) nx) := by
  refine sd_Ct_of (by decide) (Nat.le_of_ble_eq_true rfl) ?_
  have hx := wl.hd
  by_cases h9 : (tl_at l 0).1 = 9
  · obtain ⟨t1, -, -⟩ := wl.two (by rw [h9]; rfl)
    have hb' : b = 1 ↔ tl_part l 1 = tl_part m 0 := by rw [wm.part]; exact hb.trans ⟨fun z => z.2, fun z => ⟨h9, z⟩⟩
    have ca := c_TM_alike (G := G) (o := o) (h0 := h0) (nx := nx) (b := b) hr hq hl hm sl sm t1 wm.pos hb2 hb'
    refine sd_aload_n dRU_canPass_0 rfl rfl ?_
    refine fx_cV 7 sR_TM [] [] dRU_canPass_1 kRU_85 rfl (dk_tm (by omega)) mTM_isEquation_v (c_TM_isEquation (b := 1) hr hl hx (by omega) (by simp [h9])) (by decide) (Nat.le_refl _) (Nat.le_refl _) (Nat.le_of_ble_eq_true rfl) rfl ?_
    refine nn_if_eq 21 dRU_canPass_4 (by decide) (by decide) (fun c => absurd c (by decide)) (fun _ => ?_)
    refine sd_aload_n dRU_canPass_7 rfl rfl ?_
    refine sd_iconst (v := nI 1) dRU_canPass_8 (by decide) ?_
    refine sd_aload_n dRU_canPass_9 rfl rfl ?_
    refine sd_iconst (v := nI 0) dRU_canPass_10 (by decide) ?_
    refine sd_cS [.ref (o + (tmo (r))), .int (nI (1)), .ref (o + (tmo (q))), .int (nI (0))] [] dRU_canPass_11 kRU_105 mTM_alike_s (ca) (by decide) (Nat.le_refl _) (Nat.le_refl _) (Nat.le_of_ble_eq_true rfl) rfl ?_
    refine nn_if_eq 21 dRU_canPass_14 (by decide) (by omega) (fun c14 => ?_) (fun c14 => ?_)
    ·
      refine sd_iconst (v := nI 0) dRU_canPass_21 (by decide) ?_
      exact sd_zret dRU_canPass_22 rfl (nn_01 (by omega)) (Nat.le_refl _) (Nat.le_refl _) ⟨by rw [show b = (0) by omega], rfl, rfl⟩
    ·
      refine sd_iconst (v := nI 1) dRU_canPass_17 (by decide) ?_
      refine sd_goto 22 dRU_canPass_18 (by decide) ?_
      exact sd_zret dRU_canPass_22 rfl (nn_01 (by omega)) (Nat.le_refl _) (Nat.le_refl _) ⟨by rw [show b = (1) by omega], rfl, rfl⟩
  · obtain rfl : b = 0 := by
      have : ¬ b = 1 := fun z => h9 (hb.mp z).1
      omega
    refine sd_aload_n dRU_canPass_0 rfl rfl ?_
    refine fx_cV 7 sR_TM [] [] dRU_canPass_1 kRU_85 rfl (dk_tm (by omega)) mTM_isEquation_v (c_TM_isEquation (b := 0) hr hl hx (by omega) (by simp [h9])) (by decide) (Nat.le_refl _) (Nat.le_refl _) (Nat.le_of_ble_eq_true rfl) rfl ?_
    refine nn_if_eq 21 dRU_canPass_4 (by decide) (by decide) (fun _ => ?_) (fun c => absurd c (by decide))
    refine sd_iconst (v := nI 0) dRU_canPass_21 (by decide) ?_
    exact sd_zret dRU_canPass_22 rfl (Or.inl rfl) (Nat.le_refl _) (Nat.le_refl _) ⟨rfl, rfl, rfl⟩
theorem dRU_canChain_0 : decode prog_6_method_7_code 0 = .ok (.aload_n 0, 1) := by decide +kernel
theorem dRU_canChain_1 : decode prog_6_method_7_code 1 = .ok (.invokevirtual 85, 3) := by decide +kernel
theorem dRU_canChain_4 : decode prog_6_method_7_code 4 = .ok (.ifCond .eq (27), 3) := by decide +kernel
theorem dRU_canChain_7 : decode prog_6_method_7_code 7 = .ok (.aload_n 1, 1) := by decide +kernel
theorem dRU_canChain_8 : decode prog_6_method_7_code 8 = .ok (.invokevirtual 85, 3) := by decide +kernel
theorem dRU_canChain_11 : decode prog_6_method_7_code 11 = .ok (.ifCond .eq (20), 3) := by decide +kernel
theorem dRU_canChain_14 : decode prog_6_method_7_code 14 = .ok (.aload_n 0, 1) := by decide +kernel
theorem dRU_canChain_15 : decode prog_6_method_7_code 15 = .ok (.aload_n 0, 1) := by decide +kernel
theorem dRU_canChain_16 : decode prog_6_method_7_code 16 = .ok (.invokevirtual 101, 3) := by decide +kernel
theorem dRU_canChain_19 : decode prog_6_method_7_code 19 = .ok (.aload_n 1, 1) := by decide +kernel
theorem dRU_canChain_20 : decode prog_6_method_7_code 20 = .ok (.iconst 1, 1) := by decide +kernel
theorem dRU_canChain_21 : decode prog_6_method_7_code 21 = .ok (.invokestatic 105, 3) := by decide +kernel
theorem dRU_canChain_24 : decode prog_6_method_7_code 24 = .ok (.ifCond .eq (7), 3) := by decide +kernel
theorem dRU_canChain_27 : decode prog_6_method_7_code 27 = .ok (.iconst 1, 1) := by decide +kernel
theorem dRU_canChain_28 : decode prog_6_method_7_code 28 = .ok (.goto (4), 3) := by decide +kernel
theorem dRU_canChain_31 : decode prog_6_method_7_code 31 = .ok (.iconst 0, 1) := by decide +kernel
theorem dRU_canChain_32 : decode prog_6_method_7_code 32 = .ok (.ireturn, 1) := by decide +kernel
theorem c_RU_canChain {G : sd_G} {o : Nat} {D : fx_D} {h0 : sd_H} {nx r q b : Nat} {l m : tl_T} (hr : r < 73) (hq : q < 73) (hl : tm_row D r l) (sl : tm_set D r l) (wl : tl_wf l) (hm : tm_row D q m) (sm : tm_set D q m) (wm : tl_wf m) (hb2 : b < 2) (hb : b = 1 ↔ (tl_at l 0).1 = 9 ∧ (tl_at m 0).1 = 9 ∧ tl_part l (tl_end l 1) = tl_part m 1) : sd_Ct G mRU_canChain 1 0 0 [.ref (o + tmo r), .ref (o + tmo q)] (fx_h G.1.2 dk_S o D h0) nx (sd_is (some (.int (nI b))) (fx_h G.1.2 dk_S o D h0) nx) := by
  refine sd_Ct_of (by decide) (Nat.le_of_ble_eq_true rfl) ?_
  have hx := wl.hd
  have hy := wm.hd
  by_cases h9 : (tl_at l 0).1 = 9
  · obtain ⟨t1, t2, -⟩ := wl.two (by rw [h9]; rfl)
    by_cases k9 : (tl_at m 0).1 = 9
    · obtain ⟨u1, -, -⟩ := wm.two (by rw [k9]; rfl)
      have hb' : b = 1 ↔ tl_part l (tl_end l 1) = tl_part m 1 := hb.trans ⟨fun z => z.2.2, fun z => ⟨h9, k9, z⟩⟩
      have ca := c_TM_alike (G := G) (o := o) (h0 := h0) (nx := nx) (b := b) hr hq hl hm sl sm t2 u1 hb2 hb'
      refine sd_aload_n dRU_canChain_0 rfl rfl ?_
      refine fx_cV 7 sR_TM [] [] dRU_canChain_1 kRU_85 rfl (dk_tm (by omega)) mTM_isEquation_v (c_TM_isEquation (b := 1) hr hl hx (by omega) (by simp [h9])) (by decide) (Nat.le_refl _) (Nat.le_refl _) (Nat.le_of_ble_eq_true rfl) rfl ?_
      refine nn_if_eq 31 dRU_canChain_4 (by decide) (by decide) (fun c => absurd c (by decide)) (fun _ => ?_)
      refine sd_aload_n dRU_canChain_7 rfl rfl ?_
      refine fx_cV 7 sR_TM [] [] dRU_canChain_8 kRU_85 rfl (dk_tm (by omega)) mTM_isEquation_v (c_TM_isEquation (b := 1) hq hm hy (by omega) (by simp [k9])) (by decide) (Nat.le_refl _) (Nat.le_refl _) (Nat.le_of_ble_eq_true rfl) rfl ?_
      refine nn_if_eq 31 dRU_canChain_11 (by decide) (by decide) (fun c => absurd c (by decide)) (fun _ => ?_)
      refine sd_aload_n dRU_canChain_14 rfl rfl ?_
      refine sd_aload_n dRU_canChain_15 rfl rfl ?_
      refine fx_cV 7 sR_TM [] [.ref (o + (tmo (r)))] dRU_canChain_16 kRU_101 rfl (dk_tm (by omega)) mTM_right_v (c_TM_right hr sl t1) (by decide) (Nat.le_refl _) (Nat.le_refl _) (Nat.le_of_ble_eq_true rfl) rfl ?_
      refine sd_aload_n dRU_canChain_19 rfl rfl ?_
      refine sd_iconst (v := nI 1) dRU_canChain_20 (by decide) ?_
      refine sd_cS [.ref (o + (tmo (r))), .int (nI (tl_end l 1)), .ref (o + (tmo (q))), .int (nI (1))] [] dRU_canChain_21 kRU_105 mTM_alike_s (ca) (by decide) (Nat.le_refl _) (Nat.le_refl _) (Nat.le_of_ble_eq_true rfl) rfl ?_
      refine nn_if_eq 31 dRU_canChain_24 (by decide) (by omega) (fun c24 => ?_) (fun c24 => ?_)
      ·
        refine sd_iconst (v := nI 0) dRU_canChain_31 (by decide) ?_
        exact sd_zret dRU_canChain_32 rfl (nn_01 (by omega)) (Nat.le_refl _) (Nat.le_refl _) ⟨by rw [show b = (0) by omega], rfl, rfl⟩
      ·
        refine sd_iconst (v := nI 1) dRU_canChain_27 (by decide) ?_
        refine sd_goto 32 dRU_canChain_28 (by decide) ?_
        exact sd_zret dRU_canChain_32 rfl (nn_01 (by omega)) (Nat.le_refl _) (Nat.le_refl _) ⟨by rw [show b = (1) by omega], rfl, rfl⟩
    · obtain rfl : b = 0 := by
        have : ¬ b = 1 := fun z => k9 (hb.mp z).2.1
        omega
      refine sd_aload_n dRU_canChain_0 rfl rfl ?_
      refine fx_cV 7 sR_TM [] [] dRU_canChain_1 kRU_85 rfl (dk_tm (by omega)) mTM_isEquation_v (c_TM_isEquation (b := 1) hr hl hx (by omega) (by simp [h9])) (by decide) (Nat.le_refl _) (Nat.le_refl _) (Nat.le_of_ble_eq_true rfl) rfl ?_
      refine nn_if_eq 31 dRU_canChain_4 (by decide) (by decide) (fun c => absurd c (by decide)) (fun _ => ?_)
      refine sd_aload_n dRU_canChain_7 rfl rfl ?_
      refine fx_cV 7 sR_TM [] [] dRU_canChain_8 kRU_85 rfl (dk_tm (by omega)) mTM_isEquation_v (c_TM_isEquation (b := 0) hq hm hy (by omega) (by simp [k9])) (by decide) (Nat.le_refl _) (Nat.le_refl _) (Nat.le_of_ble_eq_true rfl) rfl ?_
      refine nn_if_eq 31 dRU_canChain_11 (by decide) (by decide) (fun _ => ?_) (fun c => absurd c (by decide))
      refine sd_iconst (v := nI 0) dRU_canChain_31 (by decide) ?_
      exact sd_zret dRU_canChain_32 rfl (Or.inl rfl) (Nat.le_refl _) (Nat.le_refl _) ⟨rfl, rfl, rfl⟩
  · obtain rfl : b = 0 := by
      have : ¬ b = 1 := fun z => h9 (hb.mp z).1
      omega
    refine sd_aload_n dRU_canChain_0 rfl rfl ?_
    refine fx_cV 7 sR_TM [] [] dRU_canChain_1 kRU_85 rfl (dk_tm (by omega)) mTM_isEquation_v (c_TM_isEquation (b := 0) hr hl hx (by omega) (by simp [h9])) (by decide) (Nat.le_refl _) (Nat.le_refl _) (Nat.le_of_ble_eq_true rfl) rfl ?_
    refine nn_if_eq 31 dRU_canChain_4 (by decide) (by decide) (fun _ => ?_) (fun c => absurd c (by decide))
    refine sd_iconst (v := nI 0) dRU_canChain_31 (by decide) ?_
    exact sd_zret dRU_canChain_32 rfl (Or.inl rfl) (Nat.le_refl _) (Nat.le_refl _) ⟨rfl, rfl, rfl⟩
