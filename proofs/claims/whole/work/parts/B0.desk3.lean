/-! ===== the class's own: hypothesis, goal ===== -/
theorem dDK_hypothesis_0 : decode prog_1_method_11_code 0 = .ok (.aload_n 0, 1) := by decide +kernel
theorem dDK_hypothesis_1 : decode prog_1_method_11_code 1 = .ok (.getfield 35, 3) := by decide +kernel
theorem dDK_hypothesis_4 : decode prog_1_method_11_code 4 = .ok (.iload_n 1, 1) := by decide +kernel
theorem dDK_hypothesis_5 : decode prog_1_method_11_code 5 = .ok (.invokevirtual 127, 3) := by decide +kernel
theorem dDK_hypothesis_8 : decode prog_1_method_11_code 8 = .ok (.ifCond .eq (26), 3) := by decide +kernel
theorem dDK_hypothesis_11 : decode prog_1_method_11_code 11 = .ok (.iload_n 2, 1) := by decide +kernel
theorem dDK_hypothesis_12 : decode prog_1_method_11_code 12 = .ok (.ifCond .lt (22), 3) := by decide +kernel
theorem dDK_hypothesis_15 : decode prog_1_method_11_code 15 = .ok (.iload_n 2, 1) := by decide +kernel
theorem dDK_hypothesis_16 : decode prog_1_method_11_code 16 = .ok (.aload_n 0, 1) := by decide +kernel
theorem dDK_hypothesis_17 : decode prog_1_method_11_code 17 = .ok (.getfield 35, 3) := by decide +kernel
theorem dDK_hypothesis_20 : decode prog_1_method_11_code 20 = .ok (.getfield 128, 3) := by decide +kernel
theorem dDK_hypothesis_23 : decode prog_1_method_11_code 23 = .ok (.iload_n 1, 1) := by decide +kernel
theorem dDK_hypothesis_24 : decode prog_1_method_11_code 24 = .ok (.aaload, 1) := by decide +kernel
theorem dDK_hypothesis_25 : decode prog_1_method_11_code 25 = .ok (.getfield 131, 3) := by decide +kernel
theorem dDK_hypothesis_28 : decode prog_1_method_11_code 28 = .ok (.getfield 142, 3) := by decide +kernel
theorem dDK_hypothesis_31 : decode prog_1_method_11_code 31 = .ok (.if_icmp .lt (5), 3) := by decide +kernel
theorem dDK_hypothesis_34 : decode prog_1_method_11_code 34 = .ok (.iconst (-1), 1) := by decide +kernel
theorem dDK_hypothesis_35 : decode prog_1_method_11_code 35 = .ok (.ireturn, 1) := by decide +kernel
theorem dDK_hypothesis_36 : decode prog_1_method_11_code 36 = .ok (.aload_n 0, 1) := by decide +kernel
theorem dDK_hypothesis_37 : decode prog_1_method_11_code 37 = .ok (.getfield 35, 3) := by decide +kernel
theorem dDK_hypothesis_40 : decode prog_1_method_11_code 40 = .ok (.getfield 128, 3) := by decide +kernel
theorem dDK_hypothesis_43 : decode prog_1_method_11_code 43 = .ok (.iload_n 1, 1) := by decide +kernel
theorem dDK_hypothesis_44 : decode prog_1_method_11_code 44 = .ok (.aaload, 1) := by decide +kernel
theorem dDK_hypothesis_45 : decode prog_1_method_11_code 45 = .ok (.getfield 131, 3) := by decide +kernel
theorem dDK_hypothesis_48 : decode prog_1_method_11_code 48 = .ok (.getfield 164, 3) := by decide +kernel
theorem dDK_hypothesis_51 : decode prog_1_method_11_code 51 = .ok (.iload_n 2, 1) := by decide +kernel
theorem dDK_hypothesis_52 : decode prog_1_method_11_code 52 = .ok (.iaload, 1) := by decide +kernel
theorem dDK_hypothesis_53 : decode prog_1_method_11_code 53 = .ok (.ireturn, 1) := by decide +kernel
theorem c_DK_hypothesis {G : sd_G} {o : Nat} {D : fx_D} {h0 : sd_H} {nx : Nat} {S : st_S} {x y a : Int32} (hR : dk_R S D) (hs : sp_hypothesis S x y a) : sd_Ct G mDK_hypothesis 1 0 0 [.ref (o + 0), .int x, .int y] (fx_h G.1.2 dk_S o D h0) nx (sd_is (some (.int a)) (fx_h G.1.2 dk_S o D h0) nx) := by
  refine sd_Ct_of (by decide) (Nat.le_of_ble_eq_true rfl) ?_
  have hT := hR.2.2.2.1
  have h40 := hT.1
  have ht := hT.2.1
  have hy : ∀ p, p < (st_th S).length → so_r D (309 + 3 * p + 1) (st_hy S p) := fun p hp => by
    have e := List.getElem?_eq_getElem hp
    have e2 : st_hy S p = ((st_th S)[p]).2.1 := by unfold st_hy; rw [e]; rfl
    rw [e2]
    exact (hT.2.2 p _ e).1
  rcases hs with ⟨hn, rfl⟩ | ⟨p, k, t, hp, rfl, rfl, hk, rfl⟩
  · by_cases h1 : nn_lt x (st_th S).length
    · have h1' := h1
      obtain ⟨p, hp, rfl⟩ := h1'
      have hh := hy p hp
      have h6 := hh.1
      by_cases h0' : y < 0
      ·
        refine sd_aload_n dDK_hypothesis_0 rfl rfl ?_
        refine fx_getr 0 3 (307) dDK_hypothesis_1 fDK_35 rfl rfl ?_
        refine sd_iload_n dDK_hypothesis_4 rfl rfl ?_
        refine fx_cV 5 sR_RU [.int (nI (p))] [] dDK_hypothesis_5 kDK_127 rfl rfl mRU_has_v (c_RU_has (b := 1) (by omega) ht (by omega) (by simp only [true_iff]; exact h1)) (by decide) (Nat.le_refl _) (Nat.le_refl _) (Nat.le_of_ble_eq_true rfl) rfl ?_
        refine nn_if_eq 34 dDK_hypothesis_8 (by decide) (by decide) (fun c => absurd c (by decide)) (fun _ => ?_)
        refine sd_iload_n dDK_hypothesis_11 rfl rfl ?_
        refine sd_if_lt 34 dDK_hypothesis_12 (by decide) (fun c12 => ?_) (fun c12 => ?_)
        ·
          refine sd_iconst (v := (-1)) dDK_hypothesis_34 (by decide) ?_
          exact sd_iret dDK_hypothesis_35 rfl (Nat.le_refl _) (Nat.le_refl _) ⟨rfl, rfl, rfl⟩
        ·
          exact absurd h0' c12
      · obtain ⟨k, hk, rfl⟩ := nI_of h0'
        have h2 : ¬ k < (st_hy S p).length := fun z => hn ⟨p, k, _, hp, rfl, rfl, List.getElem?_eq_getElem z⟩
        refine sd_aload_n dDK_hypothesis_0 rfl rfl ?_
        refine fx_getr 0 3 (307) dDK_hypothesis_1 fDK_35 rfl rfl ?_
        refine sd_iload_n dDK_hypothesis_4 rfl rfl ?_
        refine fx_cV 5 sR_RU [.int (nI (p))] [] dDK_hypothesis_5 kDK_127 rfl rfl mRU_has_v (c_RU_has (b := 1) (by omega) ht (by omega) (by simp only [true_iff]; exact h1)) (by decide) (Nat.le_refl _) (Nat.le_refl _) (Nat.le_of_ble_eq_true rfl) rfl ?_
        refine nn_if_eq 34 dDK_hypothesis_8 (by decide) (by decide) (fun c => absurd c (by decide)) (fun _ => ?_)
        refine sd_iload_n dDK_hypothesis_11 rfl rfl ?_
        refine nn_if_lt dDK_hypothesis_12 34 (by decide) (by omega) ?_
        refine sd_iload_n dDK_hypothesis_15 rfl rfl ?_
        refine sd_aload_n dDK_hypothesis_16 rfl rfl ?_
        refine fx_getr 0 3 (307) dDK_hypothesis_17 fDK_35 rfl rfl ?_
        refine fx_getr 5 1 (308) dDK_hypothesis_20 fDK_128 rfl rfl ?_
        refine sd_iload_n dDK_hypothesis_23 rfl rfl ?_
        refine fx_aald (p) dDK_hypothesis_24 rfl rfl rfl (by omega) (by decide) ?_
        refine fx_getr 9 0 (309 + 3 * (p) + 1) dDK_hypothesis_25 fDK_131 (dk_th (by omega)) rfl ?_
        refine fx_getiv (v := (nI ((st_hy S p).length))) 6 1 dDK_hypothesis_28 fDK_142 (dk_ths (p := p) (by omega)).1 rfl (hh.2.1) ?_
        refine nn_icmp_lt 36 dDK_hypothesis_31 (by decide) (by omega) (by omega) (fun c31 => ?_) (fun c31 => ?_)
        ·
          exact absurd c31 h2
        ·
          refine sd_iconst (v := (-1)) dDK_hypothesis_34 (by decide) ?_
          exact sd_iret dDK_hypothesis_35 rfl (Nat.le_refl _) (Nat.le_refl _) ⟨rfl, rfl, rfl⟩
    ·
      refine sd_aload_n dDK_hypothesis_0 rfl rfl ?_
      refine fx_getr 0 3 (307) dDK_hypothesis_1 fDK_35 rfl rfl ?_
      refine sd_iload_n dDK_hypothesis_4 rfl rfl ?_
      refine fx_cV 5 sR_RU [.int (x)] [] dDK_hypothesis_5 kDK_127 rfl rfl mRU_has_v (c_RU_has (b := 0) (by omega) ht (by omega) (by constructor; intro e; cases e; intro e; exact absurd e h1)) (by decide) (Nat.le_refl _) (Nat.le_refl _) (Nat.le_of_ble_eq_true rfl) rfl ?_
      refine nn_if_eq 34 dDK_hypothesis_8 (by decide) (by decide) (fun _ => ?_) (fun c => absurd c (by decide))
      refine sd_iconst (v := (-1)) dDK_hypothesis_34 (by decide) ?_
      exact sd_iret dDK_hypothesis_35 rfl (Nat.le_refl _) (Nat.le_refl _) ⟨rfl, rfl, rfl⟩
  · have hh := hy p hp
    have h6 := hh.1
    have hkl := getE_lt hk
    refine sd_aload_n dDK_hypothesis_0 rfl rfl ?_
    refine fx_getr 0 3 (307) dDK_hypothesis_1 fDK_35 rfl rfl ?_
    refine sd_iload_n dDK_hypothesis_4 rfl rfl ?_
    refine fx_cV 5 sR_RU [.int (nI (p))] [] dDK_hypothesis_5 kDK_127 rfl rfl mRU_has_v (c_RU_has (b := 1) (by omega) ht (by omega) (by simp only [true_iff]; exact ⟨p, hp, rfl⟩)) (by decide) (Nat.le_refl _) (Nat.le_refl _) (Nat.le_of_ble_eq_true rfl) rfl ?_
    refine nn_if_eq 34 dDK_hypothesis_8 (by decide) (by decide) (fun c => absurd c (by decide)) (fun _ => ?_)
    refine sd_iload_n dDK_hypothesis_11 rfl rfl ?_
    refine nn_if_lt dDK_hypothesis_12 34 (by decide) (by omega) ?_
    refine sd_iload_n dDK_hypothesis_15 rfl rfl ?_
    refine sd_aload_n dDK_hypothesis_16 rfl rfl ?_
    refine fx_getr 0 3 (307) dDK_hypothesis_17 fDK_35 rfl rfl ?_
    refine fx_getr 5 1 (308) dDK_hypothesis_20 fDK_128 rfl rfl ?_
    refine sd_iload_n dDK_hypothesis_23 rfl rfl ?_
    refine fx_aald (p) dDK_hypothesis_24 rfl rfl rfl (by omega) (by decide) ?_
    refine fx_getr 9 0 (309 + 3 * (p) + 1) dDK_hypothesis_25 fDK_131 (dk_th (by omega)) rfl ?_
    refine fx_getiv (v := (nI ((st_hy S p).length))) 6 1 dDK_hypothesis_28 fDK_142 (dk_ths (p := p) (by omega)).1 rfl (hh.2.1) ?_
    refine nn_icmp_lt 36 dDK_hypothesis_31 (by decide) (by omega) (by omega) (fun c31 => ?_) (fun c31 => ?_)
    ·
      refine sd_aload_n dDK_hypothesis_36 rfl rfl ?_
      refine fx_getr 0 3 (307) dDK_hypothesis_37 fDK_35 rfl rfl ?_
      refine fx_getr 5 1 (308) dDK_hypothesis_40 fDK_128 rfl rfl ?_
      refine sd_iload_n dDK_hypothesis_43 rfl rfl ?_
      refine fx_aald (p) dDK_hypothesis_44 rfl rfl rfl (by omega) (by decide) ?_
      refine fx_getr 9 0 (309 + 3 * (p) + 1) dDK_hypothesis_45 fDK_131 (dk_th (by omega)) rfl ?_
      refine fx_getr 6 0 (309 + 3 * (p) + 1 + 1) dDK_hypothesis_48 fDK_164 (dk_ths (p := p) (by omega)).1 rfl ?_
      refine sd_iload_n dDK_hypothesis_51 rfl rfl ?_
      refine fx_ialdv (v := (nI (t))) (k) dDK_hypothesis_52 (dk_ths (p := p) (by omega)).2 rfl (by omega) (by decide) ((hh.2.2 k t hk).1) ?_
      exact sd_iret dDK_hypothesis_53 rfl (Nat.le_refl _) (Nat.le_refl _) ⟨rfl, rfl, rfl⟩
    ·
      exact absurd c31 (by omega)
theorem dGS_drop_0 : decode prog_4_method_2_code 0 = .ok (.aload_n 0, 1) := by decide +kernel
theorem dGS_drop_1 : decode prog_4_method_2_code 1 = .ok (.iconst 0, 1) := by decide +kernel
theorem dGS_drop_2 : decode prog_4_method_2_code 2 = .ok (.putfield 33, 3) := by decide +kernel
theorem dGS_drop_5 : decode prog_4_method_2_code 5 = .ok (.aload_n 0, 1) := by decide +kernel
theorem dGS_drop_6 : decode prog_4_method_2_code 6 = .ok (.iconst 0, 1) := by decide +kernel
theorem dGS_drop_7 : decode prog_4_method_2_code 7 = .ok (.putfield 37, 3) := by decide +kernel
theorem dGS_drop_10 : decode prog_4_method_2_code 10 = .ok (.aload_n 0, 1) := by decide +kernel
theorem dGS_drop_11 : decode prog_4_method_2_code 11 = .ok (.iconst 0, 1) := by decide +kernel
theorem dGS_drop_12 : decode prog_4_method_2_code 12 = .ok (.putfield 40, 3) := by decide +kernel
theorem dGS_drop_15 : decode prog_4_method_2_code 15 = .ok (.return_, 1) := by decide +kernel
def gd_D (D : fx_D) : fx_D := fx_uf (fx_uf (fx_uf D 432 3 (nI 0)) 432 5 (nI 0)) 432 7 (nI 0)
theorem c_GS_drop {G : sd_G} {o : Nat} {D : fx_D} {h0 : sd_H} {nx : Nat} (hB : G.2.1 ≤ o) : sd_Ct G mGS_drop 0 0 0 [.ref (o + 432)] (fx_h G.1.2 dk_S o D h0) nx (sd_is none (fx_h G.1.2 dk_S o (gd_D D) h0) nx) := by
  refine sd_Ct_of (by decide) (Nat.le_of_ble_eq_true rfl) ?_
  refine sd_aload_n dGS_drop_0 rfl rfl ?_
  refine sd_iconst (v := nI 0) dGS_drop_1 (by decide) ?_
  refine fx_puti 3 3 dGS_drop_2 fGS_33 rfl rfl rfl rfl hB ?_
  refine sd_aload_n dGS_drop_5 rfl rfl ?_
  refine sd_iconst (v := nI 0) dGS_drop_6 (by decide) ?_
  refine fx_puti 3 5 dGS_drop_7 fGS_37 rfl rfl rfl rfl hB ?_
  refine sd_aload_n dGS_drop_10 rfl rfl ?_
  refine sd_iconst (v := nI 0) dGS_drop_11 (by decide) ?_
  refine fx_puti 3 7 dGS_drop_12 fGS_40 rfl rfl rfl rfl hB ?_
  exact sd_vret dGS_drop_15 rfl (Nat.le_refl _) (Nat.le_refl _) ⟨rfl, rfl, rfl⟩
def gs_D (D : fx_D) (s : Nat) : fx_D := fx_uf (fx_uf (fx_uf D s 1 (nI 0)) s 2 (-1)) s 3 (nI 0)
def gb_D (D : fx_D) (t : Nat) : fx_D := fx_uf (fx_uf (fx_ua (fx_uf (gs_D (gd_D D) 437) 437 2 (nI t)) 434 0 (nI 0)) 432 5 (nI 1)) 432 3 (nI 1)
theorem gb_ok (D : fx_D) {t : Nat} : dk_glL (gb_D D t) [(t, [], none)] ∧ dk_opn (gb_D D t) [0] ∧ dk_tkn (gb_D D t) [] ∧ ∀ x, x ≠ 432 → x ≠ 434 → x ≠ 437 → ag D (gb_D D t) x := by
  refine ⟨⟨by simp, by simp [gb_D, fx_uf, upd], fun g q hq => ?_⟩, ⟨by simp, by simp [gb_D, fx_uf, upd], fun k g hg => ?_⟩, ⟨by simp, by simp [gb_D, gs_D, gd_D, fx_uf, fx_ua, upd], fun k g hg => by simp at hg⟩, fun x h1 h2 h3 => ?_⟩
  · have hg := getE_lt hq
    obtain rfl : g = 0 := by simpa using hg
    cases hq
    refine ⟨⟨by simp, by simp [gb_D, gs_D, gd_D, fx_uf, fx_ua, upd], fun k u hu => by simp at hu⟩, by simp [gb_D, gs_D, gd_D, fx_uf, fx_ua, upd], fun w hw => by cases hw⟩
  · have hk := getE_lt hg
    obtain rfl : k = 0 := by simpa using hk
    cases hg
    simp [gb_D, gs_D, gd_D, fx_uf, fx_ua, upd]
  · exact ⟨by simp [gb_D, gs_D, gd_D, fx_uf, fx_ua, h2], by simp [gb_D, gs_D, gd_D, fx_uf, fx_ua, h1, h3], rfl⟩
theorem dGS_beginWith_0 : decode prog_4_method_3_code 0 = .ok (.aload_n 0, 1) := by decide +kernel
theorem dGS_beginWith_1 : decode prog_4_method_3_code 1 = .ok (.invokevirtual 43, 3) := by decide +kernel
theorem dGS_beginWith_4 : decode prog_4_method_3_code 4 = .ok (.aload_n 0, 1) := by decide +kernel
theorem dGS_beginWith_5 : decode prog_4_method_3_code 5 = .ok (.getfield 11, 3) := by decide +kernel
theorem dGS_beginWith_8 : decode prog_4_method_3_code 8 = .ok (.iconst 0, 1) := by decide +kernel
theorem dGS_beginWith_9 : decode prog_4_method_3_code 9 = .ok (.aaload, 1) := by decide +kernel
theorem dGS_beginWith_10 : decode prog_4_method_3_code 10 = .ok (.getfield 46, 3) := by decide +kernel
theorem dGS_beginWith_13 : decode prog_4_method_3_code 13 = .ok (.invokevirtual 50, 3) := by decide +kernel
theorem dGS_beginWith_16 : decode prog_4_method_3_code 16 = .ok (.aload_n 0, 1) := by decide +kernel
theorem dGS_beginWith_17 : decode prog_4_method_3_code 17 = .ok (.getfield 11, 3) := by decide +kernel
theorem dGS_beginWith_20 : decode prog_4_method_3_code 20 = .ok (.iconst 0, 1) := by decide +kernel
theorem dGS_beginWith_21 : decode prog_4_method_3_code 21 = .ok (.aaload, 1) := by decide +kernel
theorem dGS_beginWith_22 : decode prog_4_method_3_code 22 = .ok (.getfield 46, 3) := by decide +kernel
theorem dGS_beginWith_25 : decode prog_4_method_3_code 25 = .ok (.iload_n 1, 1) := by decide +kernel
theorem dGS_beginWith_26 : decode prog_4_method_3_code 26 = .ok (.invokevirtual 55, 3) := by decide +kernel
theorem dGS_beginWith_29 : decode prog_4_method_3_code 29 = .ok (.aload_n 0, 1) := by decide +kernel
theorem dGS_beginWith_30 : decode prog_4_method_3_code 30 = .ok (.getfield 17, 3) := by decide +kernel
theorem dGS_beginWith_33 : decode prog_4_method_3_code 33 = .ok (.iconst 0, 1) := by decide +kernel
theorem dGS_beginWith_34 : decode prog_4_method_3_code 34 = .ok (.iconst 0, 1) := by decide +kernel
theorem dGS_beginWith_35 : decode prog_4_method_3_code 35 = .ok (.iastore, 1) := by decide +kernel
theorem dGS_beginWith_36 : decode prog_4_method_3_code 36 = .ok (.aload_n 0, 1) := by decide +kernel
theorem dGS_beginWith_37 : decode prog_4_method_3_code 37 = .ok (.iconst 1, 1) := by decide +kernel
theorem dGS_beginWith_38 : decode prog_4_method_3_code 38 = .ok (.putfield 37, 3) := by decide +kernel
theorem dGS_beginWith_41 : decode prog_4_method_3_code 41 = .ok (.aload_n 0, 1) := by decide +kernel
theorem dGS_beginWith_42 : decode prog_4_method_3_code 42 = .ok (.iconst 1, 1) := by decide +kernel
theorem dGS_beginWith_43 : decode prog_4_method_3_code 43 = .ok (.putfield 33, 3) := by decide +kernel
theorem dGS_beginWith_46 : decode prog_4_method_3_code 46 = .ok (.return_, 1) := by decide +kernel
theorem c_GS_beginWith {G : sd_G} {o : Nat} {D : fx_D} {h0 : sd_H} {nx t : Nat} (hB : G.2.1 ≤ o) (ht : t < 2 ^ 31) : sd_Ct G mGS_beginWith 1 0 0 [.ref (o + 432), .int (nI t)] (fx_h G.1.2 dk_S o D h0) nx (sd_is none (fx_h G.1.2 dk_S o (gb_D D t) h0) nx) := by
  refine sd_Ct_of (by decide) (Nat.le_of_ble_eq_true rfl) ?_
  refine sd_aload_n dGS_beginWith_0 rfl rfl ?_
  refine fx_cV 3 sR_GS [] [] dGS_beginWith_1 kGS_43 rfl rfl mGS_drop_v (c_GS_drop hB) (by decide) (Nat.le_refl _) (Nat.le_refl _) (Nat.le_of_ble_eq_true rfl) rfl ?_
  refine sd_aload_n dGS_beginWith_4 rfl rfl ?_
  refine fx_getr 3 2 (433) dGS_beginWith_5 fGS_11 rfl rfl ?_
  refine sd_iconst (v := nI 0) dGS_beginWith_8 (by decide) ?_
  refine fx_aald (0) dGS_beginWith_9 rfl rfl rfl (by omega) (by decide) ?_
  refine fx_getr 2 0 (436 + 3 * (0) + 1) dGS_beginWith_10 fGS_46 (dk_gl (by omega)) rfl ?_
  refine fx_cV 6 sR_ST [] [] dGS_beginWith_13 kGS_50 rfl (dk_gls (g := 0) (by omega)).1 mST_begin_v (c_ST_begin hB (dk_gls (g := 0) (by omega))) (by decide) (Nat.le_refl _) (Nat.le_refl _) (Nat.le_of_ble_eq_true rfl) rfl ?_
  refine sd_aload_n dGS_beginWith_16 rfl rfl ?_
  refine fx_getr 3 2 (433) dGS_beginWith_17 fGS_11 rfl rfl ?_
  refine sd_iconst (v := nI 0) dGS_beginWith_20 (by decide) ?_
  refine fx_aald (0) dGS_beginWith_21 rfl rfl rfl (by omega) (by decide) ?_
  refine fx_getr 2 0 (436 + 3 * (0) + 1) dGS_beginWith_22 fGS_46 (dk_gl (by omega)) rfl ?_
  refine sd_iload_n dGS_beginWith_25 rfl rfl ?_
  refine fx_cV 6 sR_ST [.int (nI (t))] [] dGS_beginWith_26 kGS_55 rfl (dk_gls (g := 0) (by omega)).1 mST_conclude_v (c_ST_conclude hB (dk_gls (g := 0) (by omega)) ht) (by decide) (Nat.le_refl _) (Nat.le_refl _) (Nat.le_of_ble_eq_true rfl) rfl ?_
  refine sd_aload_n dGS_beginWith_29 rfl rfl ?_
  refine fx_getr 3 4 (434) dGS_beginWith_30 fGS_17 rfl rfl ?_
  refine sd_iconst (v := nI 0) dGS_beginWith_33 (by decide) ?_
  refine sd_iconst (v := nI 0) dGS_beginWith_34 (by decide) ?_
  refine fx_iast (0) dGS_beginWith_35 rfl rfl (by omega) (by decide) hB ?_
  refine sd_aload_n dGS_beginWith_36 rfl rfl ?_
  refine sd_iconst (v := nI 1) dGS_beginWith_37 (by decide) ?_
  refine fx_puti 3 5 dGS_beginWith_38 fGS_37 rfl rfl rfl rfl hB ?_
  refine sd_aload_n dGS_beginWith_41 rfl rfl ?_
  refine sd_iconst (v := nI 1) dGS_beginWith_42 (by decide) ?_
  refine fx_puti 3 3 dGS_beginWith_43 fGS_33 rfl rfl rfl rfl hB ?_
  exact sd_vret dGS_beginWith_46 rfl (Nat.le_refl _) (Nat.le_refl _) ⟨rfl, rfl, rfl⟩
theorem dk_R_gl {S : st_S} {D D' : fx_D} {gl : List st_Gl} {op dn : List Nat} (hR : dk_R S D) (a : ∀ x, x < 432 → ag D D' x) (h1 : dk_glL D' gl) (h2 : dk_opn D' op) (h3 : dk_tkn D' dn) : dk_R (S.1, S.2.1, S.2.2.1, S.2.2.2.1, gl, op, dn) D' := by
  obtain ⟨r1, r2, r3, r4, -, -, -⟩ := hR
  exact ⟨dk_nt_ag (a 2 (by omega)) r1, dk_tms_ag (a 1 (by omega)) (fun x _ _ => a x (by omega)) r2, dd_R_ag (a 296 (by omega)) (a 297 (by omega)) r3, dk_thm_ag (a 307 (by omega)) (fun x _ _ => a x (by omega)) r4, h1, h2, h3⟩
theorem dDK_goal_0 : decode prog_1_method_12_code 0 = .ok (.aload_n 0, 1) := by decide +kernel
theorem dDK_goal_1 : decode prog_1_method_12_code 1 = .ok (.getfield 10, 3) := by decide +kernel
theorem dDK_goal_4 : decode prog_1_method_12_code 4 = .ok (.iload_n 1, 1) := by decide +kernel
theorem dDK_goal_5 : decode prog_1_method_12_code 5 = .ok (.invokevirtual 101, 3) := by decide +kernel
theorem dDK_goal_8 : decode prog_1_method_12_code 8 = .ok (.ifCond .ne (5), 3) := by decide +kernel
theorem dDK_goal_11 : decode prog_1_method_12_code 11 = .ok (.iconst (-1), 1) := by decide +kernel
theorem dDK_goal_12 : decode prog_1_method_12_code 12 = .ok (.ireturn, 1) := by decide +kernel
theorem dDK_goal_13 : decode prog_1_method_12_code 13 = .ok (.aload_n 0, 1) := by decide +kernel
theorem dDK_goal_14 : decode prog_1_method_12_code 14 = .ok (.getfield 10, 3) := by decide +kernel
theorem dDK_goal_17 : decode prog_1_method_12_code 17 = .ok (.getfield 104, 3) := by decide +kernel
theorem dDK_goal_20 : decode prog_1_method_12_code 20 = .ok (.iload_n 1, 1) := by decide +kernel
theorem dDK_goal_21 : decode prog_1_method_12_code 21 = .ok (.aaload, 1) := by decide +kernel
theorem dDK_goal_22 : decode prog_1_method_12_code 22 = .ok (.getfield 111, 3) := by decide +kernel
theorem dDK_goal_25 : decode prog_1_method_12_code 25 = .ok (.iconst 0, 1) := by decide +kernel
theorem dDK_goal_26 : decode prog_1_method_12_code 26 = .ok (.iaload, 1) := by decide +kernel
theorem dDK_goal_27 : decode prog_1_method_12_code 27 = .ok (.iconst 4, 1) := by decide +kernel
theorem dDK_goal_28 : decode prog_1_method_12_code 28 = .ok (.if_icmp .eq (6), 3) := by decide +kernel
theorem dDK_goal_31 : decode prog_1_method_12_code 31 = .ok (.bipush (-4), 2) := by decide +kernel
theorem dDK_goal_33 : decode prog_1_method_12_code 33 = .ok (.ireturn, 1) := by decide +kernel
theorem dDK_goal_34 : decode prog_1_method_12_code 34 = .ok (.aload_n 0, 1) := by decide +kernel
theorem dDK_goal_35 : decode prog_1_method_12_code 35 = .ok (.getfield 44, 3) := by decide +kernel
theorem dDK_goal_38 : decode prog_1_method_12_code 38 = .ok (.iload_n 1, 1) := by decide +kernel
theorem dDK_goal_39 : decode prog_1_method_12_code 39 = .ok (.invokevirtual 167, 3) := by decide +kernel
theorem dDK_goal_42 : decode prog_1_method_12_code 42 = .ok (.aload_n 0, 1) := by decide +kernel
theorem dDK_goal_43 : decode prog_1_method_12_code 43 = .ok (.getfield 44, 3) := by decide +kernel
theorem dDK_goal_46 : decode prog_1_method_12_code 46 = .ok (.getfield 171, 3) := by decide +kernel
theorem dDK_goal_49 : decode prog_1_method_12_code 49 = .ok (.ireturn, 1) := by decide +kernel
theorem c_DK_goal {G : sd_G} {o : Nat} {D : fx_D} {h0 : sd_H} {nx : Nat} {S S' : st_S} {x a : Int32} (hB : G.2.1 ≤ o) (hR : dk_R S D) (hs : sp_goal S x a S') : sd_Ct G mDK_goal 2 0 0 [.ref (o + 0), .int x] (fx_h G.1.2 dk_S o D h0) nx (fx_is G.1.2 dk_S o h0 nx (some (.int a)) (dk_R S')) := by
  refine sd_Ct_of (by decide) (Nat.le_of_ble_eq_true rfl) ?_
  have hT := hR.2.1.2
  have h71 := hT.1
  rcases hs with ⟨hn, rfl, hS⟩ | ⟨t, ht, rfl, hs⟩
  · rw [hS]
    refine sd_aload_n dDK_goal_0 rfl rfl ?_
    refine fx_getr 0 0 (1) dDK_goal_1 fDK_10 rfl rfl ?_
    refine sd_iload_n dDK_goal_4 rfl rfl ?_
    refine fx_cV 8 sR_TS [.int (x)] [] dDK_goal_5 kDK_101 rfl rfl mTS_has_v (c_TS_has (b := 0) (by omega) hT.2.1 (by omega) (by constructor; intro e; cases e; intro e; exact absurd e hn)) (by decide) (Nat.le_refl _) (Nat.le_refl _) (Nat.le_of_ble_eq_true rfl) rfl ?_
    refine nn_if_ne 13 dDK_goal_8 (by decide) (by decide) (fun c => absurd c (by decide)) (fun _ => ?_)
    refine sd_iconst (v := (-1)) dDK_goal_11 (by decide) ?_
    exact sd_iret dDK_goal_12 rfl (Nat.le_refl _) (Nat.le_refl _) ⟨rfl, rfl, D, rfl, hR⟩
  · have e := List.getElem?_eq_getElem ht
    have e2 : st_tm S t = (st_T S)[t] := by unfold st_tm; rw [e]; rfl
    rw [← e2] at e
    obtain ⟨b1, b2, b3⟩ := hT.2.2 t _ e
    have hp := b3.pos
    obtain ⟨q1, q2, q3, q4⟩ := b1.2.2 0 _ (tl_at_some hp)
    have h1 : nn_lt (nI t) (st_T S).length := ⟨t, ht, rfl⟩
    rcases hs with ⟨h4, rfl, hS⟩ | ⟨h4, rfl, rfl⟩
    · rw [hS]
      refine sd_aload_n dDK_goal_0 rfl rfl ?_
      refine fx_getr 0 0 (1) dDK_goal_1 fDK_10 rfl rfl ?_
      refine sd_iload_n dDK_goal_4 rfl rfl ?_
      refine fx_cV 8 sR_TS [.int (nI (t))] [] dDK_goal_5 kDK_101 rfl rfl mTS_has_v (c_TS_has (b := 1) (by omega) hT.2.1 (by omega) (by simp only [true_iff]; exact h1)) (by decide) (Nat.le_refl _) (Nat.le_refl _) (Nat.le_of_ble_eq_true rfl) rfl ?_
      refine nn_if_ne 13 dDK_goal_8 (by decide) (by decide) (fun _ => ?_) (fun c => absurd c (by decide))
      refine sd_aload_n dDK_goal_13 rfl rfl ?_
      refine fx_getr 0 0 (1) dDK_goal_14 fDK_10 rfl rfl ?_
      refine fx_getr 8 1 (3) dDK_goal_17 fDK_104 rfl rfl ?_
      refine sd_iload_n dDK_goal_20 rfl rfl ?_
      refine fx_aald (t) dDK_goal_21 rfl rfl rfl (by omega) (by decide) ?_
      refine fx_getr 7 1 (tmo ((t) + 1) + 2) dDK_goal_22 fDK_111 (dk_tm (by omega)) rfl ?_
      refine sd_iconst (v := nI 0) dDK_goal_25 (by decide) ?_
      refine fx_ialdv (v := (nI ((tl_at (st_tm S t) 0).2))) (0) dDK_goal_26 (dk_tm2 (by omega)) rfl (by omega) (by decide) (q2) ?_
      refine sd_iconst (v := nI 4) dDK_goal_27 (by decide) ?_
      refine nn_icmp_eq 34 dDK_goal_28 (by decide) (by omega) (by omega) (fun c28 => ?_) (fun c28 => ?_)
      ·
        exact absurd c28 h4
      ·
        refine sd_bipush (v := (-4)) dDK_goal_31 (by decide) ?_
        exact sd_iret dDK_goal_33 rfl (Nat.le_refl _) (Nat.le_refl _) ⟨rfl, rfl, D, rfl, hR⟩
    · obtain ⟨g1, g2, g3, g4⟩ := gb_ok D (t := t)
      have hq := dk_R_gl hR (fun x hx => g4 x (by omega) (by omega) (by omega)) g1 g2 g3
      refine sd_aload_n dDK_goal_0 rfl rfl ?_
      refine fx_getr 0 0 (1) dDK_goal_1 fDK_10 rfl rfl ?_
      refine sd_iload_n dDK_goal_4 rfl rfl ?_
      refine fx_cV 8 sR_TS [.int (nI (t))] [] dDK_goal_5 kDK_101 rfl rfl mTS_has_v (c_TS_has (b := 1) (by omega) hT.2.1 (by omega) (by simp only [true_iff]; exact h1)) (by decide) (Nat.le_refl _) (Nat.le_refl _) (Nat.le_of_ble_eq_true rfl) rfl ?_
      refine nn_if_ne 13 dDK_goal_8 (by decide) (by decide) (fun _ => ?_) (fun c => absurd c (by decide))
      refine sd_aload_n dDK_goal_13 rfl rfl ?_
      refine fx_getr 0 0 (1) dDK_goal_14 fDK_10 rfl rfl ?_
      refine fx_getr 8 1 (3) dDK_goal_17 fDK_104 rfl rfl ?_
      refine sd_iload_n dDK_goal_20 rfl rfl ?_
      refine fx_aald (t) dDK_goal_21 rfl rfl rfl (by omega) (by decide) ?_
      refine fx_getr 7 1 (tmo ((t) + 1) + 2) dDK_goal_22 fDK_111 (dk_tm (by omega)) rfl ?_
      refine sd_iconst (v := nI 0) dDK_goal_25 (by decide) ?_
      refine fx_ialdv (v := (nI ((tl_at (st_tm S t) 0).2))) (0) dDK_goal_26 (dk_tm2 (by omega)) rfl (by omega) (by decide) (q2) ?_
      refine sd_iconst (v := nI 4) dDK_goal_27 (by decide) ?_
      refine nn_icmp_eq 34 dDK_goal_28 (by decide) (by omega) (by omega) (fun c28 => ?_) (fun c28 => ?_)
      ·
        refine sd_aload_n dDK_goal_34 rfl rfl ?_
        refine fx_getr 0 4 (432) dDK_goal_35 fDK_44 rfl rfl ?_
        refine sd_iload_n dDK_goal_38 rfl rfl ?_
        refine fx_cV 3 sR_GS [.int (nI (t))] [] dDK_goal_39 kDK_167 rfl rfl mGS_beginWith_v (c_GS_beginWith hB (by omega)) (by decide) (Nat.le_refl _) (Nat.le_refl _) (Nat.le_of_ble_eq_true rfl) rfl ?_
        refine sd_aload_n dDK_goal_42 rfl rfl ?_
        refine fx_getr 0 4 (432) dDK_goal_43 fDK_44 rfl rfl ?_
        refine fx_getiv (v := (nI (1))) 3 5 dDK_goal_46 fDK_171 rfl rfl (g2.2.1) ?_
        exact sd_iret dDK_goal_49 rfl (Nat.le_refl _) (Nat.le_refl _) ⟨rfl, rfl, _, rfl, hq⟩
      ·
        exact absurd h4 c28
