/-! ===== the class's own: open ===== -/
theorem dGS_openGoal_0 : decode prog_4_method_4_code 0 = .ok (.aload_n 0, 1) := by decide +kernel
theorem dGS_openGoal_1 : decode prog_4_method_4_code 1 = .ok (.getfield 11, 3) := by decide +kernel
theorem dGS_openGoal_4 : decode prog_4_method_4_code 4 = .ok (.aload_n 0, 1) := by decide +kernel
theorem dGS_openGoal_5 : decode prog_4_method_4_code 5 = .ok (.getfield 17, 3) := by decide +kernel
theorem dGS_openGoal_8 : decode prog_4_method_4_code 8 = .ok (.aload_n 0, 1) := by decide +kernel
theorem dGS_openGoal_9 : decode prog_4_method_4_code 9 = .ok (.getfield 37, 3) := by decide +kernel
theorem dGS_openGoal_12 : decode prog_4_method_4_code 12 = .ok (.iconst 1, 1) := by decide +kernel
theorem dGS_openGoal_13 : decode prog_4_method_4_code 13 = .ok (.isub, 1) := by decide +kernel
theorem dGS_openGoal_14 : decode prog_4_method_4_code 14 = .ok (.iload_n 1, 1) := by decide +kernel
theorem dGS_openGoal_15 : decode prog_4_method_4_code 15 = .ok (.isub, 1) := by decide +kernel
theorem dGS_openGoal_16 : decode prog_4_method_4_code 16 = .ok (.iaload, 1) := by decide +kernel
theorem dGS_openGoal_17 : decode prog_4_method_4_code 17 = .ok (.aaload, 1) := by decide +kernel
theorem dGS_openGoal_18 : decode prog_4_method_4_code 18 = .ok (.areturn, 1) := by decide +kernel
theorem c_GS_openGoal {G : sd_G} {o : Nat} {D : fx_D} {h0 : sd_H} {nx k g : Nat} {L : List Nat} (hO : dk_opn D L) (hk : L[k]? = some g) (hg : g < 32) : sd_Ct G mGS_openGoal 0 0 0 [.ref (o + 432), .int (nI k)] (fx_h G.1.2 dk_S o D h0) nx (sd_is (some (.ref (o + (436 + 3 * (g))))) (fx_h G.1.2 dk_S o D h0) nx) := by
  refine sd_Ct_of (by decide) (Nat.le_of_ble_eq_true rfl) ?_
  have l30 := hO.1
  have hkl := getE_lt hk
  have hr : L.reverse[L.length - 1 - k]? = some g := by
    rw [List.getElem?_reverse (by omega), show L.length - 1 - (L.length - 1 - k) = k by omega]
    exact hk
  refine sd_aload_n dGS_openGoal_0 rfl rfl ?_
  refine fx_getr 3 2 (433) dGS_openGoal_1 fGS_11 rfl rfl ?_
  refine sd_aload_n dGS_openGoal_4 rfl rfl ?_
  refine fx_getr 3 4 (434) dGS_openGoal_5 fGS_17 rfl rfl ?_
  refine sd_aload_n dGS_openGoal_8 rfl rfl ?_
  refine fx_getiv (v := (nI (L.length))) 3 5 dGS_openGoal_9 fGS_37 rfl rfl (hO.2.1) ?_
  refine sd_iconst (v := nI 1) dGS_openGoal_12 (by decide) ?_
  refine nn_isub dGS_openGoal_13 (by omega) ?_
  refine sd_iload_n dGS_openGoal_14 rfl rfl ?_
  refine nn_isub dGS_openGoal_15 (by omega) ?_
  refine fx_ialdv (v := (nI (g))) ((L.length - 1) - k) dGS_openGoal_16 rfl rfl (by omega) (by decide) (hO.2.2 _ g hr) ?_
  refine fx_aald (g) dGS_openGoal_17 rfl rfl rfl (by omega) (by decide) ?_
  exact sd_aret dGS_openGoal_18 rfl (Nat.le_refl _) (Nat.le_refl _) ⟨rfl, rfl, rfl⟩
theorem dk_gl_at {S : st_S} {D : fx_D} {g : Nat} (h : dk_glL D (st_gl S)) (hg : g < (st_gl S).length) : so_r D (436 + 3 * (g) + 1) (st_gh S g) ∧ D.2.1 (436 + 3 * (g) + 1) 2 = nI (st_gt S g) := by
  have e := List.getElem?_eq_getElem hg
  have e1 : st_gh S g = ((st_gl S)[g]).2.1 := by unfold st_gh; rw [e]; rfl
  have e2 : st_gt S g = ((st_gl S)[g]).1 := by unfold st_gt; rw [e]; rfl
  rw [e1, e2]
  obtain ⟨a, b, -⟩ := h.2.2 g _ e
  exact ⟨a, b⟩
theorem dDK_open_0 : decode prog_1_method_17_code 0 = .ok (.iload_n 1, 1) := by decide +kernel
theorem dDK_open_1 : decode prog_1_method_17_code 1 = .ok (.ifCond .lt (18), 3) := by decide +kernel
theorem dDK_open_4 : decode prog_1_method_17_code 4 = .ok (.iload_n 1, 1) := by decide +kernel
theorem dDK_open_5 : decode prog_1_method_17_code 5 = .ok (.aload_n 0, 1) := by decide +kernel
theorem dDK_open_6 : decode prog_1_method_17_code 6 = .ok (.getfield 44, 3) := by decide +kernel
theorem dDK_open_9 : decode prog_1_method_17_code 9 = .ok (.getfield 171, 3) := by decide +kernel
theorem dDK_open_12 : decode prog_1_method_17_code 12 = .ok (.if_icmp .ge (7), 3) := by decide +kernel
theorem dDK_open_15 : decode prog_1_method_17_code 15 = .ok (.iload_n 2, 1) := by decide +kernel
theorem dDK_open_16 : decode prog_1_method_17_code 16 = .ok (.ifCond .ge (5), 3) := by decide +kernel
theorem dDK_open_19 : decode prog_1_method_17_code 19 = .ok (.iconst (-1), 1) := by decide +kernel
theorem dDK_open_20 : decode prog_1_method_17_code 20 = .ok (.ireturn, 1) := by decide +kernel
theorem dDK_open_21 : decode prog_1_method_17_code 21 = .ok (.aload_n 0, 1) := by decide +kernel
theorem dDK_open_22 : decode prog_1_method_17_code 22 = .ok (.getfield 44, 3) := by decide +kernel
theorem dDK_open_25 : decode prog_1_method_17_code 25 = .ok (.iload_n 1, 1) := by decide +kernel
theorem dDK_open_26 : decode prog_1_method_17_code 26 = .ok (.invokevirtual 189, 3) := by decide +kernel
theorem dDK_open_29 : decode prog_1_method_17_code 29 = .ok (.getfield 193, 3) := by decide +kernel
theorem dDK_open_32 : decode prog_1_method_17_code 32 = .ok (.astore_n 3, 1) := by decide +kernel
theorem dDK_open_33 : decode prog_1_method_17_code 33 = .ok (.iload_n 2, 1) := by decide +kernel
theorem dDK_open_34 : decode prog_1_method_17_code 34 = .ok (.ifCond .ne (8), 3) := by decide +kernel
theorem dDK_open_37 : decode prog_1_method_17_code 37 = .ok (.aload_n 3, 1) := by decide +kernel
theorem dDK_open_38 : decode prog_1_method_17_code 38 = .ok (.getfield 137, 3) := by decide +kernel
theorem dDK_open_41 : decode prog_1_method_17_code 41 = .ok (.ireturn, 1) := by decide +kernel
theorem dDK_open_42 : decode prog_1_method_17_code 42 = .ok (.iload_n 2, 1) := by decide +kernel
theorem dDK_open_43 : decode prog_1_method_17_code 43 = .ok (.iconst 1, 1) := by decide +kernel
theorem dDK_open_44 : decode prog_1_method_17_code 44 = .ok (.if_icmp .ne (8), 3) := by decide +kernel
theorem dDK_open_47 : decode prog_1_method_17_code 47 = .ok (.aload_n 3, 1) := by decide +kernel
theorem dDK_open_48 : decode prog_1_method_17_code 48 = .ok (.getfield 142, 3) := by decide +kernel
theorem dDK_open_51 : decode prog_1_method_17_code 51 = .ok (.ireturn, 1) := by decide +kernel
theorem dDK_open_52 : decode prog_1_method_17_code 52 = .ok (.iload_n 2, 1) := by decide +kernel
theorem dDK_open_53 : decode prog_1_method_17_code 53 = .ok (.iconst 2, 1) := by decide +kernel
theorem dDK_open_54 : decode prog_1_method_17_code 54 = .ok (.isub, 1) := by decide +kernel
theorem dDK_open_55 : decode prog_1_method_17_code 55 = .ok (.aload_n 3, 1) := by decide +kernel
theorem dDK_open_56 : decode prog_1_method_17_code 56 = .ok (.getfield 142, 3) := by decide +kernel
theorem dDK_open_59 : decode prog_1_method_17_code 59 = .ok (.if_icmp .ge (14), 3) := by decide +kernel
theorem dDK_open_62 : decode prog_1_method_17_code 62 = .ok (.aload_n 3, 1) := by decide +kernel
theorem dDK_open_63 : decode prog_1_method_17_code 63 = .ok (.getfield 164, 3) := by decide +kernel
theorem dDK_open_66 : decode prog_1_method_17_code 66 = .ok (.iload_n 2, 1) := by decide +kernel
theorem dDK_open_67 : decode prog_1_method_17_code 67 = .ok (.iconst 2, 1) := by decide +kernel
theorem dDK_open_68 : decode prog_1_method_17_code 68 = .ok (.isub, 1) := by decide +kernel
theorem dDK_open_69 : decode prog_1_method_17_code 69 = .ok (.iaload, 1) := by decide +kernel
theorem dDK_open_70 : decode prog_1_method_17_code 70 = .ok (.goto (4), 3) := by decide +kernel
theorem dDK_open_73 : decode prog_1_method_17_code 73 = .ok (.iconst (-1), 1) := by decide +kernel
theorem dDK_open_74 : decode prog_1_method_17_code 74 = .ok (.ireturn, 1) := by decide +kernel
theorem c_DK_open {G : sd_G} {o : Nat} {D : fx_D} {h0 : sd_H} {nx : Nat} {S : st_S} {x y a : Int32} (hR : dk_R S D) (hO : ∀ (k g : Nat), (st_op S)[k]? = some g → g < (st_gl S).length) (hs : sp_open S x y a) : sd_Ct G mDK_open 1 0 0 [.ref (o + 0), .int x, .int y] (fx_h G.1.2 dk_S o D h0) nx (sd_is (some (.int a)) (fx_h G.1.2 dk_S o D h0) nx) := by
  refine sd_Ct_of (by decide) (Nat.le_of_ble_eq_true rfl) ?_
  have hop := hR.2.2.2.2.2.1
  have hgl := hR.2.2.2.2.1
  have g30 := hgl.1
  have l30 := hop.1
  rcases hs with ⟨hn, rfl⟩ | ⟨k, g, j, hk, rfl, rfl, hj, rfl⟩
  · by_cases hx : x < 0
    ·
      refine sd_iload_n dDK_open_0 rfl rfl ?_
      refine sd_if_lt 19 dDK_open_1 (by decide) (fun c1 => ?_) (fun c1 => ?_)
      ·
        refine sd_iconst (v := (-1)) dDK_open_19 (by decide) ?_
        exact sd_iret dDK_open_20 rfl (Nat.le_refl _) (Nat.le_refl _) ⟨rfl, rfl, rfl⟩
      ·
        exact absurd hx c1
    · obtain ⟨k, hk31, rfl⟩ := nI_of hx
      by_cases hkl : k < (st_op S).length
      · have hk := List.getElem?_eq_getElem hkl
        have hg := hO k _ hk
        obtain ⟨s1, s2⟩ := dk_gl_at hgl hg
        generalize (st_op S)[k] = g at hk hg s1 s2
        have s6 := s1.1
        by_cases hy : y < 0
        ·
          refine sd_iload_n dDK_open_0 rfl rfl ?_
          refine nn_if_lt dDK_open_1 19 (by decide) (by omega) ?_
          refine sd_iload_n dDK_open_4 rfl rfl ?_
          refine sd_aload_n dDK_open_5 rfl rfl ?_
          refine fx_getr 0 4 (432) dDK_open_6 fDK_44 rfl rfl ?_
          refine fx_getiv (v := (nI ((st_op S).length))) 3 5 dDK_open_9 fDK_171 rfl rfl (hop.2.1) ?_
          refine nn_icmp_ge 19 dDK_open_12 (by decide) (by omega) (by omega) (fun c12 => ?_) (fun c12 => ?_)
          ·
            exact absurd c12 (by omega)
          ·
            refine sd_iload_n dDK_open_15 rfl rfl ?_
            refine sd_if_ge 21 dDK_open_16 (by decide) (fun c16 => ?_) (fun c16 => ?_)
            ·
              exact absurd hy (Int32.not_lt.mpr c16)
            ·
              refine sd_iconst (v := (-1)) dDK_open_19 (by decide) ?_
              exact sd_iret dDK_open_20 rfl (Nat.le_refl _) (Nat.le_refl _) ⟨rfl, rfl, rfl⟩
        · obtain ⟨j, hj31, rfl⟩ := nI_of hy
          have hj : ¬ j < 2 + (st_gh S g).length := fun z => hn ⟨k, g, j, hk, rfl, rfl, z⟩
          refine sd_iload_n dDK_open_0 rfl rfl ?_
          refine nn_if_lt dDK_open_1 19 (by decide) (by omega) ?_
          refine sd_iload_n dDK_open_4 rfl rfl ?_
          refine sd_aload_n dDK_open_5 rfl rfl ?_
          refine fx_getr 0 4 (432) dDK_open_6 fDK_44 rfl rfl ?_
          refine fx_getiv (v := (nI ((st_op S).length))) 3 5 dDK_open_9 fDK_171 rfl rfl (hop.2.1) ?_
          refine nn_icmp_ge 19 dDK_open_12 (by decide) (by omega) (by omega) (fun c12 => ?_) (fun c12 => ?_)
          ·
            exact absurd c12 (by omega)
          ·
            refine sd_iload_n dDK_open_15 rfl rfl ?_
            refine nn_if_ge dDK_open_16 21 (by decide) (by omega) ?_
            refine sd_aload_n dDK_open_21 rfl rfl ?_
            refine fx_getr 0 4 (432) dDK_open_22 fDK_44 rfl rfl ?_
            refine sd_iload_n dDK_open_25 rfl rfl ?_
            refine fx_cV 3 sR_GS [.int (nI (k))] [] dDK_open_26 kDK_189 rfl rfl mGS_openGoal_v (c_GS_openGoal hop hk (by omega)) (by decide) (Nat.le_refl _) (Nat.le_refl _) (Nat.le_of_ble_eq_true rfl) rfl ?_
            refine fx_getr 2 0 (436 + 3 * (g) + 1) dDK_open_29 fDK_193 (dk_gl (by omega)) rfl ?_
            refine sd_astore_n dDK_open_32 rfl (by decide) ?_
            refine sd_iload_n dDK_open_33 rfl rfl ?_
            refine nn_if_ne 42 dDK_open_34 (by decide) (by omega) (fun c34 => ?_) (fun c34 => ?_)
            ·
              refine sd_iload_n dDK_open_42 rfl rfl ?_
              refine sd_iconst (v := nI 1) dDK_open_43 (by decide) ?_
              refine nn_icmp_ne 52 dDK_open_44 (by decide) (by omega) (by omega) (fun c44 => ?_) (fun c44 => ?_)
              ·
                refine sd_iload_n dDK_open_52 rfl rfl ?_
                refine sd_iconst (v := nI 2) dDK_open_53 (by decide) ?_
                refine nn_isub dDK_open_54 (by omega) ?_
                refine sd_aload_n dDK_open_55 rfl rfl ?_
                refine fx_getiv (v := (nI ((st_gh S g).length))) 6 1 dDK_open_56 fDK_142 (dk_gls (g := g) (by omega)).1 rfl (s1.2.1) ?_
                refine nn_icmp_ge 73 dDK_open_59 (by decide) (by omega) (by omega) (fun c59 => ?_) (fun c59 => ?_)
                ·
                  refine sd_iconst (v := (-1)) dDK_open_73 (by decide) ?_
                  exact sd_iret dDK_open_74 rfl (Nat.le_refl _) (Nat.le_refl _) ⟨rfl, rfl, rfl⟩
                ·
                  exact absurd c59 (by omega)
              ·
                exact absurd c44 (by omega)
            ·
              exact absurd c34 (by omega)
      ·
        refine sd_iload_n dDK_open_0 rfl rfl ?_
        refine nn_if_lt dDK_open_1 19 (by decide) (by omega) ?_
        refine sd_iload_n dDK_open_4 rfl rfl ?_
        refine sd_aload_n dDK_open_5 rfl rfl ?_
        refine fx_getr 0 4 (432) dDK_open_6 fDK_44 rfl rfl ?_
        refine fx_getiv (v := (nI ((st_op S).length))) 3 5 dDK_open_9 fDK_171 rfl rfl (hop.2.1) ?_
        refine nn_icmp_ge 19 dDK_open_12 (by decide) (by omega) (by omega) (fun c12 => ?_) (fun c12 => ?_)
        ·
          refine sd_iconst (v := (-1)) dDK_open_19 (by decide) ?_
          exact sd_iret dDK_open_20 rfl (Nat.le_refl _) (Nat.le_refl _) ⟨rfl, rfl, rfl⟩
        ·
          exact absurd c12 (by omega)
  · have hkl := getE_lt hk
    have hg := hO k g hk
    obtain ⟨s1, s2⟩ := dk_gl_at hgl hg
    have s6 := s1.1
    match j, hj with
    | 0, _ =>
      refine sd_iload_n dDK_open_0 rfl rfl ?_
      refine nn_if_lt dDK_open_1 19 (by decide) (by omega) ?_
      refine sd_iload_n dDK_open_4 rfl rfl ?_
      refine sd_aload_n dDK_open_5 rfl rfl ?_
      refine fx_getr 0 4 (432) dDK_open_6 fDK_44 rfl rfl ?_
      refine fx_getiv (v := (nI ((st_op S).length))) 3 5 dDK_open_9 fDK_171 rfl rfl (hop.2.1) ?_
      refine nn_icmp_ge 19 dDK_open_12 (by decide) (by omega) (by omega) (fun c12 => ?_) (fun c12 => ?_)
      ·
        exact absurd c12 (by omega)
      ·
        refine sd_iload_n dDK_open_15 rfl rfl ?_
        refine nn_if_ge dDK_open_16 21 (by decide) (by omega) ?_
        refine sd_aload_n dDK_open_21 rfl rfl ?_
        refine fx_getr 0 4 (432) dDK_open_22 fDK_44 rfl rfl ?_
        refine sd_iload_n dDK_open_25 rfl rfl ?_
        refine fx_cV 3 sR_GS [.int (nI (k))] [] dDK_open_26 kDK_189 rfl rfl mGS_openGoal_v (c_GS_openGoal hop hk (by omega)) (by decide) (Nat.le_refl _) (Nat.le_refl _) (Nat.le_of_ble_eq_true rfl) rfl ?_
        refine fx_getr 2 0 (436 + 3 * (g) + 1) dDK_open_29 fDK_193 (dk_gl (by omega)) rfl ?_
        refine sd_astore_n dDK_open_32 rfl (by decide) ?_
        refine sd_iload_n dDK_open_33 rfl rfl ?_
        refine nn_if_ne 42 dDK_open_34 (by decide) (by decide) (fun c => absurd c (by decide)) (fun _ => ?_)
        refine sd_aload_n dDK_open_37 rfl rfl ?_
        refine fx_getiv (v := (nI (st_gt S g))) 6 2 dDK_open_38 fDK_137 (dk_gls (g := g) (by omega)).1 rfl (s2) ?_
        exact sd_iret dDK_open_41 rfl (Nat.le_refl _) (Nat.le_refl _) ⟨rfl, rfl, rfl⟩
    | 1, _ =>
      refine sd_iload_n dDK_open_0 rfl rfl ?_
      refine nn_if_lt dDK_open_1 19 (by decide) (by omega) ?_
      refine sd_iload_n dDK_open_4 rfl rfl ?_
      refine sd_aload_n dDK_open_5 rfl rfl ?_
      refine fx_getr 0 4 (432) dDK_open_6 fDK_44 rfl rfl ?_
      refine fx_getiv (v := (nI ((st_op S).length))) 3 5 dDK_open_9 fDK_171 rfl rfl (hop.2.1) ?_
      refine nn_icmp_ge 19 dDK_open_12 (by decide) (by omega) (by omega) (fun c12 => ?_) (fun c12 => ?_)
      ·
        exact absurd c12 (by omega)
      ·
        refine sd_iload_n dDK_open_15 rfl rfl ?_
        refine nn_if_ge dDK_open_16 21 (by decide) (by omega) ?_
        refine sd_aload_n dDK_open_21 rfl rfl ?_
        refine fx_getr 0 4 (432) dDK_open_22 fDK_44 rfl rfl ?_
        refine sd_iload_n dDK_open_25 rfl rfl ?_
        refine fx_cV 3 sR_GS [.int (nI (k))] [] dDK_open_26 kDK_189 rfl rfl mGS_openGoal_v (c_GS_openGoal hop hk (by omega)) (by decide) (Nat.le_refl _) (Nat.le_refl _) (Nat.le_of_ble_eq_true rfl) rfl ?_
        refine fx_getr 2 0 (436 + 3 * (g) + 1) dDK_open_29 fDK_193 (dk_gl (by omega)) rfl ?_
        refine sd_astore_n dDK_open_32 rfl (by decide) ?_
        refine sd_iload_n dDK_open_33 rfl rfl ?_
        refine nn_if_ne 42 dDK_open_34 (by decide) (by decide) (fun _ => ?_) (fun c => absurd c (by decide))
        refine sd_iload_n dDK_open_42 rfl rfl ?_
        refine sd_iconst (v := nI 1) dDK_open_43 (by decide) ?_
        refine nn_icmp_ne 52 dDK_open_44 (by decide) (by decide) (by decide) (fun c => absurd c (by decide)) (fun _ => ?_)
        refine sd_aload_n dDK_open_47 rfl rfl ?_
        refine fx_getiv (v := (nI ((st_gh S g).length))) 6 1 dDK_open_48 fDK_142 (dk_gls (g := g) (by omega)).1 rfl (s1.2.1) ?_
        exact sd_iret dDK_open_51 rfl (Nat.le_refl _) (Nat.le_refl _) ⟨rfl, rfl, rfl⟩
    | i + 2, hj =>
      have hi := List.getElem?_eq_getElem (show i < (st_gh S g).length by omega)
      obtain ⟨t, ht⟩ : ∃ t, (st_gh S g)[i]? = some t := ⟨_, hi⟩
      obtain ⟨t1, t2⟩ := s1.2.2 i t ht
      have e : ((st_gh S g)[i]?).getD 0 = t := by rw [ht]; rfl
      show sd_W G mDK_open 1 0 0 (sd_is (some (.int (nI (((st_gh S g)[i]?).getD 0)))) (fx_h G.1.2 dk_S o D h0) nx) 0 _ _ _ _ _ _
      rw [e]
      refine sd_iload_n dDK_open_0 rfl rfl ?_
      refine nn_if_lt dDK_open_1 19 (by decide) (by omega) ?_
      refine sd_iload_n dDK_open_4 rfl rfl ?_
      refine sd_aload_n dDK_open_5 rfl rfl ?_
      refine fx_getr 0 4 (432) dDK_open_6 fDK_44 rfl rfl ?_
      refine fx_getiv (v := (nI ((st_op S).length))) 3 5 dDK_open_9 fDK_171 rfl rfl (hop.2.1) ?_
      refine nn_icmp_ge 19 dDK_open_12 (by decide) (by omega) (by omega) (fun c12 => ?_) (fun c12 => ?_)
      ·
        exact absurd c12 (by omega)
      ·
        refine sd_iload_n dDK_open_15 rfl rfl ?_
        refine nn_if_ge dDK_open_16 21 (by decide) (by omega) ?_
        refine sd_aload_n dDK_open_21 rfl rfl ?_
        refine fx_getr 0 4 (432) dDK_open_22 fDK_44 rfl rfl ?_
        refine sd_iload_n dDK_open_25 rfl rfl ?_
        refine fx_cV 3 sR_GS [.int (nI (k))] [] dDK_open_26 kDK_189 rfl rfl mGS_openGoal_v (c_GS_openGoal hop hk (by omega)) (by decide) (Nat.le_refl _) (Nat.le_refl _) (Nat.le_of_ble_eq_true rfl) rfl ?_
        refine fx_getr 2 0 (436 + 3 * (g) + 1) dDK_open_29 fDK_193 (dk_gl (by omega)) rfl ?_
        refine sd_astore_n dDK_open_32 rfl (by decide) ?_
        refine sd_iload_n dDK_open_33 rfl rfl ?_
        refine nn_if_ne 42 dDK_open_34 (by decide) (by omega) (fun c34 => ?_) (fun c34 => ?_)
        ·
          refine sd_iload_n dDK_open_42 rfl rfl ?_
          refine sd_iconst (v := nI 1) dDK_open_43 (by decide) ?_
          refine nn_icmp_ne 52 dDK_open_44 (by decide) (by omega) (by omega) (fun c44 => ?_) (fun c44 => ?_)
          ·
            refine sd_iload_n dDK_open_52 rfl rfl ?_
            refine sd_iconst (v := nI 2) dDK_open_53 (by decide) ?_
            refine nn_isub dDK_open_54 (by omega) ?_
            refine sd_aload_n dDK_open_55 rfl rfl ?_
            refine fx_getiv (v := (nI ((st_gh S g).length))) 6 1 dDK_open_56 fDK_142 (dk_gls (g := g) (by omega)).1 rfl (s1.2.1) ?_
            refine nn_icmp_ge 73 dDK_open_59 (by decide) (by omega) (by omega) (fun c59 => ?_) (fun c59 => ?_)
            ·
              exact absurd c59 (by omega)
            ·
              refine sd_aload_n dDK_open_62 rfl rfl ?_
              refine fx_getr 6 0 (436 + 3 * (g) + 1 + 1) dDK_open_63 fDK_164 (dk_gls (g := g) (by omega)).1 rfl ?_
              refine sd_iload_n dDK_open_66 rfl rfl ?_
              refine sd_iconst (v := nI 2) dDK_open_67 (by decide) ?_
              refine nn_isub dDK_open_68 (by omega) ?_
              refine fx_ialdv (v := (nI (t))) ((i + 2) - 2) dDK_open_69 (dk_gls (g := g) (by omega)).2 rfl (by omega) (by decide) (t1) ?_
              refine sd_goto 74 dDK_open_70 (by decide) ?_
              exact sd_iret dDK_open_74 rfl (Nat.le_refl _) (Nat.le_refl _) ⟨rfl, rfl, rfl⟩
          ·
            exact absurd c44 (by omega)
        ·
          exact absurd c34 (by omega)
