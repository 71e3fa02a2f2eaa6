/-! ===== the model: read ===== -/
theorem dMO_read_0 : decode prog_13_method_40_code 0 = .ok (.aload_n 0, 1) := by decide +kernel
theorem dMO_read_1 : decode prog_13_method_40_code 1 = .ok (.invokevirtual 184, 3) := by decide +kernel
theorem dMO_read_4 : decode prog_13_method_40_code 4 = .ok (.ifCond .ne (6), 3) := by decide +kernel
theorem dMO_read_7 : decode prog_13_method_40_code 7 = .ok (.bipush (-2), 2) := by decide +kernel
theorem dMO_read_9 : decode prog_13_method_40_code 9 = .ok (.ireturn, 1) := by decide +kernel
theorem dMO_read_10 : decode prog_13_method_40_code 10 = .ok (.aload_n 0, 1) := by decide +kernel
theorem dMO_read_11 : decode prog_13_method_40_code 11 = .ok (.invokevirtual 188, 3) := by decide +kernel
theorem dMO_read_14 : decode prog_13_method_40_code 14 = .ok (.aload_n 0, 1) := by decide +kernel
theorem dMO_read_15 : decode prog_13_method_40_code 15 = .ok (.invokevirtual 191, 3) := by decide +kernel
theorem dMO_read_18 : decode prog_13_method_40_code 18 = .ok (.ifCond .eq (10), 3) := by decide +kernel
theorem dMO_read_21 : decode prog_13_method_40_code 21 = .ok (.aload_n 0, 1) := by decide +kernel
theorem dMO_read_22 : decode prog_13_method_40_code 22 = .ok (.invokevirtual 194, 3) := by decide +kernel
theorem dMO_read_25 : decode prog_13_method_40_code 25 = .ok (.ifCond .ne (6), 3) := by decide +kernel
theorem dMO_read_28 : decode prog_13_method_40_code 28 = .ok (.bipush (-3), 2) := by decide +kernel
theorem dMO_read_30 : decode prog_13_method_40_code 30 = .ok (.ireturn, 1) := by decide +kernel
theorem dMO_read_31 : decode prog_13_method_40_code 31 = .ok (.iconst 0, 1) := by decide +kernel
theorem dMO_read_32 : decode prog_13_method_40_code 32 = .ok (.istore_n 1, 1) := by decide +kernel
theorem dMO_read_33 : decode prog_13_method_40_code 33 = .ok (.iload_n 1, 1) := by decide +kernel
theorem dMO_read_34 : decode prog_13_method_40_code 34 = .ok (.aload_n 0, 1) := by decide +kernel
theorem dMO_read_35 : decode prog_13_method_40_code 35 = .ok (.getfield 158, 3) := by decide +kernel
theorem dMO_read_38 : decode prog_13_method_40_code 38 = .ok (.if_icmp .ge (45), 3) := by decide +kernel
theorem dMO_read_41 : decode prog_13_method_40_code 41 = .ok (.aload_n 0, 1) := by decide +kernel
theorem dMO_read_42 : decode prog_13_method_40_code 42 = .ok (.iload_n 1, 1) := by decide +kernel
theorem dMO_read_43 : decode prog_13_method_40_code 43 = .ok (.invokevirtual 168, 3) := by decide +kernel
theorem dMO_read_46 : decode prog_13_method_40_code 46 = .ok (.istore_n 2, 1) := by decide +kernel
theorem dMO_read_47 : decode prog_13_method_40_code 47 = .ok (.aload_n 0, 1) := by decide +kernel
theorem dMO_read_48 : decode prog_13_method_40_code 48 = .ok (.getfield 88, 3) := by decide +kernel
theorem dMO_read_51 : decode prog_13_method_40_code 51 = .ok (.iload_n 2, 1) := by decide +kernel
theorem dMO_read_52 : decode prog_13_method_40_code 52 = .ok (.iaload, 1) := by decide +kernel
theorem dMO_read_53 : decode prog_13_method_40_code 53 = .ok (.bipush (24), 2) := by decide +kernel
theorem dMO_read_55 : decode prog_13_method_40_code 55 = .ok (.if_icmp .le (6), 3) := by decide +kernel
theorem dMO_read_58 : decode prog_13_method_40_code 58 = .ok (.bipush (-5), 2) := by decide +kernel
theorem dMO_read_60 : decode prog_13_method_40_code 60 = .ok (.ireturn, 1) := by decide +kernel
theorem dMO_read_61 : decode prog_13_method_40_code 61 = .ok (.aload_n 0, 1) := by decide +kernel
theorem dMO_read_62 : decode prog_13_method_40_code 62 = .ok (.getfield 13, 3) := by decide +kernel
theorem dMO_read_65 : decode prog_13_method_40_code 65 = .ok (.sipush (1536), 3) := by decide +kernel
theorem dMO_read_68 : decode prog_13_method_40_code 68 = .ok (.iload_n 1, 1) := by decide +kernel
theorem dMO_read_69 : decode prog_13_method_40_code 69 = .ok (.iadd, 1) := by decide +kernel
theorem dMO_read_70 : decode prog_13_method_40_code 70 = .ok (.aload_n 0, 1) := by decide +kernel
theorem dMO_read_71 : decode prog_13_method_40_code 71 = .ok (.getfield 91, 3) := by decide +kernel
theorem dMO_read_74 : decode prog_13_method_40_code 74 = .ok (.iload_n 2, 1) := by decide +kernel
theorem dMO_read_75 : decode prog_13_method_40_code 75 = .ok (.iaload, 1) := by decide +kernel
theorem dMO_read_76 : decode prog_13_method_40_code 76 = .ok (.iastore, 1) := by decide +kernel
theorem dMO_read_77 : decode prog_13_method_40_code 77 = .ok (.iinc 1 (1), 3) := by decide +kernel
theorem dMO_read_80 : decode prog_13_method_40_code 80 = .ok (.goto (-47), 3) := by decide +kernel
theorem dMO_read_83 : decode prog_13_method_40_code 83 = .ok (.aload_n 0, 1) := by decide +kernel
theorem dMO_read_84 : decode prog_13_method_40_code 84 = .ok (.bipush (64), 2) := by decide +kernel
theorem dMO_read_86 : decode prog_13_method_40_code 86 = .ok (.invokevirtual 197, 3) := by decide +kernel
theorem dMO_read_89 : decode prog_13_method_40_code 89 = .ok (.istore_n 1, 1) := by decide +kernel
theorem dMO_read_90 : decode prog_13_method_40_code 90 = .ok (.iload_n 1, 1) := by decide +kernel
theorem dMO_read_91 : decode prog_13_method_40_code 91 = .ok (.bipush (64), 2) := by decide +kernel
theorem dMO_read_93 : decode prog_13_method_40_code 93 = .ok (.if_icmp .ne (6), 3) := by decide +kernel
theorem dMO_read_96 : decode prog_13_method_40_code 96 = .ok (.bipush (-6), 2) := by decide +kernel
theorem dMO_read_98 : decode prog_13_method_40_code 98 = .ok (.ireturn, 1) := by decide +kernel
theorem dMO_read_99 : decode prog_13_method_40_code 99 = .ok (.aload_n 0, 1) := by decide +kernel
theorem dMO_read_100 : decode prog_13_method_40_code 100 = .ok (.iconst 0, 1) := by decide +kernel
theorem dMO_read_101 : decode prog_13_method_40_code 101 = .ok (.putfield 158, 3) := by decide +kernel
theorem dMO_read_104 : decode prog_13_method_40_code 104 = .ok (.iload_n 1, 1) := by decide +kernel
theorem dMO_read_105 : decode prog_13_method_40_code 105 = .ok (.ireturn, 1) := by decide +kernel
theorem e_MO_read {G : sd_G} {o : Nat} {D : fx_D} {h0 : sd_H} {nx : Nat} {S S' : st_S} {ans : Int32} {row : tl_T} (hB : G.2.1 ≤ o) (hR : mo_R S D) (hrow : mo_row D 64 row) (hwf : tl_wf row) (he : (ans, S') = if tl_kp (st_T S) row < 64 then (nI (tl_kp (st_T S) row), (S.1, tl_kt (st_T S) row, [], S.2.2.2)) else (-6, S)) : sd_W G mMO_read 5 0 0 (fx_is G.1.2 mo_S o h0 nx (some (.int ans)) (mo_R S')) 83 [(0, .ref (o + 0))] [] (fx_h G.1.2 mo_S o D h0) nx 0 0 := by
  have k64 : tl_kp (st_T S) row ≤ 64 := Nat.le_trans tl_kp_le hR.2.1.1
  by_cases h64 : tl_kp (st_T S) row < 64
  · rw [if_pos h64] at he
    obtain ⟨rfl, rfl⟩ := Prod.mk.inj he
    refine sd_aload_n dMO_read_83 rfl rfl ?_
    refine sd_bipush (v := nI 64) dMO_read_84 (by decide) ?_
    refine fx_cP 10 sR_MO [.int (nI (64))] [] dMO_read_86 kMO_197 rfl rfl mMO_keep_v (c_MO_keep (r := 64) (T := st_T S) (l := row) hB hR.2.1 (by omega) (by omega) hrow hwf) (by decide) (Nat.le_refl _) (Nat.le_refl _) (Nat.le_of_ble_eq_true rfl) rfl (fun D1 hD1 => ?_)
    refine sd_istore_n dMO_read_89 rfl (by decide) ?_
    refine sd_iload_n dMO_read_90 rfl rfl ?_
    refine sd_bipush (v := nI 64) dMO_read_91 (by decide) ?_
    refine nn_icmp_ne 99 dMO_read_93 (by decide) (by omega) (by omega) (fun c93 => ?_) (fun c93 => ?_)
    ·
      refine sd_aload_n dMO_read_99 rfl rfl ?_
      refine sd_iconst (v := nI 0) dMO_read_100 (by decide) ?_
      refine fx_puti 10 6 dMO_read_101 fMO_158 rfl rfl rfl rfl hB ?_
      refine sd_iload_n dMO_read_104 rfl rfl ?_
      exact sd_iret dMO_read_105 rfl (Nat.le_refl _) (Nat.le_refl _) ⟨rfl, rfl, _, rfl, mo_R_read (mo_R_keep hR hD1.1 hD1.2)⟩
    ·
      exact absurd c93 (by omega)
  · rw [if_neg h64] at he
    obtain ⟨rfl, rfl⟩ := Prod.mk.inj he
    have ek := tl_kt_full hR.2.1.1 h64
    refine sd_aload_n dMO_read_83 rfl rfl ?_
    refine sd_bipush (v := nI 64) dMO_read_84 (by decide) ?_
    refine fx_cP 10 sR_MO [.int (nI (64))] [] dMO_read_86 kMO_197 rfl rfl mMO_keep_v (c_MO_keep (r := 64) (T := st_T S') (l := row) hB hR.2.1 (by omega) (by omega) hrow hwf) (by decide) (Nat.le_refl _) (Nat.le_refl _) (Nat.le_of_ble_eq_true rfl) rfl (fun D1 hD1 => ?_)
    refine sd_istore_n dMO_read_89 rfl (by decide) ?_
    refine sd_iload_n dMO_read_90 rfl rfl ?_
    refine sd_bipush (v := nI 64) dMO_read_91 (by decide) ?_
    refine nn_icmp_ne 99 dMO_read_93 (by decide) (by omega) (by omega) (fun c93 => ?_) (fun c93 => ?_)
    ·
      exact absurd c93 (by omega)
    ·
      refine sd_bipush (v := (-6)) dMO_read_96 (by decide) ?_
      exact sd_iret dMO_read_98 rfl (Nat.le_refl _) (Nat.le_refl _) ⟨rfl, rfl, _, rfl, by have h := mo_R_keep hR hD1.1 hD1.2; rw [ek] at h; exact h⟩
theorem l_MO_read {G : sd_G} {o : Nat} {D0 : fx_D} {h0 : sd_H} {nx N : Nat} {S S' : st_S} {ans : Int32} {l : tl_T} {σ : Nat → ft} {K L R lk ρ : Nat → Nat} {T : Nat → Option ft} (hB : G.2.1 ≤ o) (hR0 : mo_R S D0) (hg0 : gst D0 N K L R lk ρ) (hN : 72 ≤ N) (hm0 : mb D0 N K L R ρ T) (hT : ∀ k, k < l.length → T (ρ k) = some (σ k)) (hok : ∀ k, k < l.length → tt_ok (σ k)) (hwf : tl_wf l) (hdr : (st_dr S).length = l.length) (he : (ans, S') = rd_do S l σ) : ∀ (m k : Nat) (D : fx_D), l.length = k + m → (∀ x, x ≠ 2 → D.1 x = D0.1 x) → D.2 = D0.2 → mo_fa D0 D 64 → mo_row D 64 (rd_p l σ k) → (∀ i, i < k → tt_len (σ i) ≤ 24) → sd_W G mMO_read 5 0 0 (fx_is G.1.2 mo_S o h0 nx (some (.int ans)) (mo_R S')) 33 [(0, .ref (o + 0)), (1, .int (nI k))] [] (fx_h G.1.2 mo_S o D h0) nx 0 0 := by
  have l24 := hwf.2.2
  intro m
  induction m with
  | zero =>
    intro k D hk f1 f2 ff hrow hle
    have hR := mo_R_fa hR0 ff (by omega)
    have d6 : D.2.1 0 6 = nI l.length := by rw [hR.2.2.2.1.2.1, hdr]
    have hnb : ¬ rd_big σ l.length = true := by
      unfold rd_big
      simp only [List.any_eq_true, List.mem_range, decide_eq_true_eq, not_exists, not_and]
      intro i hi
      have := hle i (by omega)
      omega
    unfold rd_do at he
    rw [if_neg hnb] at he
    have fin := e_MO_read (G := G) (o := o) (h0 := h0) (nx := nx) (row := rd_row l σ) hB hR (by unfold rd_row; rw [show l.length = k by omega]; exact hrow) (wf_ar (rd_p_ar l σ l.length) hwf) he
    refine sd_iload_n dMO_read_33 rfl rfl ?_
    refine sd_aload_n dMO_read_34 rfl rfl ?_
    refine fx_getiv (v := (nI (l.length))) 10 6 dMO_read_35 fMO_158 rfl rfl (d6) ?_
    refine nn_icmp_ge 83 dMO_read_38 (by decide) (by omega) (by omega) (fun c38 => ?_) (fun c38 => ?_)
    ·
      refine sd_locp (al' := [(0, .ref (o + (0)))]) [0] rfl ?_
      exact fin
    ·
      exact absurd c38 (by omega)
  | succ m ih =>
    intro k D hk f1 f2 ff hrow hle
    have hR := mo_R_fa hR0 ff (by omega)
    have d6 : D.2.1 0 6 = nI l.length := by rw [hR.2.2.2.1.2.1, hdr]
    have ak : ac N k := Or.inl (by omega)
    have hu : ug D N K L R lk := fun n hn => by
      rw [f1 23 (by decide), f1 24 (by decide), f1 25 (by decide), f1 26 (by decide)]
      exact hg0.1 n hn
    have cR := c_MO_root (G := G) (o := o) (h0 := h0) (nx := nx) hu hg0.2.1 hg0.2.2.1 ak
    have aρ := hg0.2.2.1.ac hg0.2.1 ak
    have lρ := hg0.2.1.lt aρ
    obtain ⟨o1, o2, o3⟩ := (hm0.1 _ aρ).1 _ (hT k (by omega))
    rw [← f1 27 (by decide)] at o2
    rw [← f1 28 (by decide)] at o3
    have hd := dgt_pos (σ k)
    by_cases hbig : tt_len (σ k) ≤ 24
    · have ed : dgt (σ k) = tt_len (σ k) := by unfold dgt; rw [if_pos hbig]
      have en : nmb (σ k) = tt_n (σ k) := by unfold nmb; rw [if_pos hbig]
      rw [ed] at o2
      rw [en] at o3
      have nxt := ih (k + 1) (fx_ua D 2 (1536 + k) (nI (tt_n (σ k)))) (by omega) (fun x hx => (by simp [fx_ua, hx] : (fx_ua D 2 (1536 + k) (nI (tt_n (σ k)))).1 x = D.1 x).trans (f1 x hx)) (show _ = _ from f2) (ff.tr (mo_fa_ty (by omega))) (rd_set (by omega) (tt_n_lt o1 hbig) hrow) (fun i hi => by
        by_cases z : i = k
        · rw [z]; exact hbig
        · exact hle i (by omega))
      refine sd_iload_n dMO_read_33 rfl rfl ?_
      refine sd_aload_n dMO_read_34 rfl rfl ?_
      refine fx_getiv (v := (nI (l.length))) 10 6 dMO_read_35 fMO_158 rfl rfl (d6) ?_
      refine nn_icmp_ge 83 dMO_read_38 (by decide) (by omega) (by omega) (fun c38 => ?_) (fun c38 => ?_)
      ·
        exact absurd c38 (by omega)
      ·
        refine sd_aload_n dMO_read_41 rfl rfl ?_
        refine sd_iload_n dMO_read_42 rfl rfl ?_
        refine fx_cV 10 sR_MO [.int (nI (k))] [] dMO_read_43 kMO_168 rfl rfl mMO_root_v (cR) (by decide) (Nat.le_refl _) (Nat.le_refl _) (Nat.le_of_ble_eq_true rfl) rfl ?_
        refine sd_istore_n dMO_read_46 rfl (by decide) ?_
        refine sd_aload_n dMO_read_47 rfl rfl ?_
        refine fx_getr 10 34 (27) dMO_read_48 fMO_88 rfl rfl ?_
        refine sd_iload_n dMO_read_51 rfl rfl ?_
        refine fx_ialdv (v := (nI (tt_len (σ k)))) (ρ k) dMO_read_52 rfl rfl (by omega) (by decide) (o2) ?_
        refine sd_bipush (v := nI 24) dMO_read_53 (by decide) ?_
        refine nn_icmp_le 61 dMO_read_55 (by decide) (by omega) (by omega) (fun c55 => ?_) (fun c55 => ?_)
        ·
          refine sd_aload_n dMO_read_61 rfl rfl ?_
          refine fx_getr 10 1 (2) dMO_read_62 fMO_13 rfl rfl ?_
          refine sd_sipush (v := nI 1536) dMO_read_65 (by decide) ?_
          refine sd_iload_n dMO_read_68 rfl rfl ?_
          refine nn_iadd dMO_read_69 ?_
          refine sd_aload_n dMO_read_70 rfl rfl ?_
          refine fx_getr 10 35 (28) dMO_read_71 fMO_91 rfl rfl ?_
          refine sd_iload_n dMO_read_74 rfl rfl ?_
          refine fx_ialdv (v := (nI (tt_n (σ k)))) (ρ k) dMO_read_75 rfl rfl (by omega) (by decide) (o3) ?_
          refine fx_iast (1536 + k) dMO_read_76 rfl rfl (by omega) (by decide) hB ?_
          refine nn_iinc 1 dMO_read_77 rfl (by decide) ?_
          refine sd_goto 33 dMO_read_80 (by decide) ?_
          refine sd_locp (al' := [(0, .ref (o + (0))), (1, .int (nI (k + 1)))]) [2, 0] rfl ?_
          exact nxt
        ·
          exact absurd c55 (by omega)
    · have ed : dgt (σ k) = 25 := by unfold dgt; rw [if_neg hbig]
      rw [ed] at o2
      have hb : rd_big σ l.length = true := by
        unfold rd_big
        simp only [List.any_eq_true, List.mem_range, decide_eq_true_eq]
        exact ⟨k, by omega, by omega⟩
      unfold rd_do at he
      rw [if_pos hb] at he
      obtain ⟨rfl, rfl⟩ := Prod.mk.inj he
      refine sd_iload_n dMO_read_33 rfl rfl ?_
      refine sd_aload_n dMO_read_34 rfl rfl ?_
      refine fx_getiv (v := (nI (l.length))) 10 6 dMO_read_35 fMO_158 rfl rfl (d6) ?_
      refine nn_icmp_ge 83 dMO_read_38 (by decide) (by omega) (by omega) (fun c38 => ?_) (fun c38 => ?_)
      ·
        exact absurd c38 (by omega)
      ·
        refine sd_aload_n dMO_read_41 rfl rfl ?_
        refine sd_iload_n dMO_read_42 rfl rfl ?_
        refine fx_cV 10 sR_MO [.int (nI (k))] [] dMO_read_43 kMO_168 rfl rfl mMO_root_v (cR) (by decide) (Nat.le_refl _) (Nat.le_refl _) (Nat.le_of_ble_eq_true rfl) rfl ?_
        refine sd_istore_n dMO_read_46 rfl (by decide) ?_
        refine sd_aload_n dMO_read_47 rfl rfl ?_
        refine fx_getr 10 34 (27) dMO_read_48 fMO_88 rfl rfl ?_
        refine sd_iload_n dMO_read_51 rfl rfl ?_
        refine fx_ialdv (v := (nI (25))) (ρ k) dMO_read_52 rfl rfl (by omega) (by decide) (o2) ?_
        refine sd_bipush (v := nI 24) dMO_read_53 (by decide) ?_
        refine nn_icmp_le 61 dMO_read_55 (by decide) (by decide) (by decide) (fun c => absurd c (by decide)) (fun _ => ?_)
        refine sd_bipush (v := (-5)) dMO_read_58 (by decide) ?_
        exact sd_iret dMO_read_60 rfl (Nat.le_refl _) (Nat.le_refl _) ⟨rfl, rfl, _, rfl, hR⟩
theorem c_MO_read {G : sd_G} {o : Nat} {D : fx_D} {h0 : sd_H} {nx : Nat} {ans : Int32} {S S' : st_S} (hB : G.2.1 ≤ o) (hR : mo_R S D) (hs : sp_read S ans S') : sd_Ct G mMO_read 5 0 0 [.ref (o + 0)] (fx_h G.1.2 mo_S o D h0) nx (fx_is G.1.2 mo_S o h0 nx (some (.int ans)) (mo_R S')) := by
  refine sd_Ct_of (by decide) (Nat.le_of_ble_eq_true rfl) ?_
  have hdr := hR.2.2.2.1
  have h24 := hdr.1
  by_cases hsh : tl_cp 1 (dk_l (st_dr S))
  · have c1 := c_MO_isShape (G := G) (o := o) (h0 := h0) (nx := nx) (v := 1) hdr (by omega) (by simp only [true_iff]; exact hsh)
    have hwf := sp_l_wf hsh h24
    have hlen : (sp_l (st_dr S)).length = (st_dr S).length := sp_p_len _ _
    have hs2 : ((∀ σ, eqs (sp_l (st_dr S)) (st_nt S) (sp_l (st_dr S)).length σ → False) ∧ ans = -3 ∧ S' = S) ∨ ∃ σ, lst (sp_l (st_dr S)) (st_nt S) (sp_l (st_dr S)).length σ ∧ (ans, S') = rd_do S (sp_l (st_dr S)) σ := by
      rcases hs with ⟨z, -, -⟩ | ⟨-, z⟩ | ⟨-, z⟩
      · exact absurd hsh z
      · exact Or.inl z
      · exact Or.inr z
    have no : (∀ σ, eqs (sp_l (st_dr S)) (st_nt S) (sp_l (st_dr S)).length σ → False) → ans = -3 ∧ S' = S := fun hn => by
      rcases hs2 with ⟨-, z⟩ | ⟨σ, z, -⟩
      · exact z
      · exact absurd z.1 (fun q => hn σ q)
    have yes : ∀ σ, lst (sp_l (st_dr S)) (st_nt S) (sp_l (st_dr S)).length σ → (ans, S') = rd_do S (sp_l (st_dr S)) σ := fun σ hσ => by
      rcases hs2 with ⟨z, -⟩ | ⟨σ', z, e⟩
      · exact absurd hσ.1 (fun q => z σ q)
      · rw [e]
        exact rd_do_congr (lst_one z hσ)
    clear hs hs2
    refine sd_aload_n dMO_read_0 rfl rfl ?_
    refine fx_cV 10 sR_MO [] [] dMO_read_1 kMO_184 rfl rfl mMO_isShape_v (c1) (by decide) (Nat.le_refl _) (Nat.le_refl _) (Nat.le_of_ble_eq_true rfl) rfl ?_
    refine nn_if_ne 10 dMO_read_4 (by decide) (by decide) (fun _ => ?_) (fun c => absurd c (by decide))
    refine sd_aload_n dMO_read_10 rfl rfl ?_
    refine fx_cP 10 sR_MO [] [] dMO_read_11 kMO_188 rfl rfl mMO_spell_v (c_MO_spell hB hdr hsh) (by decide) (Nat.le_refl _) (Nat.le_refl _) (Nat.le_of_ble_eq_true rfl) rfl (fun D1 hD1 => ?_)
    have hR1 := mo_R_fa hR hD1.2 (by omega)
    have d6 : D1.2.1 0 6 = nI (sp_l (st_dr S)).length := by rw [hR1.2.2.2.1.2.1, hlen]
    refine sd_aload_n dMO_read_14 rfl rfl ?_
    refine fx_cB 10 sR_MO [] [] dMO_read_15 kMO_191 rfl rfl mMO_isTyped_v (c_MO_isTyped hB hD1.1 (ty_row_of hwf) d6 hR1.1) (by decide) (Nat.le_refl _) (Nat.le_refl _) (Nat.le_of_ble_eq_true rfl) rfl (fun D2 hD2 => ?_) (fun D2 hD2 => ?_)
    ·
      obtain ⟨N, K, L, R, lk, ρ, t1, t2⟩ := hD2
      have hR2 := mo_R_fgr hR1 t2
      refine nn_if_eq 28 dMO_read_18 (by decide) (by decide) (fun c => absurd c (by decide)) (fun _ => ?_)
      refine sd_aload_n dMO_read_21 rfl rfl ?_
      refine fx_cB 10 sR_MO [] [] dMO_read_22 kMO_194 rfl rfl mMO_measure_v (c_MO_measure hB t1.1) (by decide) (Nat.le_refl _) (Nat.le_refl _) (Nat.le_of_ble_eq_true rfl) rfl (fun D3 hD3 => ?_) (fun D3 hD3 => ?_)
      ·
        obtain ⟨T, m1, m2, m3⟩ := hD3
        obtain ⟨σ, hσ, hT⟩ := me_lst t1 hwf.2.2 m1 m2
        have hR3 := mo_R_fm hR2 m3
        refine nn_if_ne 31 dMO_read_25 (by decide) (by decide) (fun _ => ?_) (fun c => absurd c (by decide))
        refine sd_iconst (v := nI 0) dMO_read_31 (by decide) ?_
        refine sd_istore_n dMO_read_32 rfl (by decide) ?_
        refine sd_locp (al' := [(0, .ref (o + (0))), (1, .int (nI (0)))]) [1, 0] rfl ?_
        exact l_MO_read hB hR3 (gst_fm t1.1 m3) t1.2.1 m1 hT hσ.2.1 hwf hlen.symm (yes σ hσ) (sp_l (st_dr S)).length 0 D3 (by omega) (fun _ _ ↦ rfl) rfl (mo_fa.rf D3 64) (by rw [rd_p_zero]; exact mo_row_fm m3 (mo_row_gr t2 hD1.1)) (fun i hi ↦ absurd hi (by omega))
      ·
        refine nn_if_ne 31 dMO_read_25 (by decide) (by decide) (fun c => absurd c (by decide)) (fun _ => ?_)
        refine sd_bipush (v := (-3)) dMO_read_28 (by decide) ?_
        obtain ⟨rfl, rfl⟩ : ans = -3 ∧ S' = S := by first | exact no hD2.1 | exact no (fun σ hσ ↦ by obtain ⟨τ, s1, s2, -⟩ := t1.2.2.2.2.2 σ hσ; exact hD3.1 τ s1 s2)
        first | exact sd_iret dMO_read_30 rfl (Nat.le_refl _) (Nat.le_refl _) ⟨rfl, rfl, _, rfl, mo_R_fgr hR1 hD2.2⟩ | exact sd_iret dMO_read_30 rfl (Nat.le_refl _) (Nat.le_refl _) ⟨rfl, rfl, _, rfl, mo_R_fm hR2 hD3.2⟩
    ·
      refine nn_if_eq 28 dMO_read_18 (by decide) (by decide) (fun _ => ?_) (fun c => absurd c (by decide))
      refine sd_bipush (v := (-3)) dMO_read_28 (by decide) ?_
      obtain ⟨rfl, rfl⟩ : ans = -3 ∧ S' = S := by first | exact no hD2.1 | exact no (fun σ hσ ↦ by obtain ⟨τ, s1, s2, -⟩ := t1.2.2.2.2.2 σ hσ; exact hD3.1 τ s1 s2)
      first | exact sd_iret dMO_read_30 rfl (Nat.le_refl _) (Nat.le_refl _) ⟨rfl, rfl, _, rfl, mo_R_fgr hR1 hD2.2⟩ | exact sd_iret dMO_read_30 rfl (Nat.le_refl _) (Nat.le_refl _) ⟨rfl, rfl, _, rfl, mo_R_fm hR2 hD3.2⟩
  · have c1 := c_MO_isShape (G := G) (o := o) (h0 := h0) (nx := nx) (v := 0) hdr (by omega) (by constructor; intro e; cases e; intro e; exact absurd e hsh)
    have e : ans = -2 ∧ S' = S := by
      rcases hs with ⟨-, z⟩ | ⟨z, -⟩ | ⟨z, -⟩
      · exact z
      · exact absurd z hsh
      · exact absurd z hsh
    obtain ⟨rfl, rfl⟩ := e
    refine sd_aload_n dMO_read_0 rfl rfl ?_
    refine fx_cV 10 sR_MO [] [] dMO_read_1 kMO_184 rfl rfl mMO_isShape_v (c1) (by decide) (Nat.le_refl _) (Nat.le_refl _) (Nat.le_of_ble_eq_true rfl) rfl ?_
    refine nn_if_ne 10 dMO_read_4 (by decide) (by decide) (fun c => absurd c (by decide)) (fun _ => ?_)
    refine sd_bipush (v := (-2)) dMO_read_7 (by decide) ?_
    exact sd_iret dMO_read_9 rfl (Nat.le_refl _) (Nat.le_refl _) ⟨rfl, rfl, _, rfl, hR⟩
