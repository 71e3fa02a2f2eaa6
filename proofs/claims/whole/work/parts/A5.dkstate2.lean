/-! ===== the class's Statement: those of another ===== -/
theorem nI_ne_m1 {x : Nat} (h : x < 2 ^ 30) : ¬ nI x = -1 := fun e => by
  have := nI_toInt (n := x) (by omega)
  rw [e] at this
  have e1 : (-1 : Int32).toInt = -1 := rfl
  omega
theorem dST_assumeThoseOf_0 : decode prog_7_method_4_code 0 = .ok (.iconst 0, 1) := by decide +kernel
theorem dST_assumeThoseOf_1 : decode prog_7_method_4_code 1 = .ok (.istore_n 2, 1) := by decide +kernel
theorem dST_assumeThoseOf_2 : decode prog_7_method_4_code 2 = .ok (.iload_n 2, 1) := by decide +kernel
theorem dST_assumeThoseOf_3 : decode prog_7_method_4_code 3 = .ok (.aload_n 1, 1) := by decide +kernel
theorem dST_assumeThoseOf_4 : decode prog_7_method_4_code 4 = .ok (.getfield 15, 3) := by decide +kernel
theorem dST_assumeThoseOf_7 : decode prog_7_method_4_code 7 = .ok (.if_icmp .ge (19), 3) := by decide +kernel
theorem dST_assumeThoseOf_10 : decode prog_7_method_4_code 10 = .ok (.aload_n 0, 1) := by decide +kernel
theorem dST_assumeThoseOf_11 : decode prog_7_method_4_code 11 = .ok (.aload_n 1, 1) := by decide +kernel
theorem dST_assumeThoseOf_12 : decode prog_7_method_4_code 12 = .ok (.getfield 9, 3) := by decide +kernel
theorem dST_assumeThoseOf_15 : decode prog_7_method_4_code 15 = .ok (.iload_n 2, 1) := by decide +kernel
theorem dST_assumeThoseOf_16 : decode prog_7_method_4_code 16 = .ok (.iaload, 1) := by decide +kernel
theorem dST_assumeThoseOf_17 : decode prog_7_method_4_code 17 = .ok (.invokevirtual 30, 3) := by decide +kernel
theorem dST_assumeThoseOf_20 : decode prog_7_method_4_code 20 = .ok (.iinc 2 (1), 3) := by decide +kernel
theorem dST_assumeThoseOf_23 : decode prog_7_method_4_code 23 = .ok (.goto (-21), 3) := by decide +kernel
theorem dST_assumeThoseOf_26 : decode prog_7_method_4_code 26 = .ok (.return_, 1) := by decide +kernel
theorem l_ST_assumeThoseOf {G : sd_G} {o : Nat} {D0 : fx_D} {h0 : sd_H} {nx s u : Nat} {M L0 : List Nat} (hB : G.2.1 ≤ o) (hso_s : dk_so s) (hso_u : dk_so u) (hne : u + 1 ≠ s + 1) (hM : so_r D0 u M) : ∀ (n k : Nat) (L : List Nat) (D : fx_D), M.length = k + n → so_w D s L → so_f s D0 D → L0 = ls_g L (-1) (M.drop k) → sd_W G mST_assumeThoseOf 2 0 0 (fx_is G.1.2 dk_S o h0 nx none (fun D' => so_w D' s L0 ∧ so_f s D0 D')) 2 [(0, .ref (o + s)), (1, .ref (o + u)), (2, .int (nI k))] [] (fx_h G.1.2 dk_S o D h0) nx 0 0 := by
  have l6 := hM.1
  intro n
  induction n with
  | zero =>
    intro k L D hk h hf he
    have hM' := so_r_f hf hne hM
    rw [List.drop_of_length_le (by omega)] at he
    have he' : L0 = L := he
    subst he'
    refine sd_iload_n dST_assumeThoseOf_2 rfl rfl ?_
    refine sd_aload_n dST_assumeThoseOf_3 rfl rfl ?_
    refine fx_getiv (v := (nI (M.length))) 6 1 dST_assumeThoseOf_4 fST_15 hso_u.1 rfl (hM'.2.1) ?_
    refine nn_icmp_ge 26 dST_assumeThoseOf_7 (by decide) (by omega) (by omega) (fun c7 => ?_) (fun c7 => ?_)
    ·
      exact sd_vret dST_assumeThoseOf_26 rfl (Nat.le_refl _) (Nat.le_refl _) ⟨rfl, rfl, _, rfl, h, hf⟩
    ·
      exact absurd c7 (by omega)
  | succ n ih =>
    intro k L D hk h hf he
    have hM' := so_r_f hf hne hM
    obtain ⟨x, hx⟩ : ∃ x, M[k]? = some x := ⟨M[k], List.getElem?_eq_getElem (by omega)⟩
    have hdr : M.drop k = x :: M.drop (k + 1) := by
      obtain ⟨z1, z2⟩ := List.getElem?_eq_some_iff.mp hx
      rw [List.drop_eq_getElem_cons z1, z2]
    obtain ⟨x1, x2⟩ := hM'.2.2 k x hx
    rw [hdr, ls_g, if_neg (nI_ne_m1 x2)] at he
    refine sd_iload_n dST_assumeThoseOf_2 rfl rfl ?_
    refine sd_aload_n dST_assumeThoseOf_3 rfl rfl ?_
    refine fx_getiv (v := (nI (M.length))) 6 1 dST_assumeThoseOf_4 fST_15 hso_u.1 rfl (hM'.2.1) ?_
    refine nn_icmp_ge 26 dST_assumeThoseOf_7 (by decide) (by omega) (by omega) (fun c7 => ?_) (fun c7 => ?_)
    ·
      exact absurd c7 (by omega)
    ·
      refine sd_aload_n dST_assumeThoseOf_10 rfl rfl ?_
      refine sd_aload_n dST_assumeThoseOf_11 rfl rfl ?_
      refine fx_getr 6 0 (u + 1) dST_assumeThoseOf_12 fST_9 hso_u.1 rfl ?_
      refine sd_iload_n dST_assumeThoseOf_15 rfl rfl ?_
      refine fx_ialdv (v := (nI (x))) (k) dST_assumeThoseOf_16 hso_u.2 rfl (by omega) (by decide) (x1) ?_
      refine fx_cP 6 sR_ST [.int (nI (x))] [] dST_assumeThoseOf_17 kST_30 rfl hso_s.1 mST_assume_v (c_ST_assume hB hso_s h x2) (by decide) (Nat.le_refl _) (Nat.le_refl _) (Nat.le_of_ble_eq_true rfl) rfl (fun D1 h1 => ?_)
      refine nn_iinc 1 dST_assumeThoseOf_20 rfl (by decide) ?_
      refine sd_goto 2 dST_assumeThoseOf_23 (by decide) ?_
      refine sd_locp (al' := [(0, .ref (o + (s))), (1, .ref (o + (u))), (2, .int (nI (k + 1)))]) [1, 2, 0] rfl ?_
      exact ih (k + 1) _ D1 (by omega) h1.1 (hf.tr h1.2) he
theorem c_ST_assumeThoseOf {G : sd_G} {o : Nat} {D : fx_D} {h0 : sd_H} {nx s u : Nat} {M L : List Nat} (hB : G.2.1 ≤ o) (hso_s : dk_so s) (hso_u : dk_so u) (hne : u + 1 ≠ s + 1) (h : so_w D s L) (hM : so_r D u M) : sd_Ct G mST_assumeThoseOf 2 0 0 [.ref (o + s), .ref (o + u)] (fx_h G.1.2 dk_S o D h0) nx (fx_is G.1.2 dk_S o h0 nx none (fun D' => so_w D' s (ls_g L (-1) M) ∧ so_f s D D')) := by
  refine sd_Ct_of (by decide) (Nat.le_of_ble_eq_true rfl) ?_
  refine sd_iconst (v := nI 0) dST_assumeThoseOf_0 (by decide) ?_
  refine sd_istore_n dST_assumeThoseOf_1 rfl (by decide) ?_
  refine sd_locp (al' := [(0, .ref (o + (s))), (1, .ref (o + (u))), (2, .int (nI (0)))]) [1, 2, 0] rfl ?_
  exact l_ST_assumeThoseOf hB hso_s hso_u hne hM M.length 0 L D (by omega) h (so_f.rf s D) (by rw [List.drop_zero])
theorem dST_assumeThoseBut_0 : decode prog_7_method_5_code 0 = .ok (.iconst 0, 1) := by decide +kernel
theorem dST_assumeThoseBut_1 : decode prog_7_method_5_code 1 = .ok (.istore_n 3, 1) := by decide +kernel
theorem dST_assumeThoseBut_2 : decode prog_7_method_5_code 2 = .ok (.iload_n 3, 1) := by decide +kernel
theorem dST_assumeThoseBut_3 : decode prog_7_method_5_code 3 = .ok (.aload_n 1, 1) := by decide +kernel
theorem dST_assumeThoseBut_4 : decode prog_7_method_5_code 4 = .ok (.getfield 15, 3) := by decide +kernel
theorem dST_assumeThoseBut_7 : decode prog_7_method_5_code 7 = .ok (.if_icmp .ge (29), 3) := by decide +kernel
theorem dST_assumeThoseBut_10 : decode prog_7_method_5_code 10 = .ok (.aload_n 1, 1) := by decide +kernel
theorem dST_assumeThoseBut_11 : decode prog_7_method_5_code 11 = .ok (.getfield 9, 3) := by decide +kernel
theorem dST_assumeThoseBut_14 : decode prog_7_method_5_code 14 = .ok (.iload_n 3, 1) := by decide +kernel
theorem dST_assumeThoseBut_15 : decode prog_7_method_5_code 15 = .ok (.iaload, 1) := by decide +kernel
theorem dST_assumeThoseBut_16 : decode prog_7_method_5_code 16 = .ok (.iload_n 2, 1) := by decide +kernel
theorem dST_assumeThoseBut_17 : decode prog_7_method_5_code 17 = .ok (.if_icmp .eq (13), 3) := by decide +kernel
theorem dST_assumeThoseBut_20 : decode prog_7_method_5_code 20 = .ok (.aload_n 0, 1) := by decide +kernel
theorem dST_assumeThoseBut_21 : decode prog_7_method_5_code 21 = .ok (.aload_n 1, 1) := by decide +kernel
theorem dST_assumeThoseBut_22 : decode prog_7_method_5_code 22 = .ok (.getfield 9, 3) := by decide +kernel
theorem dST_assumeThoseBut_25 : decode prog_7_method_5_code 25 = .ok (.iload_n 3, 1) := by decide +kernel
theorem dST_assumeThoseBut_26 : decode prog_7_method_5_code 26 = .ok (.iaload, 1) := by decide +kernel
theorem dST_assumeThoseBut_27 : decode prog_7_method_5_code 27 = .ok (.invokevirtual 30, 3) := by decide +kernel
theorem dST_assumeThoseBut_30 : decode prog_7_method_5_code 30 = .ok (.iinc 3 (1), 3) := by decide +kernel
theorem dST_assumeThoseBut_33 : decode prog_7_method_5_code 33 = .ok (.goto (-31), 3) := by decide +kernel
theorem dST_assumeThoseBut_36 : decode prog_7_method_5_code 36 = .ok (.return_, 1) := by decide +kernel
theorem l_ST_assumeThoseBut {G : sd_G} {o : Nat} {D0 : fx_D} {h0 : sd_H} {nx s u t : Nat} {M L0 : List Nat} (hB : G.2.1 ≤ o) (hso_s : dk_so s) (hso_u : dk_so u) (hne : u + 1 ≠ s + 1) (ht : t < 2 ^ 30) (hM : so_r D0 u M) : ∀ (n k : Nat) (L : List Nat) (D : fx_D), M.length = k + n → so_w D s L → so_f s D0 D → L0 = ls_g L (nI t) (M.drop k) → sd_W G mST_assumeThoseBut 2 0 0 (fx_is G.1.2 dk_S o h0 nx none (fun D' => so_w D' s L0 ∧ so_f s D0 D')) 2 [(0, .ref (o + s)), (1, .ref (o + u)), (2, .int (nI t)), (3, .int (nI k))] [] (fx_h G.1.2 dk_S o D h0) nx 0 0 := by
  have l6 := hM.1
  intro n
  induction n with
  | zero =>
    intro k L D hk h hf he
    have hM' := so_r_f hf hne hM
    rw [List.drop_of_length_le (by omega)] at he
    have he' : L0 = L := he
    subst he'
    refine sd_iload_n dST_assumeThoseBut_2 rfl rfl ?_
    refine sd_aload_n dST_assumeThoseBut_3 rfl rfl ?_
    refine fx_getiv (v := (nI (M.length))) 6 1 dST_assumeThoseBut_4 fST_15 hso_u.1 rfl (hM'.2.1) ?_
    refine nn_icmp_ge 36 dST_assumeThoseBut_7 (by decide) (by omega) (by omega) (fun c7 => ?_) (fun c7 => ?_)
    ·
      exact sd_vret dST_assumeThoseBut_36 rfl (Nat.le_refl _) (Nat.le_refl _) ⟨rfl, rfl, _, rfl, h, hf⟩
    ·
      exact absurd c7 (by omega)
  | succ n ih =>
    intro k L D hk h hf he
    have hM' := so_r_f hf hne hM
    obtain ⟨x, hx⟩ : ∃ x, M[k]? = some x := ⟨M[k], List.getElem?_eq_getElem (by omega)⟩
    have hdr : M.drop k = x :: M.drop (k + 1) := by
      obtain ⟨z1, z2⟩ := List.getElem?_eq_some_iff.mp hx
      rw [List.drop_eq_getElem_cons z1, z2]
    obtain ⟨x1, x2⟩ := hM'.2.2 k x hx
    by_cases e : x = t
    · rw [hdr, ls_g, if_pos (by rw [e])] at he
      refine sd_iload_n dST_assumeThoseBut_2 rfl rfl ?_
      refine sd_aload_n dST_assumeThoseBut_3 rfl rfl ?_
      refine fx_getiv (v := (nI (M.length))) 6 1 dST_assumeThoseBut_4 fST_15 hso_u.1 rfl (hM'.2.1) ?_
      refine nn_icmp_ge 36 dST_assumeThoseBut_7 (by decide) (by omega) (by omega) (fun c7 => ?_) (fun c7 => ?_)
      ·
        exact absurd c7 (by omega)
      ·
        refine sd_aload_n dST_assumeThoseBut_10 rfl rfl ?_
        refine fx_getr 6 0 (u + 1) dST_assumeThoseBut_11 fST_9 hso_u.1 rfl ?_
        refine sd_iload_n dST_assumeThoseBut_14 rfl rfl ?_
        refine fx_ialdv (v := (nI (x))) (k) dST_assumeThoseBut_15 hso_u.2 rfl (by omega) (by decide) (x1) ?_
        refine sd_iload_n dST_assumeThoseBut_16 rfl rfl ?_
        refine nn_icmp_eq 30 dST_assumeThoseBut_17 (by decide) (by omega) (by omega) (fun c17 => ?_) (fun c17 => ?_)
        ·
          refine nn_iinc 1 dST_assumeThoseBut_30 rfl (by decide) ?_
          refine sd_goto 2 dST_assumeThoseBut_33 (by decide) ?_
          refine sd_locp (al' := [(0, .ref (o + (s))), (1, .ref (o + (u))), (2, .int (nI (t))), (3, .int (nI (k + 1)))]) [1, 2, 3, 0] rfl ?_
          exact ih (k + 1) _ D (by omega) h hf he
        ·
          exact absurd e c17
    · rw [hdr, ls_g, if_neg (fun z => e (nI_inj (by omega) (by omega) z))] at he
      refine sd_iload_n dST_assumeThoseBut_2 rfl rfl ?_
      refine sd_aload_n dST_assumeThoseBut_3 rfl rfl ?_
      refine fx_getiv (v := (nI (M.length))) 6 1 dST_assumeThoseBut_4 fST_15 hso_u.1 rfl (hM'.2.1) ?_
      refine nn_icmp_ge 36 dST_assumeThoseBut_7 (by decide) (by omega) (by omega) (fun c7 => ?_) (fun c7 => ?_)
      ·
        exact absurd c7 (by omega)
      ·
        refine sd_aload_n dST_assumeThoseBut_10 rfl rfl ?_
        refine fx_getr 6 0 (u + 1) dST_assumeThoseBut_11 fST_9 hso_u.1 rfl ?_
        refine sd_iload_n dST_assumeThoseBut_14 rfl rfl ?_
        refine fx_ialdv (v := (nI (x))) (k) dST_assumeThoseBut_15 hso_u.2 rfl (by omega) (by decide) (x1) ?_
        refine sd_iload_n dST_assumeThoseBut_16 rfl rfl ?_
        refine nn_icmp_eq 30 dST_assumeThoseBut_17 (by decide) (by omega) (by omega) (fun c17 => ?_) (fun c17 => ?_)
        ·
          exact absurd c17 e
        ·
          refine sd_aload_n dST_assumeThoseBut_20 rfl rfl ?_
          refine sd_aload_n dST_assumeThoseBut_21 rfl rfl ?_
          refine fx_getr 6 0 (u + 1) dST_assumeThoseBut_22 fST_9 hso_u.1 rfl ?_
          refine sd_iload_n dST_assumeThoseBut_25 rfl rfl ?_
          refine fx_ialdv (v := (nI (x))) (k) dST_assumeThoseBut_26 hso_u.2 rfl (by omega) (by decide) (x1) ?_
          refine fx_cP 6 sR_ST [.int (nI (x))] [] dST_assumeThoseBut_27 kST_30 rfl hso_s.1 mST_assume_v (c_ST_assume hB hso_s h x2) (by decide) (Nat.le_refl _) (Nat.le_refl _) (Nat.le_of_ble_eq_true rfl) rfl (fun D1 h1 => ?_)
          refine nn_iinc 1 dST_assumeThoseBut_30 rfl (by decide) ?_
          refine sd_goto 2 dST_assumeThoseBut_33 (by decide) ?_
          refine sd_locp (al' := [(0, .ref (o + (s))), (1, .ref (o + (u))), (2, .int (nI (t))), (3, .int (nI (k + 1)))]) [1, 2, 3, 0] rfl ?_
          exact ih (k + 1) _ D1 (by omega) h1.1 (hf.tr h1.2) he
theorem c_ST_assumeThoseBut {G : sd_G} {o : Nat} {D : fx_D} {h0 : sd_H} {nx s u t : Nat} {M L : List Nat} (hB : G.2.1 ≤ o) (hso_s : dk_so s) (hso_u : dk_so u) (hne : u + 1 ≠ s + 1) (ht : t < 2 ^ 30) (h : so_w D s L) (hM : so_r D u M) : sd_Ct G mST_assumeThoseBut 2 0 0 [.ref (o + s), .ref (o + u), .int (nI t)] (fx_h G.1.2 dk_S o D h0) nx (fx_is G.1.2 dk_S o h0 nx none (fun D' => so_w D' s (ls_g L (nI t) M) ∧ so_f s D D')) := by
  refine sd_Ct_of (by decide) (Nat.le_of_ble_eq_true rfl) ?_
  refine sd_iconst (v := nI 0) dST_assumeThoseBut_0 (by decide) ?_
  refine sd_istore_n dST_assumeThoseBut_1 rfl (by decide) ?_
  refine sd_locp (al' := [(0, .ref (o + (s))), (1, .ref (o + (u))), (2, .int (nI (t))), (3, .int (nI (0)))]) [1, 2, 3, 0] rfl ?_
  exact l_ST_assumeThoseBut hB hso_s hso_u hne ht hM M.length 0 L D (by omega) h (so_f.rf s D) (by rw [List.drop_zero])
theorem dST_assumesThoseOf_0 : decode prog_7_method_8_code 0 = .ok (.iconst 0, 1) := by decide +kernel
theorem dST_assumesThoseOf_1 : decode prog_7_method_8_code 1 = .ok (.istore_n 2, 1) := by decide +kernel
theorem dST_assumesThoseOf_2 : decode prog_7_method_8_code 2 = .ok (.iload_n 2, 1) := by decide +kernel
theorem dST_assumesThoseOf_3 : decode prog_7_method_8_code 3 = .ok (.aload_n 1, 1) := by decide +kernel
theorem dST_assumesThoseOf_4 : decode prog_7_method_8_code 4 = .ok (.getfield 15, 3) := by decide +kernel
theorem dST_assumesThoseOf_7 : decode prog_7_method_8_code 7 = .ok (.if_icmp .ge (24), 3) := by decide +kernel
theorem dST_assumesThoseOf_10 : decode prog_7_method_8_code 10 = .ok (.aload_n 0, 1) := by decide +kernel
theorem dST_assumesThoseOf_11 : decode prog_7_method_8_code 11 = .ok (.aload_n 1, 1) := by decide +kernel
theorem dST_assumesThoseOf_12 : decode prog_7_method_8_code 12 = .ok (.getfield 9, 3) := by decide +kernel
theorem dST_assumesThoseOf_15 : decode prog_7_method_8_code 15 = .ok (.iload_n 2, 1) := by decide +kernel
theorem dST_assumesThoseOf_16 : decode prog_7_method_8_code 16 = .ok (.iaload, 1) := by decide +kernel
theorem dST_assumesThoseOf_17 : decode prog_7_method_8_code 17 = .ok (.invokevirtual 26, 3) := by decide +kernel
theorem dST_assumesThoseOf_20 : decode prog_7_method_8_code 20 = .ok (.ifCond .ne (5), 3) := by decide +kernel
theorem dST_assumesThoseOf_23 : decode prog_7_method_8_code 23 = .ok (.iconst 0, 1) := by decide +kernel
theorem dST_assumesThoseOf_24 : decode prog_7_method_8_code 24 = .ok (.ireturn, 1) := by decide +kernel
theorem dST_assumesThoseOf_25 : decode prog_7_method_8_code 25 = .ok (.iinc 2 (1), 3) := by decide +kernel
theorem dST_assumesThoseOf_28 : decode prog_7_method_8_code 28 = .ok (.goto (-26), 3) := by decide +kernel
theorem dST_assumesThoseOf_31 : decode prog_7_method_8_code 31 = .ok (.iconst 1, 1) := by decide +kernel
theorem dST_assumesThoseOf_32 : decode prog_7_method_8_code 32 = .ok (.ireturn, 1) := by decide +kernel
theorem l_ST_assumesThoseOf {G : sd_G} {o : Nat} {D : fx_D} {h0 : sd_H} {nx s u b : Nat} {M L : List Nat} (hso_s : dk_so s) (hso_u : dk_so u) (hL : so_r D s L) (hM : so_r D u M) (hb2 : b < 2) : ∀ (n k : Nat), M.length = k + n → (b = 1 ↔ ∀ t ∈ M.drop k, t ∈ L) → sd_W G mST_assumesThoseOf 1 0 0 (sd_is (some (.int (nI b))) (fx_h G.1.2 dk_S o D h0) nx) 2 [(0, .ref (o + s)), (1, .ref (o + u)), (2, .int (nI k))] [] (fx_h G.1.2 dk_S o D h0) nx 0 0 := by
  have l6 := hM.1
  intro n
  induction n with
  | zero =>
    intro k hk hb
    rw [List.drop_of_length_le (by omega)] at hb
    obtain rfl : b = 1 := hb.mpr (fun t ht => by simp at ht)
    refine sd_iload_n dST_assumesThoseOf_2 rfl rfl ?_
    refine sd_aload_n dST_assumesThoseOf_3 rfl rfl ?_
    refine fx_getiv (v := (nI (M.length))) 6 1 dST_assumesThoseOf_4 fST_15 hso_u.1 rfl (hM.2.1) ?_
    refine nn_icmp_ge 31 dST_assumesThoseOf_7 (by decide) (by omega) (by omega) (fun c7 => ?_) (fun c7 => ?_)
    ·
      refine sd_iconst (v := nI 1) dST_assumesThoseOf_31 (by decide) ?_
      exact sd_zret dST_assumesThoseOf_32 rfl (Or.inr rfl) (Nat.le_refl _) (Nat.le_refl _) ⟨rfl, rfl, rfl⟩
    ·
      exact absurd c7 (by omega)
  | succ n ih =>
    intro k hk hb
    obtain ⟨x, hx⟩ : ∃ x, M[k]? = some x := ⟨M[k], List.getElem?_eq_getElem (by omega)⟩
    have hdr : M.drop k = x :: M.drop (k + 1) := by
      obtain ⟨z1, z2⟩ := List.getElem?_eq_some_iff.mp hx
      rw [List.drop_eq_getElem_cons z1, z2]
    obtain ⟨x1, x2⟩ := hM.2.2 k x hx
    rw [hdr] at hb
    by_cases e : x ∈ L
    · have hb' : b = 1 ↔ ∀ t ∈ M.drop (k + 1), t ∈ L := hb.trans ⟨fun z t ht => z t (List.mem_cons_of_mem _ ht), fun z t ht => by
        rcases List.mem_cons.mp ht with rfl | ht
        · exact e
        · exact z t ht⟩
      refine sd_iload_n dST_assumesThoseOf_2 rfl rfl ?_
      refine sd_aload_n dST_assumesThoseOf_3 rfl rfl ?_
      refine fx_getiv (v := (nI (M.length))) 6 1 dST_assumesThoseOf_4 fST_15 hso_u.1 rfl (hM.2.1) ?_
      refine nn_icmp_ge 31 dST_assumesThoseOf_7 (by decide) (by omega) (by omega) (fun c7 => ?_) (fun c7 => ?_)
      ·
        exact absurd c7 (by omega)
      ·
        refine sd_aload_n dST_assumesThoseOf_10 rfl rfl ?_
        refine sd_aload_n dST_assumesThoseOf_11 rfl rfl ?_
        refine fx_getr 6 0 (u + 1) dST_assumesThoseOf_12 fST_9 hso_u.1 rfl ?_
        refine sd_iload_n dST_assumesThoseOf_15 rfl rfl ?_
        refine fx_ialdv (v := (nI (x))) (k) dST_assumesThoseOf_16 hso_u.2 rfl (by omega) (by decide) (x1) ?_
        refine fx_cV 6 sR_ST [.int (nI (x))] [] dST_assumesThoseOf_17 kST_26 rfl hso_s.1 mST_assumes_v (c_ST_assumes (b := 1) hso_s hL x2 (by omega) (by simp [e])) (by decide) (Nat.le_refl _) (Nat.le_refl _) (Nat.le_of_ble_eq_true rfl) rfl ?_
        refine nn_if_ne 25 dST_assumesThoseOf_20 (by decide) (by decide) (fun _ => ?_) (fun c => absurd c (by decide))
        refine nn_iinc 1 dST_assumesThoseOf_25 rfl (by decide) ?_
        refine sd_goto 2 dST_assumesThoseOf_28 (by decide) ?_
        refine sd_locp (al' := [(0, .ref (o + (s))), (1, .ref (o + (u))), (2, .int (nI (k + 1)))]) [1, 2, 0] rfl ?_
        exact ih (k + 1) (by omega) hb'
    · have hb0 : b = 0 := by
        have : ¬ b = 1 := fun z => e (hb.mp z x List.mem_cons_self)
        omega
      subst hb0
      refine sd_iload_n dST_assumesThoseOf_2 rfl rfl ?_
      refine sd_aload_n dST_assumesThoseOf_3 rfl rfl ?_
      refine fx_getiv (v := (nI (M.length))) 6 1 dST_assumesThoseOf_4 fST_15 hso_u.1 rfl (hM.2.1) ?_
      refine nn_icmp_ge 31 dST_assumesThoseOf_7 (by decide) (by omega) (by omega) (fun c7 => ?_) (fun c7 => ?_)
      ·
        exact absurd c7 (by omega)
      ·
        refine sd_aload_n dST_assumesThoseOf_10 rfl rfl ?_
        refine sd_aload_n dST_assumesThoseOf_11 rfl rfl ?_
        refine fx_getr 6 0 (u + 1) dST_assumesThoseOf_12 fST_9 hso_u.1 rfl ?_
        refine sd_iload_n dST_assumesThoseOf_15 rfl rfl ?_
        refine fx_ialdv (v := (nI (x))) (k) dST_assumesThoseOf_16 hso_u.2 rfl (by omega) (by decide) (x1) ?_
        refine fx_cV 6 sR_ST [.int (nI (x))] [] dST_assumesThoseOf_17 kST_26 rfl hso_s.1 mST_assumes_v (c_ST_assumes (b := 0) hso_s hL x2 (by omega) (by simp [e])) (by decide) (Nat.le_refl _) (Nat.le_refl _) (Nat.le_of_ble_eq_true rfl) rfl ?_
        refine nn_if_ne 25 dST_assumesThoseOf_20 (by decide) (by decide) (fun c => absurd c (by decide)) (fun _ => ?_)
        refine sd_iconst (v := nI 0) dST_assumesThoseOf_23 (by decide) ?_
        exact sd_zret dST_assumesThoseOf_24 rfl (Or.inl rfl) (Nat.le_refl _) (Nat.le_refl _) ⟨rfl, rfl, rfl⟩
theorem c_ST_assumesThoseOf {G : sd_G} {o : Nat} {D : fx_D} {h0 : sd_H} {nx s u b : Nat} {M L : List Nat} (hso_s : dk_so s) (hso_u : dk_so u) (hL : so_r D s L) (hM : so_r D u M) (hb2 : b < 2) (hb : b = 1 ↔ ∀ t ∈ M, t ∈ L) : sd_Ct G mST_assumesThoseOf 1 0 0 [.ref (o + s), .ref (o + u)] (fx_h G.1.2 dk_S o D h0) nx (sd_is (some (.int (nI b))) (fx_h G.1.2 dk_S o D h0) nx) := by
  refine sd_Ct_of (by decide) (Nat.le_of_ble_eq_true rfl) ?_
  refine sd_iconst (v := nI 0) dST_assumesThoseOf_0 (by decide) ?_
  refine sd_istore_n dST_assumesThoseOf_1 rfl (by decide) ?_
  refine sd_locp (al' := [(0, .ref (o + (s))), (1, .ref (o + (u))), (2, .int (nI (0)))]) [1, 2, 0] rfl ?_
  exact l_ST_assumesThoseOf hso_s hso_u hL hM hb2 M.length 0 (by omega) (by rw [List.drop_zero]; exact hb)
theorem dTS_inHypotheses_0 : decode prog_9_method_9_code 0 = .ok (.iconst 0, 1) := by decide +kernel
theorem dTS_inHypotheses_1 : decode prog_9_method_9_code 1 = .ok (.istore_n 3, 1) := by decide +kernel
theorem dTS_inHypotheses_2 : decode prog_9_method_9_code 2 = .ok (.iload_n 3, 1) := by decide +kernel
theorem dTS_inHypotheses_3 : decode prog_9_method_9_code 3 = .ok (.aload_n 2, 1) := by decide +kernel
theorem dTS_inHypotheses_4 : decode prog_9_method_9_code 4 = .ok (.getfield 70, 3) := by decide +kernel
theorem dTS_inHypotheses_7 : decode prog_9_method_9_code 7 = .ok (.if_icmp .ge (29), 3) := by decide +kernel
theorem dTS_inHypotheses_10 : decode prog_9_method_9_code 10 = .ok (.aload_n 0, 1) := by decide +kernel
theorem dTS_inHypotheses_11 : decode prog_9_method_9_code 11 = .ok (.getfield 17, 3) := by decide +kernel
theorem dTS_inHypotheses_14 : decode prog_9_method_9_code 14 = .ok (.aload_n 2, 1) := by decide +kernel
theorem dTS_inHypotheses_15 : decode prog_9_method_9_code 15 = .ok (.getfield 75, 3) := by decide +kernel
theorem dTS_inHypotheses_18 : decode prog_9_method_9_code 18 = .ok (.iload_n 3, 1) := by decide +kernel
theorem dTS_inHypotheses_19 : decode prog_9_method_9_code 19 = .ok (.iaload, 1) := by decide +kernel
theorem dTS_inHypotheses_20 : decode prog_9_method_9_code 20 = .ok (.aaload, 1) := by decide +kernel
theorem dTS_inHypotheses_21 : decode prog_9_method_9_code 21 = .ok (.iload_n 1, 1) := by decide +kernel
theorem dTS_inHypotheses_22 : decode prog_9_method_9_code 22 = .ok (.invokevirtual 78, 3) := by decide +kernel
theorem dTS_inHypotheses_25 : decode prog_9_method_9_code 25 = .ok (.ifCond .eq (5), 3) := by decide +kernel
theorem dTS_inHypotheses_28 : decode prog_9_method_9_code 28 = .ok (.iconst 1, 1) := by decide +kernel
theorem dTS_inHypotheses_29 : decode prog_9_method_9_code 29 = .ok (.ireturn, 1) := by decide +kernel
theorem dTS_inHypotheses_30 : decode prog_9_method_9_code 30 = .ok (.iinc 3 (1), 3) := by decide +kernel
theorem dTS_inHypotheses_33 : decode prog_9_method_9_code 33 = .ok (.goto (-31), 3) := by decide +kernel
theorem dTS_inHypotheses_36 : decode prog_9_method_9_code 36 = .ok (.iconst 0, 1) := by decide +kernel
theorem dTS_inHypotheses_37 : decode prog_9_method_9_code 37 = .ok (.ireturn, 1) := by decide +kernel
theorem l_TS_inHypotheses {G : sd_G} {o : Nat} {D : fx_D} {h0 : sd_H} {nx v s b : Nat} {T : List tl_T} {L : List Nat} (hso_s : dk_so s) (hT : ts_T D T) (hL : so_r D s L) (hLT : ∀ t ∈ L, t < T.length) (hv : v < 8) (hb2 : b < 2) : ∀ (n k : Nat), L.length = k + n → (b = 1 ↔ ∃ t ∈ L.drop k, tl_nm (T.getD t []) v = true) → sd_W G mTS_inHypotheses 2 0 0 (sd_is (some (.int (nI b))) (fx_h G.1.2 dk_S o D h0) nx) 2 [(0, .ref (o + 1)), (1, .int (nI v)), (2, .ref (o + s)), (3, .int (nI k))] [] (fx_h G.1.2 dk_S o D h0) nx 0 0 := by
  have l6 := hL.1
  have t71 := hT.1
  intro n
  induction n with
  | zero =>
    intro k hk hb
    rw [List.drop_of_length_le (by omega)] at hb
    have hb0 : b = 0 := by
      have : ¬ b = 1 := fun e => by simpa using hb.mp e
      omega
    subst hb0
    refine sd_iload_n dTS_inHypotheses_2 rfl rfl ?_
    refine sd_aload_n dTS_inHypotheses_3 rfl rfl ?_
    refine fx_getiv (v := (nI (L.length))) 6 1 dTS_inHypotheses_4 fTS_70 hso_s.1 rfl (hL.2.1) ?_
    refine nn_icmp_ge 36 dTS_inHypotheses_7 (by decide) (by omega) (by omega) (fun c7 => ?_) (fun c7 => ?_)
    ·
      refine sd_iconst (v := nI 0) dTS_inHypotheses_36 (by decide) ?_
      exact sd_zret dTS_inHypotheses_37 rfl (Or.inl rfl) (Nat.le_refl _) (Nat.le_refl _) ⟨rfl, rfl, rfl⟩
    ·
      exact absurd c7 (by omega)
  | succ n ih =>
    intro k hk hb
    obtain ⟨x, hx⟩ : ∃ x, L[k]? = some x := ⟨L[k], List.getElem?_eq_getElem (by omega)⟩
    have hdr : L.drop k = x :: L.drop (k + 1) := by
      obtain ⟨z1, z2⟩ := List.getElem?_eq_some_iff.mp hx
      rw [List.drop_eq_getElem_cons z1, z2]
    obtain ⟨x1, x2⟩ := hL.2.2 k x hx
    have hxT := hLT x (List.mem_of_getElem? hx)
    obtain ⟨l, hl⟩ : ∃ l, T[x]? = some l := ⟨T[x], List.getElem?_eq_getElem hxT⟩
    obtain ⟨l1, l2, l3⟩ := hT.2.2 x l hl
    have hg : T.getD x [] = l := by rw [List.getD_eq_getElem?_getD, hl]; rfl
    rw [hdr] at hb
    by_cases e : tl_nm l v = true
    · obtain rfl : b = 1 := hb.mpr ⟨x, List.mem_cons_self, by rw [hg]; exact e⟩
      refine sd_iload_n dTS_inHypotheses_2 rfl rfl ?_
      refine sd_aload_n dTS_inHypotheses_3 rfl rfl ?_
      refine fx_getiv (v := (nI (L.length))) 6 1 dTS_inHypotheses_4 fTS_70 hso_s.1 rfl (hL.2.1) ?_
      refine nn_icmp_ge 36 dTS_inHypotheses_7 (by decide) (by omega) (by omega) (fun c7 => ?_) (fun c7 => ?_)
      ·
        exact absurd c7 (by omega)
      ·
        refine sd_aload_n dTS_inHypotheses_10 rfl rfl ?_
        refine fx_getr 8 1 (3) dTS_inHypotheses_11 fTS_17 rfl rfl ?_
        refine sd_aload_n dTS_inHypotheses_14 rfl rfl ?_
        refine fx_getr 6 0 (s + 1) dTS_inHypotheses_15 fTS_75 hso_s.1 rfl ?_
        refine sd_iload_n dTS_inHypotheses_18 rfl rfl ?_
        refine fx_ialdv (v := (nI (x))) (k) dTS_inHypotheses_19 hso_s.2 rfl (by omega) (by decide) (x1) ?_
        refine fx_aald (x) dTS_inHypotheses_20 rfl rfl rfl (by omega) (by decide) ?_
        refine sd_iload_n dTS_inHypotheses_21 rfl rfl ?_
        refine fx_cV 7 sR_TM [.int (nI (v))] [] dTS_inHypotheses_22 kTS_78 rfl (dk_tm (by omega)) mTM_hasName_v (c_TM_hasName (b := 1) (by omega) l1 hv (by omega) (by simp [e])) (by decide) (Nat.le_refl _) (Nat.le_refl _) (Nat.le_of_ble_eq_true rfl) rfl ?_
        refine nn_if_eq 30 dTS_inHypotheses_25 (by decide) (by decide) (fun c => absurd c (by decide)) (fun _ => ?_)
        refine sd_iconst (v := nI 1) dTS_inHypotheses_28 (by decide) ?_
        exact sd_zret dTS_inHypotheses_29 rfl (Or.inr rfl) (Nat.le_refl _) (Nat.le_refl _) ⟨rfl, rfl, rfl⟩
    · have hb' : b = 1 ↔ ∃ t ∈ L.drop (k + 1), tl_nm (T.getD t []) v = true := hb.trans ⟨fun ⟨t, ht, z⟩ => by
        rcases List.mem_cons.mp ht with rfl | ht
        · rw [hg] at z; exact absurd z e
        · exact ⟨t, ht, z⟩, fun ⟨t, ht, z⟩ => ⟨t, List.mem_cons_of_mem _ ht, z⟩⟩
      refine sd_iload_n dTS_inHypotheses_2 rfl rfl ?_
      refine sd_aload_n dTS_inHypotheses_3 rfl rfl ?_
      refine fx_getiv (v := (nI (L.length))) 6 1 dTS_inHypotheses_4 fTS_70 hso_s.1 rfl (hL.2.1) ?_
      refine nn_icmp_ge 36 dTS_inHypotheses_7 (by decide) (by omega) (by omega) (fun c7 => ?_) (fun c7 => ?_)
      ·
        exact absurd c7 (by omega)
      ·
        refine sd_aload_n dTS_inHypotheses_10 rfl rfl ?_
        refine fx_getr 8 1 (3) dTS_inHypotheses_11 fTS_17 rfl rfl ?_
        refine sd_aload_n dTS_inHypotheses_14 rfl rfl ?_
        refine fx_getr 6 0 (s + 1) dTS_inHypotheses_15 fTS_75 hso_s.1 rfl ?_
        refine sd_iload_n dTS_inHypotheses_18 rfl rfl ?_
        refine fx_ialdv (v := (nI (x))) (k) dTS_inHypotheses_19 hso_s.2 rfl (by omega) (by decide) (x1) ?_
        refine fx_aald (x) dTS_inHypotheses_20 rfl rfl rfl (by omega) (by decide) ?_
        refine sd_iload_n dTS_inHypotheses_21 rfl rfl ?_
        refine fx_cV 7 sR_TM [.int (nI (v))] [] dTS_inHypotheses_22 kTS_78 rfl (dk_tm (by omega)) mTM_hasName_v (c_TM_hasName (b := 0) (by omega) l1 hv (by omega) (by simp [e])) (by decide) (Nat.le_refl _) (Nat.le_refl _) (Nat.le_of_ble_eq_true rfl) rfl ?_
        refine nn_if_eq 30 dTS_inHypotheses_25 (by decide) (by decide) (fun _ => ?_) (fun c => absurd c (by decide))
        refine nn_iinc 1 dTS_inHypotheses_30 rfl (by decide) ?_
        refine sd_goto 2 dTS_inHypotheses_33 (by decide) ?_
        refine sd_locp (al' := [(0, .ref (o + (1))), (1, .int (nI (v))), (2, .ref (o + (s))), (3, .int (nI (k + 1)))]) [1, 2, 3, 0] rfl ?_
        exact ih (k + 1) (by omega) hb'
theorem c_TS_inHypotheses {G : sd_G} {o : Nat} {D : fx_D} {h0 : sd_H} {nx v s b : Nat} {T : List tl_T} {L : List Nat} (hso_s : dk_so s) (hT : ts_T D T) (hL : so_r D s L) (hLT : ∀ t ∈ L, t < T.length) (hv : v < 8) (hb2 : b < 2) (hb : b = 1 ↔ ∃ t ∈ L, tl_nm (T.getD t []) v = true) : sd_Ct G mTS_inHypotheses 2 0 0 [.ref (o + 1), .int (nI v), .ref (o + s)] (fx_h G.1.2 dk_S o D h0) nx (sd_is (some (.int (nI b))) (fx_h G.1.2 dk_S o D h0) nx) := by
  refine sd_Ct_of (by decide) (Nat.le_of_ble_eq_true rfl) ?_
  refine sd_iconst (v := nI 0) dTS_inHypotheses_0 (by decide) ?_
  refine sd_istore_n dTS_inHypotheses_1 rfl (by decide) ?_
  refine sd_locp (al' := [(0, .ref (o + (1))), (1, .int (nI (v))), (2, .ref (o + (s))), (3, .int (nI (0)))]) [1, 2, 3, 0] rfl ?_
  exact l_TS_inHypotheses hso_s hT hL hLT hv hb2 L.length 0 (by omega) (by rw [List.drop_zero]; exact hb)
