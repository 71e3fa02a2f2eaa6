/-! ===== the class's rows: what is written into them ===== -/
theorem dTM_lambdasAround_0 : decode prog_8_method_10_code 0 = .ok (.iconst 0, 1) := by decide +kernel
theorem dTM_lambdasAround_1 : decode prog_8_method_10_code 1 = .ok (.istore_n 3, 1) := by decide +kernel
theorem dTM_lambdasAround_2 : decode prog_8_method_10_code 2 = .ok (.iload_n 1, 1) := by decide +kernel
theorem dTM_lambdasAround_3 : decode prog_8_method_10_code 3 = .ok (.istore 4, 2) := by decide +kernel
theorem dTM_lambdasAround_5 : decode prog_8_method_10_code 5 = .ok (.iload 4, 2) := by decide +kernel
theorem dTM_lambdasAround_7 : decode prog_8_method_10_code 7 = .ok (.iload_n 2, 1) := by decide +kernel
theorem dTM_lambdasAround_8 : decode prog_8_method_10_code 8 = .ok (.if_icmp .ge (35), 3) := by decide +kernel
theorem dTM_lambdasAround_11 : decode prog_8_method_10_code 11 = .ok (.aload_n 0, 1) := by decide +kernel
theorem dTM_lambdasAround_12 : decode prog_8_method_10_code 12 = .ok (.getfield 9, 3) := by decide +kernel
theorem dTM_lambdasAround_15 : decode prog_8_method_10_code 15 = .ok (.iload 4, 2) := by decide +kernel
theorem dTM_lambdasAround_17 : decode prog_8_method_10_code 17 = .ok (.iaload, 1) := by decide +kernel
theorem dTM_lambdasAround_18 : decode prog_8_method_10_code 18 = .ok (.bipush (10), 2) := by decide +kernel
theorem dTM_lambdasAround_20 : decode prog_8_method_10_code 20 = .ok (.if_icmp .ne (17), 3) := by decide +kernel
theorem dTM_lambdasAround_23 : decode prog_8_method_10_code 23 = .ok (.aload_n 0, 1) := by decide +kernel
theorem dTM_lambdasAround_24 : decode prog_8_method_10_code 24 = .ok (.getfield 18, 3) := by decide +kernel
theorem dTM_lambdasAround_27 : decode prog_8_method_10_code 27 = .ok (.iload 4, 2) := by decide +kernel
theorem dTM_lambdasAround_29 : decode prog_8_method_10_code 29 = .ok (.iaload, 1) := by decide +kernel
theorem dTM_lambdasAround_30 : decode prog_8_method_10_code 30 = .ok (.iload_n 2, 1) := by decide +kernel
theorem dTM_lambdasAround_31 : decode prog_8_method_10_code 31 = .ok (.if_icmp .le (6), 3) := by decide +kernel
theorem dTM_lambdasAround_34 : decode prog_8_method_10_code 34 = .ok (.iinc 3 (1), 3) := by decide +kernel
theorem dTM_lambdasAround_37 : decode prog_8_method_10_code 37 = .ok (.iinc 4 (1), 3) := by decide +kernel
theorem dTM_lambdasAround_40 : decode prog_8_method_10_code 40 = .ok (.goto (-35), 3) := by decide +kernel
theorem dTM_lambdasAround_43 : decode prog_8_method_10_code 43 = .ok (.iload_n 3, 1) := by decide +kernel
theorem dTM_lambdasAround_44 : decode prog_8_method_10_code 44 = .ok (.ireturn, 1) := by decide +kernel
theorem l_TM_around {G : sd_G} {o : Nat} {D : fx_D} {h0 : sd_H} {nx r a : Nat} {l : tl_T} (hr : r < 73) (hl : tm_row D r l) (hs : tm_set D r l) (ha : a ≤ l.length) : ∀ (n k c v : Nat), a = k + n → c ≤ k → v = c + tl_arn l a k n → sd_W G mTM_lambdasAround 0 0 0 (sd_is (some (.int (nI v))) (fx_h G.1.2 dk_S o D h0) nx) 5 [(0, .ref (o + tmo r)), (2, .int (nI a)), (3, .int (nI c)), (4, .int (nI k))] [] (fx_h G.1.2 dk_S o D h0) nx 0 0 := by
  have l24 := hl.1
  intro n
  induction n with
  | zero =>
    intro k c v hk hc hv
    have hv' : v = c := hv
    refine sd_iload dTM_lambdasAround_5 rfl ?_
    refine sd_iload_n dTM_lambdasAround_7 rfl rfl ?_
    refine nn_icmp_ge 43 dTM_lambdasAround_8 (by decide) (by omega) (by omega) (fun c8 => ?_) (fun c8 => ?_)
    ·
      refine sd_iload_n dTM_lambdasAround_43 rfl rfl ?_
      exact sd_iret dTM_lambdasAround_44 rfl (Nat.le_refl _) (Nat.le_refl _) ⟨by rw [hv'], rfl, rfl⟩
    ·
      exact absurd c8 (by omega)
  | succ n ih =>
    intro k c v hk hc hv
    have hx := tl_at_some (l := l) (i := k) (by omega)
    obtain ⟨q1, q2, q3, q4⟩ := hl.2.2 k _ hx
    have he := hs k (by omega)
    have hle := tl_end_le (l := l) (i := k) (by omega)
    rw [tl_arn, hx] at hv
    simp only [Option.map_some, Option.some.injEq] at hv
    by_cases h1 : (tl_at l k).1 = 10 ∧ a < tl_end l k
    · rw [if_pos h1] at hv
      refine sd_iload dTM_lambdasAround_5 rfl ?_
      refine sd_iload_n dTM_lambdasAround_7 rfl rfl ?_
      refine nn_icmp_ge 43 dTM_lambdasAround_8 (by decide) (by omega) (by omega) (fun c8 => ?_) (fun c8 => ?_)
      ·
        exact absurd c8 (by omega)
      ·
        refine sd_aload_n dTM_lambdasAround_11 rfl rfl ?_
        refine fx_getr 7 0 (tmo (r) + 1) dTM_lambdasAround_12 fTM_9 (dk_tm (by omega)) rfl ?_
        refine sd_iload dTM_lambdasAround_15 rfl ?_
        refine fx_ialdv (v := (nI ((tl_at l k).1))) (k) dTM_lambdasAround_17 (dk_tm1 (by omega)) rfl (by omega) (by decide) (q1) ?_
        refine sd_bipush (v := nI 10) dTM_lambdasAround_18 (by decide) ?_
        refine nn_icmp_ne 37 dTM_lambdasAround_20 (by decide) (by omega) (by omega) (fun c20 => ?_) (fun c20 => ?_)
        ·
          exact absurd h1.1 c20
        ·
          refine sd_aload_n dTM_lambdasAround_23 rfl rfl ?_
          refine fx_getr 7 2 (tmo (r) + 3) dTM_lambdasAround_24 fTM_18 (dk_tm (by omega)) rfl ?_
          refine sd_iload dTM_lambdasAround_27 rfl ?_
          refine fx_ialdv (v := (nI (tl_end l k))) (k) dTM_lambdasAround_29 (dk_tm3 (by omega)) rfl (by omega) (by decide) (he) ?_
          refine sd_iload_n dTM_lambdasAround_30 rfl rfl ?_
          refine nn_icmp_le 37 dTM_lambdasAround_31 (by decide) (by omega) (by omega) (fun c31 => ?_) (fun c31 => ?_)
          ·
            exact absurd c31 (by omega)
          ·
            refine nn_iinc 1 dTM_lambdasAround_34 rfl (by decide) ?_
            refine nn_iinc 1 dTM_lambdasAround_37 rfl (by decide) ?_
            refine sd_goto 5 dTM_lambdasAround_40 (by decide) ?_
            refine sd_locp (al' := [(0, .ref (o + (tmo (r)))), (2, .int (nI (a))), (3, .int (nI (c + 1))), (4, .int (nI (k + 1)))]) [2, 3, 1, 0] rfl ?_
            exact ih (k + 1) (c + 1) v (by omega) (by omega) (by omega)
    · rw [if_neg h1] at hv
      refine sd_iload dTM_lambdasAround_5 rfl ?_
      refine sd_iload_n dTM_lambdasAround_7 rfl rfl ?_
      refine nn_icmp_ge 43 dTM_lambdasAround_8 (by decide) (by omega) (by omega) (fun c8 => ?_) (fun c8 => ?_)
      ·
        exact absurd c8 (by omega)
      ·
        refine sd_aload_n dTM_lambdasAround_11 rfl rfl ?_
        refine fx_getr 7 0 (tmo (r) + 1) dTM_lambdasAround_12 fTM_9 (dk_tm (by omega)) rfl ?_
        refine sd_iload dTM_lambdasAround_15 rfl ?_
        refine fx_ialdv (v := (nI ((tl_at l k).1))) (k) dTM_lambdasAround_17 (dk_tm1 (by omega)) rfl (by omega) (by decide) (q1) ?_
        refine sd_bipush (v := nI 10) dTM_lambdasAround_18 (by decide) ?_
        refine nn_icmp_ne 37 dTM_lambdasAround_20 (by decide) (by omega) (by omega) (fun c20 => ?_) (fun c20 => ?_)
        ·
          refine nn_iinc 1 dTM_lambdasAround_37 rfl (by decide) ?_
          refine sd_goto 5 dTM_lambdasAround_40 (by decide) ?_
          refine sd_locp (al' := [(0, .ref (o + (tmo (r)))), (2, .int (nI (a))), (3, .int (nI (c))), (4, .int (nI (k + 1)))]) [1, 2, 3, 0] rfl ?_
          exact ih (k + 1) c v (by omega) (by omega) (by omega)
        ·
          refine sd_aload_n dTM_lambdasAround_23 rfl rfl ?_
          refine fx_getr 7 2 (tmo (r) + 3) dTM_lambdasAround_24 fTM_18 (dk_tm (by omega)) rfl ?_
          refine sd_iload dTM_lambdasAround_27 rfl ?_
          refine fx_ialdv (v := (nI (tl_end l k))) (k) dTM_lambdasAround_29 (dk_tm3 (by omega)) rfl (by omega) (by decide) (he) ?_
          refine sd_iload_n dTM_lambdasAround_30 rfl rfl ?_
          refine nn_icmp_le 37 dTM_lambdasAround_31 (by decide) (by omega) (by omega) (fun c31 => ?_) (fun c31 => ?_)
          ·
            refine nn_iinc 1 dTM_lambdasAround_37 rfl (by decide) ?_
            refine sd_goto 5 dTM_lambdasAround_40 (by decide) ?_
            refine sd_locp (al' := [(0, .ref (o + (tmo (r)))), (2, .int (nI (a))), (3, .int (nI (c))), (4, .int (nI (k + 1)))]) [1, 2, 3, 0] rfl ?_
            exact ih (k + 1) c v (by omega) (by omega) (by omega)
          ·
            exact absurd ⟨c20, by omega⟩ h1
theorem c_TM_around {G : sd_G} {o : Nat} {D : fx_D} {h0 : sd_H} {nx r a f : Nat} {l : tl_T} (hr : r < 73) (hl : tm_row D r l) (hs : tm_set D r l) (hf : f ≤ a) (ha : a ≤ l.length) : sd_Ct G mTM_lambdasAround 0 0 0 [.ref (o + tmo r), .int (nI f), .int (nI a)] (fx_h G.1.2 dk_S o D h0) nx (sd_is (some (.int (nI (tl_arn l a f (a - f))))) (fx_h G.1.2 dk_S o D h0) nx) := by
  refine sd_Ct_of (by decide) (Nat.le_of_ble_eq_true rfl) ?_
  refine sd_iconst (v := nI 0) dTM_lambdasAround_0 (by decide) ?_
  refine sd_istore_n dTM_lambdasAround_1 rfl (by decide) ?_
  refine sd_iload_n dTM_lambdasAround_2 rfl rfl ?_
  refine sd_istore dTM_lambdasAround_3 (by decide) ?_
  refine sd_locp (al' := [(0, .ref (o + (tmo (r)))), (2, .int (nI (a))), (3, .int (nI (0))), (4, .int (nI (f)))]) [2, 4, 1, 0] rfl ?_
  exact l_TM_around hr hl hs ha (a - f) f 0 _ (by omega) (by omega) (by omega)
theorem dTM_addEquation_0 : decode prog_8_method_5_code 0 = .ok (.aload_n 0, 1) := by decide +kernel
theorem dTM_addEquation_1 : decode prog_8_method_5_code 1 = .ok (.bipush (9), 2) := by decide +kernel
theorem dTM_addEquation_3 : decode prog_8_method_5_code 3 = .ok (.iconst 4, 1) := by decide +kernel
theorem dTM_addEquation_4 : decode prog_8_method_5_code 4 = .ok (.invokevirtual 29, 3) := by decide +kernel
theorem dTM_addEquation_7 : decode prog_8_method_5_code 7 = .ok (.aload_n 0, 1) := by decide +kernel
theorem dTM_addEquation_8 : decode prog_8_method_5_code 8 = .ok (.aload_n 1, 1) := by decide +kernel
theorem dTM_addEquation_9 : decode prog_8_method_5_code 9 = .ok (.iload_n 2, 1) := by decide +kernel
theorem dTM_addEquation_10 : decode prog_8_method_5_code 10 = .ok (.invokevirtual 33, 3) := by decide +kernel
theorem dTM_addEquation_13 : decode prog_8_method_5_code 13 = .ok (.aload_n 0, 1) := by decide +kernel
theorem dTM_addEquation_14 : decode prog_8_method_5_code 14 = .ok (.aload_n 3, 1) := by decide +kernel
theorem dTM_addEquation_15 : decode prog_8_method_5_code 15 = .ok (.iload 4, 2) := by decide +kernel
theorem dTM_addEquation_17 : decode prog_8_method_5_code 17 = .ok (.invokevirtual 33, 3) := by decide +kernel
theorem dTM_addEquation_20 : decode prog_8_method_5_code 20 = .ok (.return_, 1) := by decide +kernel
theorem c_TM_addEquation {G : sd_G} {o : Nat} {D : fx_D} {h0 : sd_H} {nx r q i p j : Nat} {l m L : tl_T} (hB : G.2.1 ≤ o) (hr : r < 73) (hq : q < 73) (hp : p < 73) (hqr : q ≠ r) (hpr : p ≠ r) (h : tw D r L) (hl : tm_row D q l) (sl : tm_set D q l) (hi : i < l.length) (hm : tm_row D p m) (sm : tm_set D p m) (hj : j < m.length) : sd_Ct G mTM_addEquation 1 0 0 [.ref (o + tmo r), .ref (o + tmo q), .int (nI i), .ref (o + tmo p), .int (nI j)] (fx_h G.1.2 dk_S o D h0) nx (fx_is G.1.2 dk_S o h0 nx none (fun D' => tw D' r (L ++ ((9, 4) :: (tl_part l i ++ tl_part m j))) ∧ tm_f r D D')) := by
  refine sd_Ct_of (by decide) (Nat.le_of_ble_eq_true rfl) ?_
  refine sd_aload_n dTM_addEquation_0 rfl rfl ?_
  refine sd_bipush (v := nI 9) dTM_addEquation_1 (by decide) ?_
  refine sd_iconst (v := nI 4) dTM_addEquation_3 (by decide) ?_
  refine fx_cP 7 sR_TM [.int (nI (9)), .int (nI (4))] [] dTM_addEquation_4 kTM_29 rfl (dk_tm (by omega)) mTM_add_v (c_TM_add (s := 9) (t := 4) hB hr h (by omega) (by omega)) (by decide) (Nat.le_refl _) (Nat.le_refl _) (Nat.le_of_ble_eq_true rfl) rfl (fun D1 h1 => ?_)
  refine sd_aload_n dTM_addEquation_7 rfl rfl ?_
  refine sd_aload_n dTM_addEquation_8 rfl rfl ?_
  refine sd_iload_n dTM_addEquation_9 rfl rfl ?_
  refine fx_cP 7 sR_TM [.ref (o + (tmo (q))), .int (nI (i))] [] dTM_addEquation_10 kTM_33 rfl (dk_tm (by omega)) mTM_addPart_v (c_TM_addPart hB hr hq hqr h1.1 (tm_row_f h1.2 hqr hl) (tm_set_f h1.2 hqr sl) hi) (by decide) (Nat.le_refl _) (Nat.le_refl _) (Nat.le_of_ble_eq_true rfl) rfl (fun D2 h2 => ?_)
  refine sd_aload_n dTM_addEquation_13 rfl rfl ?_
  refine sd_aload_n dTM_addEquation_14 rfl rfl ?_
  refine sd_iload dTM_addEquation_15 rfl ?_
  refine fx_cP 7 sR_TM [.ref (o + (tmo (p))), .int (nI (j))] [] dTM_addEquation_17 kTM_33 rfl (dk_tm (by omega)) mTM_addPart_v (c_TM_addPart hB hr hp hpr h2.1 (tm_row_f (h1.2.tr h2.2) hpr hm) (tm_set_f (h1.2.tr h2.2) hpr sm) hj) (by decide) (Nat.le_refl _) (Nat.le_refl _) (Nat.le_of_ble_eq_true rfl) rfl (fun D3 h3 => ?_)
  refine sd_vret dTM_addEquation_20 rfl (Nat.le_refl _) (Nat.le_refl _) ⟨rfl, rfl, _, rfl, ?_, (h1.2.tr h2.2).tr h3.2⟩
  have e : L ++ ((9, 4) :: (tl_part l i ++ tl_part m j)) = L ++ [(9, 4)] ++ tl_part l i ++ tl_part m j := by simp
  rw [e]
  exact h3.1
theorem dTM_addUse_0 : decode prog_8_method_6_code 0 = .ok (.aload_n 0, 1) := by decide +kernel
theorem dTM_addUse_1 : decode prog_8_method_6_code 1 = .ok (.bipush (8), 2) := by decide +kernel
theorem dTM_addUse_3 : decode prog_8_method_6_code 3 = .ok (.iload_n 1, 1) := by decide +kernel
theorem dTM_addUse_4 : decode prog_8_method_6_code 4 = .ok (.invokevirtual 29, 3) := by decide +kernel
theorem dTM_addUse_7 : decode prog_8_method_6_code 7 = .ok (.aload_n 0, 1) := by decide +kernel
theorem dTM_addUse_8 : decode prog_8_method_6_code 8 = .ok (.aload_n 2, 1) := by decide +kernel
theorem dTM_addUse_9 : decode prog_8_method_6_code 9 = .ok (.iload_n 3, 1) := by decide +kernel
theorem dTM_addUse_10 : decode prog_8_method_6_code 10 = .ok (.invokevirtual 33, 3) := by decide +kernel
theorem dTM_addUse_13 : decode prog_8_method_6_code 13 = .ok (.aload_n 0, 1) := by decide +kernel
theorem dTM_addUse_14 : decode prog_8_method_6_code 14 = .ok (.aload 4, 2) := by decide +kernel
theorem dTM_addUse_16 : decode prog_8_method_6_code 16 = .ok (.iload 5, 2) := by decide +kernel
theorem dTM_addUse_18 : decode prog_8_method_6_code 18 = .ok (.invokevirtual 33, 3) := by decide +kernel
theorem dTM_addUse_21 : decode prog_8_method_6_code 21 = .ok (.return_, 1) := by decide +kernel
theorem c_TM_addUse {G : sd_G} {o : Nat} {D : fx_D} {h0 : sd_H} {nx r t q i p j : Nat} {l m L : tl_T} (hB : G.2.1 ≤ o) (hr : r < 73) (hq : q < 73) (hp : p < 73) (hqr : q ≠ r) (hpr : p ≠ r) (ht : t < 2 ^ 25) (h : tw D r L) (hl : tm_row D q l) (sl : tm_set D q l) (hi : i < l.length) (hm : tm_row D p m) (sm : tm_set D p m) (hj : j < m.length) : sd_Ct G mTM_addUse 1 0 0 [.ref (o + tmo r), .int (nI t), .ref (o + tmo q), .int (nI i), .ref (o + tmo p), .int (nI j)] (fx_h G.1.2 dk_S o D h0) nx (fx_is G.1.2 dk_S o h0 nx none (fun D' => tw D' r (L ++ ((8, t) :: (tl_part l i ++ tl_part m j))) ∧ tm_f r D D')) := by
  refine sd_Ct_of (by decide) (Nat.le_of_ble_eq_true rfl) ?_
  refine sd_aload_n dTM_addUse_0 rfl rfl ?_
  refine sd_bipush (v := nI 8) dTM_addUse_1 (by decide) ?_
  refine sd_iload_n dTM_addUse_3 rfl rfl ?_
  refine fx_cP 7 sR_TM [.int (nI (8)), .int (nI (t))] [] dTM_addUse_4 kTM_29 rfl (dk_tm (by omega)) mTM_add_v (c_TM_add (s := 8) (t := t) hB hr h (by omega) ht) (by decide) (Nat.le_refl _) (Nat.le_refl _) (Nat.le_of_ble_eq_true rfl) rfl (fun D1 h1 => ?_)
  refine sd_aload_n dTM_addUse_7 rfl rfl ?_
  refine sd_aload_n dTM_addUse_8 rfl rfl ?_
  refine sd_iload_n dTM_addUse_9 rfl rfl ?_
  refine fx_cP 7 sR_TM [.ref (o + (tmo (q))), .int (nI (i))] [] dTM_addUse_10 kTM_33 rfl (dk_tm (by omega)) mTM_addPart_v (c_TM_addPart hB hr hq hqr h1.1 (tm_row_f h1.2 hqr hl) (tm_set_f h1.2 hqr sl) hi) (by decide) (Nat.le_refl _) (Nat.le_refl _) (Nat.le_of_ble_eq_true rfl) rfl (fun D2 h2 => ?_)
  refine sd_aload_n dTM_addUse_13 rfl rfl ?_
  refine sd_aload dTM_addUse_14 rfl ?_
  refine sd_iload dTM_addUse_16 rfl ?_
  refine fx_cP 7 sR_TM [.ref (o + (tmo (p))), .int (nI (j))] [] dTM_addUse_18 kTM_33 rfl (dk_tm (by omega)) mTM_addPart_v (c_TM_addPart hB hr hp hpr h2.1 (tm_row_f (h1.2.tr h2.2) hpr hm) (tm_set_f (h1.2.tr h2.2) hpr sm) hj) (by decide) (Nat.le_refl _) (Nat.le_refl _) (Nat.le_of_ble_eq_true rfl) rfl (fun D3 h3 => ?_)
  refine sd_vret dTM_addUse_21 rfl (Nat.le_refl _) (Nat.le_refl _) ⟨rfl, rfl, _, rfl, ?_, (h1.2.tr h2.2).tr h3.2⟩
  have e : L ++ ((8, t) :: (tl_part l i ++ tl_part m j)) = L ++ [(8, t)] ++ tl_part l i ++ tl_part m j := by simp
  rw [e]
  exact h3.1
theorem dTM_addFilled_0 : decode prog_8_method_8_code 0 = .ok (.iload_n 2, 1) := by decide +kernel
theorem dTM_addFilled_1 : decode prog_8_method_8_code 1 = .ok (.istore 5, 2) := by decide +kernel
theorem dTM_addFilled_3 : decode prog_8_method_8_code 3 = .ok (.iload 5, 2) := by decide +kernel
theorem dTM_addFilled_5 : decode prog_8_method_8_code 5 = .ok (.aload_n 1, 1) := by decide +kernel
theorem dTM_addFilled_6 : decode prog_8_method_8_code 6 = .ok (.getfield 18, 3) := by decide +kernel
theorem dTM_addFilled_9 : decode prog_8_method_8_code 9 = .ok (.iload_n 2, 1) := by decide +kernel
theorem dTM_addFilled_10 : decode prog_8_method_8_code 10 = .ok (.iaload, 1) := by decide +kernel
theorem dTM_addFilled_11 : decode prog_8_method_8_code 11 = .ok (.if_icmp .ge (57), 3) := by decide +kernel
theorem dTM_addFilled_14 : decode prog_8_method_8_code 14 = .ok (.aload_n 1, 1) := by decide +kernel
theorem dTM_addFilled_15 : decode prog_8_method_8_code 15 = .ok (.getfield 9, 3) := by decide +kernel
theorem dTM_addFilled_18 : decode prog_8_method_8_code 18 = .ok (.iload 5, 2) := by decide +kernel
theorem dTM_addFilled_20 : decode prog_8_method_8_code 20 = .ok (.iaload, 1) := by decide +kernel
theorem dTM_addFilled_21 : decode prog_8_method_8_code 21 = .ok (.bipush (11), 2) := by decide +kernel
theorem dTM_addFilled_23 : decode prog_8_method_8_code 23 = .ok (.aload_n 1, 1) := by decide +kernel
theorem dTM_addFilled_24 : decode prog_8_method_8_code 24 = .ok (.iload_n 2, 1) := by decide +kernel
theorem dTM_addFilled_25 : decode prog_8_method_8_code 25 = .ok (.iload 5, 2) := by decide +kernel
theorem dTM_addFilled_27 : decode prog_8_method_8_code 27 = .ok (.invokevirtual 37, 3) := by decide +kernel
theorem dTM_addFilled_30 : decode prog_8_method_8_code 30 = .ok (.iadd, 1) := by decide +kernel
theorem dTM_addFilled_31 : decode prog_8_method_8_code 31 = .ok (.if_icmp .ne (13), 3) := by decide +kernel
theorem dTM_addFilled_34 : decode prog_8_method_8_code 34 = .ok (.aload_n 0, 1) := by decide +kernel
theorem dTM_addFilled_35 : decode prog_8_method_8_code 35 = .ok (.aload_n 3, 1) := by decide +kernel
theorem dTM_addFilled_36 : decode prog_8_method_8_code 36 = .ok (.iload 4, 2) := by decide +kernel
theorem dTM_addFilled_38 : decode prog_8_method_8_code 38 = .ok (.invokevirtual 33, 3) := by decide +kernel
theorem dTM_addFilled_41 : decode prog_8_method_8_code 41 = .ok (.goto (21), 3) := by decide +kernel
theorem dTM_addFilled_44 : decode prog_8_method_8_code 44 = .ok (.aload_n 0, 1) := by decide +kernel
theorem dTM_addFilled_45 : decode prog_8_method_8_code 45 = .ok (.aload_n 1, 1) := by decide +kernel
theorem dTM_addFilled_46 : decode prog_8_method_8_code 46 = .ok (.getfield 9, 3) := by decide +kernel
theorem dTM_addFilled_49 : decode prog_8_method_8_code 49 = .ok (.iload 5, 2) := by decide +kernel
theorem dTM_addFilled_51 : decode prog_8_method_8_code 51 = .ok (.iaload, 1) := by decide +kernel
theorem dTM_addFilled_52 : decode prog_8_method_8_code 52 = .ok (.aload_n 1, 1) := by decide +kernel
theorem dTM_addFilled_53 : decode prog_8_method_8_code 53 = .ok (.getfield 15, 3) := by decide +kernel
theorem dTM_addFilled_56 : decode prog_8_method_8_code 56 = .ok (.iload 5, 2) := by decide +kernel
theorem dTM_addFilled_58 : decode prog_8_method_8_code 58 = .ok (.iaload, 1) := by decide +kernel
theorem dTM_addFilled_59 : decode prog_8_method_8_code 59 = .ok (.invokevirtual 29, 3) := by decide +kernel
theorem dTM_addFilled_62 : decode prog_8_method_8_code 62 = .ok (.iinc 5 (1), 3) := by decide +kernel
theorem dTM_addFilled_65 : decode prog_8_method_8_code 65 = .ok (.goto (-62), 3) := by decide +kernel
theorem dTM_addFilled_68 : decode prog_8_method_8_code 68 = .ok (.return_, 1) := by decide +kernel
theorem l_TM_addFilled {G : sd_G} {o : Nat} {D0 : fx_D} {h0 : sd_H} {nx r q i p j : Nat} {l m L0 : tl_T} (hB : G.2.1 ≤ o) (hr : r < 73) (hq : q < 73) (hp : p < 73) (hqr : q ≠ r) (hpr : p ≠ r) (hl : tm_row D0 q l) (sl : tm_set D0 q l) (hi : i < l.length) (hm : tm_row D0 p m) (sm : tm_set D0 p m) (hj : j < m.length) : ∀ (n k : Nat) (L : tl_T) (D : fx_D), tl_end l i = k + n → i ≤ k → tw D r L → tm_f r D0 D → L0 = L ++ tl_sub (tl_of l i (.inl (tl_part m j))) l k n → sd_W G mTM_addFilled 1 0 0 (fx_is G.1.2 dk_S o h0 nx none (fun D' => tw D' r L0 ∧ tm_f r D0 D')) 3 [(0, .ref (o + tmo r)), (1, .ref (o + tmo q)), (2, .int (nI i)), (3, .ref (o + tmo p)), (4, .int (nI j)), (5, .int (nI k))] [] (fx_h G.1.2 dk_S o D h0) nx 0 0 := by
  have l24 := hl.1
  have hel := tl_end_le (l := l) (i := i) (by omega)
  intro n
  induction n with
  | zero =>
    intro k L D hk hik h hf he
    rw [tl_sub, List.append_nil] at he
    subst he
    have he1 := tm_set_f hf hqr sl i hi
    refine sd_iload dTM_addFilled_3 rfl ?_
    refine sd_aload_n dTM_addFilled_5 rfl rfl ?_
    refine fx_getr 7 2 (tmo (q) + 3) dTM_addFilled_6 fTM_18 (dk_tm (by omega)) rfl ?_
    refine sd_iload_n dTM_addFilled_9 rfl rfl ?_
    refine fx_ialdv (v := (nI (tl_end l i))) (i) dTM_addFilled_10 (dk_tm3 (by omega)) rfl (by omega) (by decide) (he1) ?_
    refine nn_icmp_ge 68 dTM_addFilled_11 (by decide) (by omega) (by omega) (fun c11 => ?_) (fun c11 => ?_)
    ·
      exact sd_vret dTM_addFilled_68 rfl (Nat.le_refl _) (Nat.le_refl _) ⟨rfl, rfl, _, rfl, h, hf⟩
    ·
      exact absurd c11 (by omega)
  | succ n ih =>
    intro k L D hk hik h hf he
    have hl' := tm_row_f hf hqr hl
    have sl' := tm_set_f hf hqr sl
    have he1 := sl' i hi
    have hx := tl_at_some (l := l) (i := k) (by omega)
    obtain ⟨q1, q2, q3, q4⟩ := hl'.2.2 k _ hx
    have hale := tl_arn_le l k (k - i) i
    have ca := c_TM_around (G := G) (o := o) (h0 := h0) (nx := nx) (f := i) (a := k) hq hl' sl' hik (by omega)
    rw [tl_sub_get hx, ← List.append_assoc] at he
    by_cases hv : (tl_at l k).1 = 11 + tl_arn l k i (k - i)
    · have ef : tl_of l i (.inl (tl_part m j)) k (tl_at l k) = tl_part m j := by unfold tl_of; rw [if_pos hv]
      rw [ef] at he
      refine sd_iload dTM_addFilled_3 rfl ?_
      refine sd_aload_n dTM_addFilled_5 rfl rfl ?_
      refine fx_getr 7 2 (tmo (q) + 3) dTM_addFilled_6 fTM_18 (dk_tm (by omega)) rfl ?_
      refine sd_iload_n dTM_addFilled_9 rfl rfl ?_
      refine fx_ialdv (v := (nI (tl_end l i))) (i) dTM_addFilled_10 (dk_tm3 (by omega)) rfl (by omega) (by decide) (he1) ?_
      refine nn_icmp_ge 68 dTM_addFilled_11 (by decide) (by omega) (by omega) (fun c11 => ?_) (fun c11 => ?_)
      ·
        exact absurd c11 (by omega)
      ·
        refine sd_aload_n dTM_addFilled_14 rfl rfl ?_
        refine fx_getr 7 0 (tmo (q) + 1) dTM_addFilled_15 fTM_9 (dk_tm (by omega)) rfl ?_
        refine sd_iload dTM_addFilled_18 rfl ?_
        refine fx_ialdv (v := (nI ((tl_at l k).1))) (k) dTM_addFilled_20 (dk_tm1 (by omega)) rfl (by omega) (by decide) (q1) ?_
        refine sd_bipush (v := nI 11) dTM_addFilled_21 (by decide) ?_
        refine sd_aload_n dTM_addFilled_23 rfl rfl ?_
        refine sd_iload_n dTM_addFilled_24 rfl rfl ?_
        refine sd_iload dTM_addFilled_25 rfl ?_
        refine fx_cV 7 sR_TM [.int (nI (i)), .int (nI (k))] [.int (nI (11)), .int (nI ((tl_at l k).1))] dTM_addFilled_27 kTM_37 rfl (dk_tm (by omega)) mTM_lambdasAround_v (ca) (by decide) (Nat.le_refl _) (Nat.le_refl _) (Nat.le_of_ble_eq_true rfl) rfl ?_
        refine nn_iadd dTM_addFilled_30 ?_
        refine nn_icmp_ne 44 dTM_addFilled_31 (by decide) (by omega) (by omega) (fun c31 => ?_) (fun c31 => ?_)
        ·
          exact absurd hv c31
        ·
          refine sd_aload_n dTM_addFilled_34 rfl rfl ?_
          refine sd_aload_n dTM_addFilled_35 rfl rfl ?_
          refine sd_iload dTM_addFilled_36 rfl ?_
          refine fx_cP 7 sR_TM [.ref (o + (tmo (p))), .int (nI (j))] [] dTM_addFilled_38 kTM_33 rfl (dk_tm (by omega)) mTM_addPart_v (c_TM_addPart hB hr hp hpr h (tm_row_f hf hpr hm) (tm_set_f hf hpr sm) hj) (by decide) (Nat.le_refl _) (Nat.le_refl _) (Nat.le_of_ble_eq_true rfl) rfl (fun D1 h1 => ?_)
          refine sd_goto 62 dTM_addFilled_41 (by decide) ?_
          refine nn_iinc 1 dTM_addFilled_62 rfl (by decide) ?_
          refine sd_goto 3 dTM_addFilled_65 (by decide) ?_
          refine sd_locp (al' := [(0, .ref (o + (tmo (r)))), (1, .ref (o + (tmo (q)))), (2, .int (nI (i))), (3, .ref (o + (tmo (p)))), (4, .int (nI (j))), (5, .int (nI (k + 1)))]) [1, 2, 3, 4, 5, 0] rfl ?_
          exact ih (k + 1) _ D1 (by omega) (by omega) h1.1 (hf.tr h1.2) he
    · have ef : tl_of l i (.inl (tl_part m j)) k (tl_at l k) = [tl_at l k] := by unfold tl_of; rw [if_neg hv]
      rw [ef] at he
      refine sd_iload dTM_addFilled_3 rfl ?_
      refine sd_aload_n dTM_addFilled_5 rfl rfl ?_
      refine fx_getr 7 2 (tmo (q) + 3) dTM_addFilled_6 fTM_18 (dk_tm (by omega)) rfl ?_
      refine sd_iload_n dTM_addFilled_9 rfl rfl ?_
      refine fx_ialdv (v := (nI (tl_end l i))) (i) dTM_addFilled_10 (dk_tm3 (by omega)) rfl (by omega) (by decide) (he1) ?_
      refine nn_icmp_ge 68 dTM_addFilled_11 (by decide) (by omega) (by omega) (fun c11 => ?_) (fun c11 => ?_)
      ·
        exact absurd c11 (by omega)
      ·
        refine sd_aload_n dTM_addFilled_14 rfl rfl ?_
        refine fx_getr 7 0 (tmo (q) + 1) dTM_addFilled_15 fTM_9 (dk_tm (by omega)) rfl ?_
        refine sd_iload dTM_addFilled_18 rfl ?_
        refine fx_ialdv (v := (nI ((tl_at l k).1))) (k) dTM_addFilled_20 (dk_tm1 (by omega)) rfl (by omega) (by decide) (q1) ?_
        refine sd_bipush (v := nI 11) dTM_addFilled_21 (by decide) ?_
        refine sd_aload_n dTM_addFilled_23 rfl rfl ?_
        refine sd_iload_n dTM_addFilled_24 rfl rfl ?_
        refine sd_iload dTM_addFilled_25 rfl ?_
        refine fx_cV 7 sR_TM [.int (nI (i)), .int (nI (k))] [.int (nI (11)), .int (nI ((tl_at l k).1))] dTM_addFilled_27 kTM_37 rfl (dk_tm (by omega)) mTM_lambdasAround_v (ca) (by decide) (Nat.le_refl _) (Nat.le_refl _) (Nat.le_of_ble_eq_true rfl) rfl ?_
        refine nn_iadd dTM_addFilled_30 ?_
        refine nn_icmp_ne 44 dTM_addFilled_31 (by decide) (by omega) (by omega) (fun c31 => ?_) (fun c31 => ?_)
        ·
          refine sd_aload_n dTM_addFilled_44 rfl rfl ?_
          refine sd_aload_n dTM_addFilled_45 rfl rfl ?_
          refine fx_getr 7 0 (tmo (q) + 1) dTM_addFilled_46 fTM_9 (dk_tm (by omega)) rfl ?_
          refine sd_iload dTM_addFilled_49 rfl ?_
          refine fx_ialdv (v := (nI ((tl_at l k).1))) (k) dTM_addFilled_51 (dk_tm1 (by omega)) rfl (by omega) (by decide) (q1) ?_
          refine sd_aload_n dTM_addFilled_52 rfl rfl ?_
          refine fx_getr 7 1 (tmo (q) + 2) dTM_addFilled_53 fTM_15 (dk_tm (by omega)) rfl ?_
          refine sd_iload dTM_addFilled_56 rfl ?_
          refine fx_ialdv (v := (nI ((tl_at l k).2))) (k) dTM_addFilled_58 (dk_tm2 (by omega)) rfl (by omega) (by decide) (q2) ?_
          refine fx_cP 7 sR_TM [.int (nI ((tl_at l k).1)), .int (nI ((tl_at l k).2))] [] dTM_addFilled_59 kTM_29 rfl (dk_tm (by omega)) mTM_add_v (c_TM_add hB hr h q3 q4) (by decide) (Nat.le_refl _) (Nat.le_refl _) (Nat.le_of_ble_eq_true rfl) rfl (fun D1 h1 => ?_)
          refine nn_iinc 1 dTM_addFilled_62 rfl (by decide) ?_
          refine sd_goto 3 dTM_addFilled_65 (by decide) ?_
          refine sd_locp (al' := [(0, .ref (o + (tmo (r)))), (1, .ref (o + (tmo (q)))), (2, .int (nI (i))), (3, .ref (o + (tmo (p)))), (4, .int (nI (j))), (5, .int (nI (k + 1)))]) [1, 2, 3, 4, 5, 0] rfl ?_
          exact ih (k + 1) _ D1 (by omega) (by omega) h1.1 (hf.tr h1.2) he
        ·
          exact absurd c31 hv
theorem c_TM_addFilled {G : sd_G} {o : Nat} {D : fx_D} {h0 : sd_H} {nx r q i p j : Nat} {l m L : tl_T} (hB : G.2.1 ≤ o) (hr : r < 73) (hq : q < 73) (hp : p < 73) (hqr : q ≠ r) (hpr : p ≠ r) (h : tw D r L) (hl : tm_row D q l) (sl : tm_set D q l) (hi : i < l.length) (hm : tm_row D p m) (sm : tm_set D p m) (hj : j < m.length) : sd_Ct G mTM_addFilled 1 0 0 [.ref (o + tmo r), .ref (o + tmo q), .int (nI i), .ref (o + tmo p), .int (nI j)] (fx_h G.1.2 dk_S o D h0) nx (fx_is G.1.2 dk_S o h0 nx none (fun D' => tw D' r (L ++ tl_sub (tl_of l i (.inl (tl_part m j))) l i (tl_end l i - i)) ∧ tm_f r D D')) := by
  refine sd_Ct_of (by decide) (Nat.le_of_ble_eq_true rfl) ?_
  have he := tl_end_lt (l := l) hi
  refine sd_iload_n dTM_addFilled_0 rfl rfl ?_
  refine sd_istore dTM_addFilled_1 (by decide) ?_
  refine sd_locp (al' := [(0, .ref (o + (tmo (r)))), (1, .ref (o + (tmo (q)))), (2, .int (nI (i))), (3, .ref (o + (tmo (p)))), (4, .int (nI (j))), (5, .int (nI (i)))]) [1, 2, 3, 4, 5, 0] rfl ?_
  exact l_TM_addFilled hB hr hq hp hqr hpr hl sl hi hm sm hj (tl_end l i - i) i L D (by omega) (Nat.le_refl _) h (tm_f.rf r D) rfl
theorem dTM_addReplaced_0 : decode prog_8_method_9_code 0 = .ok (.iconst 0, 1) := by decide +kernel
theorem dTM_addReplaced_1 : decode prog_8_method_9_code 1 = .ok (.istore 4, 2) := by decide +kernel
theorem dTM_addReplaced_3 : decode prog_8_method_9_code 3 = .ok (.iload 4, 2) := by decide +kernel
theorem dTM_addReplaced_5 : decode prog_8_method_9_code 5 = .ok (.aload_n 1, 1) := by decide +kernel
theorem dTM_addReplaced_6 : decode prog_8_method_9_code 6 = .ok (.getfield 21, 3) := by decide +kernel
theorem dTM_addReplaced_9 : decode prog_8_method_9_code 9 = .ok (.if_icmp .ge (47), 3) := by decide +kernel
theorem dTM_addReplaced_12 : decode prog_8_method_9_code 12 = .ok (.aload_n 1, 1) := by decide +kernel
theorem dTM_addReplaced_13 : decode prog_8_method_9_code 13 = .ok (.getfield 9, 3) := by decide +kernel
theorem dTM_addReplaced_16 : decode prog_8_method_9_code 16 = .ok (.iload 4, 2) := by decide +kernel
theorem dTM_addReplaced_18 : decode prog_8_method_9_code 18 = .ok (.iaload, 1) := by decide +kernel
theorem dTM_addReplaced_19 : decode prog_8_method_9_code 19 = .ok (.iload_n 2, 1) := by decide +kernel
theorem dTM_addReplaced_20 : decode prog_8_method_9_code 20 = .ok (.if_icmp .ne (12), 3) := by decide +kernel
theorem dTM_addReplaced_23 : decode prog_8_method_9_code 23 = .ok (.aload_n 0, 1) := by decide +kernel
theorem dTM_addReplaced_24 : decode prog_8_method_9_code 24 = .ok (.aload_n 3, 1) := by decide +kernel
theorem dTM_addReplaced_25 : decode prog_8_method_9_code 25 = .ok (.iconst 0, 1) := by decide +kernel
theorem dTM_addReplaced_26 : decode prog_8_method_9_code 26 = .ok (.invokevirtual 33, 3) := by decide +kernel
theorem dTM_addReplaced_29 : decode prog_8_method_9_code 29 = .ok (.goto (21), 3) := by decide +kernel
theorem dTM_addReplaced_32 : decode prog_8_method_9_code 32 = .ok (.aload_n 0, 1) := by decide +kernel
theorem dTM_addReplaced_33 : decode prog_8_method_9_code 33 = .ok (.aload_n 1, 1) := by decide +kernel
theorem dTM_addReplaced_34 : decode prog_8_method_9_code 34 = .ok (.getfield 9, 3) := by decide +kernel
theorem dTM_addReplaced_37 : decode prog_8_method_9_code 37 = .ok (.iload 4, 2) := by decide +kernel
theorem dTM_addReplaced_39 : decode prog_8_method_9_code 39 = .ok (.iaload, 1) := by decide +kernel
theorem dTM_addReplaced_40 : decode prog_8_method_9_code 40 = .ok (.aload_n 1, 1) := by decide +kernel
theorem dTM_addReplaced_41 : decode prog_8_method_9_code 41 = .ok (.getfield 15, 3) := by decide +kernel
theorem dTM_addReplaced_44 : decode prog_8_method_9_code 44 = .ok (.iload 4, 2) := by decide +kernel
theorem dTM_addReplaced_46 : decode prog_8_method_9_code 46 = .ok (.iaload, 1) := by decide +kernel
theorem dTM_addReplaced_47 : decode prog_8_method_9_code 47 = .ok (.invokevirtual 29, 3) := by decide +kernel
theorem dTM_addReplaced_50 : decode prog_8_method_9_code 50 = .ok (.iinc 4 (1), 3) := by decide +kernel
theorem dTM_addReplaced_53 : decode prog_8_method_9_code 53 = .ok (.goto (-50), 3) := by decide +kernel
theorem dTM_addReplaced_56 : decode prog_8_method_9_code 56 = .ok (.return_, 1) := by decide +kernel
theorem l_TM_addReplaced {G : sd_G} {o : Nat} {D0 : fx_D} {h0 : sd_H} {nx r q v p : Nat} {l m L0 : tl_T} (hB : G.2.1 ≤ o) (hr : r < 73) (hq : q < 73) (hp : p < 73) (hqr : q ≠ r) (hpr : p ≠ r) (hv : v < 8) (hl : tm_row D0 q l) (hm : tm_row D0 p m) (sm : tm_set D0 p m) (hmw : tl_wf m) : ∀ (n k : Nat) (L : tl_T) (D : fx_D), l.length = k + n → tw D r L → tm_f r D0 D → L0 = L ++ tl_sub (tl_pf l 0 v (some m)) l k n → sd_W G mTM_addReplaced 1 0 0 (fx_is G.1.2 dk_S o h0 nx none (fun D' => tw D' r L0 ∧ tm_f r D0 D')) 3 [(0, .ref (o + tmo r)), (1, .ref (o + tmo q)), (2, .int (nI v)), (3, .ref (o + tmo p)), (4, .int (nI k))] [] (fx_h G.1.2 dk_S o D h0) nx 0 0 := by
  have l24 := hl.1
  have hm0 : 0 < m.length := by
    have := hmw.hd
    exact getE_lt this
  intro n
  induction n with
  | zero =>
    intro k L D hk h hf he
    rw [tl_sub, List.append_nil] at he
    subst he
    have hl' := tm_row_f hf hqr hl
    refine sd_iload dTM_addReplaced_3 rfl ?_
    refine sd_aload_n dTM_addReplaced_5 rfl rfl ?_
    refine fx_getiv (v := (nI (l.length))) 7 3 dTM_addReplaced_6 fTM_21 (dk_tm (by omega)) rfl (hl'.2.1) ?_
    refine nn_icmp_ge 56 dTM_addReplaced_9 (by decide) (by omega) (by omega) (fun c9 => ?_) (fun c9 => ?_)
    ·
      exact sd_vret dTM_addReplaced_56 rfl (Nat.le_refl _) (Nat.le_refl _) ⟨rfl, rfl, _, rfl, h, hf⟩
    ·
      exact absurd c9 (by omega)
  | succ n ih =>
    intro k L D hk h hf he
    have hl' := tm_row_f hf hqr hl
    have hx := tl_at_some (l := l) (i := k) (by omega)
    obtain ⟨q1, q2, q3, q4⟩ := hl'.2.2 k _ hx
    rw [tl_sub_get hx, ← List.append_assoc] at he
    by_cases e : (tl_at l k).1 = v
    · have ef : tl_pf l 0 v (some m) k (tl_at l k) = m := by unfold tl_pf; rw [if_pos e]
      rw [ef] at he
      have cp := c_TM_addPart (G := G) (o := o) (h0 := h0) (nx := nx) (i := 0) hB hr hp hpr h (tm_row_f hf hpr hm) (tm_set_f hf hpr sm) hm0
      rw [hmw.part] at cp
      refine sd_iload dTM_addReplaced_3 rfl ?_
      refine sd_aload_n dTM_addReplaced_5 rfl rfl ?_
      refine fx_getiv (v := (nI (l.length))) 7 3 dTM_addReplaced_6 fTM_21 (dk_tm (by omega)) rfl (hl'.2.1) ?_
      refine nn_icmp_ge 56 dTM_addReplaced_9 (by decide) (by omega) (by omega) (fun c9 => ?_) (fun c9 => ?_)
      ·
        exact absurd c9 (by omega)
      ·
        refine sd_aload_n dTM_addReplaced_12 rfl rfl ?_
        refine fx_getr 7 0 (tmo (q) + 1) dTM_addReplaced_13 fTM_9 (dk_tm (by omega)) rfl ?_
        refine sd_iload dTM_addReplaced_16 rfl ?_
        refine fx_ialdv (v := (nI ((tl_at l k).1))) (k) dTM_addReplaced_18 (dk_tm1 (by omega)) rfl (by omega) (by decide) (q1) ?_
        refine sd_iload_n dTM_addReplaced_19 rfl rfl ?_
        refine nn_icmp_ne 32 dTM_addReplaced_20 (by decide) (by omega) (by omega) (fun c20 => ?_) (fun c20 => ?_)
        ·
          exact absurd e c20
        ·
          refine sd_aload_n dTM_addReplaced_23 rfl rfl ?_
          refine sd_aload_n dTM_addReplaced_24 rfl rfl ?_
          refine sd_iconst (v := nI 0) dTM_addReplaced_25 (by decide) ?_
          refine fx_cP 7 sR_TM [.ref (o + (tmo (p))), .int (nI (0))] [] dTM_addReplaced_26 kTM_33 rfl (dk_tm (by omega)) mTM_addPart_v (cp) (by decide) (Nat.le_refl _) (Nat.le_refl _) (Nat.le_of_ble_eq_true rfl) rfl (fun D1 h1 => ?_)
          refine sd_goto 50 dTM_addReplaced_29 (by decide) ?_
          refine nn_iinc 1 dTM_addReplaced_50 rfl (by decide) ?_
          refine sd_goto 3 dTM_addReplaced_53 (by decide) ?_
          refine sd_locp (al' := [(0, .ref (o + (tmo (r)))), (1, .ref (o + (tmo (q)))), (2, .int (nI (v))), (3, .ref (o + (tmo (p)))), (4, .int (nI (k + 1)))]) [1, 2, 3, 4, 0] rfl ?_
          exact ih (k + 1) _ D1 (by omega) h1.1 (hf.tr h1.2) he
    · have ef : tl_pf l 0 v (some m) k (tl_at l k) = [tl_at l k] := by unfold tl_pf; rw [if_neg e]
      rw [ef] at he
      refine sd_iload dTM_addReplaced_3 rfl ?_
      refine sd_aload_n dTM_addReplaced_5 rfl rfl ?_
      refine fx_getiv (v := (nI (l.length))) 7 3 dTM_addReplaced_6 fTM_21 (dk_tm (by omega)) rfl (hl'.2.1) ?_
      refine nn_icmp_ge 56 dTM_addReplaced_9 (by decide) (by omega) (by omega) (fun c9 => ?_) (fun c9 => ?_)
      ·
        exact absurd c9 (by omega)
      ·
        refine sd_aload_n dTM_addReplaced_12 rfl rfl ?_
        refine fx_getr 7 0 (tmo (q) + 1) dTM_addReplaced_13 fTM_9 (dk_tm (by omega)) rfl ?_
        refine sd_iload dTM_addReplaced_16 rfl ?_
        refine fx_ialdv (v := (nI ((tl_at l k).1))) (k) dTM_addReplaced_18 (dk_tm1 (by omega)) rfl (by omega) (by decide) (q1) ?_
        refine sd_iload_n dTM_addReplaced_19 rfl rfl ?_
        refine nn_icmp_ne 32 dTM_addReplaced_20 (by decide) (by omega) (by omega) (fun c20 => ?_) (fun c20 => ?_)
        ·
          refine sd_aload_n dTM_addReplaced_32 rfl rfl ?_
          refine sd_aload_n dTM_addReplaced_33 rfl rfl ?_
          refine fx_getr 7 0 (tmo (q) + 1) dTM_addReplaced_34 fTM_9 (dk_tm (by omega)) rfl ?_
          refine sd_iload dTM_addReplaced_37 rfl ?_
          refine fx_ialdv (v := (nI ((tl_at l k).1))) (k) dTM_addReplaced_39 (dk_tm1 (by omega)) rfl (by omega) (by decide) (q1) ?_
          refine sd_aload_n dTM_addReplaced_40 rfl rfl ?_
          refine fx_getr 7 1 (tmo (q) + 2) dTM_addReplaced_41 fTM_15 (dk_tm (by omega)) rfl ?_
          refine sd_iload dTM_addReplaced_44 rfl ?_
          refine fx_ialdv (v := (nI ((tl_at l k).2))) (k) dTM_addReplaced_46 (dk_tm2 (by omega)) rfl (by omega) (by decide) (q2) ?_
          refine fx_cP 7 sR_TM [.int (nI ((tl_at l k).1)), .int (nI ((tl_at l k).2))] [] dTM_addReplaced_47 kTM_29 rfl (dk_tm (by omega)) mTM_add_v (c_TM_add hB hr h q3 q4) (by decide) (Nat.le_refl _) (Nat.le_refl _) (Nat.le_of_ble_eq_true rfl) rfl (fun D1 h1 => ?_)
          refine nn_iinc 1 dTM_addReplaced_50 rfl (by decide) ?_
          refine sd_goto 3 dTM_addReplaced_53 (by decide) ?_
          refine sd_locp (al' := [(0, .ref (o + (tmo (r)))), (1, .ref (o + (tmo (q)))), (2, .int (nI (v))), (3, .ref (o + (tmo (p)))), (4, .int (nI (k + 1)))]) [1, 2, 3, 4, 0] rfl ?_
          exact ih (k + 1) _ D1 (by omega) h1.1 (hf.tr h1.2) he
        ·
          exact absurd c20 e
theorem c_TM_addReplaced {G : sd_G} {o : Nat} {D : fx_D} {h0 : sd_H} {nx r q v p : Nat} {l m L : tl_T} (hB : G.2.1 ≤ o) (hr : r < 73) (hq : q < 73) (hp : p < 73) (hqr : q ≠ r) (hpr : p ≠ r) (hv : v < 8) (h : tw D r L) (hl : tm_row D q l) (hm : tm_row D p m) (sm : tm_set D p m) (hmw : tl_wf m) : sd_Ct G mTM_addReplaced 1 0 0 [.ref (o + tmo r), .ref (o + tmo q), .int (nI v), .ref (o + tmo p)] (fx_h G.1.2 dk_S o D h0) nx (fx_is G.1.2 dk_S o h0 nx none (fun D' => tw D' r (L ++ tl_inst l v m) ∧ tm_f r D D')) := by
  refine sd_Ct_of (by decide) (Nat.le_of_ble_eq_true rfl) ?_
  refine sd_iconst (v := nI 0) dTM_addReplaced_0 (by decide) ?_
  refine sd_istore dTM_addReplaced_1 (by decide) ?_
  refine sd_locp (al' := [(0, .ref (o + (tmo (r)))), (1, .ref (o + (tmo (q)))), (2, .int (nI (v))), (3, .ref (o + (tmo (p)))), (4, .int (nI (0)))]) [1, 2, 3, 4, 0] rfl ?_
  exact l_TM_addReplaced hB hr hq hp hqr hpr hv hl hm sm hmw l.length 0 L D (by omega) h (tm_f.rf r D) rfl
