/-! ===== the class's rows: what is read of them ===== -/
theorem dTM_isRedex_0 : decode prog_8_method_16_code 0 = .ok (.aload_n 0, 1) := by decide +kernel
theorem dTM_isRedex_1 : decode prog_8_method_16_code 1 = .ok (.getfield 9, 3) := by decide +kernel
theorem dTM_isRedex_4 : decode prog_8_method_16_code 4 = .ok (.iload_n 1, 1) := by decide +kernel
theorem dTM_isRedex_5 : decode prog_8_method_16_code 5 = .ok (.iaload, 1) := by decide +kernel
theorem dTM_isRedex_6 : decode prog_8_method_16_code 6 = .ok (.bipush (8), 2) := by decide +kernel
theorem dTM_isRedex_8 : decode prog_8_method_16_code 8 = .ok (.if_icmp .ne (20), 3) := by decide +kernel
theorem dTM_isRedex_11 : decode prog_8_method_16_code 11 = .ok (.aload_n 0, 1) := by decide +kernel
theorem dTM_isRedex_12 : decode prog_8_method_16_code 12 = .ok (.getfield 9, 3) := by decide +kernel
theorem dTM_isRedex_15 : decode prog_8_method_16_code 15 = .ok (.iload_n 1, 1) := by decide +kernel
theorem dTM_isRedex_16 : decode prog_8_method_16_code 16 = .ok (.iconst 1, 1) := by decide +kernel
theorem dTM_isRedex_17 : decode prog_8_method_16_code 17 = .ok (.iadd, 1) := by decide +kernel
theorem dTM_isRedex_18 : decode prog_8_method_16_code 18 = .ok (.iaload, 1) := by decide +kernel
theorem dTM_isRedex_19 : decode prog_8_method_16_code 19 = .ok (.bipush (10), 2) := by decide +kernel
theorem dTM_isRedex_21 : decode prog_8_method_16_code 21 = .ok (.if_icmp .ne (7), 3) := by decide +kernel
theorem dTM_isRedex_24 : decode prog_8_method_16_code 24 = .ok (.iconst 1, 1) := by decide +kernel
theorem dTM_isRedex_25 : decode prog_8_method_16_code 25 = .ok (.goto (4), 3) := by decide +kernel
theorem dTM_isRedex_28 : decode prog_8_method_16_code 28 = .ok (.iconst 0, 1) := by decide +kernel
theorem dTM_isRedex_29 : decode prog_8_method_16_code 29 = .ok (.ireturn, 1) := by decide +kernel
theorem c_TM_isRedex {G : sd_G} {o : Nat} {D : fx_D} {h0 : sd_H} {nx r i b : Nat} {l : tl_T} (hr : r < 73) (hl : tm_row D r l) (hok : tl_ok 1 (l.drop i)) (hi : i < l.length) (hb2 : b < 2) (hb : b = 1 ↔ tl_isB l i = true) : sd_Ct G mTM_isRedex 0 0 0 [.ref (o + tmo r), .int (nI i)] (fx_h G.1.2 dk_S o D h0) nx (sd_is (some (.int (nI b))) (fx_h G.1.2 dk_S o D h0) nx) := by
  refine sd_Ct_of (by decide) (Nat.le_of_ble_eq_true rfl) ?_
  have l24 := hl.1
  rw [tl_isB_iff] at hb
  obtain ⟨q1, q2, q3, q4⟩ := hl.2.2 i _ (tl_at_some hi)
  by_cases h8 : (tl_at l i).1 = 8
  · obtain ⟨i1, -⟩ := tl_two_at hok hi (by rw [h8]; rfl)
    obtain ⟨p1, p2, p3, p4⟩ := hl.2.2 (i + 1) _ (tl_at_some i1)
    refine sd_aload_n dTM_isRedex_0 rfl rfl ?_
    refine fx_getr 7 0 (tmo (r) + 1) dTM_isRedex_1 fTM_9 (dk_tm (by omega)) rfl ?_
    refine sd_iload_n dTM_isRedex_4 rfl rfl ?_
    refine fx_ialdv (v := (nI ((tl_at l i).1))) (i) dTM_isRedex_5 (dk_tm1 (by omega)) rfl (by omega) (by decide) (q1) ?_
    refine sd_bipush (v := nI 8) dTM_isRedex_6 (by decide) ?_
    refine nn_icmp_ne 28 dTM_isRedex_8 (by decide) (by omega) (by omega) (fun c8 => ?_) (fun c8 => ?_)
    ·
      refine sd_iconst (v := nI 0) dTM_isRedex_28 (by decide) ?_
      exact sd_zret dTM_isRedex_29 rfl (nn_01 (by omega)) (Nat.le_refl _) (Nat.le_refl _) ⟨by rw [show b = (0) by omega], rfl, rfl⟩
    ·
      refine sd_aload_n dTM_isRedex_11 rfl rfl ?_
      refine fx_getr 7 0 (tmo (r) + 1) dTM_isRedex_12 fTM_9 (dk_tm (by omega)) rfl ?_
      refine sd_iload_n dTM_isRedex_15 rfl rfl ?_
      refine sd_iconst (v := nI 1) dTM_isRedex_16 (by decide) ?_
      refine nn_iadd dTM_isRedex_17 ?_
      refine fx_ialdv (v := (nI ((tl_at l (i + 1)).1))) (i + 1) dTM_isRedex_18 (dk_tm1 (by omega)) rfl (by omega) (by decide) (p1) ?_
      refine sd_bipush (v := nI 10) dTM_isRedex_19 (by decide) ?_
      refine nn_icmp_ne 28 dTM_isRedex_21 (by decide) (by omega) (by omega) (fun c21 => ?_) (fun c21 => ?_)
      ·
        refine sd_iconst (v := nI 0) dTM_isRedex_28 (by decide) ?_
        exact sd_zret dTM_isRedex_29 rfl (nn_01 (by omega)) (Nat.le_refl _) (Nat.le_refl _) ⟨by rw [show b = (0) by omega], rfl, rfl⟩
      ·
        refine sd_iconst (v := nI 1) dTM_isRedex_24 (by decide) ?_
        refine sd_goto 29 dTM_isRedex_25 (by decide) ?_
        exact sd_zret dTM_isRedex_29 rfl (nn_01 (by omega)) (Nat.le_refl _) (Nat.le_refl _) ⟨by rw [show b = (1) by omega], rfl, rfl⟩
  ·
    refine sd_aload_n dTM_isRedex_0 rfl rfl ?_
    refine fx_getr 7 0 (tmo (r) + 1) dTM_isRedex_1 fTM_9 (dk_tm (by omega)) rfl ?_
    refine sd_iload_n dTM_isRedex_4 rfl rfl ?_
    refine fx_ialdv (v := (nI ((tl_at l i).1))) (i) dTM_isRedex_5 (dk_tm1 (by omega)) rfl (by omega) (by decide) (q1) ?_
    refine sd_bipush (v := nI 8) dTM_isRedex_6 (by decide) ?_
    refine nn_icmp_ne 28 dTM_isRedex_8 (by decide) (by omega) (by omega) (fun c8 => ?_) (fun c8 => ?_)
    ·
      refine sd_iconst (v := nI 0) dTM_isRedex_28 (by decide) ?_
      exact sd_zret dTM_isRedex_29 rfl (nn_01 (by omega)) (Nat.le_refl _) (Nat.le_refl _) ⟨by rw [show b = (0) by omega], rfl, rfl⟩
    ·
      exact absurd c8 h8
theorem dTM_alike_0 : decode prog_8_method_13_code 0 = .ok (.aload_n 0, 1) := by decide +kernel
theorem dTM_alike_1 : decode prog_8_method_13_code 1 = .ok (.getfield 18, 3) := by decide +kernel
theorem dTM_alike_4 : decode prog_8_method_13_code 4 = .ok (.iload_n 1, 1) := by decide +kernel
theorem dTM_alike_5 : decode prog_8_method_13_code 5 = .ok (.iaload, 1) := by decide +kernel
theorem dTM_alike_6 : decode prog_8_method_13_code 6 = .ok (.iload_n 1, 1) := by decide +kernel
theorem dTM_alike_7 : decode prog_8_method_13_code 7 = .ok (.isub, 1) := by decide +kernel
theorem dTM_alike_8 : decode prog_8_method_13_code 8 = .ok (.istore 4, 2) := by decide +kernel
theorem dTM_alike_10 : decode prog_8_method_13_code 10 = .ok (.iload 4, 2) := by decide +kernel
theorem dTM_alike_12 : decode prog_8_method_13_code 12 = .ok (.aload_n 2, 1) := by decide +kernel
theorem dTM_alike_13 : decode prog_8_method_13_code 13 = .ok (.getfield 18, 3) := by decide +kernel
theorem dTM_alike_16 : decode prog_8_method_13_code 16 = .ok (.iload_n 3, 1) := by decide +kernel
theorem dTM_alike_17 : decode prog_8_method_13_code 17 = .ok (.iaload, 1) := by decide +kernel
theorem dTM_alike_18 : decode prog_8_method_13_code 18 = .ok (.iload_n 3, 1) := by decide +kernel
theorem dTM_alike_19 : decode prog_8_method_13_code 19 = .ok (.isub, 1) := by decide +kernel
theorem dTM_alike_20 : decode prog_8_method_13_code 20 = .ok (.if_icmp .eq (5), 3) := by decide +kernel
theorem dTM_alike_23 : decode prog_8_method_13_code 23 = .ok (.iconst 0, 1) := by decide +kernel
theorem dTM_alike_24 : decode prog_8_method_13_code 24 = .ok (.ireturn, 1) := by decide +kernel
theorem dTM_alike_25 : decode prog_8_method_13_code 25 = .ok (.iconst 0, 1) := by decide +kernel
theorem dTM_alike_26 : decode prog_8_method_13_code 26 = .ok (.istore 5, 2) := by decide +kernel
theorem dTM_alike_28 : decode prog_8_method_13_code 28 = .ok (.iload 5, 2) := by decide +kernel
theorem dTM_alike_30 : decode prog_8_method_13_code 30 = .ok (.iload 4, 2) := by decide +kernel
theorem dTM_alike_32 : decode prog_8_method_13_code 32 = .ok (.if_icmp .ge (55), 3) := by decide +kernel
theorem dTM_alike_35 : decode prog_8_method_13_code 35 = .ok (.aload_n 0, 1) := by decide +kernel
theorem dTM_alike_36 : decode prog_8_method_13_code 36 = .ok (.getfield 9, 3) := by decide +kernel
theorem dTM_alike_39 : decode prog_8_method_13_code 39 = .ok (.iload_n 1, 1) := by decide +kernel
theorem dTM_alike_40 : decode prog_8_method_13_code 40 = .ok (.iload 5, 2) := by decide +kernel
theorem dTM_alike_42 : decode prog_8_method_13_code 42 = .ok (.iadd, 1) := by decide +kernel
theorem dTM_alike_43 : decode prog_8_method_13_code 43 = .ok (.iaload, 1) := by decide +kernel
theorem dTM_alike_44 : decode prog_8_method_13_code 44 = .ok (.aload_n 2, 1) := by decide +kernel
theorem dTM_alike_45 : decode prog_8_method_13_code 45 = .ok (.getfield 9, 3) := by decide +kernel
theorem dTM_alike_48 : decode prog_8_method_13_code 48 = .ok (.iload_n 3, 1) := by decide +kernel
theorem dTM_alike_49 : decode prog_8_method_13_code 49 = .ok (.iload 5, 2) := by decide +kernel
theorem dTM_alike_51 : decode prog_8_method_13_code 51 = .ok (.iadd, 1) := by decide +kernel
theorem dTM_alike_52 : decode prog_8_method_13_code 52 = .ok (.iaload, 1) := by decide +kernel
theorem dTM_alike_53 : decode prog_8_method_13_code 53 = .ok (.if_icmp .eq (5), 3) := by decide +kernel
theorem dTM_alike_56 : decode prog_8_method_13_code 56 = .ok (.iconst 0, 1) := by decide +kernel
theorem dTM_alike_57 : decode prog_8_method_13_code 57 = .ok (.ireturn, 1) := by decide +kernel
theorem dTM_alike_58 : decode prog_8_method_13_code 58 = .ok (.aload_n 0, 1) := by decide +kernel
theorem dTM_alike_59 : decode prog_8_method_13_code 59 = .ok (.getfield 15, 3) := by decide +kernel
theorem dTM_alike_62 : decode prog_8_method_13_code 62 = .ok (.iload_n 1, 1) := by decide +kernel
theorem dTM_alike_63 : decode prog_8_method_13_code 63 = .ok (.iload 5, 2) := by decide +kernel
theorem dTM_alike_65 : decode prog_8_method_13_code 65 = .ok (.iadd, 1) := by decide +kernel
theorem dTM_alike_66 : decode prog_8_method_13_code 66 = .ok (.iaload, 1) := by decide +kernel
theorem dTM_alike_67 : decode prog_8_method_13_code 67 = .ok (.aload_n 2, 1) := by decide +kernel
theorem dTM_alike_68 : decode prog_8_method_13_code 68 = .ok (.getfield 15, 3) := by decide +kernel
theorem dTM_alike_71 : decode prog_8_method_13_code 71 = .ok (.iload_n 3, 1) := by decide +kernel
theorem dTM_alike_72 : decode prog_8_method_13_code 72 = .ok (.iload 5, 2) := by decide +kernel
theorem dTM_alike_74 : decode prog_8_method_13_code 74 = .ok (.iadd, 1) := by decide +kernel
theorem dTM_alike_75 : decode prog_8_method_13_code 75 = .ok (.iaload, 1) := by decide +kernel
theorem dTM_alike_76 : decode prog_8_method_13_code 76 = .ok (.if_icmp .eq (5), 3) := by decide +kernel
theorem dTM_alike_79 : decode prog_8_method_13_code 79 = .ok (.iconst 0, 1) := by decide +kernel
theorem dTM_alike_80 : decode prog_8_method_13_code 80 = .ok (.ireturn, 1) := by decide +kernel
theorem dTM_alike_81 : decode prog_8_method_13_code 81 = .ok (.iinc 5 (1), 3) := by decide +kernel
theorem dTM_alike_84 : decode prog_8_method_13_code 84 = .ok (.goto (-56), 3) := by decide +kernel
theorem dTM_alike_87 : decode prog_8_method_13_code 87 = .ok (.iconst 1, 1) := by decide +kernel
theorem dTM_alike_88 : decode prog_8_method_13_code 88 = .ok (.ireturn, 1) := by decide +kernel
theorem l_TM_alike {G : sd_G} {o : Nat} {D : fx_D} {h0 : sd_H} {nx r q i j b n : Nat} {l m : tl_T} (hr : r < 73) (hq : q < 73) (hl : tm_row D r l) (hm : tm_row D q m) (hi : i + n ≤ l.length) (hj : j + n ≤ m.length) (hb2 : b < 2) : ∀ (c k : Nat), n = k + c → (b = 1 ↔ ∀ a, k ≤ a → a < n → l[i + a]? = m[j + a]?) → sd_W G mTM_alike 0 0 0 (sd_is (some (.int (nI b))) (fx_h G.1.2 dk_S o D h0) nx) 28 [(0, .ref (o + tmo r)), (1, .int (nI i)), (2, .ref (o + tmo q)), (3, .int (nI j)), (4, .int (nI n)), (5, .int (nI k))] [] (fx_h G.1.2 dk_S o D h0) nx 0 0 := by
  have l24 := hl.1
  have m24 := hm.1
  intro c
  induction c with
  | zero =>
    intro k hk hb
    obtain rfl : b = 1 := hb.mpr (fun a h1 h2 => absurd h1 (by omega))
    refine sd_iload dTM_alike_28 rfl ?_
    refine sd_iload dTM_alike_30 rfl ?_
    refine nn_icmp_ge 87 dTM_alike_32 (by decide) (by omega) (by omega) (fun c32 => ?_) (fun c32 => ?_)
    ·
      refine sd_iconst (v := nI 1) dTM_alike_87 (by decide) ?_
      exact sd_zret dTM_alike_88 rfl (Or.inr rfl) (Nat.le_refl _) (Nat.le_refl _) ⟨rfl, rfl, rfl⟩
    ·
      exact absurd c32 (by omega)
  | succ c ih =>
    intro k hk hb
    have hx := tl_at_some (l := l) (i := i + k) (by omega)
    have hy := tl_at_some (l := m) (i := j + k) (by omega)
    obtain ⟨x1, x2, x3, x4⟩ := hl.2.2 _ _ hx
    obtain ⟨y1, y2, y3, y4⟩ := hm.2.2 _ _ hy
    have no : (tl_at l (i + k)).1 ≠ (tl_at m (j + k)).1 ∨ (tl_at l (i + k)).2 ≠ (tl_at m (j + k)).2 → b = 0 := fun h => by
      have : ¬ b = 1 := fun e => by
        have := hb.mp e k (Nat.le_refl _) (by omega)
        rw [hx, hy] at this
        have := Option.some.inj this
        rcases h with z | z
        · exact z (by rw [this])
        · exact z (by rw [this])
      omega
    refine sd_iload dTM_alike_28 rfl ?_
    refine sd_iload dTM_alike_30 rfl ?_
    refine nn_icmp_ge 87 dTM_alike_32 (by decide) (by omega) (by omega) (fun c32 => ?_) (fun c32 => ?_)
    ·
      exact absurd c32 (by omega)
    ·
      refine sd_aload_n dTM_alike_35 rfl rfl ?_
      refine fx_getr 7 0 (tmo (r) + 1) dTM_alike_36 fTM_9 (dk_tm (by omega)) rfl ?_
      refine sd_iload_n dTM_alike_39 rfl rfl ?_
      refine sd_iload dTM_alike_40 rfl ?_
      refine nn_iadd dTM_alike_42 ?_
      refine fx_ialdv (v := (nI ((tl_at l (i + k)).1))) (i + k) dTM_alike_43 (dk_tm1 (by omega)) rfl (by omega) (by decide) (x1) ?_
      refine sd_aload_n dTM_alike_44 rfl rfl ?_
      refine fx_getr 7 0 (tmo (q) + 1) dTM_alike_45 fTM_9 (dk_tm (by omega)) rfl ?_
      refine sd_iload_n dTM_alike_48 rfl rfl ?_
      refine sd_iload dTM_alike_49 rfl ?_
      refine nn_iadd dTM_alike_51 ?_
      refine fx_ialdv (v := (nI ((tl_at m (j + k)).1))) (j + k) dTM_alike_52 (dk_tm1 (by omega)) rfl (by omega) (by decide) (y1) ?_
      refine nn_icmp_eq 58 dTM_alike_53 (by decide) (by omega) (by omega) (fun c53 => ?_) (fun c53 => ?_)
      ·
        refine sd_aload_n dTM_alike_58 rfl rfl ?_
        refine fx_getr 7 1 (tmo (r) + 2) dTM_alike_59 fTM_15 (dk_tm (by omega)) rfl ?_
        refine sd_iload_n dTM_alike_62 rfl rfl ?_
        refine sd_iload dTM_alike_63 rfl ?_
        refine nn_iadd dTM_alike_65 ?_
        refine fx_ialdv (v := (nI ((tl_at l (i + k)).2))) (i + k) dTM_alike_66 (dk_tm2 (by omega)) rfl (by omega) (by decide) (x2) ?_
        refine sd_aload_n dTM_alike_67 rfl rfl ?_
        refine fx_getr 7 1 (tmo (q) + 2) dTM_alike_68 fTM_15 (dk_tm (by omega)) rfl ?_
        refine sd_iload_n dTM_alike_71 rfl rfl ?_
        refine sd_iload dTM_alike_72 rfl ?_
        refine nn_iadd dTM_alike_74 ?_
        refine fx_ialdv (v := (nI ((tl_at m (j + k)).2))) (j + k) dTM_alike_75 (dk_tm2 (by omega)) rfl (by omega) (by decide) (y2) ?_
        refine nn_icmp_eq 81 dTM_alike_76 (by decide) (by omega) (by omega) (fun c76 => ?_) (fun c76 => ?_)
        ·
          refine nn_iinc 1 dTM_alike_81 rfl (by decide) ?_
          refine sd_goto 28 dTM_alike_84 (by decide) ?_
          refine sd_locp (al' := [(0, .ref (o + (tmo (r)))), (1, .int (nI (i))), (2, .ref (o + (tmo (q)))), (3, .int (nI (j))), (4, .int (nI (n))), (5, .int (nI (k + 1)))]) [1, 2, 3, 4, 5, 0] rfl ?_
          refine ih (k + 1) (by omega) (hb.trans ⟨fun h a h1 h2 ↦ h a (by omega) h2, fun h a h1 h2 ↦ ?_⟩)
          by_cases z : a = k
          · rw [z, hx, hy, Prod.ext c53 c76]
          · exact h a (by omega) h2
        ·
          refine sd_iconst (v := nI 0) dTM_alike_79 (by decide) ?_
          obtain rfl := no (Or.inr c76)
          exact sd_zret dTM_alike_80 rfl (Or.inl rfl) (Nat.le_refl _) (Nat.le_refl _) ⟨rfl, rfl, rfl⟩
      ·
        refine sd_iconst (v := nI 0) dTM_alike_56 (by decide) ?_
        obtain rfl := no (Or.inl c53)
        exact sd_zret dTM_alike_57 rfl (Or.inl rfl) (Nat.le_refl _) (Nat.le_refl _) ⟨rfl, rfl, rfl⟩
theorem c_TM_alike {G : sd_G} {o : Nat} {D : fx_D} {h0 : sd_H} {nx r i q j b : Nat} {l m : tl_T} (hr : r < 73) (hq : q < 73) (hl : tm_row D r l) (hm : tm_row D q m) (sl : tm_set D r l) (sm : tm_set D q m) (hi : i < l.length) (hj : j < m.length) (hb2 : b < 2) (hb : b = 1 ↔ tl_part l i = tl_part m j) : sd_Ct G mTM_alike 0 0 0 [.ref (o + tmo r), .int (nI i), .ref (o + tmo q), .int (nI j)] (fx_h G.1.2 dk_S o D h0) nx (sd_is (some (.int (nI b))) (fx_h G.1.2 dk_S o D h0) nx) := by
  refine sd_Ct_of (by decide) (Nat.le_of_ble_eq_true rfl) ?_
  have l24 := hl.1
  have m24 := hm.1
  have e1 := tl_end_le (l := l) (i := i) (by omega)
  have e2 := tl_end_le (l := m) (i := j) (by omega)
  have e3 := tl_end_lt (l := l) hi
  have e4 := tl_end_lt (l := m) hj
  have p1 : (tl_part l i).length = tl_end l i - i := by rw [tl_part_len]; unfold tl_end; omega
  have p2 : (tl_part m j).length = tl_end m j - j := by rw [tl_part_len]; unfold tl_end; omega
  rw [tl_part_eq, p1, p2] at hb
  refine sd_aload_n dTM_alike_0 rfl rfl ?_
  refine fx_getr 7 2 (tmo (r) + 3) dTM_alike_1 fTM_18 (dk_tm (by omega)) rfl ?_
  refine sd_iload_n dTM_alike_4 rfl rfl ?_
  refine fx_ialdv (v := (nI (tl_end l i))) (i) dTM_alike_5 (dk_tm3 (by omega)) rfl (by omega) (by decide) (sl i hi) ?_
  refine sd_iload_n dTM_alike_6 rfl rfl ?_
  refine nn_isub dTM_alike_7 (by omega) ?_
  refine sd_istore dTM_alike_8 (by decide) ?_
  refine sd_iload dTM_alike_10 rfl ?_
  refine sd_aload_n dTM_alike_12 rfl rfl ?_
  refine fx_getr 7 2 (tmo (q) + 3) dTM_alike_13 fTM_18 (dk_tm (by omega)) rfl ?_
  refine sd_iload_n dTM_alike_16 rfl rfl ?_
  refine fx_ialdv (v := (nI (tl_end m j))) (j) dTM_alike_17 (dk_tm3 (by omega)) rfl (by omega) (by decide) (sm j hj) ?_
  refine sd_iload_n dTM_alike_18 rfl rfl ?_
  refine nn_isub dTM_alike_19 (by omega) ?_
  refine nn_icmp_eq 25 dTM_alike_20 (by decide) (by omega) (by omega) (fun c20 => ?_) (fun c20 => ?_)
  ·
    refine sd_iconst (v := nI 0) dTM_alike_25 (by decide) ?_
    refine sd_istore dTM_alike_26 (by decide) ?_
    refine sd_locp (al' := [(0, .ref (o + (tmo (r)))), (1, .int (nI (i))), (2, .ref (o + (tmo (q)))), (3, .int (nI (j))), (4, .int (nI ((tl_end l i) - i))), (5, .int (nI (0)))]) [2, 3, 4, 5, 1, 0] rfl ?_
    exact l_TM_alike hr hq hl hm (by omega) (by omega) hb2 (tl_end l i - i) 0 (by omega) (hb.trans ⟨fun h a _ h2 ↦ h.2 a h2, fun h ↦ ⟨c20, fun a ha ↦ h a (by omega) ha⟩⟩)
  ·
    refine sd_iconst (v := nI 0) dTM_alike_23 (by decide) ?_
    obtain rfl : b = 0 := by
      have : ¬ b = 1 := fun e => absurd (hb.mp e).1 c20
      omega
    exact sd_zret dTM_alike_24 rfl (Or.inl rfl) (Nat.le_refl _) (Nat.le_refl _) ⟨rfl, rfl, rfl⟩
