/-! ===== Math.min, Math.max; the class's rows: names ===== -/
/-- a method without a row among the natives, of a class that has some -/
theorem sd_Ct_ofF {G : sd_G} {M : sd_M} {d mc ms : Nat} {av : List Value} {h : sd_H} {nx : Nat} {Q : sd_Q} (hy : plainFor M.1 = true) (hn : (lg_sl av).length ≤ M.2.2.1) (hw : sd_W G M d mc ms Q 0 (lv_args 0 av) [] h nx 0 0) : sd_Ct G M d mc ms av h nx Q := by
  intro l
  refine va_MetF (cc := M.2.1) (maxL := M.2.2.1) (ret := M.2.2.2) hy rfl ?_
  intro p e s m args below meth c s₁ B hml hv
  obtain ⟨rfl, hR, hT⟩ := hv
  have hts := atoms_spec (ws := sd_ws M) B.pre
  have hr := B.returns
  have hx := B.exec
  have hb := B.bytes
  have hlocks := B.notSynchronized
  have hl := lv_entry av (n := M.2.2.1) hn
  rw [lg_entry_eq]
  refine hw p l e _ _ s m _ below meth c s.heap [] _ ⟨hx, hb, hml, findClass_of_methodNamed B.named, fun w hw => hts w (List.mem_cons_of_mem _ hw), hT, fun hi => (name_of_methodNamed B.named B.method).1.trans hi, ⟨Nat.le_refl _, Nat.le_refl _, Nat.le_refl _, Nat.le_refl _⟩, by rw [hR.1]; exact hR.2.1, ?_⟩ hR va_S.rf hl
  intro r h2 nx2 H locs ls pc hq hR2 hS hret
  have fin : ∀ t : State, t.heap = H → s.WarmedH t.vm → sd_Qc G Q av.toArray s (.returned r) t := fun t ht _ => ⟨⟨r, h2, nx2, rfl, hq, by rw [ht]; exact hR2⟩, hS.F ht⟩
  match r, hret with
  | none, hret => exact W.vret hx hb (hr.trans hret.2) fin hS.2.2 hret.1
  | some (.int v), hret =>
    obtain ⟨hd, ty, h1, h2⟩ := hret
    exact W.zret hx hb (hr.trans h1) h2 fin hS.2.2 hd
  | some (.long v), hret => exact W.lret hx hb (hr.trans hret.2) fin hS.2.2 hret.1
  | some (.ref a), hret =>
    obtain ⟨hd, rt, h1, h2⟩ := hret
    exact W.aret hx hb (hr.trans h1) h2 (Or.inr ⟨a, rfl⟩) fin hS.2.2 hd
  | some .null, hret =>
    obtain ⟨hd, rt, h1, h2⟩ := hret
    exact W.aret hx hb (hr.trans h1) h2 (Or.inl rfl) fin hS.2.2 hd
theorem dMA_min_0 : decode prog_15_method_69_code 0 = .ok (.iload_n 0, 1) := by decide +kernel
theorem dMA_min_1 : decode prog_15_method_69_code 1 = .ok (.iload_n 1, 1) := by decide +kernel
theorem dMA_min_2 : decode prog_15_method_69_code 2 = .ok (.if_icmp .gt (7), 3) := by decide +kernel
theorem dMA_min_5 : decode prog_15_method_69_code 5 = .ok (.iload_n 0, 1) := by decide +kernel
theorem dMA_min_6 : decode prog_15_method_69_code 6 = .ok (.goto (4), 3) := by decide +kernel
theorem dMA_min_9 : decode prog_15_method_69_code 9 = .ok (.iload_n 1, 1) := by decide +kernel
theorem dMA_min_10 : decode prog_15_method_69_code 10 = .ok (.ireturn, 1) := by decide +kernel
theorem c_MA_min {G : sd_G} {h : sd_H} {nx a b : Nat} (ha : a < 2 ^ 31) (hb : b < 2 ^ 31) : sd_Ct G mMA_min 0 0 0 [.int (nI a), .int (nI b)] h nx (sd_is (some (.int (nI (min a b)))) h nx) := by
  refine sd_Ct_ofF (by decide +kernel) (Nat.le_of_ble_eq_true rfl) ?_
  refine sd_iload_n dMA_min_0 rfl rfl ?_
  refine sd_iload_n dMA_min_1 rfl rfl ?_
  refine nn_icmp_gt 9 dMA_min_2 (by decide) (by omega) (by omega) (fun c2 => ?_) (fun c2 => ?_)
  ·
    refine sd_iload_n dMA_min_9 rfl rfl ?_
    exact sd_iret dMA_min_10 rfl (Nat.le_refl _) (Nat.le_refl _) ⟨by rw [show min a b = (b) by omega], rfl, rfl⟩
  ·
    refine sd_iload_n dMA_min_5 rfl rfl ?_
    refine sd_goto 10 dMA_min_6 (by decide) ?_
    exact sd_iret dMA_min_10 rfl (Nat.le_refl _) (Nat.le_refl _) ⟨by rw [show min a b = (a) by omega], rfl, rfl⟩
theorem dMA_max_0 : decode prog_15_method_65_code 0 = .ok (.iload_n 0, 1) := by decide +kernel
theorem dMA_max_1 : decode prog_15_method_65_code 1 = .ok (.iload_n 1, 1) := by decide +kernel
theorem dMA_max_2 : decode prog_15_method_65_code 2 = .ok (.if_icmp .lt (7), 3) := by decide +kernel
theorem dMA_max_5 : decode prog_15_method_65_code 5 = .ok (.iload_n 0, 1) := by decide +kernel
theorem dMA_max_6 : decode prog_15_method_65_code 6 = .ok (.goto (4), 3) := by decide +kernel
theorem dMA_max_9 : decode prog_15_method_65_code 9 = .ok (.iload_n 1, 1) := by decide +kernel
theorem dMA_max_10 : decode prog_15_method_65_code 10 = .ok (.ireturn, 1) := by decide +kernel
theorem c_MA_max {G : sd_G} {h : sd_H} {nx a b : Nat} (ha : a < 2 ^ 31) (hb : b < 2 ^ 31) : sd_Ct G mMA_max 0 0 0 [.int (nI a), .int (nI b)] h nx (sd_is (some (.int (nI (max a b)))) h nx) := by
  refine sd_Ct_ofF (by decide +kernel) (Nat.le_of_ble_eq_true rfl) ?_
  refine sd_iload_n dMA_max_0 rfl rfl ?_
  refine sd_iload_n dMA_max_1 rfl rfl ?_
  refine nn_icmp_lt 9 dMA_max_2 (by decide) (by omega) (by omega) (fun c2 => ?_) (fun c2 => ?_)
  ·
    refine sd_iload_n dMA_max_9 rfl rfl ?_
    exact sd_iret dMA_max_10 rfl (Nat.le_refl _) (Nat.le_refl _) ⟨by rw [show max a b = (b) by omega], rfl, rfl⟩
  ·
    refine sd_iload_n dMA_max_5 rfl rfl ?_
    refine sd_goto 10 dMA_max_6 (by decide) ?_
    exact sd_iret dMA_max_10 rfl (Nat.le_refl _) (Nat.le_refl _) ⟨by rw [show max a b = (a) by omega], rfl, rfl⟩
theorem tl_set_lt : ∀ l : tl_T, tl_set l < 2 ^ 8
  | [] => by decide
  | x :: l => by
    rw [tl_set_cons]
    split
    · exact Nat.or_lt_two_pow (Nat.pow_lt_pow_right (by omega) (by omega)) (tl_set_lt l)
    · exact tl_set_lt l
theorem tl_set_bit {v : Nat} (hv : v < 8) : ∀ l : tl_T, (tl_set l).testBit v = tl_nm l v
  | [] => by simp [tl_set, tl_nm]
  | x :: l => by
    have ih := tl_set_bit hv l
    unfold tl_nm at ih ⊢
    rw [tl_set_cons, List.any_cons]
    split
    · rw [Nat.testBit_or, ih, Nat.testBit_two_pow]
      congr 1
    · rename_i h
      rw [ih]
      have : (x.1 == v) = false := by simp; omega
      rw [this, Bool.false_or]
theorem dTM_names_0 : decode prog_8_method_17_code 0 = .ok (.iconst 0, 1) := by decide +kernel
theorem dTM_names_1 : decode prog_8_method_17_code 1 = .ok (.istore_n 1, 1) := by decide +kernel
theorem dTM_names_2 : decode prog_8_method_17_code 2 = .ok (.iconst 0, 1) := by decide +kernel
theorem dTM_names_3 : decode prog_8_method_17_code 3 = .ok (.istore_n 2, 1) := by decide +kernel
theorem dTM_names_4 : decode prog_8_method_17_code 4 = .ok (.iload_n 2, 1) := by decide +kernel
theorem dTM_names_5 : decode prog_8_method_17_code 5 = .ok (.aload_n 0, 1) := by decide +kernel
theorem dTM_names_6 : decode prog_8_method_17_code 6 = .ok (.getfield 21, 3) := by decide +kernel
theorem dTM_names_9 : decode prog_8_method_17_code 9 = .ok (.if_icmp .ge (31), 3) := by decide +kernel
theorem dTM_names_12 : decode prog_8_method_17_code 12 = .ok (.aload_n 0, 1) := by decide +kernel
theorem dTM_names_13 : decode prog_8_method_17_code 13 = .ok (.getfield 9, 3) := by decide +kernel
theorem dTM_names_16 : decode prog_8_method_17_code 16 = .ok (.iload_n 2, 1) := by decide +kernel
theorem dTM_names_17 : decode prog_8_method_17_code 17 = .ok (.iaload, 1) := by decide +kernel
theorem dTM_names_18 : decode prog_8_method_17_code 18 = .ok (.bipush (8), 2) := by decide +kernel
theorem dTM_names_20 : decode prog_8_method_17_code 20 = .ok (.if_icmp .ge (14), 3) := by decide +kernel
theorem dTM_names_23 : decode prog_8_method_17_code 23 = .ok (.iload_n 1, 1) := by decide +kernel
theorem dTM_names_24 : decode prog_8_method_17_code 24 = .ok (.iconst 1, 1) := by decide +kernel
theorem dTM_names_25 : decode prog_8_method_17_code 25 = .ok (.aload_n 0, 1) := by decide +kernel
theorem dTM_names_26 : decode prog_8_method_17_code 26 = .ok (.getfield 9, 3) := by decide +kernel
theorem dTM_names_29 : decode prog_8_method_17_code 29 = .ok (.iload_n 2, 1) := by decide +kernel
theorem dTM_names_30 : decode prog_8_method_17_code 30 = .ok (.iaload, 1) := by decide +kernel
theorem dTM_names_31 : decode prog_8_method_17_code 31 = .ok (.ishl, 1) := by decide +kernel
theorem dTM_names_32 : decode prog_8_method_17_code 32 = .ok (.ior, 1) := by decide +kernel
theorem dTM_names_33 : decode prog_8_method_17_code 33 = .ok (.istore_n 1, 1) := by decide +kernel
theorem dTM_names_34 : decode prog_8_method_17_code 34 = .ok (.iinc 2 (1), 3) := by decide +kernel
theorem dTM_names_37 : decode prog_8_method_17_code 37 = .ok (.goto (-33), 3) := by decide +kernel
theorem dTM_names_40 : decode prog_8_method_17_code 40 = .ok (.iload_n 1, 1) := by decide +kernel
theorem dTM_names_41 : decode prog_8_method_17_code 41 = .ok (.ireturn, 1) := by decide +kernel
theorem l_TM_names {G : sd_G} {o : Nat} {D : fx_D} {h0 : sd_H} {nx r : Nat} {l : tl_T} (hr : r < 73) (hl : tm_row D r l) : ∀ (n k set : Nat), l.length = k + n → set < 2 ^ 8 → set ||| tl_set (l.drop k) = tl_set l → sd_W G mTM_names 0 0 0 (sd_is (some (.int (nI (tl_set l)))) (fx_h G.1.2 dk_S o D h0) nx) 4 [(0, .ref (o + tmo r)), (1, .int (nI set)), (2, .int (nI k))] [] (fx_h G.1.2 dk_S o D h0) nx 0 0 := by
  have l24 := hl.1
  intro n
  induction n with
  | zero =>
    intro k set hk hs he
    rw [List.drop_eq_nil_of_le (by omega)] at he
    simp only [tl_set, Nat.or_zero] at he
    subst he
    refine sd_iload_n dTM_names_4 rfl rfl ?_
    refine sd_aload_n dTM_names_5 rfl rfl ?_
    refine fx_getiv (v := (nI (l.length))) 7 3 dTM_names_6 fTM_21 (dk_tm (by omega)) rfl (hl.2.1) ?_
    refine nn_icmp_ge 40 dTM_names_9 (by decide) (by omega) (by omega) (fun c9 => ?_) (fun c9 => ?_)
    ·
      refine sd_iload_n dTM_names_40 rfl rfl ?_
      exact sd_iret dTM_names_41 rfl (Nat.le_refl _) (Nat.le_refl _) ⟨rfl, rfl, rfl⟩
    ·
      exact absurd c9 (by omega)
  | succ n ih =>
    intro k set hk hs he
    have hx := tl_at_some (l := l) (i := k) (by omega)
    obtain ⟨q1, q2, q3, q4⟩ := hl.2.2 k _ hx
    rw [tl_drop_get hx, tl_set_cons] at he
    by_cases h8 : (tl_at l k).1 < 8
    · rw [if_pos h8, ← Nat.or_assoc] at he
      have hp : 1 * 2 ^ (tl_at l k).1 < 2 ^ 32 := by rw [Nat.one_mul]; exact Nat.pow_lt_pow_right (by omega) (by omega)
      refine sd_iload_n dTM_names_4 rfl rfl ?_
      refine sd_aload_n dTM_names_5 rfl rfl ?_
      refine fx_getiv (v := (nI (l.length))) 7 3 dTM_names_6 fTM_21 (dk_tm (by omega)) rfl (hl.2.1) ?_
      refine nn_icmp_ge 40 dTM_names_9 (by decide) (by omega) (by omega) (fun c9 => ?_) (fun c9 => ?_)
      ·
        exact absurd c9 (by omega)
      ·
        refine sd_aload_n dTM_names_12 rfl rfl ?_
        refine fx_getr 7 0 (tmo (r) + 1) dTM_names_13 fTM_9 (dk_tm (by omega)) rfl ?_
        refine sd_iload_n dTM_names_16 rfl rfl ?_
        refine fx_ialdv (v := (nI ((tl_at l k).1))) (k) dTM_names_17 (dk_tm1 (by omega)) rfl (by omega) (by decide) (q1) ?_
        refine sd_bipush (v := nI 8) dTM_names_18 (by decide) ?_
        refine nn_icmp_ge 34 dTM_names_20 (by decide) (by omega) (by omega) (fun c20 => ?_) (fun c20 => ?_)
        ·
          exact absurd c20 (by omega)
        ·
          refine sd_iload_n dTM_names_23 rfl rfl ?_
          refine sd_iconst (v := nI 1) dTM_names_24 (by decide) ?_
          refine sd_aload_n dTM_names_25 rfl rfl ?_
          refine fx_getr 7 0 (tmo (r) + 1) dTM_names_26 fTM_9 (dk_tm (by omega)) rfl ?_
          refine sd_iload_n dTM_names_29 rfl rfl ?_
          refine fx_ialdv (v := (nI ((tl_at l k).1))) (k) dTM_names_30 (dk_tm1 (by omega)) rfl (by omega) (by decide) (q1) ?_
          refine nn_ishl dTM_names_31 (by omega) hp ?_
          refine sd_ior dTM_names_32 ?_
          rw [show ((nI (set)) ||| (nI (1 * 2 ^ ((tl_at l k).1)))) = (nI (set ||| 2 ^ (tl_at l k).1)) from (by rw [nn_or2, Nat.one_mul])]
          refine sd_istore_n dTM_names_33 rfl (by decide) ?_
          refine nn_iinc 1 dTM_names_34 rfl (by decide) ?_
          refine sd_goto 4 dTM_names_37 (by decide) ?_
          refine sd_locp (al' := [(0, .ref (o + (tmo (r)))), (1, .int (nI (set ||| 2 ^ (tl_at l k).1))), (2, .int (nI (k + 1)))]) [2, 1, 0] rfl ?_
          exact ih (k + 1) _ (by omega) (Nat.or_lt_two_pow hs (Nat.pow_lt_pow_right (by omega) (by omega))) he
    · rw [if_neg h8] at he
      refine sd_iload_n dTM_names_4 rfl rfl ?_
      refine sd_aload_n dTM_names_5 rfl rfl ?_
      refine fx_getiv (v := (nI (l.length))) 7 3 dTM_names_6 fTM_21 (dk_tm (by omega)) rfl (hl.2.1) ?_
      refine nn_icmp_ge 40 dTM_names_9 (by decide) (by omega) (by omega) (fun c9 => ?_) (fun c9 => ?_)
      ·
        exact absurd c9 (by omega)
      ·
        refine sd_aload_n dTM_names_12 rfl rfl ?_
        refine fx_getr 7 0 (tmo (r) + 1) dTM_names_13 fTM_9 (dk_tm (by omega)) rfl ?_
        refine sd_iload_n dTM_names_16 rfl rfl ?_
        refine fx_ialdv (v := (nI ((tl_at l k).1))) (k) dTM_names_17 (dk_tm1 (by omega)) rfl (by omega) (by decide) (q1) ?_
        refine sd_bipush (v := nI 8) dTM_names_18 (by decide) ?_
        refine nn_icmp_ge 34 dTM_names_20 (by decide) (by omega) (by omega) (fun c20 => ?_) (fun c20 => ?_)
        ·
          refine nn_iinc 1 dTM_names_34 rfl (by decide) ?_
          refine sd_goto 4 dTM_names_37 (by decide) ?_
          refine sd_locp (al' := [(0, .ref (o + (tmo (r)))), (1, .int (nI (set))), (2, .int (nI (k + 1)))]) [1, 2, 0] rfl ?_
          exact ih (k + 1) set (by omega) hs he
        ·
          exact absurd c20 (by omega)
theorem c_TM_names {G : sd_G} {o : Nat} {D : fx_D} {h0 : sd_H} {nx r : Nat} {l : tl_T} (hr : r < 73) (hl : tm_row D r l) : sd_Ct G mTM_names 0 0 0 [.ref (o + tmo r)] (fx_h G.1.2 dk_S o D h0) nx (sd_is (some (.int (nI (tl_set l)))) (fx_h G.1.2 dk_S o D h0) nx) := by
  refine sd_Ct_of (by decide) (Nat.le_of_ble_eq_true rfl) ?_
  refine sd_iconst (v := nI 0) dTM_names_0 (by decide) ?_
  refine sd_istore_n dTM_names_1 rfl (by decide) ?_
  refine sd_iconst (v := nI 0) dTM_names_2 (by decide) ?_
  refine sd_istore_n dTM_names_3 rfl (by decide) ?_
  refine sd_locp (al' := [(0, .ref (o + (tmo (r)))), (1, .int (nI (0))), (2, .int (nI (0)))]) [2, 1, 0] rfl ?_
  exact l_TM_names hr hl l.length 0 0 (by omega) (by decide) (by rw [List.drop_zero, Nat.zero_or])
theorem dTM_hasName_0 : decode prog_8_method_18_code 0 = .ok (.aload_n 0, 1) := by decide +kernel
theorem dTM_hasName_1 : decode prog_8_method_18_code 1 = .ok (.invokevirtual 45, 3) := by decide +kernel
theorem dTM_hasName_4 : decode prog_8_method_18_code 4 = .ok (.iload_n 1, 1) := by decide +kernel
theorem dTM_hasName_5 : decode prog_8_method_18_code 5 = .ok (.ishr, 1) := by decide +kernel
theorem dTM_hasName_6 : decode prog_8_method_18_code 6 = .ok (.iconst 1, 1) := by decide +kernel
theorem dTM_hasName_7 : decode prog_8_method_18_code 7 = .ok (.iand, 1) := by decide +kernel
theorem dTM_hasName_8 : decode prog_8_method_18_code 8 = .ok (.iconst 1, 1) := by decide +kernel
theorem dTM_hasName_9 : decode prog_8_method_18_code 9 = .ok (.if_icmp .ne (7), 3) := by decide +kernel
theorem dTM_hasName_12 : decode prog_8_method_18_code 12 = .ok (.iconst 1, 1) := by decide +kernel
theorem dTM_hasName_13 : decode prog_8_method_18_code 13 = .ok (.goto (4), 3) := by decide +kernel
theorem dTM_hasName_16 : decode prog_8_method_18_code 16 = .ok (.iconst 0, 1) := by decide +kernel
theorem dTM_hasName_17 : decode prog_8_method_18_code 17 = .ok (.ireturn, 1) := by decide +kernel
theorem c_TM_hasName {G : sd_G} {o : Nat} {D : fx_D} {h0 : sd_H} {nx r v b : Nat} {l : tl_T} (hr : r < 73) (hl : tm_row D r l) (hv : v < 8) (hb2 : b < 2) (hb : b = 1 ↔ tl_nm l v = true) : sd_Ct G mTM_hasName 1 0 0 [.ref (o + tmo r), .int (nI v)] (fx_h G.1.2 dk_S o D h0) nx (sd_is (some (.int (nI b))) (fx_h G.1.2 dk_S o D h0) nx) := by
  refine sd_Ct_of (by decide) (Nat.le_of_ble_eq_true rfl) ?_
  have hlt := tl_set_lt l
  have hd : tl_set l / 2 ^ v < 2 ^ 31 := Nat.lt_of_le_of_lt (Nat.div_le_self _ _) (by omega)
  rw [← tl_set_bit hv, Nat.testBit_eq_decide_div_mod_eq, decide_eq_true_eq] at hb
  refine sd_aload_n dTM_hasName_0 rfl rfl ?_
  refine fx_cV 7 sR_TM [] [] dTM_hasName_1 kTM_45 rfl (dk_tm (by omega)) mTM_names_v (c_TM_names hr hl) (by decide) (Nat.le_refl _) (Nat.le_refl _) (Nat.le_of_ble_eq_true rfl) rfl ?_
  refine sd_iload_n dTM_hasName_4 rfl rfl ?_
  refine nn_ishr dTM_hasName_5 (by omega) (by omega) ?_
  refine sd_iconst (v := nI 1) dTM_hasName_6 (by decide) ?_
  refine nn_iand1 dTM_hasName_7 hd ?_
  refine sd_iconst (v := nI 1) dTM_hasName_8 (by decide) ?_
  refine nn_icmp_ne 16 dTM_hasName_9 (by decide) (by omega) (by omega) (fun c9 => ?_) (fun c9 => ?_)
  ·
    refine sd_iconst (v := nI 0) dTM_hasName_16 (by decide) ?_
    exact sd_zret dTM_hasName_17 rfl (nn_01 (by omega)) (Nat.le_refl _) (Nat.le_refl _) ⟨by rw [show b = (0) by omega], rfl, rfl⟩
  ·
    refine sd_iconst (v := nI 1) dTM_hasName_12 (by decide) ?_
    refine sd_goto 17 dTM_hasName_13 (by decide) ?_
    exact sd_zret dTM_hasName_17 rfl (nn_01 (by omega)) (Nat.le_refl _) (Nat.le_refl _) ⟨by rw [show b = (1) by omega], rfl, rfl⟩
/-! ===== the class's Terms ===== -/
/-- the rows of terms -/
def ts_T (D : fx_D) (T : List tl_T) : Prop := T.length ≤ 71 ∧ D.2.1 1 2 = nI T.length ∧ ∀ (t : Nat) (l : tl_T), T[t]? = some l → tm_row D (t + 1) l ∧ tm_set D (t + 1) l ∧ tl_wf l
theorem dTS_has_0 : decode prog_9_method_2_code 0 = .ok (.iload_n 1, 1) := by decide +kernel
theorem dTS_has_1 : decode prog_9_method_2_code 1 = .ok (.ifCond .lt (15), 3) := by decide +kernel
theorem dTS_has_4 : decode prog_9_method_2_code 4 = .ok (.iload_n 1, 1) := by decide +kernel
theorem dTS_has_5 : decode prog_9_method_2_code 5 = .ok (.aload_n 0, 1) := by decide +kernel
theorem dTS_has_6 : decode prog_9_method_2_code 6 = .ok (.getfield 26, 3) := by decide +kernel
theorem dTS_has_9 : decode prog_9_method_2_code 9 = .ok (.if_icmp .ge (7), 3) := by decide +kernel
theorem dTS_has_12 : decode prog_9_method_2_code 12 = .ok (.iconst 1, 1) := by decide +kernel
theorem dTS_has_13 : decode prog_9_method_2_code 13 = .ok (.goto (4), 3) := by decide +kernel
theorem dTS_has_16 : decode prog_9_method_2_code 16 = .ok (.iconst 0, 1) := by decide +kernel
theorem dTS_has_17 : decode prog_9_method_2_code 17 = .ok (.ireturn, 1) := by decide +kernel
theorem c_TS_has {G : sd_G} {o : Nat} {D : fx_D} {h0 : sd_H} {nx n b : Nat} {x : Int32} (hn : n ≤ 100) (hl : D.2.1 1 2 = nI n) (hb2 : b < 2) (hb : b = 1 ↔ nn_lt x n) : sd_Ct G mTS_has 0 0 0 [.ref (o + 1), .int x] (fx_h G.1.2 dk_S o D h0) nx (sd_is (some (.int (nI b))) (fx_h G.1.2 dk_S o D h0) nx) := by
  refine sd_Ct_of (by decide) (Nat.le_of_ble_eq_true rfl) ?_
  by_cases h0' : x < 0
  · obtain rfl : b = 0 := by
      have : ¬ b = 1 := fun e => by
        obtain ⟨t, ht, rfl⟩ := hb.mp e
        exact nI_pos (by omega) h0'
      omega
    refine sd_iload_n dTS_has_0 rfl rfl ?_
    refine sd_if_lt 16 dTS_has_1 (by decide) (fun c1 => ?_) (fun c1 => ?_)
    ·
      refine sd_iconst (v := nI 0) dTS_has_16 (by decide) ?_
      exact sd_zret dTS_has_17 rfl (Or.inl rfl) (Nat.le_refl _) (Nat.le_refl _) ⟨rfl, rfl, rfl⟩
    ·
      exact absurd h0' c1
  · obtain ⟨t, ht, rfl⟩ := nI_of h0'
    have hb' : b = 1 ↔ t < n := hb.trans ⟨fun ⟨t', h1, h2⟩ => by
      have := nI_inj ht (by omega) h2
      omega, fun h => ⟨t, h, rfl⟩⟩
    refine sd_iload_n dTS_has_0 rfl rfl ?_
    refine nn_if_lt dTS_has_1 16 (by decide) (by omega) ?_
    refine sd_iload_n dTS_has_4 rfl rfl ?_
    refine sd_aload_n dTS_has_5 rfl rfl ?_
    refine fx_getiv (v := (nI (n))) 8 2 dTS_has_6 fTS_26 rfl rfl (hl) ?_
    refine nn_icmp_ge 16 dTS_has_9 (by decide) (by omega) (by omega) (fun c9 => ?_) (fun c9 => ?_)
    ·
      refine sd_iconst (v := nI 0) dTS_has_16 (by decide) ?_
      exact sd_zret dTS_has_17 rfl (nn_01 (by omega)) (Nat.le_refl _) (Nat.le_refl _) ⟨by rw [show b = (0) by omega], rfl, rfl⟩
    ·
      refine sd_iconst (v := nI 1) dTS_has_12 (by decide) ?_
      refine sd_goto 17 dTS_has_13 (by decide) ?_
      exact sd_zret dTS_has_17 rfl (nn_01 (by omega)) (Nat.le_refl _) (Nat.le_refl _) ⟨by rw [show b = (1) by omega], rfl, rfl⟩
theorem dTS_overfull_0 : decode prog_9_method_3_code 0 = .ok (.aload_n 0, 1) := by decide +kernel
theorem dTS_overfull_1 : decode prog_9_method_3_code 1 = .ok (.getfield 26, 3) := by decide +kernel
theorem dTS_overfull_4 : decode prog_9_method_3_code 4 = .ok (.bipush (64), 2) := by decide +kernel
theorem dTS_overfull_6 : decode prog_9_method_3_code 6 = .ok (.if_icmp .le (7), 3) := by decide +kernel
theorem dTS_overfull_9 : decode prog_9_method_3_code 9 = .ok (.iconst 1, 1) := by decide +kernel
theorem dTS_overfull_10 : decode prog_9_method_3_code 10 = .ok (.goto (4), 3) := by decide +kernel
theorem dTS_overfull_13 : decode prog_9_method_3_code 13 = .ok (.iconst 0, 1) := by decide +kernel
theorem dTS_overfull_14 : decode prog_9_method_3_code 14 = .ok (.ireturn, 1) := by decide +kernel
theorem c_TS_overfull {G : sd_G} {o : Nat} {D : fx_D} {h0 : sd_H} {nx n b : Nat} (hn : n ≤ 100) (hl : D.2.1 1 2 = nI n) (hb2 : b < 2) (hb : b = 1 ↔ 64 < n) : sd_Ct G mTS_overfull 0 0 0 [.ref (o + 1)] (fx_h G.1.2 dk_S o D h0) nx (sd_is (some (.int (nI b))) (fx_h G.1.2 dk_S o D h0) nx) := by
  refine sd_Ct_of (by decide) (Nat.le_of_ble_eq_true rfl) ?_
  refine sd_aload_n dTS_overfull_0 rfl rfl ?_
  refine fx_getiv (v := (nI (n))) 8 2 dTS_overfull_1 fTS_26 rfl rfl (hl) ?_
  refine sd_bipush (v := nI 64) dTS_overfull_4 (by decide) ?_
  refine nn_icmp_le 13 dTS_overfull_6 (by decide) (by omega) (by omega) (fun c6 => ?_) (fun c6 => ?_)
  ·
    refine sd_iconst (v := nI 0) dTS_overfull_13 (by decide) ?_
    exact sd_zret dTS_overfull_14 rfl (nn_01 (by omega)) (Nat.le_refl _) (Nat.le_refl _) ⟨by rw [show b = (0) by omega], rfl, rfl⟩
  ·
    refine sd_iconst (v := nI 1) dTS_overfull_9 (by decide) ?_
    refine sd_goto 14 dTS_overfull_10 (by decide) ?_
    exact sd_zret dTS_overfull_14 rfl (nn_01 (by omega)) (Nat.le_refl _) (Nat.le_refl _) ⟨by rw [show b = (1) by omega], rfl, rfl⟩
