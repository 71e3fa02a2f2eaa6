/-! ===== the class's Draft: symbolOf, isWhole, binderOf ===== -/
def dd_R (D : fx_D) (l : List Nat) : Prop := l.length ≤ 24 ∧ D.2.1 296 2 = nI l.length ∧ ∀ (k x : Nat), l[k]? = some x → D.1 297 k = nI x ∧ x < 18
theorem nn_ix {e a : Nat} : nI (e + 1) + ix a = nI (e + a) := by
  cases a with
  | zero => exact nn_m1
  | succ a =>
    show nI (e + 1) + nI a = nI (e + (a + 1))
    rw [nI_add]
    congr 1
    omega
theorem dd_get {D : fx_D} {l : List Nat} {k : Nat} (h : dd_R D l) (hk : k < l.length) : D.1 297 k = nI (l.getD k 0) ∧ l.getD k 0 < 18 := by
  have e : l[k]? = some (l.getD k 0) := by
    rw [List.getD_eq_getElem?_getD, List.getElem?_eq_getElem hk]
    rfl
  exact h.2.2 k _ e
theorem dk_l_get {l : List Nat} {k : Nat} (hk : k < l.length) : (dk_l l)[k]? = some (dk_s (l.getD k 0), 1) := by
  unfold dk_l
  rw [List.getElem?_map, List.getD_eq_getElem?_getD, List.getElem?_eq_getElem hk]
  rfl
theorem dk_l_drop {l : List Nat} {k : Nat} (hk : k < l.length) : (dk_l l).drop k = (dk_s (l.getD k 0), 1) :: (dk_l l).drop (k + 1) := by
  obtain ⟨z1, z2⟩ := List.getElem?_eq_some_iff.mp (dk_l_get hk)
  rw [List.drop_eq_getElem_cons z1, z2]
theorem dDR_symbolOf_0 : decode prog_2_method_3_code 0 = .ok (.iload_n 0, 1) := by decide +kernel
theorem dDR_symbolOf_1 : decode prog_2_method_3_code 1 = .ok (.bipush (10), 2) := by decide +kernel
theorem dDR_symbolOf_3 : decode prog_2_method_3_code 3 = .ok (.invokestatic 31, 3) := by decide +kernel
theorem dDR_symbolOf_6 : decode prog_2_method_3_code 6 = .ok (.ireturn, 1) := by decide +kernel
theorem c_DR_symbolOf {G : sd_G} {h : sd_H} {nx t : Nat} (ht : t < 18) : sd_Ct G mDR_symbolOf 1 0 0 [.int (nI t)] h nx (sd_is (some (.int (nI (dk_s t)))) h nx) := by
  refine sd_Ct_of (by decide) (Nat.le_of_ble_eq_true rfl) ?_
  have e : dk_s t = min t 10 := by
    unfold dk_s
    split <;> omega
  refine sd_iload_n dDR_symbolOf_0 rfl rfl ?_
  refine sd_bipush (v := nI 10) dDR_symbolOf_1 (by decide) ?_
  refine sd_cS [.int (nI (t)), .int (nI (10))] [] dDR_symbolOf_3 kDR_31 mMA_min_s (c_MA_mn (c := dk_s t) (by omega) (by omega) e) (by decide) (Nat.le_refl _) (Nat.le_refl _) (Nat.le_of_ble_eq_true rfl) rfl ?_
  exact sd_iret dDR_symbolOf_6 rfl (Nat.le_refl _) (Nat.le_refl _) ⟨rfl, rfl, rfl⟩
theorem dDR_isWhole_0 : decode prog_2_method_2_code 0 = .ok (.iconst 1, 1) := by decide +kernel
theorem dDR_isWhole_1 : decode prog_2_method_2_code 1 = .ok (.istore_n 1, 1) := by decide +kernel
theorem dDR_isWhole_2 : decode prog_2_method_2_code 2 = .ok (.iconst 0, 1) := by decide +kernel
theorem dDR_isWhole_3 : decode prog_2_method_2_code 3 = .ok (.istore_n 2, 1) := by decide +kernel
theorem dDR_isWhole_4 : decode prog_2_method_2_code 4 = .ok (.iload_n 2, 1) := by decide +kernel
theorem dDR_isWhole_5 : decode prog_2_method_2_code 5 = .ok (.aload_n 0, 1) := by decide +kernel
theorem dDR_isWhole_6 : decode prog_2_method_2_code 6 = .ok (.getfield 18, 3) := by decide +kernel
theorem dDR_isWhole_9 : decode prog_2_method_2_code 9 = .ok (.if_icmp .ge (32), 3) := by decide +kernel
theorem dDR_isWhole_12 : decode prog_2_method_2_code 12 = .ok (.iload_n 1, 1) := by decide +kernel
theorem dDR_isWhole_13 : decode prog_2_method_2_code 13 = .ok (.ifCond .ne (5), 3) := by decide +kernel
theorem dDR_isWhole_16 : decode prog_2_method_2_code 16 = .ok (.iconst 0, 1) := by decide +kernel
theorem dDR_isWhole_17 : decode prog_2_method_2_code 17 = .ok (.ireturn, 1) := by decide +kernel
theorem dDR_isWhole_18 : decode prog_2_method_2_code 18 = .ok (.iload_n 1, 1) := by decide +kernel
theorem dDR_isWhole_19 : decode prog_2_method_2_code 19 = .ok (.aload_n 0, 1) := by decide +kernel
theorem dDR_isWhole_20 : decode prog_2_method_2_code 20 = .ok (.getfield 9, 3) := by decide +kernel
theorem dDR_isWhole_23 : decode prog_2_method_2_code 23 = .ok (.iload_n 2, 1) := by decide +kernel
theorem dDR_isWhole_24 : decode prog_2_method_2_code 24 = .ok (.iaload, 1) := by decide +kernel
theorem dDR_isWhole_25 : decode prog_2_method_2_code 25 = .ok (.invokestatic 22, 3) := by decide +kernel
theorem dDR_isWhole_28 : decode prog_2_method_2_code 28 = .ok (.invokestatic 26, 3) := by decide +kernel
theorem dDR_isWhole_31 : decode prog_2_method_2_code 31 = .ok (.iconst 1, 1) := by decide +kernel
theorem dDR_isWhole_32 : decode prog_2_method_2_code 32 = .ok (.isub, 1) := by decide +kernel
theorem dDR_isWhole_33 : decode prog_2_method_2_code 33 = .ok (.iadd, 1) := by decide +kernel
theorem dDR_isWhole_34 : decode prog_2_method_2_code 34 = .ok (.istore_n 1, 1) := by decide +kernel
theorem dDR_isWhole_35 : decode prog_2_method_2_code 35 = .ok (.iinc 2 (1), 3) := by decide +kernel
theorem dDR_isWhole_38 : decode prog_2_method_2_code 38 = .ok (.goto (-34), 3) := by decide +kernel
theorem dDR_isWhole_41 : decode prog_2_method_2_code 41 = .ok (.iload_n 1, 1) := by decide +kernel
theorem dDR_isWhole_42 : decode prog_2_method_2_code 42 = .ok (.ifCond .ne (7), 3) := by decide +kernel
theorem dDR_isWhole_45 : decode prog_2_method_2_code 45 = .ok (.iconst 1, 1) := by decide +kernel
theorem dDR_isWhole_46 : decode prog_2_method_2_code 46 = .ok (.goto (4), 3) := by decide +kernel
theorem dDR_isWhole_49 : decode prog_2_method_2_code 49 = .ok (.iconst 0, 1) := by decide +kernel
theorem dDR_isWhole_50 : decode prog_2_method_2_code 50 = .ok (.ireturn, 1) := by decide +kernel
theorem l_DR_isWhole {G : sd_G} {o : Nat} {D : fx_D} {h0 : sd_H} {nx b : Nat} {dr : List Nat} (hD : dd_R D dr) (hb2 : b < 2) : ∀ (n k e : Nat), dr.length = k + n → e ≤ k + 1 → (b = 1 ↔ tl_cp e ((dk_l dr).drop k)) → sd_W G mDR_isWhole 2 0 0 (sd_is (some (.int (nI b))) (fx_h G.1.2 dk_S o D h0) nx) 4 [(0, .ref (o + 296)), (1, .int (nI e)), (2, .int (nI k))] [] (fx_h G.1.2 dk_S o D h0) nx 0 0 := by
  have l24 := hD.1
  have hlen : (dk_l dr).length = dr.length := List.length_map ..
  intro n
  induction n with
  | zero =>
    intro k e hk he hb
    rw [List.drop_of_length_le (by omega), tl_cp_nil_iff] at hb
    refine sd_iload_n dDR_isWhole_4 rfl rfl ?_
    refine sd_aload_n dDR_isWhole_5 rfl rfl ?_
    refine fx_getiv (v := (nI (dr.length))) 1 2 dDR_isWhole_6 fDR_18 rfl rfl (hD.2.1) ?_
    refine nn_icmp_ge 41 dDR_isWhole_9 (by decide) (by omega) (by omega) (fun c9 => ?_) (fun c9 => ?_)
    ·
      refine sd_iload_n dDR_isWhole_41 rfl rfl ?_
      refine nn_if_ne 49 dDR_isWhole_42 (by decide) (by omega) (fun c42 => ?_) (fun c42 => ?_)
      ·
        refine sd_iconst (v := nI 0) dDR_isWhole_49 (by decide) ?_
        exact sd_zret dDR_isWhole_50 rfl (nn_01 (by omega)) (Nat.le_refl _) (Nat.le_refl _) ⟨by rw [show b = (0) by omega], rfl, rfl⟩
      ·
        refine sd_iconst (v := nI 1) dDR_isWhole_45 (by decide) ?_
        refine sd_goto 50 dDR_isWhole_46 (by decide) ?_
        exact sd_zret dDR_isWhole_50 rfl (nn_01 (by omega)) (Nat.le_refl _) (Nat.le_refl _) ⟨by rw [show b = (1) by omega], rfl, rfl⟩
    ·
      exact absurd c9 (by omega)
  | succ n ih =>
    intro k e hk he hb
    obtain ⟨x1, x2⟩ := dd_get hD (k := k) (by omega)
    rw [dk_l_drop (by omega)] at hb
    cases e with
    | zero =>
      have hb0 : b = 0 := by
        have : ¬ b = 1 := fun z => by
          have := tl_cp_zero (hb.mp z)
          cases this
        omega
      subst hb0
      refine sd_iload_n dDR_isWhole_4 rfl rfl ?_
      refine sd_aload_n dDR_isWhole_5 rfl rfl ?_
      refine fx_getiv (v := (nI (dr.length))) 1 2 dDR_isWhole_6 fDR_18 rfl rfl (hD.2.1) ?_
      refine nn_icmp_ge 41 dDR_isWhole_9 (by decide) (by omega) (by omega) (fun c9 => ?_) (fun c9 => ?_)
      ·
        exact absurd c9 (by omega)
      ·
        refine sd_iload_n dDR_isWhole_12 rfl rfl ?_
        refine nn_if_ne 18 dDR_isWhole_13 (by decide) (by decide) (fun c => absurd c (by decide)) (fun _ => ?_)
        refine sd_iconst (v := nI 0) dDR_isWhole_16 (by decide) ?_
        exact sd_zret dDR_isWhole_17 rfl (Or.inl rfl) (Nat.le_refl _) (Nat.le_refl _) ⟨rfl, rfl, rfl⟩
    | succ e =>
      rw [tl_cp_cons] at hb
      have har := tl_ar_le (dk_s (dr.getD k 0))
      have hs : dk_s (dr.getD k 0) < 2 ^ 31 := by
        unfold dk_s
        split <;> omega
      refine sd_iload_n dDR_isWhole_4 rfl rfl ?_
      refine sd_aload_n dDR_isWhole_5 rfl rfl ?_
      refine fx_getiv (v := (nI (dr.length))) 1 2 dDR_isWhole_6 fDR_18 rfl rfl (hD.2.1) ?_
      refine nn_icmp_ge 41 dDR_isWhole_9 (by decide) (by omega) (by omega) (fun c9 => ?_) (fun c9 => ?_)
      ·
        exact absurd c9 (by omega)
      ·
        refine sd_iload_n dDR_isWhole_12 rfl rfl ?_
        refine nn_if_ne 18 dDR_isWhole_13 (by decide) (by omega) (fun c13 => ?_) (fun c13 => ?_)
        ·
          refine sd_iload_n dDR_isWhole_18 rfl rfl ?_
          refine sd_aload_n dDR_isWhole_19 rfl rfl ?_
          refine fx_getr 1 0 (297) dDR_isWhole_20 fDR_9 rfl rfl ?_
          refine sd_iload_n dDR_isWhole_23 rfl rfl ?_
          refine fx_ialdv (v := (nI (dr.getD k 0))) (k) dDR_isWhole_24 rfl rfl (by omega) (by decide) (x1) ?_
          refine sd_cS [.int (nI (dr.getD k 0))] [.int (nI (e + 1))] dDR_isWhole_25 kDR_22 mDR_symbolOf_s (c_DR_symbolOf x2) (by decide) (Nat.le_refl _) (Nat.le_refl _) (Nat.le_of_ble_eq_true rfl) rfl ?_
          refine sd_cS [.int (nI (dk_s (dr.getD k 0)))] [.int (nI (e + 1))] dDR_isWhole_28 kDR_26 mTM_partsOf_s (c_TM_partsOf hs) (by decide) (Nat.le_refl _) (Nat.le_refl _) (Nat.le_of_ble_eq_true rfl) rfl ?_
          refine sd_iconst (v := nI 1) dDR_isWhole_31 (by decide) ?_
          refine sd_isub dDR_isWhole_32 ?_
          rw [show ((nI (tl_ar (dk_s (dr.getD k 0)))) - (nI (1))) = (ix (tl_ar (dk_s (dr.getD k 0)))) from (ix_sub _)]
          refine sd_iadd dDR_isWhole_33 ?_
          rw [show ((nI (e + 1)) + (ix (tl_ar (dk_s (dr.getD k 0))))) = (nI (e + tl_ar (dk_s (dr.getD k 0)))) from nn_ix]
          refine sd_istore_n dDR_isWhole_34 rfl (by decide) ?_
          refine nn_iinc 1 dDR_isWhole_35 rfl (by decide) ?_
          refine sd_goto 4 dDR_isWhole_38 (by decide) ?_
          refine sd_locp (al' := [(0, .ref (o + (296))), (1, .int (nI (e + tl_ar (dk_s (dr.getD k 0))))), (2, .int (nI (k + 1)))]) [2, 1, 0] rfl ?_
          exact ih (k + 1) _ (by omega) (by omega) hb
        ·
          exact absurd c13 (by omega)
theorem c_DR_isWhole {G : sd_G} {o : Nat} {D : fx_D} {h0 : sd_H} {nx b : Nat} {dr : List Nat} (hD : dd_R D dr) (hb2 : b < 2) (hb : b = 1 ↔ tl_cp 1 (dk_l dr)) : sd_Ct G mDR_isWhole 2 0 0 [.ref (o + 296)] (fx_h G.1.2 dk_S o D h0) nx (sd_is (some (.int (nI b))) (fx_h G.1.2 dk_S o D h0) nx) := by
  refine sd_Ct_of (by decide) (Nat.le_of_ble_eq_true rfl) ?_
  refine sd_iconst (v := nI 1) dDR_isWhole_0 (by decide) ?_
  refine sd_istore_n dDR_isWhole_1 rfl (by decide) ?_
  refine sd_iconst (v := nI 0) dDR_isWhole_2 (by decide) ?_
  refine sd_istore_n dDR_isWhole_3 rfl (by decide) ?_
  refine sd_locp (al' := [(0, .ref (o + (296))), (1, .int (nI (1))), (2, .int (nI (0)))]) [2, 1, 0] rfl ?_
  exact l_DR_isWhole hD hb2 dr.length 0 1 (by omega) (by omega) (by rw [List.drop_zero]; exact hb)
theorem dDR_binderOf_0 : decode prog_2_method_5_code 0 = .ok (.iload_n 2, 1) := by decide +kernel
theorem dDR_binderOf_1 : decode prog_2_method_5_code 1 = .ok (.iconst 1, 1) := by decide +kernel
theorem dDR_binderOf_2 : decode prog_2_method_5_code 2 = .ok (.isub, 1) := by decide +kernel
theorem dDR_binderOf_3 : decode prog_2_method_5_code 3 = .ok (.istore_n 3, 1) := by decide +kernel
theorem dDR_binderOf_4 : decode prog_2_method_5_code 4 = .ok (.iload_n 3, 1) := by decide +kernel
theorem dDR_binderOf_5 : decode prog_2_method_5_code 5 = .ok (.ifCond .lt (39), 3) := by decide +kernel
theorem dDR_binderOf_8 : decode prog_2_method_5_code 8 = .ok (.aload_n 0, 1) := by decide +kernel
theorem dDR_binderOf_9 : decode prog_2_method_5_code 9 = .ok (.getfield 9, 3) := by decide +kernel
theorem dDR_binderOf_12 : decode prog_2_method_5_code 12 = .ok (.iload_n 3, 1) := by decide +kernel
theorem dDR_binderOf_13 : decode prog_2_method_5_code 13 = .ok (.iaload, 1) := by decide +kernel
theorem dDR_binderOf_14 : decode prog_2_method_5_code 14 = .ok (.bipush (10), 2) := by decide +kernel
theorem dDR_binderOf_16 : decode prog_2_method_5_code 16 = .ok (.aload_n 0, 1) := by decide +kernel
theorem dDR_binderOf_17 : decode prog_2_method_5_code 17 = .ok (.getfield 9, 3) := by decide +kernel
theorem dDR_binderOf_20 : decode prog_2_method_5_code 20 = .ok (.iload_n 2, 1) := by decide +kernel
theorem dDR_binderOf_21 : decode prog_2_method_5_code 21 = .ok (.iaload, 1) := by decide +kernel
theorem dDR_binderOf_22 : decode prog_2_method_5_code 22 = .ok (.iadd, 1) := by decide +kernel
theorem dDR_binderOf_23 : decode prog_2_method_5_code 23 = .ok (.if_icmp .ne (15), 3) := by decide +kernel
theorem dDR_binderOf_26 : decode prog_2_method_5_code 26 = .ok (.aload_n 1, 1) := by decide +kernel
theorem dDR_binderOf_27 : decode prog_2_method_5_code 27 = .ok (.getfield 58, 3) := by decide +kernel
theorem dDR_binderOf_30 : decode prog_2_method_5_code 30 = .ok (.iload_n 3, 1) := by decide +kernel
theorem dDR_binderOf_31 : decode prog_2_method_5_code 31 = .ok (.iaload, 1) := by decide +kernel
theorem dDR_binderOf_32 : decode prog_2_method_5_code 32 = .ok (.iload_n 2, 1) := by decide +kernel
theorem dDR_binderOf_33 : decode prog_2_method_5_code 33 = .ok (.if_icmp .le (5), 3) := by decide +kernel
theorem dDR_binderOf_36 : decode prog_2_method_5_code 36 = .ok (.iload_n 3, 1) := by decide +kernel
theorem dDR_binderOf_37 : decode prog_2_method_5_code 37 = .ok (.ireturn, 1) := by decide +kernel
theorem dDR_binderOf_38 : decode prog_2_method_5_code 38 = .ok (.iinc 3 (-1), 3) := by decide +kernel
theorem dDR_binderOf_41 : decode prog_2_method_5_code 41 = .ok (.goto (-37), 3) := by decide +kernel
theorem dDR_binderOf_44 : decode prog_2_method_5_code 44 = .ok (.iconst (-1), 1) := by decide +kernel
theorem dDR_binderOf_45 : decode prog_2_method_5_code 45 = .ok (.ireturn, 1) := by decide +kernel
def dd_b (dr : List Nat) (k j b : Nat) : Int32 := match sp_b dr k j b with
  | some p => nI p.1
  | none => -1
theorem l_DR_binderOf {G : sd_G} {o : Nat} {D : fx_D} {h0 : sd_H} {nx r k : Nat} {dr : List Nat} (hr : r < 73) (hD : dd_R D dr) (hk : k < dr.length) (hs : ∀ j, j < dr.length → D.1 (tmo r + 3) j = nI (tl_end (dk_l dr) j)) : ∀ (j b : Nat) (v : Int32), j ≤ k → v = dd_b dr k j b → sd_W G mDR_binderOf 0 0 0 (sd_is (some (.int v)) (fx_h G.1.2 dk_S o D h0) nx) 4 [(0, .ref (o + 296)), (1, .ref (o + tmo r)), (2, .int (nI k)), (3, .int (ix j))] [] (fx_h G.1.2 dk_S o D h0) nx 0 0 := by
  have l24 := hD.1
  have hlen : (dk_l dr).length = dr.length := List.length_map ..
  obtain ⟨k1, k2⟩ := dd_get hD hk
  intro j
  induction j with
  | zero =>
    intro b v hj hv
    refine sd_iload_n dDR_binderOf_4 rfl rfl ?_
    refine sd_if_lt 44 dDR_binderOf_5 (by decide) (fun c5 => ?_) (fun c5 => ?_)
    ·
      refine sd_iconst (v := (-1)) dDR_binderOf_44 (by decide) ?_
      exact sd_iret dDR_binderOf_45 rfl (Nat.le_refl _) (Nat.le_refl _) ⟨by rw [hv]; rfl, rfl, rfl⟩
    ·
      exact absurd (show ix 0 < 0 by decide) c5
  | succ j ih =>
    intro b v hj hv
    rw [show ix (j + 1) = nI j from rfl]
    obtain ⟨j1, j2⟩ := dd_get hD (k := j) (by omega)
    have hsj := hs j (by omega)
    have hel := tl_end_le (l := dk_l dr) (i := j) (by omega)
    by_cases e1 : dr.getD j 0 = 10 + dr.getD k 0
    · by_cases e2 : k < tl_end (dk_l dr) j
      · have hv' : v = nI j := by
          rw [hv]
          unfold dd_b
          rw [sp_b, if_pos ⟨e1, e2⟩]
        subst hv'
        refine sd_iload_n dDR_binderOf_4 rfl rfl ?_
        refine nn_if_lt dDR_binderOf_5 44 (by decide) (by omega) ?_
        refine sd_aload_n dDR_binderOf_8 rfl rfl ?_
        refine fx_getr 1 0 (297) dDR_binderOf_9 fDR_9 rfl rfl ?_
        refine sd_iload_n dDR_binderOf_12 rfl rfl ?_
        refine fx_ialdv (v := (nI (dr.getD j 0))) (j) dDR_binderOf_13 rfl rfl (by omega) (by decide) (j1) ?_
        refine sd_bipush (v := nI 10) dDR_binderOf_14 (by decide) ?_
        refine sd_aload_n dDR_binderOf_16 rfl rfl ?_
        refine fx_getr 1 0 (297) dDR_binderOf_17 fDR_9 rfl rfl ?_
        refine sd_iload_n dDR_binderOf_20 rfl rfl ?_
        refine fx_ialdv (v := (nI (dr.getD k 0))) (k) dDR_binderOf_21 rfl rfl (by omega) (by decide) (k1) ?_
        refine nn_iadd dDR_binderOf_22 ?_
        refine nn_icmp_ne 38 dDR_binderOf_23 (by decide) (by omega) (by omega) (fun c23 => ?_) (fun c23 => ?_)
        ·
          exact absurd e1 c23
        ·
          refine sd_aload_n dDR_binderOf_26 rfl rfl ?_
          refine fx_getr 7 2 (tmo (r) + 3) dDR_binderOf_27 fDR_58 (dk_tm (by omega)) rfl ?_
          refine sd_iload_n dDR_binderOf_30 rfl rfl ?_
          refine fx_ialdv (v := (nI (tl_end (dk_l dr) j))) (j) dDR_binderOf_31 (dk_tm3 (by omega)) rfl (by omega) (by decide) (hsj) ?_
          refine sd_iload_n dDR_binderOf_32 rfl rfl ?_
          refine nn_icmp_le 38 dDR_binderOf_33 (by decide) (by omega) (by omega) (fun c33 => ?_) (fun c33 => ?_)
          ·
            exact absurd c33 (by omega)
          ·
            refine sd_iload_n dDR_binderOf_36 rfl rfl ?_
            exact sd_iret dDR_binderOf_37 rfl (Nat.le_refl _) (Nat.le_refl _) ⟨rfl, rfl, rfl⟩
      · have hv' : v = dd_b dr k j b := by
          rw [hv]
          unfold dd_b
          rw [sp_b, if_neg (fun z => e2 z.2), if_neg (fun z => e2 z.2)]
        refine sd_iload_n dDR_binderOf_4 rfl rfl ?_
        refine nn_if_lt dDR_binderOf_5 44 (by decide) (by omega) ?_
        refine sd_aload_n dDR_binderOf_8 rfl rfl ?_
        refine fx_getr 1 0 (297) dDR_binderOf_9 fDR_9 rfl rfl ?_
        refine sd_iload_n dDR_binderOf_12 rfl rfl ?_
        refine fx_ialdv (v := (nI (dr.getD j 0))) (j) dDR_binderOf_13 rfl rfl (by omega) (by decide) (j1) ?_
        refine sd_bipush (v := nI 10) dDR_binderOf_14 (by decide) ?_
        refine sd_aload_n dDR_binderOf_16 rfl rfl ?_
        refine fx_getr 1 0 (297) dDR_binderOf_17 fDR_9 rfl rfl ?_
        refine sd_iload_n dDR_binderOf_20 rfl rfl ?_
        refine fx_ialdv (v := (nI (dr.getD k 0))) (k) dDR_binderOf_21 rfl rfl (by omega) (by decide) (k1) ?_
        refine nn_iadd dDR_binderOf_22 ?_
        refine nn_icmp_ne 38 dDR_binderOf_23 (by decide) (by omega) (by omega) (fun c23 => ?_) (fun c23 => ?_)
        ·
          exact absurd e1 c23
        ·
          refine sd_aload_n dDR_binderOf_26 rfl rfl ?_
          refine fx_getr 7 2 (tmo (r) + 3) dDR_binderOf_27 fDR_58 (dk_tm (by omega)) rfl ?_
          refine sd_iload_n dDR_binderOf_30 rfl rfl ?_
          refine fx_ialdv (v := (nI (tl_end (dk_l dr) j))) (j) dDR_binderOf_31 (dk_tm3 (by omega)) rfl (by omega) (by decide) (hsj) ?_
          refine sd_iload_n dDR_binderOf_32 rfl rfl ?_
          refine nn_icmp_le 38 dDR_binderOf_33 (by decide) (by omega) (by omega) (fun c33 => ?_) (fun c33 => ?_)
          ·
            refine sd_iinc (ix j) dDR_binderOf_38 rfl (ix_dec j) (by decide) ?_
            refine sd_goto 4 dDR_binderOf_41 (by decide) ?_
            refine sd_locp (al' := [(0, .ref (o + (296))), (1, .ref (o + (tmo (r)))), (2, .int (nI (k))), (3, .int (ix j))]) [1, 2, 3, 0] rfl ?_
            exact ih b v (by omega) hv'
          ·
            exact absurd c33 (by omega)
    · have hv' : v = dd_b dr k j (if 9 < dr.getD j 0 ∧ k < tl_end (dk_l dr) j then b + 1 else b) := by
        rw [hv]
        unfold dd_b
        rw [sp_b, if_neg (fun z => e1 z.1)]
      refine sd_iload_n dDR_binderOf_4 rfl rfl ?_
      refine nn_if_lt dDR_binderOf_5 44 (by decide) (by omega) ?_
      refine sd_aload_n dDR_binderOf_8 rfl rfl ?_
      refine fx_getr 1 0 (297) dDR_binderOf_9 fDR_9 rfl rfl ?_
      refine sd_iload_n dDR_binderOf_12 rfl rfl ?_
      refine fx_ialdv (v := (nI (dr.getD j 0))) (j) dDR_binderOf_13 rfl rfl (by omega) (by decide) (j1) ?_
      refine sd_bipush (v := nI 10) dDR_binderOf_14 (by decide) ?_
      refine sd_aload_n dDR_binderOf_16 rfl rfl ?_
      refine fx_getr 1 0 (297) dDR_binderOf_17 fDR_9 rfl rfl ?_
      refine sd_iload_n dDR_binderOf_20 rfl rfl ?_
      refine fx_ialdv (v := (nI (dr.getD k 0))) (k) dDR_binderOf_21 rfl rfl (by omega) (by decide) (k1) ?_
      refine nn_iadd dDR_binderOf_22 ?_
      refine nn_icmp_ne 38 dDR_binderOf_23 (by decide) (by omega) (by omega) (fun c23 => ?_) (fun c23 => ?_)
      ·
        refine sd_iinc (ix j) dDR_binderOf_38 rfl (ix_dec j) (by decide) ?_
        refine sd_goto 4 dDR_binderOf_41 (by decide) ?_
        refine sd_locp (al' := [(0, .ref (o + (296))), (1, .ref (o + (tmo (r)))), (2, .int (nI (k))), (3, .int (ix j))]) [1, 2, 3, 0] rfl ?_
        exact ih _ v (by omega) hv'
      ·
        exact absurd c23 e1
theorem c_DR_binderOf {G : sd_G} {o : Nat} {D : fx_D} {h0 : sd_H} {nx r k : Nat} {dr : List Nat} (hr : r < 73) (hD : dd_R D dr) (hk : k < dr.length) (hs : ∀ j, j < dr.length → D.1 (tmo r + 3) j = nI (tl_end (dk_l dr) j)) : sd_Ct G mDR_binderOf 0 0 0 [.ref (o + 296), .ref (o + tmo r), .int (nI k)] (fx_h G.1.2 dk_S o D h0) nx (sd_is (some (.int (dd_b dr k k 0))) (fx_h G.1.2 dk_S o D h0) nx) := by
  refine sd_Ct_of (by decide) (Nat.le_of_ble_eq_true rfl) ?_
  have l24 := hD.1
  refine sd_iload_n dDR_binderOf_0 rfl rfl ?_
  refine sd_iconst (v := nI 1) dDR_binderOf_1 (by decide) ?_
  refine sd_isub dDR_binderOf_2 ?_
  rw [show ((nI (k)) - (nI (1))) = (ix k) from (ix_sub k)]
  refine sd_istore_n dDR_binderOf_3 rfl (by decide) ?_
  refine sd_locp (al' := [(0, .ref (o + (296))), (1, .ref (o + (tmo (r)))), (2, .int (nI (k))), (3, .int (ix k))]) [1, 2, 3, 0] rfl ?_
  exact l_DR_binderOf hr hD hk hs k 0 _ (Nat.le_refl _) rfl
