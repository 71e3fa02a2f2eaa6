/-! ===== the class's Term: addLambda, deepness; Terms: keepPart, keepEquation, nameRow ===== -/
def tl_long : tl_T := List.replicate 25 (0, 4)
theorem tw_long {D : fx_D} {r n : Nat} (hn : n ≤ 24) (h : D.2.1 (tmo r) 3 = nI n) : tw (fx_uf D (tmo r) 4 (nI 1)) r tl_long := Or.inr ⟨by decide, by simp [fx_uf, upd], n, hn, by simpa [fx_uf, upd] using h⟩
theorem tw_big {D : fx_D} {r : Nat} {L : tl_T} (h : tw D r L) (hl : 24 < L.length) : D.2.1 (tmo r) 4 = nI 1 := by
  rcases h with ⟨z, -⟩ | ⟨-, h, -⟩
  · omega
  · exact h
theorem tw_row {D : fx_D} {r : Nat} {L : tl_T} (h : tw D r L) (hl : L.length ≤ 24) : tm_row D r L := by
  rcases h with ⟨-, h, -⟩ | ⟨z, -⟩
  · exact h
  · omega
theorem tl_wf_name {v t : Nat} (hv : v < 8) : tl_wf [(v, t)] := by
  have e : tl_ar v = 0 := by
    unfold tl_ar
    rw [if_neg (by omega), if_neg (by omega)]
  refine ⟨?_, ?_, by simp⟩
  · simp [tl_ok, e]
  · simp [tl_pl, e]
theorem tl_part_wf {l : tl_T} (h : tl_wf l) {i : Nat} (hi : i < l.length) : tl_wf (tl_part l i) := by
  have hc := tl_part_cp h hi
  have := tl_pl_le (l.drop i) 1
  have h24 := h.2.2
  refine ⟨hc.1, hc.2, ?_⟩
  rw [tl_part_len]
  rw [List.length_drop] at this
  omega
theorem tl_end_gt {l : tl_T} {i : Nat} (hl : l.length ≤ 24) (hi : i < l.length) : i ≤ tl_end l i := by
  unfold tl_end
  omega
theorem dTM_addLambda_0 : decode prog_8_method_7_code 0 = .ok (.aload_n 0, 1) := by decide +kernel
theorem dTM_addLambda_1 : decode prog_8_method_7_code 1 = .ok (.bipush (10), 2) := by decide +kernel
theorem dTM_addLambda_3 : decode prog_8_method_7_code 3 = .ok (.iload_n 1, 1) := by decide +kernel
theorem dTM_addLambda_4 : decode prog_8_method_7_code 4 = .ok (.invokevirtual 29, 3) := by decide +kernel
theorem dTM_addLambda_7 : decode prog_8_method_7_code 7 = .ok (.iload_n 3, 1) := by decide +kernel
theorem dTM_addLambda_8 : decode prog_8_method_7_code 8 = .ok (.istore 5, 2) := by decide +kernel
theorem dTM_addLambda_10 : decode prog_8_method_7_code 10 = .ok (.iload 5, 2) := by decide +kernel
theorem dTM_addLambda_12 : decode prog_8_method_7_code 12 = .ok (.aload_n 2, 1) := by decide +kernel
theorem dTM_addLambda_13 : decode prog_8_method_7_code 13 = .ok (.getfield 18, 3) := by decide +kernel
theorem dTM_addLambda_16 : decode prog_8_method_7_code 16 = .ok (.iload_n 3, 1) := by decide +kernel
theorem dTM_addLambda_17 : decode prog_8_method_7_code 17 = .ok (.iaload, 1) := by decide +kernel
theorem dTM_addLambda_18 : decode prog_8_method_7_code 18 = .ok (.if_icmp .ge (64), 3) := by decide +kernel
theorem dTM_addLambda_21 : decode prog_8_method_7_code 21 = .ok (.aload_n 2, 1) := by decide +kernel
theorem dTM_addLambda_22 : decode prog_8_method_7_code 22 = .ok (.getfield 9, 3) := by decide +kernel
theorem dTM_addLambda_25 : decode prog_8_method_7_code 25 = .ok (.iload 5, 2) := by decide +kernel
theorem dTM_addLambda_27 : decode prog_8_method_7_code 27 = .ok (.iaload, 1) := by decide +kernel
theorem dTM_addLambda_28 : decode prog_8_method_7_code 28 = .ok (.iload 4, 2) := by decide +kernel
theorem dTM_addLambda_30 : decode prog_8_method_7_code 30 = .ok (.if_icmp .ne (7), 3) := by decide +kernel
theorem dTM_addLambda_33 : decode prog_8_method_7_code 33 = .ok (.iconst 1, 1) := by decide +kernel
theorem dTM_addLambda_34 : decode prog_8_method_7_code 34 = .ok (.goto (4), 3) := by decide +kernel
theorem dTM_addLambda_37 : decode prog_8_method_7_code 37 = .ok (.iconst 0, 1) := by decide +kernel
theorem dTM_addLambda_38 : decode prog_8_method_7_code 38 = .ok (.istore 6, 2) := by decide +kernel
theorem dTM_addLambda_40 : decode prog_8_method_7_code 40 = .ok (.aload_n 0, 1) := by decide +kernel
theorem dTM_addLambda_41 : decode prog_8_method_7_code 41 = .ok (.iload 6, 2) := by decide +kernel
theorem dTM_addLambda_43 : decode prog_8_method_7_code 43 = .ok (.ifCond .eq (16), 3) := by decide +kernel
theorem dTM_addLambda_46 : decode prog_8_method_7_code 46 = .ok (.bipush (11), 2) := by decide +kernel
theorem dTM_addLambda_48 : decode prog_8_method_7_code 48 = .ok (.aload_n 2, 1) := by decide +kernel
theorem dTM_addLambda_49 : decode prog_8_method_7_code 49 = .ok (.iload_n 3, 1) := by decide +kernel
theorem dTM_addLambda_50 : decode prog_8_method_7_code 50 = .ok (.iload 5, 2) := by decide +kernel
theorem dTM_addLambda_52 : decode prog_8_method_7_code 52 = .ok (.invokevirtual 37, 3) := by decide +kernel
theorem dTM_addLambda_55 : decode prog_8_method_7_code 55 = .ok (.iadd, 1) := by decide +kernel
theorem dTM_addLambda_56 : decode prog_8_method_7_code 56 = .ok (.goto (10), 3) := by decide +kernel
theorem dTM_addLambda_59 : decode prog_8_method_7_code 59 = .ok (.aload_n 2, 1) := by decide +kernel
theorem dTM_addLambda_60 : decode prog_8_method_7_code 60 = .ok (.getfield 9, 3) := by decide +kernel
theorem dTM_addLambda_63 : decode prog_8_method_7_code 63 = .ok (.iload 5, 2) := by decide +kernel
theorem dTM_addLambda_65 : decode prog_8_method_7_code 65 = .ok (.iaload, 1) := by decide +kernel
theorem dTM_addLambda_66 : decode prog_8_method_7_code 66 = .ok (.aload_n 2, 1) := by decide +kernel
theorem dTM_addLambda_67 : decode prog_8_method_7_code 67 = .ok (.getfield 15, 3) := by decide +kernel
theorem dTM_addLambda_70 : decode prog_8_method_7_code 70 = .ok (.iload 5, 2) := by decide +kernel
theorem dTM_addLambda_72 : decode prog_8_method_7_code 72 = .ok (.iaload, 1) := by decide +kernel
theorem dTM_addLambda_73 : decode prog_8_method_7_code 73 = .ok (.invokevirtual 29, 3) := by decide +kernel
theorem dTM_addLambda_76 : decode prog_8_method_7_code 76 = .ok (.iinc 5 (1), 3) := by decide +kernel
theorem dTM_addLambda_79 : decode prog_8_method_7_code 79 = .ok (.goto (-69), 3) := by decide +kernel
theorem dTM_addLambda_82 : decode prog_8_method_7_code 82 = .ok (.return_, 1) := by decide +kernel
theorem l_TM_addLambda {G : sd_G} {o : Nat} {D0 : fx_D} {h0 : sd_H} {nx r q i v : Nat} {l L0 : tl_T} (hB : G.2.1 ≤ o) (hr : r < 73) (hq : q < 73) (hqr : q ≠ r) (hv : v < 8) (hl : tm_row D0 q l) (sl : tm_set D0 q l) (hi : i < l.length) : ∀ (n k : Nat) (L : tl_T) (D : fx_D), tl_end l i = k + n → i ≤ k → tw D r L → tm_f r D0 D → L0 = L ++ tl_sub (tl_pf l i v none) l k n → sd_W G mTM_addLambda 1 0 0 (fx_is G.1.2 dk_S o h0 nx none (fun D' => tw D' r L0 ∧ tm_f r D0 D')) 10 [(0, .ref (o + tmo r)), (2, .ref (o + tmo q)), (3, .int (nI i)), (4, .int (nI v)), (5, .int (nI k))] [] (fx_h G.1.2 dk_S o D h0) nx 0 0 := by
  have l24 := hl.1
  have hel := tl_end_le (l := l) (i := i) (by omega)
  intro n
  induction n with
  | zero =>
    intro k L D hk hik h hf he
    rw [tl_sub, List.append_nil] at he
    subst he
    have he1 := tm_set_f hf hqr sl i hi
    refine sd_iload dTM_addLambda_10 rfl ?_
    refine sd_aload_n dTM_addLambda_12 rfl rfl ?_
    refine fx_getr 7 2 (tmo (q) + 3) dTM_addLambda_13 fTM_18 (dk_tm (by omega)) rfl ?_
    refine sd_iload_n dTM_addLambda_16 rfl rfl ?_
    refine fx_ialdv (v := (nI (tl_end l i))) (i) dTM_addLambda_17 (dk_tm3 (by omega)) rfl (by omega) (by decide) (he1) ?_
    refine nn_icmp_ge 82 dTM_addLambda_18 (by decide) (by omega) (by omega) (fun c18 => ?_) (fun c18 => ?_)
    ·
      exact sd_vret dTM_addLambda_82 rfl (Nat.le_refl _) (Nat.le_refl _) ⟨rfl, rfl, _, rfl, h, hf⟩
    ·
      exact absurd c18 (by omega)
  | succ n ih =>
    intro k L D hk hik h hf he
    have hl' := tm_row_f hf hqr hl
    have sl' := tm_set_f hf hqr sl
    have he1 := sl' i hi
    have hx := tl_at_some (l := l) (i := k) (by omega)
    obtain ⟨q1, q2, q3, q4⟩ := hl'.2.2 k _ hx
    have hale := tl_arn_le l k (k - i) i
    have ca := c_TM_around (G := G) (o := o) (h0 := h0) (nx := nx) (f := i) (a := k) hq hl' sl' hik (by omega)
    rw [tl_sub_get hx, ← List.append_assoc] at he
    by_cases hv : (tl_at l k).1 = v
    · have ef : tl_pf l i v none k (tl_at l k) = [(11 + tl_arn l k i (k - i), (tl_at l k).2)] := by unfold tl_pf; rw [if_pos hv]
      rw [ef] at he
      refine sd_iload dTM_addLambda_10 rfl ?_
      refine sd_aload_n dTM_addLambda_12 rfl rfl ?_
      refine fx_getr 7 2 (tmo (q) + 3) dTM_addLambda_13 fTM_18 (dk_tm (by omega)) rfl ?_
      refine sd_iload_n dTM_addLambda_16 rfl rfl ?_
      refine fx_ialdv (v := (nI (tl_end l i))) (i) dTM_addLambda_17 (dk_tm3 (by omega)) rfl (by omega) (by decide) (he1) ?_
      refine nn_icmp_ge 82 dTM_addLambda_18 (by decide) (by omega) (by omega) (fun c18 => ?_) (fun c18 => ?_)
      ·
        exact absurd c18 (by omega)
      ·
        refine sd_aload_n dTM_addLambda_21 rfl rfl ?_
        refine fx_getr 7 0 (tmo (q) + 1) dTM_addLambda_22 fTM_9 (dk_tm (by omega)) rfl ?_
        refine sd_iload dTM_addLambda_25 rfl ?_
        refine fx_ialdv (v := (nI ((tl_at l k).1))) (k) dTM_addLambda_27 (dk_tm1 (by omega)) rfl (by omega) (by decide) (q1) ?_
        refine sd_iload dTM_addLambda_28 rfl ?_
        refine nn_icmp_ne 37 dTM_addLambda_30 (by decide) (by omega) (by omega) (fun c30 => ?_) (fun c30 => ?_)
        ·
          exact absurd hv c30
        ·
          refine sd_iconst (v := nI 1) dTM_addLambda_33 (by decide) ?_
          refine sd_goto 38 dTM_addLambda_34 (by decide) ?_
          refine sd_istore dTM_addLambda_38 (by decide) ?_
          refine sd_aload_n dTM_addLambda_40 rfl rfl ?_
          refine sd_iload dTM_addLambda_41 rfl ?_
          refine nn_if_eq 59 dTM_addLambda_43 (by decide) (by decide) (fun c => absurd c (by decide)) (fun _ => ?_)
          refine sd_bipush (v := nI 11) dTM_addLambda_46 (by decide) ?_
          refine sd_aload_n dTM_addLambda_48 rfl rfl ?_
          refine sd_iload_n dTM_addLambda_49 rfl rfl ?_
          refine sd_iload dTM_addLambda_50 rfl ?_
          refine fx_cV 7 sR_TM [.int (nI (i)), .int (nI (k))] [.int (nI (11)), .ref (o + (tmo (r)))] dTM_addLambda_52 kTM_37 rfl (dk_tm (by omega)) mTM_lambdasAround_v (ca) (by decide) (Nat.le_refl _) (Nat.le_refl _) (Nat.le_of_ble_eq_true rfl) rfl ?_
          refine nn_iadd dTM_addLambda_55 ?_
          refine sd_goto 66 dTM_addLambda_56 (by decide) ?_
          refine sd_aload_n dTM_addLambda_66 rfl rfl ?_
          refine fx_getr 7 1 (tmo (q) + 2) dTM_addLambda_67 fTM_15 (dk_tm (by omega)) rfl ?_
          refine sd_iload dTM_addLambda_70 rfl ?_
          refine fx_ialdv (v := (nI ((tl_at l k).2))) (k) dTM_addLambda_72 (dk_tm2 (by omega)) rfl (by omega) (by decide) (q2) ?_
          refine fx_cP 7 sR_TM [.int (nI (11 + (tl_arn l k i (k - i)))), .int (nI ((tl_at l k).2))] [] dTM_addLambda_73 kTM_29 rfl (dk_tm (by omega)) mTM_add_v (c_TM_add hB hr h (by omega) q4) (by decide) (Nat.le_refl _) (Nat.le_refl _) (Nat.le_of_ble_eq_true rfl) rfl (fun D1 h1 => ?_)
          refine nn_iinc 1 dTM_addLambda_76 rfl (by decide) ?_
          refine sd_goto 10 dTM_addLambda_79 (by decide) ?_
          refine sd_locp (al' := [(0, .ref (o + (tmo (r)))), (2, .ref (o + (tmo (q)))), (3, .int (nI (i))), (4, .int (nI (v))), (5, .int (nI (k + 1)))]) [2, 3, 4, 5, 0] rfl ?_
          exact ih (k + 1) _ D1 (by omega) (by omega) h1.1 (hf.tr h1.2) he
    · have ef : tl_pf l i v none k (tl_at l k) = [tl_at l k] := by unfold tl_pf; rw [if_neg hv]
      rw [ef] at he
      refine sd_iload dTM_addLambda_10 rfl ?_
      refine sd_aload_n dTM_addLambda_12 rfl rfl ?_
      refine fx_getr 7 2 (tmo (q) + 3) dTM_addLambda_13 fTM_18 (dk_tm (by omega)) rfl ?_
      refine sd_iload_n dTM_addLambda_16 rfl rfl ?_
      refine fx_ialdv (v := (nI (tl_end l i))) (i) dTM_addLambda_17 (dk_tm3 (by omega)) rfl (by omega) (by decide) (he1) ?_
      refine nn_icmp_ge 82 dTM_addLambda_18 (by decide) (by omega) (by omega) (fun c18 => ?_) (fun c18 => ?_)
      ·
        exact absurd c18 (by omega)
      ·
        refine sd_aload_n dTM_addLambda_21 rfl rfl ?_
        refine fx_getr 7 0 (tmo (q) + 1) dTM_addLambda_22 fTM_9 (dk_tm (by omega)) rfl ?_
        refine sd_iload dTM_addLambda_25 rfl ?_
        refine fx_ialdv (v := (nI ((tl_at l k).1))) (k) dTM_addLambda_27 (dk_tm1 (by omega)) rfl (by omega) (by decide) (q1) ?_
        refine sd_iload dTM_addLambda_28 rfl ?_
        refine nn_icmp_ne 37 dTM_addLambda_30 (by decide) (by omega) (by omega) (fun c30 => ?_) (fun c30 => ?_)
        ·
          refine sd_iconst (v := nI 0) dTM_addLambda_37 (by decide) ?_
          refine sd_istore dTM_addLambda_38 (by decide) ?_
          refine sd_aload_n dTM_addLambda_40 rfl rfl ?_
          refine sd_iload dTM_addLambda_41 rfl ?_
          refine nn_if_eq 59 dTM_addLambda_43 (by decide) (by decide) (fun _ => ?_) (fun c => absurd c (by decide))
          refine sd_aload_n dTM_addLambda_59 rfl rfl ?_
          refine fx_getr 7 0 (tmo (q) + 1) dTM_addLambda_60 fTM_9 (dk_tm (by omega)) rfl ?_
          refine sd_iload dTM_addLambda_63 rfl ?_
          refine fx_ialdv (v := (nI ((tl_at l k).1))) (k) dTM_addLambda_65 (dk_tm1 (by omega)) rfl (by omega) (by decide) (q1) ?_
          refine sd_aload_n dTM_addLambda_66 rfl rfl ?_
          refine fx_getr 7 1 (tmo (q) + 2) dTM_addLambda_67 fTM_15 (dk_tm (by omega)) rfl ?_
          refine sd_iload dTM_addLambda_70 rfl ?_
          refine fx_ialdv (v := (nI ((tl_at l k).2))) (k) dTM_addLambda_72 (dk_tm2 (by omega)) rfl (by omega) (by decide) (q2) ?_
          refine fx_cP 7 sR_TM [.int (nI ((tl_at l k).1)), .int (nI ((tl_at l k).2))] [] dTM_addLambda_73 kTM_29 rfl (dk_tm (by omega)) mTM_add_v (c_TM_add hB hr h q3 q4) (by decide) (Nat.le_refl _) (Nat.le_refl _) (Nat.le_of_ble_eq_true rfl) rfl (fun D1 h1 => ?_)
          refine nn_iinc 1 dTM_addLambda_76 rfl (by decide) ?_
          refine sd_goto 10 dTM_addLambda_79 (by decide) ?_
          refine sd_locp (al' := [(0, .ref (o + (tmo (r)))), (2, .ref (o + (tmo (q)))), (3, .int (nI (i))), (4, .int (nI (v))), (5, .int (nI (k + 1)))]) [2, 3, 4, 5, 0] rfl ?_
          exact ih (k + 1) _ D1 (by omega) (by omega) h1.1 (hf.tr h1.2) he
        ·
          exact absurd c30 hv
theorem l_TM_addLambda_in {G : sd_G} {o : Nat} {D D1 : fx_D} {h0 : sd_H} {nx r t q i v : Nat} {l L : tl_T} (hB : G.2.1 ≤ o) (hr : r < 73) (hq : q < 73) (hqr : q ≠ r) (hv : v < 8) (hl : tm_row D q l) (sl : tm_set D q l) (hi : i < l.length) (hie : i ≤ tl_end l i) (h1 : tw D1 r (L ++ [(10, t)]) ∧ tm_f r D D1) : sd_W G mTM_addLambda 1 0 0 (fx_is G.1.2 dk_S o h0 nx none (fun D' => tw D' r (L ++ ((10, t) :: tl_abs l i v)) ∧ tm_f r D D')) 10 [(0, .ref (o + tmo r)), (2, .ref (o + tmo q)), (3, .int (nI i)), (4, .int (nI v)), (5, .int (nI i))] [] (fx_h G.1.2 dk_S o D1 h0) nx 0 0 := l_TM_addLambda hB hr hq hqr hv hl sl hi (tl_end l i - i) i _ D1 (by omega) (by omega) h1.1 h1.2 (by unfold tl_abs; simp)
theorem l_TM_addLambda_in2 {G : sd_G} {o : Nat} {D : fx_D} {h0 : sd_H} {nx r q i v n : Nat} {l : tl_T} (hB : G.2.1 ≤ o) (hr : r < 73) (hq : q < 73) (hqr : q ≠ r) (hv : v < 8) (hl : tm_row D q l) (sl : tm_set D q l) (hi : i < l.length) (hie : i ≤ tl_end l i) (n1 : n ≤ 24) (n2 : D.2.1 (tmo r) 3 = nI n) : sd_W G mTM_addLambda 1 0 0 (fx_is G.1.2 dk_S o h0 nx none (fun D' => tw D' r (tl_long ++ tl_abs l i v) ∧ tm_f r D D')) 10 [(0, .ref (o + tmo r)), (2, .ref (o + tmo q)), (3, .int (nI i)), (4, .int (nI v)), (5, .int (nI i))] [] (fx_h G.1.2 dk_S o (fx_uf D (tmo r) 4 (nI 1)) h0) nx 0 0 := l_TM_addLambda hB hr hq hqr hv hl sl hi (tl_end l i - i) i _ _ (by omega) (by omega) (tw_long n1 n2) (tm_f.uf D) (by unfold tl_abs; rfl)
theorem c_TM_addLambda {G : sd_G} {o : Nat} {D : fx_D} {h0 : sd_H} {nx r t q i v : Nat} {l L : tl_T} (hB : G.2.1 ≤ o) (hr : r < 73) (hq : q < 73) (hqr : q ≠ r) (ht : t < 2 ^ 25) (hv : v < 8) (h : tw D r L) (hl : tm_row D q l) (sl : tm_set D q l) (hi : i < l.length) : sd_Ct G mTM_addLambda 1 0 0 [.ref (o + tmo r), .int (nI t), .ref (o + tmo q), .int (nI i), .int (nI v)] (fx_h G.1.2 dk_S o D h0) nx (fx_is G.1.2 dk_S o h0 nx none (fun D' => tw D' r (L ++ ((10, t) :: tl_abs l i v)) ∧ tm_f r D D')) := by
  refine sd_Ct_of (by decide) (Nat.le_of_ble_eq_true rfl) ?_
  have hie := tl_end_gt hl.1 hi
  refine sd_aload_n dTM_addLambda_0 rfl rfl ?_
  refine sd_bipush (v := nI 10) dTM_addLambda_1 (by decide) ?_
  refine sd_iload_n dTM_addLambda_3 rfl rfl ?_
  refine fx_cP 7 sR_TM [.int (nI (10)), .int (nI (t))] [] dTM_addLambda_4 kTM_29 rfl (dk_tm (by omega)) mTM_add_v (c_TM_add (s := 10) hB hr h (by omega) ht) (by decide) (Nat.le_refl _) (Nat.le_refl _) (Nat.le_of_ble_eq_true rfl) rfl (fun D1 h1 => ?_)
  refine sd_iload_n dTM_addLambda_7 rfl rfl ?_
  refine sd_istore dTM_addLambda_8 (by decide) ?_
  refine sd_locp (al' := [(0, .ref (o + (tmo (r)))), (2, .ref (o + (tmo (q)))), (3, .int (nI (i))), (4, .int (nI (v))), (5, .int (nI (i)))]) [1, 3, 4, 5, 0] rfl ?_
  exact l_TM_addLambda_in hB hr hq hqr hv hl sl hi hie h1
/-- a type that is too long makes the row too long -/
theorem c_TM_addLambdaBig {G : sd_G} {o : Nat} {D : fx_D} {h0 : sd_H} {nx r q i v : Nat} {l L : tl_T} (hB : G.2.1 ≤ o) (hr : r < 73) (hq : q < 73) (hqr : q ≠ r) (hv : v < 8) (h : tw D r L) (hl : tm_row D q l) (sl : tm_set D q l) (hi : i < l.length) : sd_Ct G mTM_addLambda 1 0 0 [.ref (o + tmo r), .int (-1), .ref (o + tmo q), .int (nI i), .int (nI v)] (fx_h G.1.2 dk_S o D h0) nx (fx_is G.1.2 dk_S o h0 nx none (fun D' => tw D' r (tl_long ++ tl_abs l i v) ∧ tm_f r D D')) := by
  refine sd_Ct_of (by decide) (Nat.le_of_ble_eq_true rfl) ?_
  have hie := tl_end_gt hl.1 hi
  obtain ⟨n, n1, n2, -⟩ := h.ln
  refine sd_aload_n dTM_addLambda_0 rfl rfl ?_
  refine sd_bipush (v := nI 10) dTM_addLambda_1 (by decide) ?_
  refine sd_iload_n dTM_addLambda_3 rfl rfl ?_
  refine fx_cV 7 sR_TM [.int (nI (10)), .int ((-1))] [] dTM_addLambda_4 kTM_29 rfl (dk_tm (by omega)) mTM_add_v (c_TM_addBig (s := 10) hB hr n1 n2) (by decide) (Nat.le_refl _) (Nat.le_refl _) (Nat.le_of_ble_eq_true rfl) rfl ?_
  refine sd_iload_n dTM_addLambda_7 rfl rfl ?_
  refine sd_istore dTM_addLambda_8 (by decide) ?_
  refine sd_locp (al' := [(0, .ref (o + (tmo (r)))), (2, .ref (o + (tmo (q)))), (3, .int (nI (i))), (4, .int (nI (v))), (5, .int (nI (i)))]) [1, 3, 4, 5, 0] rfl ?_
  exact l_TM_addLambda_in2 hB hr hq hqr hv hl sl hi hie n1 n2
theorem dTM_deepness_0 : decode prog_8_method_19_code 0 = .ok (.iconst 0, 1) := by decide +kernel
theorem dTM_deepness_1 : decode prog_8_method_19_code 1 = .ok (.istore_n 1, 1) := by decide +kernel
theorem dTM_deepness_2 : decode prog_8_method_19_code 2 = .ok (.iconst 0, 1) := by decide +kernel
theorem dTM_deepness_3 : decode prog_8_method_19_code 3 = .ok (.istore_n 2, 1) := by decide +kernel
theorem dTM_deepness_4 : decode prog_8_method_19_code 4 = .ok (.iload_n 2, 1) := by decide +kernel
theorem dTM_deepness_5 : decode prog_8_method_19_code 5 = .ok (.aload_n 0, 1) := by decide +kernel
theorem dTM_deepness_6 : decode prog_8_method_19_code 6 = .ok (.getfield 21, 3) := by decide +kernel
theorem dTM_deepness_9 : decode prog_8_method_19_code 9 = .ok (.if_icmp .ge (46), 3) := by decide +kernel
theorem dTM_deepness_12 : decode prog_8_method_19_code 12 = .ok (.iconst 1, 1) := by decide +kernel
theorem dTM_deepness_13 : decode prog_8_method_19_code 13 = .ok (.istore_n 3, 1) := by decide +kernel
theorem dTM_deepness_14 : decode prog_8_method_19_code 14 = .ok (.iconst 0, 1) := by decide +kernel
theorem dTM_deepness_15 : decode prog_8_method_19_code 15 = .ok (.istore 4, 2) := by decide +kernel
theorem dTM_deepness_17 : decode prog_8_method_19_code 17 = .ok (.iload 4, 2) := by decide +kernel
theorem dTM_deepness_19 : decode prog_8_method_19_code 19 = .ok (.iload_n 2, 1) := by decide +kernel
theorem dTM_deepness_20 : decode prog_8_method_19_code 20 = .ok (.if_icmp .ge (23), 3) := by decide +kernel
theorem dTM_deepness_23 : decode prog_8_method_19_code 23 = .ok (.aload_n 0, 1) := by decide +kernel
theorem dTM_deepness_24 : decode prog_8_method_19_code 24 = .ok (.getfield 18, 3) := by decide +kernel
theorem dTM_deepness_27 : decode prog_8_method_19_code 27 = .ok (.iload 4, 2) := by decide +kernel
theorem dTM_deepness_29 : decode prog_8_method_19_code 29 = .ok (.iaload, 1) := by decide +kernel
theorem dTM_deepness_30 : decode prog_8_method_19_code 30 = .ok (.iload_n 2, 1) := by decide +kernel
theorem dTM_deepness_31 : decode prog_8_method_19_code 31 = .ok (.if_icmp .le (6), 3) := by decide +kernel
theorem dTM_deepness_34 : decode prog_8_method_19_code 34 = .ok (.iinc 3 (1), 3) := by decide +kernel
theorem dTM_deepness_37 : decode prog_8_method_19_code 37 = .ok (.iinc 4 (1), 3) := by decide +kernel
theorem dTM_deepness_40 : decode prog_8_method_19_code 40 = .ok (.goto (-23), 3) := by decide +kernel
theorem dTM_deepness_43 : decode prog_8_method_19_code 43 = .ok (.iload_n 1, 1) := by decide +kernel
theorem dTM_deepness_44 : decode prog_8_method_19_code 44 = .ok (.iload_n 3, 1) := by decide +kernel
theorem dTM_deepness_45 : decode prog_8_method_19_code 45 = .ok (.invokestatic 49, 3) := by decide +kernel
theorem dTM_deepness_48 : decode prog_8_method_19_code 48 = .ok (.istore_n 1, 1) := by decide +kernel
theorem dTM_deepness_49 : decode prog_8_method_19_code 49 = .ok (.iinc 2 (1), 3) := by decide +kernel
theorem dTM_deepness_52 : decode prog_8_method_19_code 52 = .ok (.goto (-48), 3) := by decide +kernel
theorem dTM_deepness_55 : decode prog_8_method_19_code 55 = .ok (.iload_n 1, 1) := by decide +kernel
theorem dTM_deepness_56 : decode prog_8_method_19_code 56 = .ok (.ireturn, 1) := by decide +kernel
theorem i_TM_deepness {G : sd_G} {o : Nat} {D : fx_D} {h0 : sd_H} {nx r i m : Nat} {l : tl_T} {Q : sd_Q} (hr : r < 73) (hl : tm_row D r l) (hs : tm_set D r l) (hi : i < l.length) (hm : m ≤ 24) (kk : sd_W G mTM_deepness 1 0 0 Q 43 [(0, .ref (o + tmo r)), (1, .int (nI m)), (2, .int (nI i)), (3, .int (nI (1 + tl_dp l i 0 i)))] [] (fx_h G.1.2 dk_S o D h0) nx 0 0) : ∀ (n k d : Nat), i = k + n → d ≤ k + 1 → d + tl_dp l i k n = 1 + tl_dp l i 0 i → sd_W G mTM_deepness 1 0 0 Q 17 [(0, .ref (o + tmo r)), (1, .int (nI m)), (2, .int (nI i)), (3, .int (nI d)), (4, .int (nI k))] [] (fx_h G.1.2 dk_S o D h0) nx 0 0 := by
  have l24 := hl.1
  intro n
  induction n with
  | zero =>
    intro k d hk hd he
    have he' : d = 1 + tl_dp l i 0 i := he
    refine sd_iload dTM_deepness_17 rfl ?_
    refine sd_iload_n dTM_deepness_19 rfl rfl ?_
    refine nn_icmp_ge 43 dTM_deepness_20 (by decide) (by omega) (by omega) (fun c20 => ?_) (fun c20 => ?_)
    ·
      refine sd_locp (al' := [(0, .ref (o + (tmo (r)))), (1, .int (nI (m))), (2, .int (nI (i))), (3, .int (nI (d)))]) [0, 1, 2, 3] rfl ?_
      rw [he']; exact kk
    ·
      exact absurd c20 (by omega)
  | succ n ih =>
    intro k d hk hd he
    rw [tl_dp_succ] at he
    have hel := tl_end_le (l := l) (i := k) (by omega)
    have hs1 := hs k (by omega)
    by_cases h : i < tl_end l k
    · rw [if_pos h] at he
      refine sd_iload dTM_deepness_17 rfl ?_
      refine sd_iload_n dTM_deepness_19 rfl rfl ?_
      refine nn_icmp_ge 43 dTM_deepness_20 (by decide) (by omega) (by omega) (fun c20 => ?_) (fun c20 => ?_)
      ·
        exact absurd c20 (by omega)
      ·
        refine sd_aload_n dTM_deepness_23 rfl rfl ?_
        refine fx_getr 7 2 (tmo (r) + 3) dTM_deepness_24 fTM_18 (dk_tm (by omega)) rfl ?_
        refine sd_iload dTM_deepness_27 rfl ?_
        refine fx_ialdv (v := (nI (tl_end l k))) (k) dTM_deepness_29 (dk_tm3 (by omega)) rfl (by omega) (by decide) (hs1) ?_
        refine sd_iload_n dTM_deepness_30 rfl rfl ?_
        refine nn_icmp_le 37 dTM_deepness_31 (by decide) (by omega) (by omega) (fun c31 => ?_) (fun c31 => ?_)
        ·
          exact absurd c31 (by omega)
        ·
          refine nn_iinc 1 dTM_deepness_34 rfl (by decide) ?_
          refine nn_iinc 1 dTM_deepness_37 rfl (by decide) ?_
          refine sd_goto 17 dTM_deepness_40 (by decide) ?_
          refine sd_locp (al' := [(0, .ref (o + (tmo (r)))), (1, .int (nI (m))), (2, .int (nI (i))), (3, .int (nI (d + 1))), (4, .int (nI (k + 1)))]) [2, 3, 4, 1, 0] rfl ?_
          exact ih (k + 1) (d + 1) (by omega) (by omega) (by omega)
    · rw [if_neg h] at he
      refine sd_iload dTM_deepness_17 rfl ?_
      refine sd_iload_n dTM_deepness_19 rfl rfl ?_
      refine nn_icmp_ge 43 dTM_deepness_20 (by decide) (by omega) (by omega) (fun c20 => ?_) (fun c20 => ?_)
      ·
        exact absurd c20 (by omega)
      ·
        refine sd_aload_n dTM_deepness_23 rfl rfl ?_
        refine fx_getr 7 2 (tmo (r) + 3) dTM_deepness_24 fTM_18 (dk_tm (by omega)) rfl ?_
        refine sd_iload dTM_deepness_27 rfl ?_
        refine fx_ialdv (v := (nI (tl_end l k))) (k) dTM_deepness_29 (dk_tm3 (by omega)) rfl (by omega) (by decide) (hs1) ?_
        refine sd_iload_n dTM_deepness_30 rfl rfl ?_
        refine nn_icmp_le 37 dTM_deepness_31 (by decide) (by omega) (by omega) (fun c31 => ?_) (fun c31 => ?_)
        ·
          refine nn_iinc 1 dTM_deepness_37 rfl (by decide) ?_
          refine sd_goto 17 dTM_deepness_40 (by decide) ?_
          refine sd_locp (al' := [(0, .ref (o + (tmo (r)))), (1, .int (nI (m))), (2, .int (nI (i))), (3, .int (nI (d))), (4, .int (nI (k + 1)))]) [1, 2, 3, 4, 0] rfl ?_
          exact ih (k + 1) d (by omega) (by omega) (by omega)
        ·
          exact absurd c31 (by omega)
theorem l_TM_deepness {G : sd_G} {o : Nat} {D : fx_D} {h0 : sd_H} {nx r : Nat} {l : tl_T} (hr : r < 73) (hl : tm_row D r l) (hs : tm_set D r l) : ∀ (n i : Nat), l.length = i + n → sd_W G mTM_deepness 1 0 0 (sd_is (some (.int (nI (tl_deep l l.length)))) (fx_h G.1.2 dk_S o D h0) nx) 4 [(0, .ref (o + tmo r)), (1, .int (nI (tl_deep l i))), (2, .int (nI i))] [] (fx_h G.1.2 dk_S o D h0) nx 0 0 := by
  have l24 := hl.1
  intro n
  induction n with
  | zero =>
    intro i hk
    obtain rfl : i = l.length := by omega
    have hd := tl_deep_le l l.length
    refine sd_iload_n dTM_deepness_4 rfl rfl ?_
    refine sd_aload_n dTM_deepness_5 rfl rfl ?_
    refine fx_getiv (v := (nI (l.length))) 7 3 dTM_deepness_6 fTM_21 (dk_tm (by omega)) rfl (hl.2.1) ?_
    refine nn_icmp_ge 55 dTM_deepness_9 (by decide) (by omega) (by omega) (fun c9 => ?_) (fun c9 => ?_)
    ·
      refine sd_iload_n dTM_deepness_55 rfl rfl ?_
      exact sd_iret dTM_deepness_56 rfl (Nat.le_refl _) (Nat.le_refl _) ⟨rfl, rfl, rfl⟩
    ·
      exact absurd c9 (by omega)
  | succ n ih =>
    intro i hk
    have hd := tl_deep_le l i
    have hp := tl_dp_le l i i 0
    have kk : sd_W G mTM_deepness 1 0 0 (sd_is (some (.int (nI (tl_deep l l.length)))) (fx_h G.1.2 dk_S o D h0) nx) 43 [(0, .ref (o + tmo r)), (1, .int (nI (tl_deep l i))), (2, .int (nI i)), (3, .int (nI (1 + tl_dp l i 0 i)))] [] (fx_h G.1.2 dk_S o D h0) nx 0 0 := by
      refine sd_iload_n dTM_deepness_43 rfl rfl ?_
      refine sd_iload_n dTM_deepness_44 rfl rfl ?_
      refine sd_cS [.int (nI (tl_deep l i)), .int (nI (1 + tl_dp l i 0 i))] [] dTM_deepness_45 kTM_49 mMA_max_s (c_MA_mx (c := tl_deep l (i + 1)) (by omega) (by omega) (tl_deep_succ l i)) (by decide) (Nat.le_refl _) (Nat.le_refl _) (Nat.le_of_ble_eq_true rfl) rfl ?_
      refine sd_istore_n dTM_deepness_48 rfl (by decide) ?_
      refine nn_iinc 1 dTM_deepness_49 rfl (by decide) ?_
      refine sd_goto 4 dTM_deepness_52 (by decide) ?_
      refine sd_locp (al' := [(0, .ref (o + (tmo (r)))), (1, .int (nI (tl_deep l (i + 1)))), (2, .int (nI (i + 1)))]) [2, 1, 0] rfl ?_
      exact ih (i + 1) (by omega)
    refine sd_iload_n dTM_deepness_4 rfl rfl ?_
    refine sd_aload_n dTM_deepness_5 rfl rfl ?_
    refine fx_getiv (v := (nI (l.length))) 7 3 dTM_deepness_6 fTM_21 (dk_tm (by omega)) rfl (hl.2.1) ?_
    refine nn_icmp_ge 55 dTM_deepness_9 (by decide) (by omega) (by omega) (fun c9 => ?_) (fun c9 => ?_)
    ·
      exact absurd c9 (by omega)
    ·
      refine sd_iconst (v := nI 1) dTM_deepness_12 (by decide) ?_
      refine sd_istore_n dTM_deepness_13 rfl (by decide) ?_
      refine sd_iconst (v := nI 0) dTM_deepness_14 (by decide) ?_
      refine sd_istore dTM_deepness_15 (by decide) ?_
      refine sd_locp (al' := [(0, .ref (o + (tmo (r)))), (1, .int (nI (tl_deep l i))), (2, .int (nI (i))), (3, .int (nI (1))), (4, .int (nI (0)))]) [2, 3, 4, 1, 0] rfl ?_
      exact i_TM_deepness hr hl hs (by omega) (by omega) kk i 0 1 (by omega) (by omega) rfl
theorem c_TM_deepness {G : sd_G} {o : Nat} {D : fx_D} {h0 : sd_H} {nx r : Nat} {l : tl_T} (hr : r < 73) (hl : tm_row D r l) (hs : tm_set D r l) : sd_Ct G mTM_deepness 1 0 0 [.ref (o + tmo r)] (fx_h G.1.2 dk_S o D h0) nx (sd_is (some (.int (nI (tl_deep l l.length)))) (fx_h G.1.2 dk_S o D h0) nx) := by
  refine sd_Ct_of (by decide) (Nat.le_of_ble_eq_true rfl) ?_
  refine sd_iconst (v := nI 0) dTM_deepness_0 (by decide) ?_
  refine sd_istore_n dTM_deepness_1 rfl (by decide) ?_
  refine sd_iconst (v := nI 0) dTM_deepness_2 (by decide) ?_
  refine sd_istore_n dTM_deepness_3 rfl (by decide) ?_
  refine sd_locp (al' := [(0, .ref (o + (tmo (r)))), (1, .int (nI (0))), (2, .int (nI (0)))]) [2, 1, 0] rfl ?_
  exact l_TM_deepness hr hl hs l.length 0 (by omega)
theorem dTS_keepPart_0 : decode prog_9_method_6_code 0 = .ok (.aload_n 0, 1) := by decide +kernel
theorem dTS_keepPart_1 : decode prog_9_method_6_code 1 = .ok (.invokevirtual 50, 3) := by decide +kernel
theorem dTS_keepPart_4 : decode prog_9_method_6_code 4 = .ok (.aload_n 1, 1) := by decide +kernel
theorem dTS_keepPart_5 : decode prog_9_method_6_code 5 = .ok (.iload_n 2, 1) := by decide +kernel
theorem dTS_keepPart_6 : decode prog_9_method_6_code 6 = .ok (.invokevirtual 54, 3) := by decide +kernel
theorem dTS_keepPart_9 : decode prog_9_method_6_code 9 = .ok (.aload_n 0, 1) := by decide +kernel
theorem dTS_keepPart_10 : decode prog_9_method_6_code 10 = .ok (.invokevirtual 58, 3) := by decide +kernel
theorem dTS_keepPart_13 : decode prog_9_method_6_code 13 = .ok (.ireturn, 1) := by decide +kernel
theorem c_TS_keepPart {G : sd_G} {o : Nat} {D : fx_D} {h0 : sd_H} {nx q i : Nat} {T : List tl_T} {l : tl_T} (hB : G.2.1 ≤ o) (hT : ts_T D T) (hN : T.length ≤ 70) (hq : q < 73) (hqT : q ≠ T.length + 1) (hl : tm_row D q l) (hs : tm_set D q l) (hw : tl_wf l) (hi : i < l.length) : sd_Ct G mTS_keepPart 3 0 0 [.ref (o + 1), .ref (o + tmo q), .int (nI i)] (fx_h G.1.2 dk_S o D h0) nx (fx_is G.1.2 dk_S o h0 nx (some (.int (nI (tl_kp T (tl_part l i))))) (fun D' => ts_T D' (tl_ku T (tl_part l i)) ∧ ts_f D D')) := by
  refine sd_Ct_of (by decide) (Nat.le_of_ble_eq_true rfl) ?_
  have hwp := tl_part_wf hw hi
  refine sd_aload_n dTS_keepPart_0 rfl rfl ?_
  refine fx_cP 8 sR_TS [] [] dTS_keepPart_1 kTS_50 rfl rfl mTS_fresh_v (c_TS_fresh hB (by omega) hT.2.1) (by decide) (Nat.le_refl _) (Nat.le_refl _) (Nat.le_of_ble_eq_true rfl) rfl (fun D1 h1 => ?_)
  refine sd_aload_n dTS_keepPart_4 rfl rfl ?_
  refine sd_iload_n dTS_keepPart_5 rfl rfl ?_
  refine fx_cP 7 sR_TM [.ref (o + (tmo (q))), .int (nI (i))] [] dTS_keepPart_6 kTS_54 rfl (dk_tm (by omega)) mTM_addPart_v (c_TM_addPart (L := []) hB (by omega) hq hqT h1.1 (tm_row_f h1.2 hqT hl) (tm_set_f h1.2 hqT hs) hi) (by decide) (Nat.le_refl _) (Nat.le_refl _) (Nat.le_of_ble_eq_true rfl) rfl (fun D2 h2 => ?_)
  refine sd_aload_n dTS_keepPart_9 rfl rfl ?_
  refine fx_cP 8 sR_TS [] [] dTS_keepPart_10 kTS_58 rfl rfl mTS_keep_v (c_TS_keep (L := tl_part l i) hB (ts_T_f (Or.inl (by omega)) (h1.2.tr h2.2) hT) hN h2.1 hwp) (by decide) (Nat.le_refl _) (Nat.le_refl _) (Nat.le_of_ble_eq_true rfl) rfl (fun D3 h3 => ?_)
  exact sd_iret dTS_keepPart_13 rfl (Nat.le_refl _) (Nat.le_refl _) ⟨rfl, rfl, _, rfl, h3.1, (ts_f.row (by omega) (by omega) (h1.2.tr h2.2)).tr h3.2⟩
theorem dTS_keepEquation_0 : decode prog_9_method_7_code 0 = .ok (.aload_n 0, 1) := by decide +kernel
theorem dTS_keepEquation_1 : decode prog_9_method_7_code 1 = .ok (.invokevirtual 50, 3) := by decide +kernel
theorem dTS_keepEquation_4 : decode prog_9_method_7_code 4 = .ok (.aload_n 1, 1) := by decide +kernel
theorem dTS_keepEquation_5 : decode prog_9_method_7_code 5 = .ok (.iload_n 2, 1) := by decide +kernel
theorem dTS_keepEquation_6 : decode prog_9_method_7_code 6 = .ok (.aload_n 3, 1) := by decide +kernel
theorem dTS_keepEquation_7 : decode prog_9_method_7_code 7 = .ok (.iload 4, 2) := by decide +kernel
theorem dTS_keepEquation_9 : decode prog_9_method_7_code 9 = .ok (.invokevirtual 62, 3) := by decide +kernel
theorem dTS_keepEquation_12 : decode prog_9_method_7_code 12 = .ok (.aload_n 0, 1) := by decide +kernel
theorem dTS_keepEquation_13 : decode prog_9_method_7_code 13 = .ok (.invokevirtual 58, 3) := by decide +kernel
theorem dTS_keepEquation_16 : decode prog_9_method_7_code 16 = .ok (.ireturn, 1) := by decide +kernel
theorem c_TS_keepEquation {G : sd_G} {o : Nat} {D : fx_D} {h0 : sd_H} {nx q i p j : Nat} {T : List tl_T} {l m : tl_T} (hB : G.2.1 ≤ o) (hT : ts_T D T) (hN : T.length ≤ 70) (hq : q < 73) (hqT : q ≠ T.length + 1) (hl : tm_row D q l) (hs : tm_set D q l) (hi : i < l.length) (hp : p < 73) (hpT : p ≠ T.length + 1) (hm : tm_row D p m) (sm : tm_set D p m) (hj : j < m.length) (hw : tl_wf ((9, 4) :: (tl_part l i ++ tl_part m j))) : sd_Ct G mTS_keepEquation 3 0 0 [.ref (o + 1), .ref (o + tmo q), .int (nI i), .ref (o + tmo p), .int (nI j)] (fx_h G.1.2 dk_S o D h0) nx (fx_is G.1.2 dk_S o h0 nx (some (.int (nI (tl_kp T ((9, 4) :: (tl_part l i ++ tl_part m j)))))) (fun D' => ts_T D' (tl_ku T ((9, 4) :: (tl_part l i ++ tl_part m j))) ∧ ts_f D D')) := by
  refine sd_Ct_of (by decide) (Nat.le_of_ble_eq_true rfl) ?_
  refine sd_aload_n dTS_keepEquation_0 rfl rfl ?_
  refine fx_cP 8 sR_TS [] [] dTS_keepEquation_1 kTS_50 rfl rfl mTS_fresh_v (c_TS_fresh hB (by omega) hT.2.1) (by decide) (Nat.le_refl _) (Nat.le_refl _) (Nat.le_of_ble_eq_true rfl) rfl (fun D1 h1 => ?_)
  refine sd_aload_n dTS_keepEquation_4 rfl rfl ?_
  refine sd_iload_n dTS_keepEquation_5 rfl rfl ?_
  refine sd_aload_n dTS_keepEquation_6 rfl rfl ?_
  refine sd_iload dTS_keepEquation_7 rfl ?_
  refine fx_cP 7 sR_TM [.ref (o + (tmo (q))), .int (nI (i)), .ref (o + (tmo (p))), .int (nI (j))] [] dTS_keepEquation_9 kTS_62 rfl (dk_tm (by omega)) mTM_addEquation_v (c_TM_addEquation (L := []) hB (by omega) hq hp hqT hpT h1.1 (tm_row_f h1.2 hqT hl) (tm_set_f h1.2 hqT hs) hi (tm_row_f h1.2 hpT hm) (tm_set_f h1.2 hpT sm) hj) (by decide) (Nat.le_refl _) (Nat.le_refl _) (Nat.le_of_ble_eq_true rfl) rfl (fun D2 h2 => ?_)
  refine sd_aload_n dTS_keepEquation_12 rfl rfl ?_
  refine fx_cP 8 sR_TS [] [] dTS_keepEquation_13 kTS_58 rfl rfl mTS_keep_v (c_TS_keep (L := (9, 4) :: (tl_part l i ++ tl_part m j)) hB (ts_T_f (Or.inl (by omega)) (h1.2.tr h2.2) hT) hN h2.1 hw) (by decide) (Nat.le_refl _) (Nat.le_refl _) (Nat.le_of_ble_eq_true rfl) rfl (fun D3 h3 => ?_)
  exact sd_iret dTS_keepEquation_16 rfl (Nat.le_refl _) (Nat.le_refl _) ⟨rfl, rfl, _, rfl, h3.1, (ts_f.row (by omega) (by omega) (h1.2.tr h2.2)).tr h3.2⟩
/-- an equation that is too long -/
theorem c_TS_keepEquationBig {G : sd_G} {o : Nat} {D : fx_D} {h0 : sd_H} {nx q i p j : Nat} {T : List tl_T} {l m : tl_T} (hB : G.2.1 ≤ o) (hT : ts_T D T) (hN : T.length ≤ 70) (hq : q < 73) (hqT : q ≠ T.length + 1) (hl : tm_row D q l) (hs : tm_set D q l) (hi : i < l.length) (hp : p < 73) (hpT : p ≠ T.length + 1) (hm : tm_row D p m) (sm : tm_set D p m) (hj : j < m.length) (hw : 24 < ((9, 4) :: (tl_part l i ++ tl_part m j)).length) : sd_Ct G mTS_keepEquation 3 0 0 [.ref (o + 1), .ref (o + tmo q), .int (nI i), .ref (o + tmo p), .int (nI j)] (fx_h G.1.2 dk_S o D h0) nx (fx_is G.1.2 dk_S o h0 nx (some (.int (-5))) (fun D' => ts_T D' T ∧ ts_f D D')) := by
  refine sd_Ct_of (by decide) (Nat.le_of_ble_eq_true rfl) ?_
  refine sd_aload_n dTS_keepEquation_0 rfl rfl ?_
  refine fx_cP 8 sR_TS [] [] dTS_keepEquation_1 kTS_50 rfl rfl mTS_fresh_v (c_TS_fresh hB (by omega) hT.2.1) (by decide) (Nat.le_refl _) (Nat.le_refl _) (Nat.le_of_ble_eq_true rfl) rfl (fun D1 h1 => ?_)
  refine sd_aload_n dTS_keepEquation_4 rfl rfl ?_
  refine sd_iload_n dTS_keepEquation_5 rfl rfl ?_
  refine sd_aload_n dTS_keepEquation_6 rfl rfl ?_
  refine sd_iload dTS_keepEquation_7 rfl ?_
  refine fx_cP 7 sR_TM [.ref (o + (tmo (q))), .int (nI (i)), .ref (o + (tmo (p))), .int (nI (j))] [] dTS_keepEquation_9 kTS_62 rfl (dk_tm (by omega)) mTM_addEquation_v (c_TM_addEquation (L := []) hB (by omega) hq hp hqT hpT h1.1 (tm_row_f h1.2 hqT hl) (tm_set_f h1.2 hqT hs) hi (tm_row_f h1.2 hpT hm) (tm_set_f h1.2 hpT sm) hj) (by decide) (Nat.le_refl _) (Nat.le_refl _) (Nat.le_of_ble_eq_true rfl) rfl (fun D2 h2 => ?_)
  refine sd_aload_n dTS_keepEquation_12 rfl rfl ?_
  refine fx_cV 8 sR_TS [] [] dTS_keepEquation_13 kTS_58 rfl rfl mTS_keep_v (c_TS_keepBig (n := T.length) (L := []) (by omega) (ts_T_f (Or.inl (by omega)) (h1.2.tr h2.2) hT).2.1 (tw_big h2.1 hw)) (by decide) (Nat.le_refl _) (Nat.le_refl _) (Nat.le_of_ble_eq_true rfl) rfl ?_
  exact sd_iret dTS_keepEquation_16 rfl (Nat.le_refl _) (Nat.le_refl _) ⟨rfl, rfl, _, rfl, ts_T_f (Or.inl (by omega)) (h1.2.tr h2.2) hT, ts_f.row (by omega) (by omega) (h1.2.tr h2.2)⟩
theorem dTS_nameRow_0 : decode prog_9_method_8_code 0 = .ok (.aload_n 0, 1) := by decide +kernel
theorem dTS_nameRow_1 : decode prog_9_method_8_code 1 = .ok (.getfield 22, 3) := by decide +kernel
theorem dTS_nameRow_4 : decode prog_9_method_8_code 4 = .ok (.invokevirtual 36, 3) := by decide +kernel
theorem dTS_nameRow_7 : decode prog_9_method_8_code 7 = .ok (.aload_n 0, 1) := by decide +kernel
theorem dTS_nameRow_8 : decode prog_9_method_8_code 8 = .ok (.getfield 22, 3) := by decide +kernel
theorem dTS_nameRow_11 : decode prog_9_method_8_code 11 = .ok (.iload_n 1, 1) := by decide +kernel
theorem dTS_nameRow_12 : decode prog_9_method_8_code 12 = .ok (.aload_n 0, 1) := by decide +kernel
theorem dTS_nameRow_13 : decode prog_9_method_8_code 13 = .ok (.getfield 9, 3) := by decide +kernel
theorem dTS_nameRow_16 : decode prog_9_method_8_code 16 = .ok (.iload_n 1, 1) := by decide +kernel
theorem dTS_nameRow_17 : decode prog_9_method_8_code 17 = .ok (.iaload, 1) := by decide +kernel
theorem dTS_nameRow_18 : decode prog_9_method_8_code 18 = .ok (.invokevirtual 66, 3) := by decide +kernel
theorem dTS_nameRow_21 : decode prog_9_method_8_code 21 = .ok (.aload_n 0, 1) := by decide +kernel
theorem dTS_nameRow_22 : decode prog_9_method_8_code 22 = .ok (.getfield 22, 3) := by decide +kernel
theorem dTS_nameRow_25 : decode prog_9_method_8_code 25 = .ok (.invokevirtual 43, 3) := by decide +kernel
theorem dTS_nameRow_28 : decode prog_9_method_8_code 28 = .ok (.aload_n 0, 1) := by decide +kernel
theorem dTS_nameRow_29 : decode prog_9_method_8_code 29 = .ok (.getfield 22, 3) := by decide +kernel
theorem dTS_nameRow_32 : decode prog_9_method_8_code 32 = .ok (.areturn, 1) := by decide +kernel
theorem c_TS_nameRow {G : sd_G} {o : Nat} {D : fx_D} {h0 : sd_H} {nx v t : Nat} (hB : G.2.1 ≤ o) (hv : v < 8) (ht : t < 2 ^ 25) (hn : D.1 2 v = nI t) : sd_Ct G mTS_nameRow 2 0 0 [.ref (o + 1), .int (nI v)] (fx_h G.1.2 dk_S o D h0) nx (fx_is G.1.2 dk_S o h0 nx (some (.ref (o + tmo 0))) (fun D' => tm_row D' 0 [(v, t)] ∧ tm_set D' 0 [(v, t)] ∧ tm_f 0 D D')) := by
  refine sd_Ct_of (by decide) (Nat.le_of_ble_eq_true rfl) ?_
  have hw := tl_wf_name (t := t) hv
  refine sd_aload_n dTS_nameRow_0 rfl rfl ?_
  refine fx_getr 8 3 (tmo 0) dTS_nameRow_1 fTS_22 rfl rfl ?_
  refine fx_cV 7 sR_TM [] [] dTS_nameRow_4 kTS_36 rfl (dk_tm (by omega)) mTM_begin_v (c_TM_begin (r := 0) hB (by omega)) (by decide) (Nat.le_refl _) (Nat.le_refl _) (Nat.le_of_ble_eq_true rfl) rfl ?_
  refine sd_aload_n dTS_nameRow_7 rfl rfl ?_
  refine fx_getr 8 3 (tmo 0) dTS_nameRow_8 fTS_22 rfl rfl ?_
  refine sd_iload_n dTS_nameRow_11 rfl rfl ?_
  refine sd_aload_n dTS_nameRow_12 rfl rfl ?_
  refine fx_getr 8 0 (2) dTS_nameRow_13 fTS_9 rfl rfl ?_
  refine sd_iload_n dTS_nameRow_16 rfl rfl ?_
  refine fx_ialdv (v := (nI (t))) (v) dTS_nameRow_17 rfl rfl (by omega) (by decide) (hn) ?_
  refine fx_cP 7 sR_TM [.int (nI (v)), .int (nI (t))] [] dTS_nameRow_18 kTS_66 rfl (dk_tm (by omega)) mTM_add_v (c_TM_add (r := 0) (L := []) hB (by omega) tw_begin.1 (by omega) ht) (by decide) (Nat.le_refl _) (Nat.le_refl _) (Nat.le_of_ble_eq_true rfl) rfl (fun D1 h1 => ?_)
  refine sd_aload_n dTS_nameRow_21 rfl rfl ?_
  refine fx_getr 8 3 (tmo 0) dTS_nameRow_22 fTS_22 rfl rfl ?_
  refine fx_cP 7 sR_TM [] [] dTS_nameRow_25 kTS_43 rfl (dk_tm (by omega)) mTM_settle_v (c_TM_settle (r := 0) (l := [(v, t)]) hB (by omega) (tw_row h1.1 (by simp)) (fun j hj => tl_ok_drop _ _ _ hw.1 hw.2.1 hj)) (by decide) (Nat.le_refl _) (Nat.le_refl _) (Nat.le_of_ble_eq_true rfl) rfl (fun D2 h2 => ?_)
  refine sd_aload_n dTS_nameRow_28 rfl rfl ?_
  refine fx_getr 8 3 (tmo 0) dTS_nameRow_29 fTS_22 rfl rfl ?_
  exact sd_aret dTS_nameRow_32 rfl (Nat.le_refl _) (Nat.le_refl _) ⟨rfl, rfl, _, rfl, tm_row_s h2.2.1 h2.2.2 (tw_row h1.1 (by simp)), h2.1, (tw_begin.2.tr h1.2).tr (tm_f_s h2.2.1 h2.2.2)⟩
