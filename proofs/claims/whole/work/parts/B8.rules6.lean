/-! ===== the class's Rules: replaceHypotheses, writeConclusion ===== -/
theorem tl_kp_lle (T : List tl_T) (l : tl_T) : tl_kp T l ≤ T.length := by
  unfold tl_kp
  cases e : T.idxOf? l with
  | none => exact Nat.le_refl _
  | some k =>
    obtain ⟨q, -⟩ := List.idxOf?_eq_some_iff.mp e
    exact Nat.le_of_lt q
theorem dRU_replaceHypotheses_0 : decode prog_6_method_12_code 0 = .ok (.iconst 0, 1) := by decide +kernel
theorem dRU_replaceHypotheses_1 : decode prog_6_method_12_code 1 = .ok (.istore 5, 2) := by decide +kernel
theorem dRU_replaceHypotheses_3 : decode prog_6_method_12_code 3 = .ok (.iload 5, 2) := by decide +kernel
theorem dRU_replaceHypotheses_5 : decode prog_6_method_12_code 5 = .ok (.aload_n 2, 1) := by decide +kernel
theorem dRU_replaceHypotheses_6 : decode prog_6_method_12_code 6 = .ok (.getfield 162, 3) := by decide +kernel
theorem dRU_replaceHypotheses_9 : decode prog_6_method_12_code 9 = .ok (.if_icmp .ge (56), 3) := by decide +kernel
theorem dRU_replaceHypotheses_12 : decode prog_6_method_12_code 12 = .ok (.aload_n 0, 1) := by decide +kernel
theorem dRU_replaceHypotheses_13 : decode prog_6_method_12_code 13 = .ok (.getfield 17, 3) := by decide +kernel
theorem dRU_replaceHypotheses_16 : decode prog_6_method_12_code 16 = .ok (.invokevirtual 129, 3) := by decide +kernel
theorem dRU_replaceHypotheses_19 : decode prog_6_method_12_code 19 = .ok (.aload_n 0, 1) := by decide +kernel
theorem dRU_replaceHypotheses_20 : decode prog_6_method_12_code 20 = .ok (.getfield 17, 3) := by decide +kernel
theorem dRU_replaceHypotheses_23 : decode prog_6_method_12_code 23 = .ok (.getfield 62, 3) := by decide +kernel
theorem dRU_replaceHypotheses_26 : decode prog_6_method_12_code 26 = .ok (.aload_n 2, 1) := by decide +kernel
theorem dRU_replaceHypotheses_27 : decode prog_6_method_12_code 27 = .ok (.getfield 165, 3) := by decide +kernel
theorem dRU_replaceHypotheses_30 : decode prog_6_method_12_code 30 = .ok (.iload 5, 2) := by decide +kernel
theorem dRU_replaceHypotheses_32 : decode prog_6_method_12_code 32 = .ok (.iaload, 1) := by decide +kernel
theorem dRU_replaceHypotheses_33 : decode prog_6_method_12_code 33 = .ok (.aaload, 1) := by decide +kernel
theorem dRU_replaceHypotheses_34 : decode prog_6_method_12_code 34 = .ok (.iload_n 3, 1) := by decide +kernel
theorem dRU_replaceHypotheses_35 : decode prog_6_method_12_code 35 = .ok (.aload_n 0, 1) := by decide +kernel
theorem dRU_replaceHypotheses_36 : decode prog_6_method_12_code 36 = .ok (.getfield 17, 3) := by decide +kernel
theorem dRU_replaceHypotheses_39 : decode prog_6_method_12_code 39 = .ok (.getfield 62, 3) := by decide +kernel
theorem dRU_replaceHypotheses_42 : decode prog_6_method_12_code 42 = .ok (.iload 4, 2) := by decide +kernel
theorem dRU_replaceHypotheses_44 : decode prog_6_method_12_code 44 = .ok (.aaload, 1) := by decide +kernel
theorem dRU_replaceHypotheses_45 : decode prog_6_method_12_code 45 = .ok (.invokevirtual 168, 3) := by decide +kernel
theorem dRU_replaceHypotheses_48 : decode prog_6_method_12_code 48 = .ok (.aload_n 1, 1) := by decide +kernel
theorem dRU_replaceHypotheses_49 : decode prog_6_method_12_code 49 = .ok (.aload_n 0, 1) := by decide +kernel
theorem dRU_replaceHypotheses_50 : decode prog_6_method_12_code 50 = .ok (.getfield 17, 3) := by decide +kernel
theorem dRU_replaceHypotheses_53 : decode prog_6_method_12_code 53 = .ok (.invokevirtual 137, 3) := by decide +kernel
theorem dRU_replaceHypotheses_56 : decode prog_6_method_12_code 56 = .ok (.invokevirtual 172, 3) := by decide +kernel
theorem dRU_replaceHypotheses_59 : decode prog_6_method_12_code 59 = .ok (.iinc 5 (1), 3) := by decide +kernel
theorem dRU_replaceHypotheses_62 : decode prog_6_method_12_code 62 = .ok (.goto (-59), 3) := by decide +kernel
theorem dRU_replaceHypotheses_65 : decode prog_6_method_12_code 65 = .ok (.return_, 1) := by decide +kernel
theorem l_RU_rep {G : sd_G} {o : Nat} {D0 : fx_D} {h0 : sd_H} {nx s u v c : Nat} {M : List Nat} {S : st_S} {R : List tl_T × List Nat} (hB : G.2.1 ≤ o) (hs : 309 ≤ s) (hu : 309 ≤ u) (hso_s : dk_so s) (hso_u : dk_so u) (hne : u + 1 < s) (hM : so_r D0 u M) (hMT : ∀ t ∈ M, t < (st_T S).length) (hc : c < (st_T S).length) (hv : v < 8) : ∀ (n k : Nat) (T : List tl_T) (L : List Nat) (D : fx_D), M.length = k + n → ts_T D T → (∃ X, T = st_T S ++ X) → T.length ≤ 64 + k → so_w D s L → ruf s D0 D → R = ku_i T L ((M.drop k).map (fun t => tl_inst (st_tm S t) v (st_tm S c))) → sd_W G mRU_replaceHypotheses 4 0 0 (fx_is G.1.2 dk_S o h0 nx none (fun D' => ts_T D' R.1 ∧ so_w D' s R.2 ∧ ruf s D0 D')) 3 [(0, .ref (o + 307)), (1, .ref (o + s)), (2, .ref (o + u)), (3, .int (nI v)), (4, .int (nI c)), (5, .int (nI k))] [] (fx_h G.1.2 dk_S o D h0) nx 0 0 := by
  have l6 := hM.1
  intro n
  induction n with
  | zero =>
    intro k T L D hk hT hX hN h hf he
    have hM' := so_r_ag (hf.ag (x := u) (by omega) (by omega) (by omega) (by omega)) (hf.ag (x := u + 1) (by omega) (by omega) (by omega) (by omega)) hM
    rw [List.drop_of_length_le (by omega)] at he
    have he' : R = (T, L) := he
    subst he'
    refine sd_iload dRU_replaceHypotheses_3 rfl ?_
    refine sd_aload_n dRU_replaceHypotheses_5 rfl rfl ?_
    refine fx_getiv (v := (nI (M.length))) 6 1 dRU_replaceHypotheses_6 fRU_162 hso_u.1 rfl (hM'.2.1) ?_
    refine nn_icmp_ge 65 dRU_replaceHypotheses_9 (by decide) (by omega) (by omega) (fun c9 => ?_) (fun c9 => ?_)
    ·
      exact sd_vret dRU_replaceHypotheses_65 rfl (Nat.le_refl _) (Nat.le_refl _) ⟨rfl, rfl, _, rfl, hT, h, hf⟩
    ·
      exact absurd c9 (by omega)
  | succ n ih =>
    intro k T L D hk hT hX hN h hf he
    have hM' := so_r_ag (hf.ag (x := u) (by omega) (by omega) (by omega) (by omega)) (hf.ag (x := u + 1) (by omega) (by omega) (by omega) (by omega)) hM
    obtain ⟨x, hx⟩ : ∃ x, M[k]? = some x := ⟨M[k], List.getElem?_eq_getElem (by omega)⟩
    have hdr : M.drop k = x :: M.drop (k + 1) := by
      obtain ⟨z1, z2⟩ := List.getElem?_eq_some_iff.mp hx
      rw [List.drop_eq_getElem_cons z1, z2]
    have lx := hMT x (List.mem_of_getElem? hx)
    obtain ⟨a1, a2, a3, a4, a5⟩ := ts_tm hT hX lx
    obtain ⟨b1, b2, b3, b4, -⟩ := ts_tm hT hX hc
    have fr : ∀ {D' : fx_D}, tm_f (T.length + 1) D D' → so_r D' u M ∧ so_w D' s L := fun {D'} q => by
      have z : ∀ y, 309 ≤ y → ag D D' y := fun y hy => q.ag (by unfold tmo; omega) (by unfold tmo; omega) (by unfold tmo; omega) (by unfold tmo; omega)
      exact ⟨so_r_ag (z _ hu) (z _ (by omega)) hM', so_w_ag (z _ hs) (z _ (by omega)) h⟩
    rw [hdr, List.map_cons, ku_i] at he
    by_cases h24 : (tl_inst (st_tm S x) v (st_tm S c)).length ≤ 24
    · rw [if_pos h24] at he
      have hcp := cp_inst a3 b3 hv
      obtain ⟨Y, hY1, hY2⟩ := tl_ku_pre T (tl_inst (st_tm S x) v (st_tm S c))
      have kle := tl_kp_lle T (tl_inst (st_tm S x) v (st_tm S c))
      refine sd_iload dRU_replaceHypotheses_3 rfl ?_
      refine sd_aload_n dRU_replaceHypotheses_5 rfl rfl ?_
      refine fx_getiv (v := (nI (M.length))) 6 1 dRU_replaceHypotheses_6 fRU_162 hso_u.1 rfl (hM'.2.1) ?_
      refine nn_icmp_ge 65 dRU_replaceHypotheses_9 (by decide) (by omega) (by omega) (fun c9 => ?_) (fun c9 => ?_)
      ·
        exact absurd c9 (by omega)
      ·
        refine sd_aload_n dRU_replaceHypotheses_12 rfl rfl ?_
        refine fx_getr 5 0 (1) dRU_replaceHypotheses_13 fRU_17 rfl rfl ?_
        refine fx_cP 8 sR_TS [] [] dRU_replaceHypotheses_16 kRU_129 rfl rfl mTS_fresh_v (c_TS_fresh hB (by omega) hT.2.1) (by decide) (Nat.le_refl _) (Nat.le_refl _) (Nat.le_of_ble_eq_true rfl) rfl (fun D1 h1 => ?_)
        refine sd_aload_n dRU_replaceHypotheses_19 rfl rfl ?_
        refine fx_getr 5 0 (1) dRU_replaceHypotheses_20 fRU_17 rfl rfl ?_
        refine fx_getr 8 1 (3) dRU_replaceHypotheses_23 fRU_62 rfl rfl ?_
        refine sd_aload_n dRU_replaceHypotheses_26 rfl rfl ?_
        refine fx_getr 6 0 (u + 1) dRU_replaceHypotheses_27 fRU_165 hso_u.1 rfl ?_
        refine sd_iload dRU_replaceHypotheses_30 rfl ?_
        refine fx_ialdv (v := (nI (x))) (k) dRU_replaceHypotheses_32 hso_u.2 rfl (by omega) (by decide) (((fr h1.2).1.2.2 k x hx).1) ?_
        refine fx_aald (x) dRU_replaceHypotheses_33 rfl rfl rfl (by omega) (by decide) ?_
        refine sd_iload_n dRU_replaceHypotheses_34 rfl rfl ?_
        refine sd_aload_n dRU_replaceHypotheses_35 rfl rfl ?_
        refine fx_getr 5 0 (1) dRU_replaceHypotheses_36 fRU_17 rfl rfl ?_
        refine fx_getr 8 1 (3) dRU_replaceHypotheses_39 fRU_62 rfl rfl ?_
        refine sd_iload dRU_replaceHypotheses_42 rfl ?_
        refine fx_aald (c) dRU_replaceHypotheses_44 rfl rfl rfl (by omega) (by decide) ?_
        refine fx_cP 7 sR_TM [.ref (o + (tmo ((x) + 1))), .int (nI (v)), .ref (o + (tmo ((c) + 1)))] [] dRU_replaceHypotheses_45 kRU_168 rfl (dk_tm (by omega)) mTM_addReplaced_v (c_TM_addReplaced (q := x + 1) (p := c + 1) hB (by omega) (by omega) (by omega) (by omega) (by omega) hv h1.1 (tm_row_f h1.2 (by omega) a1) (tm_row_f h1.2 (by omega) b1) (tm_set_f h1.2 (by omega) b2) b3) (by decide) (Nat.le_refl _) (Nat.le_refl _) (Nat.le_of_ble_eq_true rfl) rfl (fun D2 h2 => ?_)
        refine sd_aload_n dRU_replaceHypotheses_48 rfl rfl ?_
        refine sd_aload_n dRU_replaceHypotheses_49 rfl rfl ?_
        refine fx_getr 5 0 (1) dRU_replaceHypotheses_50 fRU_17 rfl rfl ?_
        refine fx_cP 8 sR_TS [] [.ref (o + (s))] dRU_replaceHypotheses_53 kRU_137 rfl rfl mTS_keep_v (c_TS_keep (T := T) hB (ts_T_f (Or.inl (by omega)) (h1.2.tr h2.2) hT) (by omega) h2.1 ⟨hcp.1, hcp.2, h24⟩) (by decide) (Nat.le_refl _) (Nat.le_refl _) (Nat.le_of_ble_eq_true rfl) rfl (fun D3 h3 => ?_)
        refine fx_cP 6 sR_ST [.int (nI (tl_kp T (tl_inst (st_tm S x) v (st_tm S c))))] [] dRU_replaceHypotheses_56 kRU_172 rfl hso_s.1 mST_assume_v (c_ST_assume hB hso_s (so_w_ag (h3.2.ag (by omega) (by omega)) (h3.2.ag (by omega) (by omega)) (fr (h1.2.tr h2.2)).2) (by omega)) (by decide) (Nat.le_refl _) (Nat.le_refl _) (Nat.le_of_ble_eq_true rfl) rfl (fun D4 h4 => ?_)
        refine nn_iinc 1 dRU_replaceHypotheses_59 rfl (by decide) ?_
        refine sd_goto 3 dRU_replaceHypotheses_62 (by decide) ?_
        refine sd_locp (al' := [(0, .ref (o + (307))), (1, .ref (o + (s))), (2, .ref (o + (u))), (3, .int (nI (v))), (4, .int (nI (c))), (5, .int (nI (k + 1)))]) [1, 2, 3, 4, 5, 0] rfl ?_
        exact ih (k + 1) _ _ D4 (by omega) (ts_T_so (by omega) h4.2 h3.1) (by obtain ⟨X, rfl⟩ := hX; exact ⟨X ++ Y, by show tl_ku _ _ = _; rw [← List.append_assoc]; exact hY1⟩) (by show (tl_ku T (tl_inst (st_tm S x) v (st_tm S c))).length ≤ _; rw [hY1, List.length_append]; omega) h4.1 (hf.tr ((ruf.ts (ts_f.row (by omega) (by omega) (h1.2.tr h2.2))).tr ((ruf.ts h3.2).tr (ruf.so h4.2)))) he
    · rw [if_neg h24] at he
      refine sd_iload dRU_replaceHypotheses_3 rfl ?_
      refine sd_aload_n dRU_replaceHypotheses_5 rfl rfl ?_
      refine fx_getiv (v := (nI (M.length))) 6 1 dRU_replaceHypotheses_6 fRU_162 hso_u.1 rfl (hM'.2.1) ?_
      refine nn_icmp_ge 65 dRU_replaceHypotheses_9 (by decide) (by omega) (by omega) (fun c9 => ?_) (fun c9 => ?_)
      ·
        exact absurd c9 (by omega)
      ·
        refine sd_aload_n dRU_replaceHypotheses_12 rfl rfl ?_
        refine fx_getr 5 0 (1) dRU_replaceHypotheses_13 fRU_17 rfl rfl ?_
        refine fx_cP 8 sR_TS [] [] dRU_replaceHypotheses_16 kRU_129 rfl rfl mTS_fresh_v (c_TS_fresh hB (by omega) hT.2.1) (by decide) (Nat.le_refl _) (Nat.le_refl _) (Nat.le_of_ble_eq_true rfl) rfl (fun D1 h1 => ?_)
        refine sd_aload_n dRU_replaceHypotheses_19 rfl rfl ?_
        refine fx_getr 5 0 (1) dRU_replaceHypotheses_20 fRU_17 rfl rfl ?_
        refine fx_getr 8 1 (3) dRU_replaceHypotheses_23 fRU_62 rfl rfl ?_
        refine sd_aload_n dRU_replaceHypotheses_26 rfl rfl ?_
        refine fx_getr 6 0 (u + 1) dRU_replaceHypotheses_27 fRU_165 hso_u.1 rfl ?_
        refine sd_iload dRU_replaceHypotheses_30 rfl ?_
        refine fx_ialdv (v := (nI (x))) (k) dRU_replaceHypotheses_32 hso_u.2 rfl (by omega) (by decide) (((fr h1.2).1.2.2 k x hx).1) ?_
        refine fx_aald (x) dRU_replaceHypotheses_33 rfl rfl rfl (by omega) (by decide) ?_
        refine sd_iload_n dRU_replaceHypotheses_34 rfl rfl ?_
        refine sd_aload_n dRU_replaceHypotheses_35 rfl rfl ?_
        refine fx_getr 5 0 (1) dRU_replaceHypotheses_36 fRU_17 rfl rfl ?_
        refine fx_getr 8 1 (3) dRU_replaceHypotheses_39 fRU_62 rfl rfl ?_
        refine sd_iload dRU_replaceHypotheses_42 rfl ?_
        refine fx_aald (c) dRU_replaceHypotheses_44 rfl rfl rfl (by omega) (by decide) ?_
        refine fx_cP 7 sR_TM [.ref (o + (tmo ((x) + 1))), .int (nI (v)), .ref (o + (tmo ((c) + 1)))] [] dRU_replaceHypotheses_45 kRU_168 rfl (dk_tm (by omega)) mTM_addReplaced_v (c_TM_addReplaced (q := x + 1) (p := c + 1) hB (by omega) (by omega) (by omega) (by omega) (by omega) hv h1.1 (tm_row_f h1.2 (by omega) a1) (tm_row_f h1.2 (by omega) b1) (tm_set_f h1.2 (by omega) b2) b3) (by decide) (Nat.le_refl _) (Nat.le_refl _) (Nat.le_of_ble_eq_true rfl) rfl (fun D2 h2 => ?_)
        refine sd_aload_n dRU_replaceHypotheses_48 rfl rfl ?_
        refine sd_aload_n dRU_replaceHypotheses_49 rfl rfl ?_
        refine fx_getr 5 0 (1) dRU_replaceHypotheses_50 fRU_17 rfl rfl ?_
        refine fx_cV 8 sR_TS [] [.ref (o + (s))] dRU_replaceHypotheses_53 kRU_137 rfl rfl mTS_keep_v (c_TS_keepBig (n := T.length) (L := []) (by omega) (ts_T_f (Or.inl (by omega)) (h1.2.tr h2.2) hT).2.1 (tw_big h2.1 (by simp only [List.nil_append]; omega))) (by decide) (Nat.le_refl _) (Nat.le_refl _) (Nat.le_of_ble_eq_true rfl) rfl ?_
        refine fx_cP 6 sR_ST [.int ((-5))] [] dRU_replaceHypotheses_56 kRU_172 rfl hso_s.1 mST_assume_v (c_ST_assumeBig hB hso_s (fr (h1.2.tr h2.2)).2 (by decide)) (by decide) (Nat.le_refl _) (Nat.le_refl _) (Nat.le_of_ble_eq_true rfl) rfl (fun D4 h4 => ?_)
        refine nn_iinc 1 dRU_replaceHypotheses_59 rfl (by decide) ?_
        refine sd_goto 3 dRU_replaceHypotheses_62 (by decide) ?_
        refine sd_locp (al' := [(0, .ref (o + (307))), (1, .ref (o + (s))), (2, .ref (o + (u))), (3, .int (nI (v))), (4, .int (nI (c))), (5, .int (nI (k + 1)))]) [1, 2, 3, 4, 5, 0] rfl ?_
        exact ih (k + 1) T _ D4 (by omega) (ts_T_so (by omega) h4.2 (ts_T_f (Or.inl (by omega)) (h1.2.tr h2.2) hT)) hX (by omega) h4.1 (hf.tr ((ruf.ts (ts_f.row (by omega) (by omega) (h1.2.tr h2.2))).tr (ruf.so h4.2))) he
theorem c_RU_replaceHypotheses {G : sd_G} {o : Nat} {D : fx_D} {h0 : sd_H} {nx s u v c : Nat} {M L : List Nat} {S : st_S} {T : List tl_T} (hB : G.2.1 ≤ o) (hs : 309 ≤ s) (hu : 309 ≤ u) (hso_s : dk_so s) (hso_u : dk_so u) (hne : u + 1 < s) (hM : so_r D u M) (hMT : ∀ t ∈ M, t < (st_T S).length) (hc : c < (st_T S).length) (hv : v < 8) (hT : ts_T D T) (hX : ∃ X, T = st_T S ++ X) (hN : T.length ≤ 64) (h : so_w D s L) : sd_Ct G mRU_replaceHypotheses 4 0 0 [.ref (o + 307), .ref (o + s), .ref (o + u), .int (nI v), .int (nI c)] (fx_h G.1.2 dk_S o D h0) nx (fx_is G.1.2 dk_S o h0 nx none (fun D' => ts_T D' (ku_i T L (M.map (fun t => tl_inst (st_tm S t) v (st_tm S c)))).1 ∧ so_w D' s (ku_i T L (M.map (fun t => tl_inst (st_tm S t) v (st_tm S c)))).2 ∧ ruf s D D')) := by
  refine sd_Ct_of (by decide) (Nat.le_of_ble_eq_true rfl) ?_
  refine sd_iconst (v := nI 0) dRU_replaceHypotheses_0 (by decide) ?_
  refine sd_istore dRU_replaceHypotheses_1 (by decide) ?_
  refine sd_locp (al' := [(0, .ref (o + (307))), (1, .ref (o + (s))), (2, .ref (o + (u))), (3, .int (nI (v))), (4, .int (nI (c))), (5, .int (nI (0)))]) [1, 2, 3, 4, 5, 0] rfl ?_
  exact l_RU_rep hB hs hu hso_s hso_u hne hM hMT hc hv M.length 0 T L D (by omega) hT hX (by omega) h (ruf.rf s D) (by rw [List.drop_zero])
/-- the row that writeConclusion has written -/
def wc_P (S : st_S) (k a b c : Nat) (X : tl_T) : Prop := match ru_row S k a b c with | some L => X = L | none => 24 < X.length
theorem dRU_writeConclusion_0 : decode prog_6_method_13_code 0 = .ok (.iload_n 2, 1) := by decide +kernel
theorem dRU_writeConclusion_1 : decode prog_6_method_13_code 1 = .ok (.tableswitch (236) (0) (8) #[51, 78, 95, 123, 141, 156, 172, 192, 212], 51) := by decide +kernel
theorem dRU_writeConclusion_52 : decode prog_6_method_13_code 52 = .ok (.aload_n 1, 1) := by decide +kernel
theorem dRU_writeConclusion_53 : decode prog_6_method_13_code 53 = .ok (.aload_n 0, 1) := by decide +kernel
theorem dRU_writeConclusion_54 : decode prog_6_method_13_code 54 = .ok (.getfield 17, 3) := by decide +kernel
theorem dRU_writeConclusion_57 : decode prog_6_method_13_code 57 = .ok (.getfield 62, 3) := by decide +kernel
theorem dRU_writeConclusion_60 : decode prog_6_method_13_code 60 = .ok (.iload_n 3, 1) := by decide +kernel
theorem dRU_writeConclusion_61 : decode prog_6_method_13_code 61 = .ok (.aaload, 1) := by decide +kernel
theorem dRU_writeConclusion_62 : decode prog_6_method_13_code 62 = .ok (.iconst 0, 1) := by decide +kernel
theorem dRU_writeConclusion_63 : decode prog_6_method_13_code 63 = .ok (.aload_n 0, 1) := by decide +kernel
theorem dRU_writeConclusion_64 : decode prog_6_method_13_code 64 = .ok (.getfield 17, 3) := by decide +kernel
theorem dRU_writeConclusion_67 : decode prog_6_method_13_code 67 = .ok (.getfield 62, 3) := by decide +kernel
theorem dRU_writeConclusion_70 : decode prog_6_method_13_code 70 = .ok (.iload_n 3, 1) := by decide +kernel
theorem dRU_writeConclusion_71 : decode prog_6_method_13_code 71 = .ok (.aaload, 1) := by decide +kernel
theorem dRU_writeConclusion_72 : decode prog_6_method_13_code 72 = .ok (.iconst 0, 1) := by decide +kernel
theorem dRU_writeConclusion_73 : decode prog_6_method_13_code 73 = .ok (.invokevirtual 175, 3) := by decide +kernel
theorem dRU_writeConclusion_76 : decode prog_6_method_13_code 76 = .ok (.goto (161), 3) := by decide +kernel
theorem dRU_writeConclusion_79 : decode prog_6_method_13_code 79 = .ok (.aload_n 1, 1) := by decide +kernel
theorem dRU_writeConclusion_80 : decode prog_6_method_13_code 80 = .ok (.aload_n 0, 1) := by decide +kernel
theorem dRU_writeConclusion_81 : decode prog_6_method_13_code 81 = .ok (.getfield 17, 3) := by decide +kernel
theorem dRU_writeConclusion_84 : decode prog_6_method_13_code 84 = .ok (.getfield 62, 3) := by decide +kernel
theorem dRU_writeConclusion_87 : decode prog_6_method_13_code 87 = .ok (.iload_n 3, 1) := by decide +kernel
theorem dRU_writeConclusion_88 : decode prog_6_method_13_code 88 = .ok (.aaload, 1) := by decide +kernel
theorem dRU_writeConclusion_89 : decode prog_6_method_13_code 89 = .ok (.iconst 0, 1) := by decide +kernel
theorem dRU_writeConclusion_90 : decode prog_6_method_13_code 90 = .ok (.invokevirtual 179, 3) := by decide +kernel
theorem dRU_writeConclusion_93 : decode prog_6_method_13_code 93 = .ok (.goto (144), 3) := by decide +kernel
theorem dRU_writeConclusion_96 : decode prog_6_method_13_code 96 = .ok (.aload_n 1, 1) := by decide +kernel
theorem dRU_writeConclusion_97 : decode prog_6_method_13_code 97 = .ok (.aload_n 0, 1) := by decide +kernel
theorem dRU_writeConclusion_98 : decode prog_6_method_13_code 98 = .ok (.iload_n 3, 1) := by decide +kernel
theorem dRU_writeConclusion_99 : decode prog_6_method_13_code 99 = .ok (.invokevirtual 74, 3) := by decide +kernel
theorem dRU_writeConclusion_102 : decode prog_6_method_13_code 102 = .ok (.iconst 1, 1) := by decide +kernel
theorem dRU_writeConclusion_103 : decode prog_6_method_13_code 103 = .ok (.aload_n 0, 1) := by decide +kernel
theorem dRU_writeConclusion_104 : decode prog_6_method_13_code 104 = .ok (.iload 4, 2) := by decide +kernel
theorem dRU_writeConclusion_106 : decode prog_6_method_13_code 106 = .ok (.invokevirtual 74, 3) := by decide +kernel
theorem dRU_writeConclusion_109 : decode prog_6_method_13_code 109 = .ok (.aload_n 0, 1) := by decide +kernel
theorem dRU_writeConclusion_110 : decode prog_6_method_13_code 110 = .ok (.iload 4, 2) := by decide +kernel
theorem dRU_writeConclusion_112 : decode prog_6_method_13_code 112 = .ok (.invokevirtual 74, 3) := by decide +kernel
theorem dRU_writeConclusion_115 : decode prog_6_method_13_code 115 = .ok (.invokevirtual 101, 3) := by decide +kernel
theorem dRU_writeConclusion_118 : decode prog_6_method_13_code 118 = .ok (.invokevirtual 175, 3) := by decide +kernel
theorem dRU_writeConclusion_121 : decode prog_6_method_13_code 121 = .ok (.goto (116), 3) := by decide +kernel
theorem dRU_writeConclusion_124 : decode prog_6_method_13_code 124 = .ok (.aload_n 1, 1) := by decide +kernel
theorem dRU_writeConclusion_125 : decode prog_6_method_13_code 125 = .ok (.aload_n 0, 1) := by decide +kernel
theorem dRU_writeConclusion_126 : decode prog_6_method_13_code 126 = .ok (.iload_n 3, 1) := by decide +kernel
theorem dRU_writeConclusion_127 : decode prog_6_method_13_code 127 = .ok (.invokevirtual 74, 3) := by decide +kernel
theorem dRU_writeConclusion_130 : decode prog_6_method_13_code 130 = .ok (.aload_n 0, 1) := by decide +kernel
theorem dRU_writeConclusion_131 : decode prog_6_method_13_code 131 = .ok (.iload 4, 2) := by decide +kernel
theorem dRU_writeConclusion_133 : decode prog_6_method_13_code 133 = .ok (.invokevirtual 74, 3) := by decide +kernel
theorem dRU_writeConclusion_136 : decode prog_6_method_13_code 136 = .ok (.invokestatic 183, 3) := by decide +kernel
theorem dRU_writeConclusion_139 : decode prog_6_method_13_code 139 = .ok (.goto (98), 3) := by decide +kernel
theorem dRU_writeConclusion_142 : decode prog_6_method_13_code 142 = .ok (.aload_n 0, 1) := by decide +kernel
theorem dRU_writeConclusion_143 : decode prog_6_method_13_code 143 = .ok (.aload_n 1, 1) := by decide +kernel
theorem dRU_writeConclusion_144 : decode prog_6_method_13_code 144 = .ok (.aload_n 0, 1) := by decide +kernel
theorem dRU_writeConclusion_145 : decode prog_6_method_13_code 145 = .ok (.iload_n 3, 1) := by decide +kernel
theorem dRU_writeConclusion_146 : decode prog_6_method_13_code 146 = .ok (.invokevirtual 74, 3) := by decide +kernel
theorem dRU_writeConclusion_149 : decode prog_6_method_13_code 149 = .ok (.iload 4, 2) := by decide +kernel
theorem dRU_writeConclusion_151 : decode prog_6_method_13_code 151 = .ok (.invokevirtual 187, 3) := by decide +kernel
theorem dRU_writeConclusion_154 : decode prog_6_method_13_code 154 = .ok (.goto (83), 3) := by decide +kernel
theorem dRU_writeConclusion_157 : decode prog_6_method_13_code 157 = .ok (.aload_n 1, 1) := by decide +kernel
theorem dRU_writeConclusion_158 : decode prog_6_method_13_code 158 = .ok (.aload_n 0, 1) := by decide +kernel
theorem dRU_writeConclusion_159 : decode prog_6_method_13_code 159 = .ok (.getfield 17, 3) := by decide +kernel
theorem dRU_writeConclusion_162 : decode prog_6_method_13_code 162 = .ok (.getfield 62, 3) := by decide +kernel
theorem dRU_writeConclusion_165 : decode prog_6_method_13_code 165 = .ok (.iload_n 3, 1) := by decide +kernel
theorem dRU_writeConclusion_166 : decode prog_6_method_13_code 166 = .ok (.aaload, 1) := by decide +kernel
theorem dRU_writeConclusion_167 : decode prog_6_method_13_code 167 = .ok (.invokestatic 191, 3) := by decide +kernel
theorem dRU_writeConclusion_170 : decode prog_6_method_13_code 170 = .ok (.goto (67), 3) := by decide +kernel
theorem dRU_writeConclusion_173 : decode prog_6_method_13_code 173 = .ok (.aload_n 1, 1) := by decide +kernel
theorem dRU_writeConclusion_174 : decode prog_6_method_13_code 174 = .ok (.aload_n 0, 1) := by decide +kernel
theorem dRU_writeConclusion_175 : decode prog_6_method_13_code 175 = .ok (.iload_n 3, 1) := by decide +kernel
theorem dRU_writeConclusion_176 : decode prog_6_method_13_code 176 = .ok (.invokevirtual 74, 3) := by decide +kernel
theorem dRU_writeConclusion_179 : decode prog_6_method_13_code 179 = .ok (.aload_n 0, 1) := by decide +kernel
theorem dRU_writeConclusion_180 : decode prog_6_method_13_code 180 = .ok (.iload_n 3, 1) := by decide +kernel
theorem dRU_writeConclusion_181 : decode prog_6_method_13_code 181 = .ok (.invokevirtual 74, 3) := by decide +kernel
theorem dRU_writeConclusion_184 : decode prog_6_method_13_code 184 = .ok (.invokevirtual 101, 3) := by decide +kernel
theorem dRU_writeConclusion_187 : decode prog_6_method_13_code 187 = .ok (.invokevirtual 179, 3) := by decide +kernel
theorem dRU_writeConclusion_190 : decode prog_6_method_13_code 190 = .ok (.goto (47), 3) := by decide +kernel
theorem dRU_writeConclusion_193 : decode prog_6_method_13_code 193 = .ok (.aload_n 1, 1) := by decide +kernel
theorem dRU_writeConclusion_194 : decode prog_6_method_13_code 194 = .ok (.aload_n 0, 1) := by decide +kernel
theorem dRU_writeConclusion_195 : decode prog_6_method_13_code 195 = .ok (.iload_n 3, 1) := by decide +kernel
theorem dRU_writeConclusion_196 : decode prog_6_method_13_code 196 = .ok (.invokevirtual 74, 3) := by decide +kernel
theorem dRU_writeConclusion_199 : decode prog_6_method_13_code 199 = .ok (.iconst 0, 1) := by decide +kernel
theorem dRU_writeConclusion_200 : decode prog_6_method_13_code 200 = .ok (.aload_n 0, 1) := by decide +kernel
theorem dRU_writeConclusion_201 : decode prog_6_method_13_code 201 = .ok (.iload 4, 2) := by decide +kernel
theorem dRU_writeConclusion_203 : decode prog_6_method_13_code 203 = .ok (.invokevirtual 74, 3) := by decide +kernel
theorem dRU_writeConclusion_206 : decode prog_6_method_13_code 206 = .ok (.iconst 0, 1) := by decide +kernel
theorem dRU_writeConclusion_207 : decode prog_6_method_13_code 207 = .ok (.invokevirtual 175, 3) := by decide +kernel
theorem dRU_writeConclusion_210 : decode prog_6_method_13_code 210 = .ok (.goto (27), 3) := by decide +kernel
theorem dRU_writeConclusion_213 : decode prog_6_method_13_code 213 = .ok (.aload_n 1, 1) := by decide +kernel
theorem dRU_writeConclusion_214 : decode prog_6_method_13_code 214 = .ok (.aload_n 0, 1) := by decide +kernel
theorem dRU_writeConclusion_215 : decode prog_6_method_13_code 215 = .ok (.iload_n 3, 1) := by decide +kernel
theorem dRU_writeConclusion_216 : decode prog_6_method_13_code 216 = .ok (.invokevirtual 74, 3) := by decide +kernel
theorem dRU_writeConclusion_219 : decode prog_6_method_13_code 219 = .ok (.iload 4, 2) := by decide +kernel
theorem dRU_writeConclusion_221 : decode prog_6_method_13_code 221 = .ok (.aload_n 0, 1) := by decide +kernel
theorem dRU_writeConclusion_222 : decode prog_6_method_13_code 222 = .ok (.getfield 17, 3) := by decide +kernel
theorem dRU_writeConclusion_225 : decode prog_6_method_13_code 225 = .ok (.getfield 62, 3) := by decide +kernel
theorem dRU_writeConclusion_228 : decode prog_6_method_13_code 228 = .ok (.iload 5, 2) := by decide +kernel
theorem dRU_writeConclusion_230 : decode prog_6_method_13_code 230 = .ok (.aaload, 1) := by decide +kernel
theorem dRU_writeConclusion_231 : decode prog_6_method_13_code 231 = .ok (.invokevirtual 168, 3) := by decide +kernel
theorem dRU_writeConclusion_234 : decode prog_6_method_13_code 234 = .ok (.goto (3), 3) := by decide +kernel
theorem dRU_writeConclusion_237 : decode prog_6_method_13_code 237 = .ok (.return_, 1) := by decide +kernel
theorem c_RU_writeConclusion {G : sd_G} {o : Nat} {D : fx_D} {h0 : sd_H} {nx k a b c r : Nat} {S : st_S} {T : List tl_T} {x y z w : Int32} (hB : G.2.1 ≤ o) (hW : dk_W S T D) (hT : st_okT S) (hH : st_okH S) (ht : ru_there S x y z w k a b c) (hfit : ru_fit S k a b c = true) (hr : r = T.length + 1) (h : tw D r []) : sd_Ct G mRU_writeConclusion 4 0 0 [.ref (o + 307), .ref (o + tmo r), .int x, .int y, .int z, .int w] (fx_h G.1.2 dk_S o D h0) nx (fx_is G.1.2 dk_S o h0 nx none (fun D' => (∃ X, wc_P S k a b c X ∧ tw D' r X) ∧ tm_f r D D')) := by
  refine sd_Ct_of (by decide) (Nat.le_of_ble_eq_true rfl) ?_
  have h71 := hW.2.1.1
  have hokc : ∀ t, t < (st_T S).length → ∀ x ∈ st_tm S t, ty_ok x.2 := fun t la x hx => (hT _ (by rw [st_tm, List.getElem?_eq_getElem la]; exact List.getElem_mem la) x hx).1
  obtain ⟨rfl, hh⟩ := ht
  rcases hh with ⟨rfl | rfl | rfl, rfl, ha⟩ | ⟨rfl | rfl | rfl | rfl, rfl, ha, rfl, hb⟩ | ⟨rfl, rfl, ha, rfl, hb⟩ | ⟨rfl, rfl, ha, rfl, hb, rfl, hc⟩
  · skip
    obtain ⟨m1, m2, m3, m4, -⟩ := hW.tm ha
    refine sd_iload_n dRU_writeConclusion_0 rfl rfl ?_
    refine sd_tableIn (off := 51) 52 dRU_writeConclusion_1 (by decide) (by decide) (by decide) (by decide) ?_
    refine sd_aload_n dRU_writeConclusion_52 rfl rfl ?_
    refine sd_aload_n dRU_writeConclusion_53 rfl rfl ?_
    refine fx_getr 5 0 (1) dRU_writeConclusion_54 fRU_17 rfl rfl ?_
    refine fx_getr 8 1 (3) dRU_writeConclusion_57 fRU_62 rfl rfl ?_
    refine sd_iload_n dRU_writeConclusion_60 rfl rfl ?_
    refine fx_aald (a) dRU_writeConclusion_61 rfl rfl rfl (by omega) (by decide) ?_
    refine sd_iconst (v := nI 0) dRU_writeConclusion_62 (by decide) ?_
    refine sd_aload_n dRU_writeConclusion_63 rfl rfl ?_
    refine fx_getr 5 0 (1) dRU_writeConclusion_64 fRU_17 rfl rfl ?_
    refine fx_getr 8 1 (3) dRU_writeConclusion_67 fRU_62 rfl rfl ?_
    refine sd_iload_n dRU_writeConclusion_70 rfl rfl ?_
    refine fx_aald (a) dRU_writeConclusion_71 rfl rfl rfl (by omega) (by decide) ?_
    refine sd_iconst (v := nI 0) dRU_writeConclusion_72 (by decide) ?_
    refine fx_cP 7 sR_TM [.ref (o + (tmo ((a) + 1))), .int (nI (0)), .ref (o + (tmo ((a) + 1))), .int (nI (0))] [] dRU_writeConclusion_73 kRU_175 rfl (dk_tm (by omega)) mTM_addEquation_v (c_TM_addEquation (i := 0) (j := 0) (q := a + 1) (p := a + 1) hB (by omega) (by omega) (by omega) (by omega) (by omega) h m1 m2 m3.pos m1 m2 m3.pos) (by decide) (Nat.le_refl _) (Nat.le_refl _) (Nat.le_of_ble_eq_true rfl) rfl (fun D1 h1 => ?_)
    refine sd_goto 237 dRU_writeConclusion_76 (by decide) ?_
    exact sd_vret dRU_writeConclusion_237 rfl (Nat.le_refl _) (Nat.le_refl _) ⟨rfl, rfl, _, rfl, ⟨_, rfl, by have z := h1.1; rw [m3.part] at z; exact z⟩, h1.2⟩
  · skip
    obtain ⟨m1, m2, m3, m4, -⟩ := hW.tm ha
    refine sd_iload_n dRU_writeConclusion_0 rfl rfl ?_
    refine sd_tableIn (off := 78) 79 dRU_writeConclusion_1 (by decide) (by decide) (by decide) (by decide) ?_
    refine sd_aload_n dRU_writeConclusion_79 rfl rfl ?_
    refine sd_aload_n dRU_writeConclusion_80 rfl rfl ?_
    refine fx_getr 5 0 (1) dRU_writeConclusion_81 fRU_17 rfl rfl ?_
    refine fx_getr 8 1 (3) dRU_writeConclusion_84 fRU_62 rfl rfl ?_
    refine sd_iload_n dRU_writeConclusion_87 rfl rfl ?_
    refine fx_aald (a) dRU_writeConclusion_88 rfl rfl rfl (by omega) (by decide) ?_
    refine sd_iconst (v := nI 0) dRU_writeConclusion_89 (by decide) ?_
    refine fx_cP 7 sR_TM [.ref (o + (tmo ((a) + 1))), .int (nI (0))] [] dRU_writeConclusion_90 kRU_179 rfl (dk_tm (by omega)) mTM_addPart_v (c_TM_addPart (i := 0) (q := a + 1) hB (by omega) (by omega) (by omega) h m1 m2 m3.pos) (by decide) (Nat.le_refl _) (Nat.le_refl _) (Nat.le_of_ble_eq_true rfl) rfl (fun D1 h1 => ?_)
    refine sd_goto 237 dRU_writeConclusion_93 (by decide) ?_
    exact sd_vret dRU_writeConclusion_237 rfl (Nat.le_refl _) (Nat.le_refl _) ⟨rfl, rfl, _, rfl, ⟨_, rfl, by have z := h1.1; rw [m3.part] at z; exact z⟩, h1.2⟩
  · skip
    obtain ⟨m1, m2, m3, m4, -⟩ := hW.tm ha
    refine sd_iload_n dRU_writeConclusion_0 rfl rfl ?_
    refine sd_tableIn (off := 156) 157 dRU_writeConclusion_1 (by decide) (by decide) (by decide) (by decide) ?_
    refine sd_aload_n dRU_writeConclusion_157 rfl rfl ?_
    refine sd_aload_n dRU_writeConclusion_158 rfl rfl ?_
    refine fx_getr 5 0 (1) dRU_writeConclusion_159 fRU_17 rfl rfl ?_
    refine fx_getr 8 1 (3) dRU_writeConclusion_162 fRU_62 rfl rfl ?_
    refine sd_iload_n dRU_writeConclusion_165 rfl rfl ?_
    refine fx_aald (a) dRU_writeConclusion_166 rfl rfl rfl (by omega) (by decide) ?_
    refine sd_cPs [.ref (o + (tmo (r))), .ref (o + (tmo ((a) + 1)))] [] dRU_writeConclusion_167 kRU_191 mRU_writeReduced_s (c_RU_writeReduced (q := a + 1) hB (by omega) (by omega) (by omega) h m1 m2 m3 hfit) (by decide) (Nat.le_refl _) (Nat.le_refl _) (Nat.le_of_ble_eq_true rfl) rfl (fun D1 h1 => ?_)
    refine sd_goto 237 dRU_writeConclusion_170 (by decide) ?_
    exact sd_vret dRU_writeConclusion_237 rfl (Nat.le_refl _) (Nat.le_refl _) ⟨rfl, rfl, _, rfl, ⟨_, rfl, h1.1⟩, h1.2⟩
  · skip
    obtain ⟨ta, ea, ca, -, la, -, -, -⟩ := hW.cn hH ha
    obtain ⟨m1, m2, m3, m4, -⟩ := hW.tm la
    have kA := c_RU_conclusionOf (G := G) (o := o) (h0 := h0) (nx := nx) hW.2.2.1 ea (by omega)
    rw [ca] at kA
    obtain ⟨tb, eb, cb, -, lb, -, -, -⟩ := hW.cn hH hb
    obtain ⟨n1, n2, n3, n4, -⟩ := hW.tm lb
    have kB := c_RU_conclusionOf (G := G) (o := o) (h0 := h0) (nx := nx) hW.2.2.1 eb (by omega)
    rw [cb] at kB
    simp only [ru_fit, Bool.and_eq_true, beq_iff_eq, tl_isE] at hfit
    obtain ⟨t1, t2, -⟩ := m3.two (by rw [hfit.1.1]; rfl)
    obtain ⟨u1, u2, -⟩ := n3.two (by rw [hfit.1.2]; rfl)
    refine sd_iload_n dRU_writeConclusion_0 rfl rfl ?_
    refine sd_tableIn (off := 95) 96 dRU_writeConclusion_1 (by decide) (by decide) (by decide) (by decide) ?_
    refine sd_aload_n dRU_writeConclusion_96 rfl rfl ?_
    refine sd_aload_n dRU_writeConclusion_97 rfl rfl ?_
    refine sd_iload_n dRU_writeConclusion_98 rfl rfl ?_
    refine fx_cV 5 sR_RU [.int (nI (a))] [.ref (o + (tmo (r)))] dRU_writeConclusion_99 kRU_74 rfl rfl mRU_conclusionOf_v (kA) (by decide) (Nat.le_refl _) (Nat.le_refl _) (Nat.le_of_ble_eq_true rfl) rfl ?_
    refine sd_iconst (v := nI 1) dRU_writeConclusion_102 (by decide) ?_
    refine sd_aload_n dRU_writeConclusion_103 rfl rfl ?_
    refine sd_iload dRU_writeConclusion_104 rfl ?_
    refine fx_cV 5 sR_RU [.int (nI (b))] [.int (nI (1)), .ref (o + (tmo ((st_cn S a + 1)))), .ref (o + (tmo (r)))] dRU_writeConclusion_106 kRU_74 rfl rfl mRU_conclusionOf_v (kB) (by decide) (Nat.le_refl _) (Nat.le_refl _) (Nat.le_of_ble_eq_true rfl) rfl ?_
    refine sd_aload_n dRU_writeConclusion_109 rfl rfl ?_
    refine sd_iload dRU_writeConclusion_110 rfl ?_
    refine fx_cV 5 sR_RU [.int (nI (b))] [.ref (o + (tmo ((st_cn S b + 1)))), .int (nI (1)), .ref (o + (tmo ((st_cn S a + 1)))), .ref (o + (tmo (r)))] dRU_writeConclusion_112 kRU_74 rfl rfl mRU_conclusionOf_v (kB) (by decide) (Nat.le_refl _) (Nat.le_refl _) (Nat.le_of_ble_eq_true rfl) rfl ?_
    refine fx_cV 7 sR_TM [] [.ref (o + (tmo ((st_cn S b + 1)))), .int (nI (1)), .ref (o + (tmo ((st_cn S a + 1)))), .ref (o + (tmo (r)))] dRU_writeConclusion_115 kRU_101 rfl (dk_tm (by omega)) mTM_right_v (c_TM_right (by omega) n2 u1) (by decide) (Nat.le_refl _) (Nat.le_refl _) (Nat.le_of_ble_eq_true rfl) rfl ?_
    refine fx_cP 7 sR_TM [.ref (o + (tmo ((st_cn S a + 1)))), .int (nI (1)), .ref (o + (tmo ((st_cn S b + 1)))), .int (nI (tl_end (st_tm S (st_cn S b)) 1))] [] dRU_writeConclusion_118 kRU_175 rfl (dk_tm (by omega)) mTM_addEquation_v (c_TM_addEquation (i := 1) (q := st_cn S a + 1) (p := st_cn S b + 1) hB (by omega) (by omega) (by omega) (by omega) (by omega) h m1 m2 t1 n1 n2 u2) (by decide) (Nat.le_refl _) (Nat.le_refl _) (Nat.le_of_ble_eq_true rfl) rfl (fun D1 h1 => ?_)
    refine sd_goto 237 dRU_writeConclusion_121 (by decide) ?_
    exact sd_vret dRU_writeConclusion_237 rfl (Nat.le_refl _) (Nat.le_refl _) ⟨rfl, rfl, _, rfl, ⟨_, rfl, h1.1⟩, h1.2⟩
  · skip
    obtain ⟨ta, ea, ca, -, la, -, -, -⟩ := hW.cn hH ha
    obtain ⟨m1, m2, m3, m4, -⟩ := hW.tm la
    have kA := c_RU_conclusionOf (G := G) (o := o) (h0 := h0) (nx := nx) hW.2.2.1 ea (by omega)
    rw [ca] at kA
    obtain ⟨tb, eb, cb, -, lb, -, -, -⟩ := hW.cn hH hb
    obtain ⟨n1, n2, n3, n4, -⟩ := hW.tm lb
    have kB := c_RU_conclusionOf (G := G) (o := o) (h0 := h0) (nx := nx) hW.2.2.1 eb (by omega)
    rw [cb] at kB
    simp only [ru_fit, Bool.and_eq_true, beq_iff_eq, tl_isE] at hfit
    refine sd_iload_n dRU_writeConclusion_0 rfl rfl ?_
    refine sd_tableIn (off := 123) 124 dRU_writeConclusion_1 (by decide) (by decide) (by decide) (by decide) ?_
    refine sd_aload_n dRU_writeConclusion_124 rfl rfl ?_
    refine sd_aload_n dRU_writeConclusion_125 rfl rfl ?_
    refine sd_iload_n dRU_writeConclusion_126 rfl rfl ?_
    refine fx_cV 5 sR_RU [.int (nI (a))] [.ref (o + (tmo (r)))] dRU_writeConclusion_127 kRU_74 rfl rfl mRU_conclusionOf_v (kA) (by decide) (Nat.le_refl _) (Nat.le_refl _) (Nat.le_of_ble_eq_true rfl) rfl ?_
    refine sd_aload_n dRU_writeConclusion_130 rfl rfl ?_
    refine sd_iload dRU_writeConclusion_131 rfl ?_
    refine fx_cV 5 sR_RU [.int (nI (b))] [.ref (o + (tmo ((st_cn S a + 1)))), .ref (o + (tmo (r)))] dRU_writeConclusion_133 kRU_74 rfl rfl mRU_conclusionOf_v (kB) (by decide) (Nat.le_refl _) (Nat.le_refl _) (Nat.le_of_ble_eq_true rfl) rfl ?_
    refine sd_cPs [.ref (o + (tmo (r))), .ref (o + (tmo ((st_cn S a + 1)))), .ref (o + (tmo ((st_cn S b + 1))))] [] dRU_writeConclusion_136 kRU_183 mRU_writeCombined_s (c_RU_writeCombined (q := st_cn S a + 1) (u := st_cn S b + 1) hB (by omega) (by omega) (by omega) (by omega) (by omega) h m1 m2 m3 n1 n2 n3 (hokc _ la) hfit.1.1.1 hfit.1.1.2 hfit.1.2) (by decide) (Nat.le_refl _) (Nat.le_refl _) (Nat.le_of_ble_eq_true rfl) rfl (fun D1 h1 => ?_)
    refine sd_goto 237 dRU_writeConclusion_139 (by decide) ?_
    exact sd_vret dRU_writeConclusion_237 rfl (Nat.le_refl _) (Nat.le_refl _) ⟨rfl, rfl, _, rfl, ⟨_, rfl, h1.1⟩, h1.2⟩
  · skip
    obtain ⟨ta, ea, ca, -, la, -, -, -⟩ := hW.cn hH ha
    obtain ⟨m1, m2, m3, m4, -⟩ := hW.tm la
    have kA := c_RU_conclusionOf (G := G) (o := o) (h0 := h0) (nx := nx) hW.2.2.1 ea (by omega)
    rw [ca] at kA
    simp only [ru_fit, Bool.and_eq_true, beq_iff_eq, tl_isE] at hfit
    obtain ⟨t1, t2, -⟩ := m3.two (by rw [hfit.1]; rfl)
    refine sd_iload_n dRU_writeConclusion_0 rfl rfl ?_
    refine sd_tableIn (off := 172) 173 dRU_writeConclusion_1 (by decide) (by decide) (by decide) (by decide) ?_
    refine sd_aload_n dRU_writeConclusion_173 rfl rfl ?_
    refine sd_aload_n dRU_writeConclusion_174 rfl rfl ?_
    refine sd_iload_n dRU_writeConclusion_175 rfl rfl ?_
    refine fx_cV 5 sR_RU [.int (nI (a))] [.ref (o + (tmo (r)))] dRU_writeConclusion_176 kRU_74 rfl rfl mRU_conclusionOf_v (kA) (by decide) (Nat.le_refl _) (Nat.le_refl _) (Nat.le_of_ble_eq_true rfl) rfl ?_
    refine sd_aload_n dRU_writeConclusion_179 rfl rfl ?_
    refine sd_iload_n dRU_writeConclusion_180 rfl rfl ?_
    refine fx_cV 5 sR_RU [.int (nI (a))] [.ref (o + (tmo ((st_cn S a + 1)))), .ref (o + (tmo (r)))] dRU_writeConclusion_181 kRU_74 rfl rfl mRU_conclusionOf_v (kA) (by decide) (Nat.le_refl _) (Nat.le_refl _) (Nat.le_of_ble_eq_true rfl) rfl ?_
    refine fx_cV 7 sR_TM [] [.ref (o + (tmo ((st_cn S a + 1)))), .ref (o + (tmo (r)))] dRU_writeConclusion_184 kRU_101 rfl (dk_tm (by omega)) mTM_right_v (c_TM_right (by omega) m2 t1) (by decide) (Nat.le_refl _) (Nat.le_refl _) (Nat.le_of_ble_eq_true rfl) rfl ?_
    refine fx_cP 7 sR_TM [.ref (o + (tmo ((st_cn S a + 1)))), .int (nI (tl_end (st_tm S (st_cn S a)) 1))] [] dRU_writeConclusion_187 kRU_179 rfl (dk_tm (by omega)) mTM_addPart_v (c_TM_addPart (q := st_cn S a + 1) hB (by omega) (by omega) (by omega) h m1 m2 t2) (by decide) (Nat.le_refl _) (Nat.le_refl _) (Nat.le_of_ble_eq_true rfl) rfl (fun D1 h1 => ?_)
    refine sd_goto 237 dRU_writeConclusion_190 (by decide) ?_
    exact sd_vret dRU_writeConclusion_237 rfl (Nat.le_refl _) (Nat.le_refl _) ⟨rfl, rfl, _, rfl, ⟨_, rfl, h1.1⟩, h1.2⟩
  · skip
    obtain ⟨ta, ea, ca, -, la, -, -, -⟩ := hW.cn hH ha
    obtain ⟨m1, m2, m3, m4, -⟩ := hW.tm la
    have kA := c_RU_conclusionOf (G := G) (o := o) (h0 := h0) (nx := nx) hW.2.2.1 ea (by omega)
    rw [ca] at kA
    obtain ⟨tb, eb, cb, -, lb, -, -, -⟩ := hW.cn hH hb
    obtain ⟨n1, n2, n3, n4, -⟩ := hW.tm lb
    have kB := c_RU_conclusionOf (G := G) (o := o) (h0 := h0) (nx := nx) hW.2.2.1 eb (by omega)
    rw [cb] at kB
    refine sd_iload_n dRU_writeConclusion_0 rfl rfl ?_
    refine sd_tableIn (off := 192) 193 dRU_writeConclusion_1 (by decide) (by decide) (by decide) (by decide) ?_
    refine sd_aload_n dRU_writeConclusion_193 rfl rfl ?_
    refine sd_aload_n dRU_writeConclusion_194 rfl rfl ?_
    refine sd_iload_n dRU_writeConclusion_195 rfl rfl ?_
    refine fx_cV 5 sR_RU [.int (nI (a))] [.ref (o + (tmo (r)))] dRU_writeConclusion_196 kRU_74 rfl rfl mRU_conclusionOf_v (kA) (by decide) (Nat.le_refl _) (Nat.le_refl _) (Nat.le_of_ble_eq_true rfl) rfl ?_
    refine sd_iconst (v := nI 0) dRU_writeConclusion_199 (by decide) ?_
    refine sd_aload_n dRU_writeConclusion_200 rfl rfl ?_
    refine sd_iload dRU_writeConclusion_201 rfl ?_
    refine fx_cV 5 sR_RU [.int (nI (b))] [.int (nI (0)), .ref (o + (tmo ((st_cn S a + 1)))), .ref (o + (tmo (r)))] dRU_writeConclusion_203 kRU_74 rfl rfl mRU_conclusionOf_v (kB) (by decide) (Nat.le_refl _) (Nat.le_refl _) (Nat.le_of_ble_eq_true rfl) rfl ?_
    refine sd_iconst (v := nI 0) dRU_writeConclusion_206 (by decide) ?_
    refine fx_cP 7 sR_TM [.ref (o + (tmo ((st_cn S a + 1)))), .int (nI (0)), .ref (o + (tmo ((st_cn S b + 1)))), .int (nI (0))] [] dRU_writeConclusion_207 kRU_175 rfl (dk_tm (by omega)) mTM_addEquation_v (c_TM_addEquation (i := 0) (j := 0) (q := st_cn S a + 1) (p := st_cn S b + 1) hB (by omega) (by omega) (by omega) (by omega) (by omega) h m1 m2 m3.pos n1 n2 n3.pos) (by decide) (Nat.le_refl _) (Nat.le_refl _) (Nat.le_of_ble_eq_true rfl) rfl (fun D1 h1 => ?_)
    refine sd_goto 237 dRU_writeConclusion_210 (by decide) ?_
    exact sd_vret dRU_writeConclusion_237 rfl (Nat.le_refl _) (Nat.le_refl _) ⟨rfl, rfl, _, rfl, ⟨_, rfl, by have z := h1.1; rw [m3.part, n3.part] at z; exact z⟩, h1.2⟩
  · skip
    obtain ⟨ta, ea, ca, -, la, -, -, -⟩ := hW.cn hH ha
    obtain ⟨m1, m2, m3, m4, -⟩ := hW.tm la
    have kA := c_RU_conclusionOf (G := G) (o := o) (h0 := h0) (nx := nx) hW.2.2.1 ea (by omega)
    rw [ca] at kA
    simp only [ru_fit, Bool.and_eq_true, beq_iff_eq, tl_isE] at hfit
    have nb := hW.1 b hb
    refine sd_iload_n dRU_writeConclusion_0 rfl rfl ?_
    refine sd_tableIn (off := 141) 142 dRU_writeConclusion_1 (by decide) (by decide) (by decide) (by decide) ?_
    refine sd_aload_n dRU_writeConclusion_142 rfl rfl ?_
    refine sd_aload_n dRU_writeConclusion_143 rfl rfl ?_
    refine sd_aload_n dRU_writeConclusion_144 rfl rfl ?_
    refine sd_iload_n dRU_writeConclusion_145 rfl rfl ?_
    refine fx_cV 5 sR_RU [.int (nI (a))] [.ref (o + (tmo (r))), .ref (o + (307))] dRU_writeConclusion_146 kRU_74 rfl rfl mRU_conclusionOf_v (kA) (by decide) (Nat.le_refl _) (Nat.le_refl _) (Nat.le_of_ble_eq_true rfl) rfl ?_
    refine sd_iload dRU_writeConclusion_149 rfl ?_
    refine fx_cP 5 sR_RU [.ref (o + (tmo (r))), .ref (o + (tmo ((st_cn S a + 1)))), .int (nI (b))] [] dRU_writeConclusion_151 kRU_187 rfl rfl mRU_writeAbstracted_v (c_RU_writeAbstracted (q := st_cn S a + 1) hB (by omega) (by omega) (by omega) hb nb.1 nb.2 h m1 m2 m3 (hokc _ la) hfit.1) (by decide) (Nat.le_refl _) (Nat.le_refl _) (Nat.le_of_ble_eq_true rfl) rfl (fun D1 h1 => ?_)
    refine sd_goto 237 dRU_writeConclusion_154 (by decide) ?_
    obtain ⟨⟨X, hX1, hX2⟩, hf⟩ := h1
    refine sd_vret dRU_writeConclusion_237 rfl (Nat.le_refl _) (Nat.le_refl _) ⟨rfl, rfl, _, rfl, ⟨X, ?_, hX2⟩, hf⟩
    show (match (if _ then some _ else none : Option tl_T) with | some L => X = L | none => 24 < X.length)
    by_cases hj : Nat.log2 (st_nt S b) + Nat.log2 (tl_at (st_tm S (st_cn S a)) 1).2 ≤ 23
    · rw [if_pos hj] at hX1
      rw [if_pos hj]
      exact hX1
    · rw [if_neg hj] at hX1
      rw [if_neg hj]
      exact hX1
  · skip
    obtain ⟨ta, ea, ca, -, la, -, -, -⟩ := hW.cn hH ha
    obtain ⟨m1, m2, m3, m4, -⟩ := hW.tm la
    have kA := c_RU_conclusionOf (G := G) (o := o) (h0 := h0) (nx := nx) hW.2.2.1 ea (by omega)
    rw [ca] at kA
    obtain ⟨n1, n2, n3, n4, -⟩ := hW.tm hc
    refine sd_iload_n dRU_writeConclusion_0 rfl rfl ?_
    refine sd_tableIn (off := 212) 213 dRU_writeConclusion_1 (by decide) (by decide) (by decide) (by decide) ?_
    refine sd_aload_n dRU_writeConclusion_213 rfl rfl ?_
    refine sd_aload_n dRU_writeConclusion_214 rfl rfl ?_
    refine sd_iload_n dRU_writeConclusion_215 rfl rfl ?_
    refine fx_cV 5 sR_RU [.int (nI (a))] [.ref (o + (tmo (r)))] dRU_writeConclusion_216 kRU_74 rfl rfl mRU_conclusionOf_v (kA) (by decide) (Nat.le_refl _) (Nat.le_refl _) (Nat.le_of_ble_eq_true rfl) rfl ?_
    refine sd_iload dRU_writeConclusion_219 rfl ?_
    refine sd_aload_n dRU_writeConclusion_221 rfl rfl ?_
    refine fx_getr 5 0 (1) dRU_writeConclusion_222 fRU_17 rfl rfl ?_
    refine fx_getr 8 1 (3) dRU_writeConclusion_225 fRU_62 rfl rfl ?_
    refine sd_iload dRU_writeConclusion_228 rfl ?_
    refine fx_aald (c) dRU_writeConclusion_230 rfl rfl rfl (by omega) (by decide) ?_
    refine fx_cP 7 sR_TM [.ref (o + (tmo ((st_cn S a + 1)))), .int (nI (b)), .ref (o + (tmo ((c) + 1)))] [] dRU_writeConclusion_231 kRU_168 rfl (dk_tm (by omega)) mTM_addReplaced_v (c_TM_addReplaced (q := st_cn S a + 1) (p := c + 1) hB (by omega) (by omega) (by omega) (by omega) (by omega) hb h m1 n1 n2 n3) (by decide) (Nat.le_refl _) (Nat.le_refl _) (Nat.le_of_ble_eq_true rfl) rfl (fun D1 h1 => ?_)
    refine sd_goto 237 dRU_writeConclusion_234 (by decide) ?_
    exact sd_vret dRU_writeConclusion_237 rfl (Nat.le_refl _) (Nat.le_refl _) ⟨rfl, rfl, _, rfl, ⟨_, rfl, h1.1⟩, h1.2⟩
