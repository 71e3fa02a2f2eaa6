/-! ===== the class's Rules: frames, writers ===== -/
theorem tm_f.ag {r x : Nat} {D D' : fx_D} (h : tm_f r D D') (h0 : x ≠ tmo r) (h1 : x ≠ tmo r + 1) (h2 : x ≠ tmo r + 2) (h3 : x ≠ tmo r + 3) : ag D D' x := ⟨h.1 x h1 h2 h3, h.2.1 x h0, by rw [h.2.2]⟩
theorem ts_f.ag {x : Nat} {D D' : fx_D} (h : ts_f D D') (h0 : ¬ (8 ≤ x ∧ x < 296)) (h1 : x ≠ 1) : ag D D' x := ⟨h.1 x h0, funext fun j => h.2.1 x j h0 (by omega), by rw [h.2.2]⟩
theorem so_f.ag {s x : Nat} {D D' : fx_D} (h : so_f s D D') (h0 : x ≠ s) (h1 : x ≠ s + 1) : ag D D' x := ⟨h.1 x h1, funext fun j => h.2.1 x j (by omega), by rw [h.2.2]⟩
def ruf (s : Nat) (D D' : fx_D) : Prop := (∀ x, ¬ (8 ≤ x ∧ x < 296) → x ≠ s + 1 → D'.1 x = D.1 x) ∧ (∀ x, ¬ (8 ≤ x ∧ x < 296) → x ≠ 1 → x ≠ s → D'.2.1 x = D.2.1 x) ∧ D'.2.2 = D.2.2
theorem ruf.rf (s : Nat) (D : fx_D) : ruf s D D := ⟨fun _ _ _ => rfl, fun _ _ _ _ => rfl, rfl⟩
theorem ruf.tr {s : Nat} {D D' D2 : fx_D} (h : ruf s D D') (h2 : ruf s D' D2) : ruf s D D2 := ⟨fun x a b => (h2.1 x a b).trans (h.1 x a b), fun x a b c => (h2.2.1 x a b c).trans (h.2.1 x a b c), h2.2.2.trans h.2.2⟩
theorem ruf.so {s : Nat} {D D' : fx_D} (h : so_f s D D') : ruf s D D' := ⟨fun x _ b => h.1 x b, fun x _ _ c => funext fun j => h.2.1 x j (by omega), h.2.2⟩
theorem ruf.ts {s : Nat} {D D' : fx_D} (h : ts_f D D') : ruf s D D' := ⟨fun x a _ => h.1 x a, fun x a b _ => funext fun j => h.2.1 x j a (by omega), h.2.2⟩
theorem ruf.uf {s j : Nat} {D : fx_D} {v : Int32} : ruf s D (fx_uf D s j v) := ⟨fun _ _ _ => rfl, fun x _ _ c => by simp only [fx_uf, c, if_false], rfl⟩
theorem ruf.ag {s x : Nat} {D D' : fx_D} (h : ruf s D D') (h0 : ¬ (8 ≤ x ∧ x < 296)) (h1 : x ≠ 1) (h2 : x ≠ s) (h3 : x ≠ s + 1) : ag D D' x := ⟨h.1 x h0 h3, h.2.1 x h0 h1 h2, by rw [h.2.2]⟩
theorem so_w_ag {D D' : fx_D} {s : Nat} {L : List Nat} (a1 : ag D D' s) (a2 : ag D D' (s + 1)) (h : so_w D s L) : so_w D' s L := by
  rcases h with ⟨h1, h2, h3⟩ | ⟨h1, h2, R, h3⟩
  · exact Or.inl ⟨h1, so_r_ag a1 a2 h2, by rw [a1.2.1]; exact h3⟩
  · exact Or.inr ⟨h1, by rw [a1.2.1]; exact h2, R, so_r_ag a1 a2 h3⟩
theorem ts_T_so {D D' : fx_D} {s : Nat} {T : List tl_T} (hs : 296 ≤ s) (hf : so_f s D D') (h : ts_T D T) : ts_T D' T := by
  have h71 := h.1
  refine ⟨h.1, by rw [hf.2.1 1 2 (by omega)]; exact h.2.1, fun t l hl => ?_⟩
  have ht := getE_lt hl
  obtain ⟨a, b, c⟩ := h.2.2 t l hl
  have g : ∀ i, i ≤ 3 → ag D D' (tmo (t + 1) + i) := fun i hi => hf.ag (by unfold tmo; omega) (by unfold tmo; omega)
  exact ⟨tm_row_ag g a, tm_set_ag g b, c⟩
theorem ts_T_uf {D : fx_D} {s j : Nat} {v : Int32} {T : List tl_T} (hs : 296 ≤ s) (h : ts_T D T) : ts_T (fx_uf D s j v) T := by
  have h71 := h.1
  have e : ∀ x, x < 296 → ag D (fx_uf D s j v) x := fun x hx => ag_uf (by omega)
  refine ⟨h.1, by rw [(e 1 (by omega)).2.1]; exact h.2.1, fun t l hl => ?_⟩
  have ht := getE_lt hl
  obtain ⟨a, b, c⟩ := h.2.2 t l hl
  have g : ∀ i, i ≤ 3 → ag D (fx_uf D s j v) (tmo (t + 1) + i) := fun i hi => e _ (by unfold tmo; omega)
  exact ⟨tm_row_ag g a, tm_set_ag g b, c⟩
theorem ts_tm {S : st_S} {T : List tl_T} {D : fx_D} {t : Nat} (h2 : ts_T D T) (hX : ∃ X, T = st_T S ++ X) (ht : t < (st_T S).length) : tm_row D (t + 1) (st_tm S t) ∧ tm_set D (t + 1) (st_tm S t) ∧ tl_wf (st_tm S t) ∧ t < T.length ∧ T.length ≤ 71 := by
  obtain ⟨X, rfl⟩ := hX
  have e : (st_T S ++ X)[t]? = some (st_tm S t) := by
    rw [List.getElem?_append_left ht, st_tm, List.getElem?_eq_getElem ht]
    rfl
  obtain ⟨a, b, c⟩ := h2.2.2 t _ e
  exact ⟨a, b, c, by simp; omega, h2.1⟩
theorem dk_W.ag {S : st_S} {T : List tl_T} {D D' : fx_D} (h : dk_W S T D) (a2 : ag D D' 2) (a7 : ag D D' 307) (a : ∀ x, 309 ≤ x → x < 309 + 3 * (st_th S).length → ag D D' x) (hT : ts_T D' T) : dk_W S T D' := by
  refine ⟨dk_nt_ag a2 h.1, hT, ⟨h.2.2.1.1, by rw [a7.2.1]; exact h.2.2.1.2.1, fun p q hq => ?_⟩, h.2.2.2⟩
  have hp := getE_lt hq
  obtain ⟨b1, b2, b3, b4, b5, b6⟩ := h.2.2.1.2.2 p q hq
  have c0 := a (309 + 3 * p) (by omega) (by omega)
  have c1 := a (309 + 3 * p + 1) (by omega) (by omega)
  have c2 := a (309 + 3 * p + 1 + 1) (by omega) (by omega)
  exact ⟨so_r_ag c1 c2 b1, by rw [c1.2.1]; exact b2, by rw [c0.2.1]; exact b3, by rw [c0.2.1]; exact b4, by rw [c0.2.1]; exact b5, by rw [c0.2.2]; exact b6⟩
theorem dk_W.tmf {S : st_S} {T : List tl_T} {D D' : fx_D} {r : Nat} (h : dk_W S T D) (hr : T.length < r) (hr2 : r < 73) (hf : tm_f r D D') : dk_W S T D' :=
  h.ag (hf.ag (by unfold tmo; omega) (by unfold tmo; omega) (by unfold tmo; omega) (by unfold tmo; omega)) (hf.ag (by unfold tmo; omega) (by unfold tmo; omega) (by unfold tmo; omega) (by unfold tmo; omega)) (fun x h1 h2 => hf.ag (by unfold tmo; omega) (by unfold tmo; omega) (by unfold tmo; omega) (by unfold tmo; omega)) (ts_T_f (Or.inl hr) hf h.2.1)
theorem dk_W.rf {S : st_S} {T T' : List tl_T} {D D' : fx_D} (h : dk_W S T D) (hf : ruf (309 + 3 * (st_th S).length + 1) D D') (hT : ts_T D' T') (hX : ∃ X, T' = st_T S ++ X) : dk_W S T' D' := by
  have q : dk_W S T D' → dk_W S T' D' := fun g => ⟨g.1, hT, g.2.2.1, hX⟩
  have h40 := h.2.2.1.1
  obtain ⟨b1, -, b3, b4⟩ := h
  have a2 := hf.ag (x := 2) (by omega) (by omega) (by omega) (by omega)
  have a7 := hf.ag (x := 307) (by omega) (by omega) (by omega) (by omega)
  refine ⟨dk_nt_ag a2 b1, hT, ⟨b3.1, by rw [a7.2.1]; exact b3.2.1, fun p q hq => ?_⟩, hX⟩
  have hp := getE_lt hq
  obtain ⟨b1, b2, b3, b4, b5, b6⟩ := b3.2.2 p q hq
  have c0 := hf.ag (x := 309 + 3 * p) (by omega) (by omega) (by omega) (by omega)
  have c1 := hf.ag (x := 309 + 3 * p + 1) (by omega) (by omega) (by omega) (by omega)
  have c2 := hf.ag (x := 309 + 3 * p + 1 + 1) (by omega) (by omega) (by omega) (by omega)
  exact ⟨so_r_ag c1 c2 b1, by rw [c1.2.1]; exact b2, by rw [c0.2.1]; exact b3, by rw [c0.2.1]; exact b4, by rw [c0.2.1]; exact b5, by rw [c0.2.2]; exact b6⟩
theorem dRU_writeCombined_0 : decode prog_6_method_14_code 0 = .ok (.aload_n 1, 1) := by decide +kernel
theorem dRU_writeCombined_1 : decode prog_6_method_14_code 1 = .ok (.getfield 68, 3) := by decide +kernel
theorem dRU_writeCombined_4 : decode prog_6_method_14_code 4 = .ok (.iconst 1, 1) := by decide +kernel
theorem dRU_writeCombined_5 : decode prog_6_method_14_code 5 = .ok (.iaload, 1) := by decide +kernel
theorem dRU_writeCombined_6 : decode prog_6_method_14_code 6 = .ok (.invokestatic 195, 3) := by decide +kernel
theorem dRU_writeCombined_9 : decode prog_6_method_14_code 9 = .ok (.istore_n 3, 1) := by decide +kernel
theorem dRU_writeCombined_10 : decode prog_6_method_14_code 10 = .ok (.aload_n 0, 1) := by decide +kernel
theorem dRU_writeCombined_11 : decode prog_6_method_14_code 11 = .ok (.bipush (9), 2) := by decide +kernel
theorem dRU_writeCombined_13 : decode prog_6_method_14_code 13 = .ok (.iconst 4, 1) := by decide +kernel
theorem dRU_writeCombined_14 : decode prog_6_method_14_code 14 = .ok (.invokevirtual 198, 3) := by decide +kernel
theorem dRU_writeCombined_17 : decode prog_6_method_14_code 17 = .ok (.aload_n 0, 1) := by decide +kernel
theorem dRU_writeCombined_18 : decode prog_6_method_14_code 18 = .ok (.iload_n 3, 1) := by decide +kernel
theorem dRU_writeCombined_19 : decode prog_6_method_14_code 19 = .ok (.aload_n 1, 1) := by decide +kernel
theorem dRU_writeCombined_20 : decode prog_6_method_14_code 20 = .ok (.iconst 1, 1) := by decide +kernel
theorem dRU_writeCombined_21 : decode prog_6_method_14_code 21 = .ok (.aload_n 2, 1) := by decide +kernel
theorem dRU_writeCombined_22 : decode prog_6_method_14_code 22 = .ok (.iconst 1, 1) := by decide +kernel
theorem dRU_writeCombined_23 : decode prog_6_method_14_code 23 = .ok (.invokevirtual 202, 3) := by decide +kernel
theorem dRU_writeCombined_26 : decode prog_6_method_14_code 26 = .ok (.aload_n 0, 1) := by decide +kernel
theorem dRU_writeCombined_27 : decode prog_6_method_14_code 27 = .ok (.iload_n 3, 1) := by decide +kernel
theorem dRU_writeCombined_28 : decode prog_6_method_14_code 28 = .ok (.aload_n 1, 1) := by decide +kernel
theorem dRU_writeCombined_29 : decode prog_6_method_14_code 29 = .ok (.aload_n 1, 1) := by decide +kernel
theorem dRU_writeCombined_30 : decode prog_6_method_14_code 30 = .ok (.invokevirtual 101, 3) := by decide +kernel
theorem dRU_writeCombined_33 : decode prog_6_method_14_code 33 = .ok (.aload_n 2, 1) := by decide +kernel
theorem dRU_writeCombined_34 : decode prog_6_method_14_code 34 = .ok (.aload_n 2, 1) := by decide +kernel
theorem dRU_writeCombined_35 : decode prog_6_method_14_code 35 = .ok (.invokevirtual 101, 3) := by decide +kernel
theorem dRU_writeCombined_38 : decode prog_6_method_14_code 38 = .ok (.invokevirtual 202, 3) := by decide +kernel
theorem dRU_writeCombined_41 : decode prog_6_method_14_code 41 = .ok (.return_, 1) := by decide +kernel
theorem c_RU_writeCombined {G : sd_G} {o : Nat} {D : fx_D} {h0 : sd_H} {nx r q u : Nat} {l m : tl_T} (hB : G.2.1 ≤ o) (hr : r < 73) (hq : q < 73) (hu : u < 73) (hqr : q ≠ r) (hur : u ≠ r) (h : tw D r []) (hl : tm_row D q l) (sl : tm_set D q l) (wl : tl_wf l) (hm : tm_row D u m) (sm : tm_set D u m) (wm : tl_wf m) (hok : ∀ x ∈ l, ty_ok x.2) (h9 : (tl_at l 0).1 = 9) (k9 : (tl_at m 0).1 = 9) (hF : ty_isF (tl_at l 1).2 = true) : sd_Ct G mRU_writeCombined 3 0 0 [.ref (o + tmo r), .ref (o + tmo q), .ref (o + tmo u)] (fx_h G.1.2 dk_S o D h0) nx (fx_is G.1.2 dk_S o h0 nx none (fun D' => tw D' r ((9, 4) :: (8, ty_to (tl_at l 1).2) :: (tl_part l 1 ++ (tl_part m 1 ++ ((8, ty_to (tl_at l 1).2) :: (tl_part l (tl_end l 1) ++ tl_part m (tl_end m 1)))))) ∧ tm_f r D D')) := by
  refine sd_Ct_of (by decide) (Nat.le_of_ble_eq_true rfl) ?_
  obtain ⟨t1, t2, -⟩ := wl.two (by rw [h9]; rfl)
  obtain ⟨u1, u2, -⟩ := wm.two (by rw [k9]; rfl)
  have x1 := tl_at_some t1
  have l2 := (hl.2.2 1 _ x1).2.1
  have ok := hok _ (List.mem_of_getElem? x1)
  obtain ⟨rr, er⟩ := ty_fun_rem ok hF
  have tg := ty_to_g ok.1 ok.2.1 ⟨rr, er⟩
  refine sd_aload_n dRU_writeCombined_0 rfl rfl ?_
  refine fx_getr 7 1 (tmo (q) + 2) dRU_writeCombined_1 fRU_68 (dk_tm (by omega)) rfl ?_
  refine sd_iconst (v := nI 1) dRU_writeCombined_4 (by decide) ?_
  refine fx_ialdv (v := (nI ((tl_at l 1).2))) (1) dRU_writeCombined_5 (dk_tm2 (by omega)) rfl (by omega) (by decide) (l2) ?_
  refine sd_cS [.int (nI ((tl_at l 1).2))] [] dRU_writeCombined_6 kRU_195 mTY_to_s (c_TY_to ok.2.1 (by have := ok.1; omega) er) (by decide) (Nat.le_refl _) (Nat.le_refl _) (Nat.le_of_ble_eq_true rfl) rfl ?_
  refine sd_istore_n dRU_writeCombined_9 rfl (by decide) ?_
  refine sd_aload_n dRU_writeCombined_10 rfl rfl ?_
  refine sd_bipush (v := nI 9) dRU_writeCombined_11 (by decide) ?_
  refine sd_iconst (v := nI 4) dRU_writeCombined_13 (by decide) ?_
  refine fx_cP 7 sR_TM [.int (nI (9)), .int (nI (4))] [] dRU_writeCombined_14 kRU_198 rfl (dk_tm (by omega)) mTM_add_v (c_TM_add (s := 9) (t := 4) hB hr h (by omega) (by omega)) (by decide) (Nat.le_refl _) (Nat.le_refl _) (Nat.le_of_ble_eq_true rfl) rfl (fun D1 h1 => ?_)
  refine sd_aload_n dRU_writeCombined_17 rfl rfl ?_
  refine sd_iload_n dRU_writeCombined_18 rfl rfl ?_
  refine sd_aload_n dRU_writeCombined_19 rfl rfl ?_
  refine sd_iconst (v := nI 1) dRU_writeCombined_20 (by decide) ?_
  refine sd_aload_n dRU_writeCombined_21 rfl rfl ?_
  refine sd_iconst (v := nI 1) dRU_writeCombined_22 (by decide) ?_
  refine fx_cP 7 sR_TM [.int (nI (ty_to (tl_at l 1).2)), .ref (o + (tmo (q))), .int (nI (1)), .ref (o + (tmo (u))), .int (nI (1))] [] dRU_writeCombined_23 kRU_202 rfl (dk_tm (by omega)) mTM_addUse_v (c_TM_addUse (i := 1) (j := 1) hB hr hq hu hqr hur tg.2 h1.1 (tm_row_f h1.2 hqr hl) (tm_set_f h1.2 hqr sl) t1 (tm_row_f h1.2 hur hm) (tm_set_f h1.2 hur sm) u1) (by decide) (Nat.le_refl _) (Nat.le_refl _) (Nat.le_of_ble_eq_true rfl) rfl (fun D2 h2 => ?_)
  refine sd_aload_n dRU_writeCombined_26 rfl rfl ?_
  refine sd_iload_n dRU_writeCombined_27 rfl rfl ?_
  refine sd_aload_n dRU_writeCombined_28 rfl rfl ?_
  refine sd_aload_n dRU_writeCombined_29 rfl rfl ?_
  refine fx_cV 7 sR_TM [] [.ref (o + (tmo (q))), .int (nI (ty_to (tl_at l 1).2)), .ref (o + (tmo (r)))] dRU_writeCombined_30 kRU_101 rfl (dk_tm (by omega)) mTM_right_v (c_TM_right hq (tm_set_f h2.2 hqr (tm_set_f h1.2 hqr sl)) t1) (by decide) (Nat.le_refl _) (Nat.le_refl _) (Nat.le_of_ble_eq_true rfl) rfl ?_
  refine sd_aload_n dRU_writeCombined_33 rfl rfl ?_
  refine sd_aload_n dRU_writeCombined_34 rfl rfl ?_
  refine fx_cV 7 sR_TM [] [.ref (o + (tmo (u))), .int (nI (tl_end l 1)), .ref (o + (tmo (q))), .int (nI (ty_to (tl_at l 1).2)), .ref (o + (tmo (r)))] dRU_writeCombined_35 kRU_101 rfl (dk_tm (by omega)) mTM_right_v (c_TM_right hu (tm_set_f h2.2 hur (tm_set_f h1.2 hur sm)) u1) (by decide) (Nat.le_refl _) (Nat.le_refl _) (Nat.le_of_ble_eq_true rfl) rfl ?_
  refine fx_cP 7 sR_TM [.int (nI (ty_to (tl_at l 1).2)), .ref (o + (tmo (q))), .int (nI (tl_end l 1)), .ref (o + (tmo (u))), .int (nI (tl_end m 1))] [] dRU_writeCombined_38 kRU_202 rfl (dk_tm (by omega)) mTM_addUse_v (c_TM_addUse hB hr hq hu hqr hur tg.2 h2.1 (tm_row_f h2.2 hqr (tm_row_f h1.2 hqr hl)) (tm_set_f h2.2 hqr (tm_set_f h1.2 hqr sl)) t2 (tm_row_f h2.2 hur (tm_row_f h1.2 hur hm)) (tm_set_f h2.2 hur (tm_set_f h1.2 hur sm)) u2) (by decide) (Nat.le_refl _) (Nat.le_refl _) (Nat.le_of_ble_eq_true rfl) rfl (fun D3 h3 => ?_)
  exact sd_vret dRU_writeCombined_41 rfl (Nat.le_refl _) (Nat.le_refl _) ⟨rfl, rfl, _, rfl, by simpa using h3.1, h1.2.tr (h2.2.tr h3.2)⟩
theorem dRU_writeAbstracted_0 : decode prog_6_method_15_code 0 = .ok (.aload_n 0, 1) := by decide +kernel
theorem dRU_writeAbstracted_1 : decode prog_6_method_15_code 1 = .ok (.getfield 17, 3) := by decide +kernel
theorem dRU_writeAbstracted_4 : decode prog_6_method_15_code 4 = .ok (.getfield 98, 3) := by decide +kernel
theorem dRU_writeAbstracted_7 : decode prog_6_method_15_code 7 = .ok (.iload_n 3, 1) := by decide +kernel
theorem dRU_writeAbstracted_8 : decode prog_6_method_15_code 8 = .ok (.iaload, 1) := by decide +kernel
theorem dRU_writeAbstracted_9 : decode prog_6_method_15_code 9 = .ok (.aload_n 2, 1) := by decide +kernel
theorem dRU_writeAbstracted_10 : decode prog_6_method_15_code 10 = .ok (.getfield 68, 3) := by decide +kernel
theorem dRU_writeAbstracted_13 : decode prog_6_method_15_code 13 = .ok (.iconst 1, 1) := by decide +kernel
theorem dRU_writeAbstracted_14 : decode prog_6_method_15_code 14 = .ok (.iaload, 1) := by decide +kernel
theorem dRU_writeAbstracted_15 : decode prog_6_method_15_code 15 = .ok (.invokestatic 206, 3) := by decide +kernel
theorem dRU_writeAbstracted_18 : decode prog_6_method_15_code 18 = .ok (.istore 4, 2) := by decide +kernel
theorem dRU_writeAbstracted_20 : decode prog_6_method_15_code 20 = .ok (.aload_n 1, 1) := by decide +kernel
theorem dRU_writeAbstracted_21 : decode prog_6_method_15_code 21 = .ok (.bipush (9), 2) := by decide +kernel
theorem dRU_writeAbstracted_23 : decode prog_6_method_15_code 23 = .ok (.iconst 4, 1) := by decide +kernel
theorem dRU_writeAbstracted_24 : decode prog_6_method_15_code 24 = .ok (.invokevirtual 198, 3) := by decide +kernel
theorem dRU_writeAbstracted_27 : decode prog_6_method_15_code 27 = .ok (.aload_n 1, 1) := by decide +kernel
theorem dRU_writeAbstracted_28 : decode prog_6_method_15_code 28 = .ok (.iload 4, 2) := by decide +kernel
theorem dRU_writeAbstracted_30 : decode prog_6_method_15_code 30 = .ok (.aload_n 2, 1) := by decide +kernel
theorem dRU_writeAbstracted_31 : decode prog_6_method_15_code 31 = .ok (.iconst 1, 1) := by decide +kernel
theorem dRU_writeAbstracted_32 : decode prog_6_method_15_code 32 = .ok (.iload_n 3, 1) := by decide +kernel
theorem dRU_writeAbstracted_33 : decode prog_6_method_15_code 33 = .ok (.invokevirtual 210, 3) := by decide +kernel
theorem dRU_writeAbstracted_36 : decode prog_6_method_15_code 36 = .ok (.aload_n 1, 1) := by decide +kernel
theorem dRU_writeAbstracted_37 : decode prog_6_method_15_code 37 = .ok (.iload 4, 2) := by decide +kernel
theorem dRU_writeAbstracted_39 : decode prog_6_method_15_code 39 = .ok (.aload_n 2, 1) := by decide +kernel
theorem dRU_writeAbstracted_40 : decode prog_6_method_15_code 40 = .ok (.aload_n 2, 1) := by decide +kernel
theorem dRU_writeAbstracted_41 : decode prog_6_method_15_code 41 = .ok (.invokevirtual 101, 3) := by decide +kernel
theorem dRU_writeAbstracted_44 : decode prog_6_method_15_code 44 = .ok (.iload_n 3, 1) := by decide +kernel
theorem dRU_writeAbstracted_45 : decode prog_6_method_15_code 45 = .ok (.invokevirtual 210, 3) := by decide +kernel
theorem dRU_writeAbstracted_48 : decode prog_6_method_15_code 48 = .ok (.return_, 1) := by decide +kernel
theorem c_RU_writeAbstracted {G : sd_G} {o : Nat} {D : fx_D} {h0 : sd_H} {nx r q v t : Nat} {l : tl_T} (hB : G.2.1 ≤ o) (hr : r < 73) (hq : q < 73) (hqr : q ≠ r) (hv : v < 8) (hn : D.1 2 v = nI t) (ht : ty_ok t) (h : tw D r []) (hl : tm_row D q l) (sl : tm_set D q l) (wl : tl_wf l) (hok : ∀ x ∈ l, ty_ok x.2) (h9 : (tl_at l 0).1 = 9) : sd_Ct G mRU_writeAbstracted 3 0 0 [.ref (o + 307), .ref (o + tmo r), .ref (o + tmo q), .int (nI v)] (fx_h G.1.2 dk_S o D h0) nx (fx_is G.1.2 dk_S o h0 nx none (fun D' => (∃ X, (if Nat.log2 t + Nat.log2 (tl_at l 1).2 ≤ 23 then X = (9, 4) :: (10, ty_jn t (tl_at l 1).2) :: (tl_abs l 1 v ++ ((10, ty_jn t (tl_at l 1).2) :: tl_abs l (tl_end l 1) v)) else 24 < X.length) ∧ tw D' r X) ∧ tm_f r D D')) := by
  refine sd_Ct_of (by decide) (Nat.le_of_ble_eq_true rfl) ?_
  obtain ⟨t1, t2, -⟩ := wl.two (by rw [h9]; rfl)
  have x1 := tl_at_some t1
  have l2 := (hl.2.2 1 _ x1).2.1
  have ok := hok _ (List.mem_of_getElem? x1)
  have n1 := ok.1
  have n2 := ok.2.1
  have n3 := ht.1
  have n4 := ht.2.1
  have cj := c_TY_join (G := G) (h := fx_h G.1.2 dk_S o D h0) (nx := nx) (show t ≠ 0 by omega) (show (tl_at l 1).2 ≠ 0 by omega) n3 n1
  by_cases hj : Nat.log2 t + Nat.log2 (tl_at l 1).2 ≤ 23
  · rw [if_pos hj] at cj
    have tg := ty_jn_g (show t ≠ 0 by omega) hj
    refine sd_aload_n dRU_writeAbstracted_0 rfl rfl ?_
    refine fx_getr 5 0 (1) dRU_writeAbstracted_1 fRU_17 rfl rfl ?_
    refine fx_getr 8 0 (2) dRU_writeAbstracted_4 fRU_98 rfl rfl ?_
    refine sd_iload_n dRU_writeAbstracted_7 rfl rfl ?_
    refine fx_ialdv (v := (nI (t))) (v) dRU_writeAbstracted_8 rfl rfl (by omega) (by decide) (hn) ?_
    refine sd_aload_n dRU_writeAbstracted_9 rfl rfl ?_
    refine fx_getr 7 1 (tmo (q) + 2) dRU_writeAbstracted_10 fRU_68 (dk_tm (by omega)) rfl ?_
    refine sd_iconst (v := nI 1) dRU_writeAbstracted_13 (by decide) ?_
    refine fx_ialdv (v := (nI ((tl_at l 1).2))) (1) dRU_writeAbstracted_14 (dk_tm2 (by omega)) rfl (by omega) (by decide) (l2) ?_
    refine sd_cS [.int (nI (t)), .int (nI ((tl_at l 1).2))] [] dRU_writeAbstracted_15 kRU_206 mTY_join_s (cj) (by decide) (Nat.le_refl _) (Nat.le_refl _) (Nat.le_of_ble_eq_true rfl) rfl ?_
    refine sd_istore dRU_writeAbstracted_18 (by decide) ?_
    refine sd_aload_n dRU_writeAbstracted_20 rfl rfl ?_
    refine sd_bipush (v := nI 9) dRU_writeAbstracted_21 (by decide) ?_
    refine sd_iconst (v := nI 4) dRU_writeAbstracted_23 (by decide) ?_
    refine fx_cP 7 sR_TM [.int (nI (9)), .int (nI (4))] [] dRU_writeAbstracted_24 kRU_198 rfl (dk_tm (by omega)) mTM_add_v (c_TM_add (s := 9) (t := 4) hB hr h (by omega) (by omega)) (by decide) (Nat.le_refl _) (Nat.le_refl _) (Nat.le_of_ble_eq_true rfl) rfl (fun D1 h1 => ?_)
    refine sd_aload_n dRU_writeAbstracted_27 rfl rfl ?_
    refine sd_iload dRU_writeAbstracted_28 rfl ?_
    refine sd_aload_n dRU_writeAbstracted_30 rfl rfl ?_
    refine sd_iconst (v := nI 1) dRU_writeAbstracted_31 (by decide) ?_
    refine sd_iload_n dRU_writeAbstracted_32 rfl rfl ?_
    refine fx_cP 7 sR_TM [.int (nI (ty_jn t (tl_at l 1).2)), .ref (o + (tmo (q))), .int (nI (1)), .int (nI (v))] [] dRU_writeAbstracted_33 kRU_210 rfl (dk_tm (by omega)) mTM_addLambda_v (c_TM_addLambda (i := 1) hB hr hq hqr tg.2 hv h1.1 (tm_row_f h1.2 hqr hl) (tm_set_f h1.2 hqr sl) t1) (by decide) (Nat.le_refl _) (Nat.le_refl _) (Nat.le_of_ble_eq_true rfl) rfl (fun D2 h2 => ?_)
    refine sd_aload_n dRU_writeAbstracted_36 rfl rfl ?_
    refine sd_iload dRU_writeAbstracted_37 rfl ?_
    refine sd_aload_n dRU_writeAbstracted_39 rfl rfl ?_
    refine sd_aload_n dRU_writeAbstracted_40 rfl rfl ?_
    refine fx_cV 7 sR_TM [] [.ref (o + (tmo (q))), .int (nI (ty_jn t (tl_at l 1).2)), .ref (o + (tmo (r)))] dRU_writeAbstracted_41 kRU_101 rfl (dk_tm (by omega)) mTM_right_v (c_TM_right hq (tm_set_f h2.2 hqr (tm_set_f h1.2 hqr sl)) t1) (by decide) (Nat.le_refl _) (Nat.le_refl _) (Nat.le_of_ble_eq_true rfl) rfl ?_
    refine sd_iload_n dRU_writeAbstracted_44 rfl rfl ?_
    refine fx_cP 7 sR_TM [.int (nI (ty_jn t (tl_at l 1).2)), .ref (o + (tmo (q))), .int (nI (tl_end l 1)), .int (nI (v))] [] dRU_writeAbstracted_45 kRU_210 rfl (dk_tm (by omega)) mTM_addLambda_v (c_TM_addLambda hB hr hq hqr tg.2 hv h2.1 (tm_row_f h2.2 hqr (tm_row_f h1.2 hqr hl)) (tm_set_f h2.2 hqr (tm_set_f h1.2 hqr sl)) t2) (by decide) (Nat.le_refl _) (Nat.le_refl _) (Nat.le_of_ble_eq_true rfl) rfl (fun D3 h3 => ?_)
    exact sd_vret dRU_writeAbstracted_48 rfl (Nat.le_refl _) (Nat.le_refl _) ⟨rfl, rfl, _, rfl, ⟨_, by rw [if_pos hj], by simpa using h3.1⟩, h1.2.tr (h2.2.tr h3.2)⟩
  · rw [if_neg hj] at cj
    refine sd_aload_n dRU_writeAbstracted_0 rfl rfl ?_
    refine fx_getr 5 0 (1) dRU_writeAbstracted_1 fRU_17 rfl rfl ?_
    refine fx_getr 8 0 (2) dRU_writeAbstracted_4 fRU_98 rfl rfl ?_
    refine sd_iload_n dRU_writeAbstracted_7 rfl rfl ?_
    refine fx_ialdv (v := (nI (t))) (v) dRU_writeAbstracted_8 rfl rfl (by omega) (by decide) (hn) ?_
    refine sd_aload_n dRU_writeAbstracted_9 rfl rfl ?_
    refine fx_getr 7 1 (tmo (q) + 2) dRU_writeAbstracted_10 fRU_68 (dk_tm (by omega)) rfl ?_
    refine sd_iconst (v := nI 1) dRU_writeAbstracted_13 (by decide) ?_
    refine fx_ialdv (v := (nI ((tl_at l 1).2))) (1) dRU_writeAbstracted_14 (dk_tm2 (by omega)) rfl (by omega) (by decide) (l2) ?_
    refine sd_cS [.int (nI (t)), .int (nI ((tl_at l 1).2))] [] dRU_writeAbstracted_15 kRU_206 mTY_join_s (cj) (by decide) (Nat.le_refl _) (Nat.le_refl _) (Nat.le_of_ble_eq_true rfl) rfl ?_
    refine sd_istore dRU_writeAbstracted_18 (by decide) ?_
    refine sd_aload_n dRU_writeAbstracted_20 rfl rfl ?_
    refine sd_bipush (v := nI 9) dRU_writeAbstracted_21 (by decide) ?_
    refine sd_iconst (v := nI 4) dRU_writeAbstracted_23 (by decide) ?_
    refine fx_cP 7 sR_TM [.int (nI (9)), .int (nI (4))] [] dRU_writeAbstracted_24 kRU_198 rfl (dk_tm (by omega)) mTM_add_v (c_TM_add (s := 9) (t := 4) hB hr h (by omega) (by omega)) (by decide) (Nat.le_refl _) (Nat.le_refl _) (Nat.le_of_ble_eq_true rfl) rfl (fun D1 h1 => ?_)
    refine sd_aload_n dRU_writeAbstracted_27 rfl rfl ?_
    refine sd_iload dRU_writeAbstracted_28 rfl ?_
    refine sd_aload_n dRU_writeAbstracted_30 rfl rfl ?_
    refine sd_iconst (v := nI 1) dRU_writeAbstracted_31 (by decide) ?_
    refine sd_iload_n dRU_writeAbstracted_32 rfl rfl ?_
    refine fx_cP 7 sR_TM [.int ((-1)), .ref (o + (tmo (q))), .int (nI (1)), .int (nI (v))] [] dRU_writeAbstracted_33 kRU_210 rfl (dk_tm (by omega)) mTM_addLambda_v (c_TM_addLambdaBig (i := 1) hB hr hq hqr hv h1.1 (tm_row_f h1.2 hqr hl) (tm_set_f h1.2 hqr sl) t1) (by decide) (Nat.le_refl _) (Nat.le_refl _) (Nat.le_of_ble_eq_true rfl) rfl (fun D2 h2 => ?_)
    refine sd_aload_n dRU_writeAbstracted_36 rfl rfl ?_
    refine sd_iload dRU_writeAbstracted_37 rfl ?_
    refine sd_aload_n dRU_writeAbstracted_39 rfl rfl ?_
    refine sd_aload_n dRU_writeAbstracted_40 rfl rfl ?_
    refine fx_cV 7 sR_TM [] [.ref (o + (tmo (q))), .int ((-1)), .ref (o + (tmo (r)))] dRU_writeAbstracted_41 kRU_101 rfl (dk_tm (by omega)) mTM_right_v (c_TM_right hq (tm_set_f h2.2 hqr (tm_set_f h1.2 hqr sl)) t1) (by decide) (Nat.le_refl _) (Nat.le_refl _) (Nat.le_of_ble_eq_true rfl) rfl ?_
    refine sd_iload_n dRU_writeAbstracted_44 rfl rfl ?_
    refine fx_cP 7 sR_TM [.int ((-1)), .ref (o + (tmo (q))), .int (nI (tl_end l 1)), .int (nI (v))] [] dRU_writeAbstracted_45 kRU_210 rfl (dk_tm (by omega)) mTM_addLambda_v (c_TM_addLambdaBig hB hr hq hqr hv h2.1 (tm_row_f h2.2 hqr (tm_row_f h1.2 hqr hl)) (tm_set_f h2.2 hqr (tm_set_f h1.2 hqr sl)) t2) (by decide) (Nat.le_refl _) (Nat.le_refl _) (Nat.le_of_ble_eq_true rfl) rfl (fun D3 h3 => ?_)
    exact sd_vret dRU_writeAbstracted_48 rfl (Nat.le_refl _) (Nat.le_refl _) ⟨rfl, rfl, _, rfl, ⟨_, by rw [if_neg hj, List.length_append]; show 24 < 25 + _; omega, h3.1⟩, h1.2.tr (h2.2.tr h3.2)⟩
theorem dRU_writeReduced_0 : decode prog_6_method_16_code 0 = .ok (.aload_n 0, 1) := by decide +kernel
theorem dRU_writeReduced_1 : decode prog_6_method_16_code 1 = .ok (.bipush (9), 2) := by decide +kernel
theorem dRU_writeReduced_3 : decode prog_6_method_16_code 3 = .ok (.iconst 4, 1) := by decide +kernel
theorem dRU_writeReduced_4 : decode prog_6_method_16_code 4 = .ok (.invokevirtual 198, 3) := by decide +kernel
theorem dRU_writeReduced_7 : decode prog_6_method_16_code 7 = .ok (.aload_n 0, 1) := by decide +kernel
theorem dRU_writeReduced_8 : decode prog_6_method_16_code 8 = .ok (.aload_n 1, 1) := by decide +kernel
theorem dRU_writeReduced_9 : decode prog_6_method_16_code 9 = .ok (.iconst 0, 1) := by decide +kernel
theorem dRU_writeReduced_10 : decode prog_6_method_16_code 10 = .ok (.invokevirtual 179, 3) := by decide +kernel
theorem dRU_writeReduced_13 : decode prog_6_method_16_code 13 = .ok (.aload_n 0, 1) := by decide +kernel
theorem dRU_writeReduced_14 : decode prog_6_method_16_code 14 = .ok (.aload_n 1, 1) := by decide +kernel
theorem dRU_writeReduced_15 : decode prog_6_method_16_code 15 = .ok (.iconst 2, 1) := by decide +kernel
theorem dRU_writeReduced_16 : decode prog_6_method_16_code 16 = .ok (.aload_n 1, 1) := by decide +kernel
theorem dRU_writeReduced_17 : decode prog_6_method_16_code 17 = .ok (.aload_n 1, 1) := by decide +kernel
theorem dRU_writeReduced_18 : decode prog_6_method_16_code 18 = .ok (.getfield 214, 3) := by decide +kernel
theorem dRU_writeReduced_21 : decode prog_6_method_16_code 21 = .ok (.iconst 1, 1) := by decide +kernel
theorem dRU_writeReduced_22 : decode prog_6_method_16_code 22 = .ok (.iaload, 1) := by decide +kernel
theorem dRU_writeReduced_23 : decode prog_6_method_16_code 23 = .ok (.invokevirtual 217, 3) := by decide +kernel
theorem dRU_writeReduced_26 : decode prog_6_method_16_code 26 = .ok (.return_, 1) := by decide +kernel
theorem c_RU_writeReduced {G : sd_G} {o : Nat} {D : fx_D} {h0 : sd_H} {nx r q : Nat} {l : tl_T} (hB : G.2.1 ≤ o) (hr : r < 73) (hq : q < 73) (hqr : q ≠ r) (h : tw D r []) (hl : tm_row D q l) (sl : tm_set D q l) (wl : tl_wf l) (hb : tl_isB l 0 = true) : sd_Ct G mRU_writeReduced 3 0 0 [.ref (o + tmo r), .ref (o + tmo q)] (fx_h G.1.2 dk_S o D h0) nx (fx_is G.1.2 dk_S o h0 nx none (fun D' => tw D' r ((9, 4) :: (l ++ tl_beta l 0)) ∧ tm_f r D D')) := by
  refine sd_Ct_of (by decide) (Nat.le_of_ble_eq_true rfl) ?_
  have hb' := tl_isB_iff.mp hb
  obtain ⟨t1, t2, -⟩ := wl.two (by rw [hb'.1]; rfl)
  obtain ⟨t3, t4⟩ := (tl_end_ar (tl_ok_drop _ 1 1 wl.1 wl.2.1 t1) t1).2.1 (by rw [hb'.2]; rfl)
  have e : tl_sub (tl_of l 2 (.inl (tl_part l (tl_end l 1)))) l 2 (tl_end l 2 - 2) = tl_beta l 0 := by
    show _ = tl_sub (tl_of l 2 _) l 2 (tl_end l 1 - 2)
    rw [t4]
  refine sd_aload_n dRU_writeReduced_0 rfl rfl ?_
  refine sd_bipush (v := nI 9) dRU_writeReduced_1 (by decide) ?_
  refine sd_iconst (v := nI 4) dRU_writeReduced_3 (by decide) ?_
  refine fx_cP 7 sR_TM [.int (nI (9)), .int (nI (4))] [] dRU_writeReduced_4 kRU_198 rfl (dk_tm (by omega)) mTM_add_v (c_TM_add (s := 9) (t := 4) hB hr h (by omega) (by omega)) (by decide) (Nat.le_refl _) (Nat.le_refl _) (Nat.le_of_ble_eq_true rfl) rfl (fun D1 h1 => ?_)
  refine sd_aload_n dRU_writeReduced_7 rfl rfl ?_
  refine sd_aload_n dRU_writeReduced_8 rfl rfl ?_
  refine sd_iconst (v := nI 0) dRU_writeReduced_9 (by decide) ?_
  refine fx_cP 7 sR_TM [.ref (o + (tmo (q))), .int (nI (0))] [] dRU_writeReduced_10 kRU_179 rfl (dk_tm (by omega)) mTM_addPart_v (c_TM_addPart (i := 0) hB hr hq hqr h1.1 (tm_row_f h1.2 hqr hl) (tm_set_f h1.2 hqr sl) (by omega)) (by decide) (Nat.le_refl _) (Nat.le_refl _) (Nat.le_of_ble_eq_true rfl) rfl (fun D2 h2 => ?_)
  refine sd_aload_n dRU_writeReduced_13 rfl rfl ?_
  refine sd_aload_n dRU_writeReduced_14 rfl rfl ?_
  refine sd_iconst (v := nI 2) dRU_writeReduced_15 (by decide) ?_
  refine sd_aload_n dRU_writeReduced_16 rfl rfl ?_
  refine sd_aload_n dRU_writeReduced_17 rfl rfl ?_
  refine fx_getr 7 2 (tmo (q) + 3) dRU_writeReduced_18 fRU_214 (dk_tm (by omega)) rfl ?_
  refine sd_iconst (v := nI 1) dRU_writeReduced_21 (by decide) ?_
  refine fx_ialdv (v := (nI (tl_end l 1))) (1) dRU_writeReduced_22 (dk_tm3 (by omega)) rfl (by omega) (by decide) ((tm_set_f h2.2 hqr (tm_set_f h1.2 hqr sl)) 1 t1) ?_
  refine fx_cP 7 sR_TM [.ref (o + (tmo (q))), .int (nI (2)), .ref (o + (tmo (q))), .int (nI (tl_end l 1))] [] dRU_writeReduced_23 kRU_217 rfl (dk_tm (by omega)) mTM_addFilled_v (c_TM_addFilled (i := 2) (j := tl_end l 1) hB hr hq hq hqr hqr h2.1 (tm_row_f h2.2 hqr (tm_row_f h1.2 hqr hl)) (tm_set_f h2.2 hqr (tm_set_f h1.2 hqr sl)) t3 (tm_row_f h2.2 hqr (tm_row_f h1.2 hqr hl)) (tm_set_f h2.2 hqr (tm_set_f h1.2 hqr sl)) t2) (by decide) (Nat.le_refl _) (Nat.le_refl _) (Nat.le_of_ble_eq_true rfl) rfl (fun D3 h3 => ?_)
  exact sd_vret dRU_writeReduced_26 rfl (Nat.le_refl _) (Nat.le_refl _) ⟨rfl, rfl, _, rfl, by have z := h3.1; rw [e, wl.part] at z; simpa using z, h1.2.tr (h2.2.tr h3.2)⟩
