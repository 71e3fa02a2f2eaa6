/-! ===== the class's Terms: fresh, keep ===== -/
theorem c_MA_mn {G : sd_G} {h : sd_H} {nx a b c : Nat} (ha : a < 2 ^ 31) (hb : b < 2 ^ 31) (hc : c = min a b) : sd_Ct G mMA_min 0 0 0 [.int (nI a), .int (nI b)] h nx (sd_is (some (.int (nI c))) h nx) := by
  rw [hc]
  exact c_MA_min ha hb
theorem c_MA_mx {G : sd_G} {h : sd_H} {nx a b c : Nat} (ha : a < 2 ^ 31) (hb : b < 2 ^ 31) (hc : c = max a b) : sd_Ct G mMA_max 0 0 0 [.int (nI a), .int (nI b)] h nx (sd_is (some (.int (nI c))) h nx) := by
  rw [hc]
  exact c_MA_max ha hb
/-- the terms behind one more, however many they be -/
def tl_ku (T : List tl_T) (l : tl_T) : List tl_T := match T.idxOf? l with
  | some _ => T
  | none => T ++ [l]
theorem tl_first {T : List tl_T} {l : tl_T} {k : Nat} (h : T[k]? = some l) (hno : ∀ j, j < k → T[j]? ≠ some l) : T.idxOf? l = some k := by
  rw [List.idxOf?_eq_some_iff]
  obtain ⟨h1, h2⟩ := List.getElem?_eq_some_iff.mp h
  refine ⟨h1, by simpa using h2, fun j hj => ?_⟩
  have := hno j hj
  rw [List.getElem?_eq_getElem (by omega)] at this
  simpa using this
theorem tl_nowhere {T : List tl_T} {l : tl_T} (hno : ∀ j, j < T.length → T[j]? ≠ some l) : T.idxOf? l = none := by
  rw [List.idxOf?_eq_none_iff]
  intro hm
  obtain ⟨j, hj, e⟩ := List.mem_iff_getElem.mp hm
  exact hno j hj (by rw [List.getElem?_eq_getElem hj, e])
theorem tl_wf.pos {l : tl_T} (h : tl_wf l) : 0 < l.length := getE_lt h.hd
/-- D' differs from D in the rows of terms, and in how many there are -/
def ts_f (D D' : fx_D) : Prop := (∀ x, ¬ (8 ≤ x ∧ x < 296) → D'.1 x = D.1 x) ∧ (∀ x j, ¬ (8 ≤ x ∧ x < 296) → ¬ (x = 1 ∧ j = 2) → D'.2.1 x j = D.2.1 x j) ∧ D'.2.2 = D.2.2
theorem ts_f.rf (D : fx_D) : ts_f D D := ⟨fun _ _ => rfl, fun _ _ _ _ => rfl, rfl⟩
theorem ts_f.tr {D D' D2 : fx_D} (h : ts_f D D') (h2 : ts_f D' D2) : ts_f D D2 := ⟨fun x a => (h2.1 x a).trans (h.1 x a), fun x j a b => (h2.2.1 x j a b).trans (h.2.1 x j a b), h2.2.2.trans h.2.2⟩
theorem ts_f.row {r : Nat} {D D' : fx_D} (h0 : 0 < r) (hr : r < 73) (h : tm_f r D D') : ts_f D D' := by
  have e : tmo r = 4 + 4 * r := rfl
  exact ⟨fun x a => h.1 x (by omega) (by omega) (by omega), fun x j a _ => by rw [h.2.1 x (by omega)], h.2.2⟩
theorem ts_f.made (D : fx_D) {v : Int32} : ts_f D (fx_uf D 1 2 v) := ⟨fun _ _ => rfl, fun x j _ b => by
  by_cases hx : x = 1
  · have hj : ¬ j = 2 := fun e => b ⟨hx, e⟩
    simp [fx_uf, upd, hx, hj]
  · simp [fx_uf, hx], rfl⟩
theorem ts_f.row0 {D D' : fx_D} {l : tl_T} (h : ts_f D D') (hl : tm_row D 0 l) : tm_row D' 0 l := by
  refine ⟨hl.1, by rw [h.2.1 _ _ (by show ¬ (8 ≤ 4 ∧ 4 < 296); omega) (by show ¬ (4 = 1 ∧ 3 = 2); omega)]; exact hl.2.1, fun k x hx => ?_⟩
  rw [h.1 (tmo 0 + 1) (by show ¬ (8 ≤ 5 ∧ 5 < 296); omega), h.1 (tmo 0 + 2) (by show ¬ (8 ≤ 6 ∧ 6 < 296); omega)]
  exact hl.2.2 k x hx
theorem ts_f.set0 {D D' : fx_D} {l : tl_T} (h : ts_f D D') (hl : tm_set D 0 l) : tm_set D' 0 l := fun k hk => by
  rw [h.1 (tmo 0 + 3) (by show ¬ (8 ≤ 7 ∧ 7 < 296); omega)]
  exact hl k hk
theorem ts_T_f {D D' : fx_D} {T : List tl_T} {r : Nat} (hr : T.length < r ∨ r = 0) (hf : tm_f r D D') (h : ts_T D T) : ts_T D' T := by
  refine ⟨h.1, ?_, fun t l hl => ?_⟩
  · rw [hf.2.1 1 (by show 1 ≠ 4 + 4 * r; omega)]
    exact h.2.1
  · have ht := getE_lt hl
    obtain ⟨a, b, c⟩ := h.2.2 t l hl
    exact ⟨tm_row_f hf (by omega) a, tm_set_f hf (by omega) b, c⟩
theorem tm_row_s {D D' : fx_D} {r : Nat} {l : tl_T} (h1 : ∀ x, x ≠ tmo r + 3 → D'.1 x = D.1 x) (h2 : D'.2 = D.2) (h : tm_row D r l) : tm_row D' r l := ⟨h.1, by rw [h2]; exact h.2.1, fun k x hx => by
  rw [h1 _ (by omega), h1 _ (by omega)]
  exact h.2.2 k x hx⟩
theorem tm_f_s {D D' : fx_D} {r : Nat} (h1 : ∀ x, x ≠ tmo r + 3 → D'.1 x = D.1 x) (h2 : D'.2 = D.2) : tm_f r D D' := ⟨fun x _ _ c => h1 x c, fun x _ => by rw [h2], by rw [h2]⟩
theorem tm_row_m {D : fx_D} {r : Nat} {l : tl_T} {v : Int32} (h : tm_row D r l) : tm_row (fx_uf D 1 2 v) r l := by
  have e : ¬ tmo r = 1 := by
    show ¬ 4 + 4 * r = 1
    omega
  refine ⟨h.1, ?_, h.2.2⟩
  simp only [fx_uf, e, if_false]
  exact h.2.1
theorem ts_T_add {D : fx_D} {T : List tl_T} {L : tl_T} (hT : ts_T D T) (hn : T.length ≤ 70) (hl : tm_row D (T.length + 1) L) (hs : tm_set D (T.length + 1) L) (hw : tl_wf L) : ts_T (fx_uf D 1 2 (nI (T.length + 1))) (T ++ [L]) := by
  refine ⟨by rw [List.length_append, List.length_singleton]; omega, by rw [List.length_append, List.length_singleton]; simp [fx_uf, upd], fun t l ht => ?_⟩
  by_cases hlt : t < T.length
  · rw [List.getElem?_append_left hlt] at ht
    obtain ⟨a, b, c⟩ := hT.2.2 t l ht
    exact ⟨tm_row_m a, b, c⟩
  · have hg := getE_lt ht
    rw [List.length_append, List.length_singleton] at hg
    rw [List.getElem?_append_right (by omega), show t - T.length = 0 by omega] at ht
    cases ht
    obtain rfl : t = T.length := by omega
    exact ⟨tm_row_m hl, hs, hw⟩
theorem dTS_fresh_0 : decode prog_9_method_4_code 0 = .ok (.aload_n 0, 1) := by decide +kernel
theorem dTS_fresh_1 : decode prog_9_method_4_code 1 = .ok (.getfield 17, 3) := by decide +kernel
theorem dTS_fresh_4 : decode prog_9_method_4_code 4 = .ok (.aload_n 0, 1) := by decide +kernel
theorem dTS_fresh_5 : decode prog_9_method_4_code 5 = .ok (.getfield 26, 3) := by decide +kernel
theorem dTS_fresh_8 : decode prog_9_method_4_code 8 = .ok (.aload_n 0, 1) := by decide +kernel
theorem dTS_fresh_9 : decode prog_9_method_4_code 9 = .ok (.getfield 17, 3) := by decide +kernel
theorem dTS_fresh_12 : decode prog_9_method_4_code 12 = .ok (.arraylength, 1) := by decide +kernel
theorem dTS_fresh_13 : decode prog_9_method_4_code 13 = .ok (.iconst 1, 1) := by decide +kernel
theorem dTS_fresh_14 : decode prog_9_method_4_code 14 = .ok (.isub, 1) := by decide +kernel
theorem dTS_fresh_15 : decode prog_9_method_4_code 15 = .ok (.invokestatic 30, 3) := by decide +kernel
theorem dTS_fresh_18 : decode prog_9_method_4_code 18 = .ok (.aaload, 1) := by decide +kernel
theorem dTS_fresh_19 : decode prog_9_method_4_code 19 = .ok (.astore_n 1, 1) := by decide +kernel
theorem dTS_fresh_20 : decode prog_9_method_4_code 20 = .ok (.aload_n 1, 1) := by decide +kernel
theorem dTS_fresh_21 : decode prog_9_method_4_code 21 = .ok (.invokevirtual 36, 3) := by decide +kernel
theorem dTS_fresh_24 : decode prog_9_method_4_code 24 = .ok (.aload_n 1, 1) := by decide +kernel
theorem dTS_fresh_25 : decode prog_9_method_4_code 25 = .ok (.areturn, 1) := by decide +kernel
theorem c_TS_fresh {G : sd_G} {o : Nat} {D : fx_D} {h0 : sd_H} {nx n : Nat} (hB : G.2.1 ≤ o) (hn : n ≤ 71) (hl : D.2.1 1 2 = nI n) : sd_Ct G mTS_fresh 1 0 0 [.ref (o + 1)] (fx_h G.1.2 dk_S o D h0) nx (fx_is G.1.2 dk_S o h0 nx (some (.ref (o + tmo (n + 1)))) (fun D' => tw D' (n + 1) [] ∧ tm_f (n + 1) D D')) := by
  refine sd_Ct_of (by decide) (Nat.le_of_ble_eq_true rfl) ?_
  refine sd_aload_n dTS_fresh_0 rfl rfl ?_
  refine fx_getr 8 1 (3) dTS_fresh_1 fTS_17 rfl rfl ?_
  refine sd_aload_n dTS_fresh_4 rfl rfl ?_
  refine fx_getiv (v := (nI (n))) 8 2 dTS_fresh_5 fTS_26 rfl rfl (hl) ?_
  refine sd_aload_n dTS_fresh_8 rfl rfl ?_
  refine fx_getr 8 1 (3) dTS_fresh_9 fTS_17 rfl rfl ?_
  refine fx_alenr dTS_fresh_12 rfl rfl ?_
  refine sd_iconst (v := nI 1) dTS_fresh_13 (by decide) ?_
  refine nn_isub dTS_fresh_14 (by omega) ?_
  refine sd_cS [.int (nI (n)), .int (nI (72 - 1))] [.ref (o + (3))] dTS_fresh_15 kTS_30 mMA_min_s (c_MA_mn (c := n) (by omega) (by omega) (by omega)) (by decide) (Nat.le_refl _) (Nat.le_refl _) (Nat.le_of_ble_eq_true rfl) rfl ?_
  refine fx_aald (n) dTS_fresh_18 rfl rfl rfl (by omega) (by decide) ?_
  refine sd_astore_n dTS_fresh_19 rfl (by decide) ?_
  refine sd_aload_n dTS_fresh_20 rfl rfl ?_
  refine fx_cV 7 sR_TM [] [] dTS_fresh_21 kTS_36 rfl (dk_tm (by omega)) mTM_begin_v (c_TM_begin hB (by omega)) (by decide) (Nat.le_refl _) (Nat.le_refl _) (Nat.le_of_ble_eq_true rfl) rfl ?_
  refine sd_aload_n dTS_fresh_24 rfl rfl ?_
  exact sd_aret dTS_fresh_25 rfl (Nat.le_refl _) (Nat.le_refl _) ⟨rfl, rfl, _, rfl, tw_begin⟩
theorem dTS_keep_0 : decode prog_9_method_5_code 0 = .ok (.aload_n 0, 1) := by decide +kernel
theorem dTS_keep_1 : decode prog_9_method_5_code 1 = .ok (.getfield 17, 3) := by decide +kernel
theorem dTS_keep_4 : decode prog_9_method_5_code 4 = .ok (.aload_n 0, 1) := by decide +kernel
theorem dTS_keep_5 : decode prog_9_method_5_code 5 = .ok (.getfield 26, 3) := by decide +kernel
theorem dTS_keep_8 : decode prog_9_method_5_code 8 = .ok (.aload_n 0, 1) := by decide +kernel
theorem dTS_keep_9 : decode prog_9_method_5_code 9 = .ok (.getfield 17, 3) := by decide +kernel
theorem dTS_keep_12 : decode prog_9_method_5_code 12 = .ok (.arraylength, 1) := by decide +kernel
theorem dTS_keep_13 : decode prog_9_method_5_code 13 = .ok (.iconst 1, 1) := by decide +kernel
theorem dTS_keep_14 : decode prog_9_method_5_code 14 = .ok (.isub, 1) := by decide +kernel
theorem dTS_keep_15 : decode prog_9_method_5_code 15 = .ok (.invokestatic 30, 3) := by decide +kernel
theorem dTS_keep_18 : decode prog_9_method_5_code 18 = .ok (.aaload, 1) := by decide +kernel
theorem dTS_keep_19 : decode prog_9_method_5_code 19 = .ok (.astore_n 1, 1) := by decide +kernel
theorem dTS_keep_20 : decode prog_9_method_5_code 20 = .ok (.aload_n 1, 1) := by decide +kernel
theorem dTS_keep_21 : decode prog_9_method_5_code 21 = .ok (.getfield 39, 3) := by decide +kernel
theorem dTS_keep_24 : decode prog_9_method_5_code 24 = .ok (.ifCond .eq (6), 3) := by decide +kernel
theorem dTS_keep_27 : decode prog_9_method_5_code 27 = .ok (.bipush (-5), 2) := by decide +kernel
theorem dTS_keep_29 : decode prog_9_method_5_code 29 = .ok (.ireturn, 1) := by decide +kernel
theorem dTS_keep_30 : decode prog_9_method_5_code 30 = .ok (.aload_n 1, 1) := by decide +kernel
theorem dTS_keep_31 : decode prog_9_method_5_code 31 = .ok (.invokevirtual 43, 3) := by decide +kernel
theorem dTS_keep_34 : decode prog_9_method_5_code 34 = .ok (.iconst 0, 1) := by decide +kernel
theorem dTS_keep_35 : decode prog_9_method_5_code 35 = .ok (.istore_n 2, 1) := by decide +kernel
theorem dTS_keep_36 : decode prog_9_method_5_code 36 = .ok (.iload_n 2, 1) := by decide +kernel
theorem dTS_keep_37 : decode prog_9_method_5_code 37 = .ok (.aload_n 0, 1) := by decide +kernel
theorem dTS_keep_38 : decode prog_9_method_5_code 38 = .ok (.getfield 26, 3) := by decide +kernel
theorem dTS_keep_41 : decode prog_9_method_5_code 41 = .ok (.if_icmp .ge (35), 3) := by decide +kernel
theorem dTS_keep_44 : decode prog_9_method_5_code 44 = .ok (.iload_n 2, 1) := by decide +kernel
theorem dTS_keep_45 : decode prog_9_method_5_code 45 = .ok (.aload_n 0, 1) := by decide +kernel
theorem dTS_keep_46 : decode prog_9_method_5_code 46 = .ok (.getfield 17, 3) := by decide +kernel
theorem dTS_keep_49 : decode prog_9_method_5_code 49 = .ok (.arraylength, 1) := by decide +kernel
theorem dTS_keep_50 : decode prog_9_method_5_code 50 = .ok (.if_icmp .ge (26), 3) := by decide +kernel
theorem dTS_keep_53 : decode prog_9_method_5_code 53 = .ok (.aload_n 0, 1) := by decide +kernel
theorem dTS_keep_54 : decode prog_9_method_5_code 54 = .ok (.getfield 17, 3) := by decide +kernel
theorem dTS_keep_57 : decode prog_9_method_5_code 57 = .ok (.iload_n 2, 1) := by decide +kernel
theorem dTS_keep_58 : decode prog_9_method_5_code 58 = .ok (.aaload, 1) := by decide +kernel
theorem dTS_keep_59 : decode prog_9_method_5_code 59 = .ok (.iconst 0, 1) := by decide +kernel
theorem dTS_keep_60 : decode prog_9_method_5_code 60 = .ok (.aload_n 1, 1) := by decide +kernel
theorem dTS_keep_61 : decode prog_9_method_5_code 61 = .ok (.iconst 0, 1) := by decide +kernel
theorem dTS_keep_62 : decode prog_9_method_5_code 62 = .ok (.invokestatic 46, 3) := by decide +kernel
theorem dTS_keep_65 : decode prog_9_method_5_code 65 = .ok (.ifCond .eq (5), 3) := by decide +kernel
theorem dTS_keep_68 : decode prog_9_method_5_code 68 = .ok (.iload_n 2, 1) := by decide +kernel
theorem dTS_keep_69 : decode prog_9_method_5_code 69 = .ok (.ireturn, 1) := by decide +kernel
theorem dTS_keep_70 : decode prog_9_method_5_code 70 = .ok (.iinc 2 (1), 3) := by decide +kernel
theorem dTS_keep_73 : decode prog_9_method_5_code 73 = .ok (.goto (-37), 3) := by decide +kernel
theorem dTS_keep_76 : decode prog_9_method_5_code 76 = .ok (.aload_n 0, 1) := by decide +kernel
theorem dTS_keep_77 : decode prog_9_method_5_code 77 = .ok (.aload_n 0, 1) := by decide +kernel
theorem dTS_keep_78 : decode prog_9_method_5_code 78 = .ok (.getfield 26, 3) := by decide +kernel
theorem dTS_keep_81 : decode prog_9_method_5_code 81 = .ok (.iconst 1, 1) := by decide +kernel
theorem dTS_keep_82 : decode prog_9_method_5_code 82 = .ok (.iadd, 1) := by decide +kernel
theorem dTS_keep_83 : decode prog_9_method_5_code 83 = .ok (.aload_n 0, 1) := by decide +kernel
theorem dTS_keep_84 : decode prog_9_method_5_code 84 = .ok (.getfield 17, 3) := by decide +kernel
theorem dTS_keep_87 : decode prog_9_method_5_code 87 = .ok (.arraylength, 1) := by decide +kernel
theorem dTS_keep_88 : decode prog_9_method_5_code 88 = .ok (.iconst 1, 1) := by decide +kernel
theorem dTS_keep_89 : decode prog_9_method_5_code 89 = .ok (.isub, 1) := by decide +kernel
theorem dTS_keep_90 : decode prog_9_method_5_code 90 = .ok (.invokestatic 30, 3) := by decide +kernel
theorem dTS_keep_93 : decode prog_9_method_5_code 93 = .ok (.putfield 26, 3) := by decide +kernel
theorem dTS_keep_96 : decode prog_9_method_5_code 96 = .ok (.aload_n 0, 1) := by decide +kernel
theorem dTS_keep_97 : decode prog_9_method_5_code 97 = .ok (.getfield 26, 3) := by decide +kernel
theorem dTS_keep_100 : decode prog_9_method_5_code 100 = .ok (.iconst 1, 1) := by decide +kernel
theorem dTS_keep_101 : decode prog_9_method_5_code 101 = .ok (.isub, 1) := by decide +kernel
theorem dTS_keep_102 : decode prog_9_method_5_code 102 = .ok (.ireturn, 1) := by decide +kernel
theorem l_TS_keep {G : sd_G} {o : Nat} {D0 D : fx_D} {h0 : sd_H} {nx : Nat} {T : List tl_T} {L : tl_T} (hB : G.2.1 ≤ o) (hT : ts_T D T) (hN : T.length ≤ 70) (hl : tm_row D (T.length + 1) L) (hs : tm_set D (T.length + 1) L) (hw : tl_wf L) (hz : ts_f D0 D) : ∀ (n k : Nat), T.length = k + n → (∀ j, j < k → T[j]? ≠ some L) → sd_W G mTS_keep 2 0 0 (fx_is G.1.2 dk_S o h0 nx (some (.int (nI (tl_kp T L)))) (fun D' => ts_T D' (tl_ku T L) ∧ ts_f D0 D')) 36 [(0, .ref (o + 1)), (1, .ref (o + tmo (T.length + 1))), (2, .int (nI k))] [] (fx_h G.1.2 dk_S o D h0) nx 0 0 := by
  have hp := hw.pos
  intro n
  induction n with
  | zero =>
    intro k hk hno
    obtain rfl : k = T.length := by omega
    have e := tl_nowhere hno
    have e1 : tl_kp T L = T.length := by unfold tl_kp; rw [e]
    have e2 : tl_ku T L = T ++ [L] := by unfold tl_ku; rw [e]
    rw [e1, e2]
    refine sd_iload_n dTS_keep_36 rfl rfl ?_
    refine sd_aload_n dTS_keep_37 rfl rfl ?_
    refine fx_getiv (v := (nI (T.length))) 8 2 dTS_keep_38 fTS_26 rfl rfl (hT.2.1) ?_
    refine nn_icmp_ge 76 dTS_keep_41 (by decide) (by omega) (by omega) (fun c41 => ?_) (fun c41 => ?_)
    ·
      refine sd_aload_n dTS_keep_76 rfl rfl ?_
      refine sd_aload_n dTS_keep_77 rfl rfl ?_
      refine fx_getiv (v := (nI (T.length))) 8 2 dTS_keep_78 fTS_26 rfl rfl (hT.2.1) ?_
      refine sd_iconst (v := nI 1) dTS_keep_81 (by decide) ?_
      refine nn_iadd dTS_keep_82 ?_
      refine sd_aload_n dTS_keep_83 rfl rfl ?_
      refine fx_getr 8 1 (3) dTS_keep_84 fTS_17 rfl rfl ?_
      refine fx_alenr dTS_keep_87 rfl rfl ?_
      refine sd_iconst (v := nI 1) dTS_keep_88 (by decide) ?_
      refine nn_isub dTS_keep_89 (by omega) ?_
      refine sd_cS [.int (nI (T.length + 1)), .int (nI (72 - 1))] [.ref (o + (1))] dTS_keep_90 kTS_30 mMA_min_s (c_MA_mn (c := T.length + 1) (by omega) (by omega) (by omega)) (by decide) (Nat.le_refl _) (Nat.le_refl _) (Nat.le_of_ble_eq_true rfl) rfl ?_
      refine fx_puti 8 2 dTS_keep_93 fTS_26 rfl rfl rfl rfl hB ?_
      refine sd_aload_n dTS_keep_96 rfl rfl ?_
      refine fx_getiv (v := (nI (T.length + 1))) 8 2 dTS_keep_97 fTS_26 rfl rfl ((by simp [fx_uf, upd])) ?_
      refine sd_iconst (v := nI 1) dTS_keep_100 (by decide) ?_
      refine nn_isub dTS_keep_101 (by omega) ?_
      exact sd_iret dTS_keep_102 rfl (Nat.le_refl _) (Nat.le_refl _) ⟨rfl, rfl, _, rfl, ts_T_add hT hN hl hs hw, hz.tr (ts_f.made D)⟩
    ·
      exact absurd c41 (by omega)
  | succ n ih =>
    intro k hk hno
    obtain ⟨x, hx⟩ : ∃ x, T[k]? = some x := ⟨T[k], List.getElem?_eq_getElem (by omega)⟩
    obtain ⟨x1, x2, x3⟩ := hT.2.2 k x hx
    have xp := x3.pos
    by_cases hxl : x = L
    · subst hxl
      have e := tl_first hx hno
      have e1 : tl_kp T x = k := by unfold tl_kp; rw [e]
      have e2 : tl_ku T x = T := by unfold tl_ku; rw [e]
      rw [e1, e2]
      refine sd_iload_n dTS_keep_36 rfl rfl ?_
      refine sd_aload_n dTS_keep_37 rfl rfl ?_
      refine fx_getiv (v := (nI (T.length))) 8 2 dTS_keep_38 fTS_26 rfl rfl (hT.2.1) ?_
      refine nn_icmp_ge 76 dTS_keep_41 (by decide) (by omega) (by omega) (fun c41 => ?_) (fun c41 => ?_)
      ·
        exact absurd c41 (by omega)
      ·
        refine sd_iload_n dTS_keep_44 rfl rfl ?_
        refine sd_aload_n dTS_keep_45 rfl rfl ?_
        refine fx_getr 8 1 (3) dTS_keep_46 fTS_17 rfl rfl ?_
        refine fx_alenr dTS_keep_49 rfl rfl ?_
        refine nn_icmp_ge 76 dTS_keep_50 (by decide) (by omega) (by omega) (fun c50 => ?_) (fun c50 => ?_)
        ·
          exact absurd c50 (by omega)
        ·
          refine sd_aload_n dTS_keep_53 rfl rfl ?_
          refine fx_getr 8 1 (3) dTS_keep_54 fTS_17 rfl rfl ?_
          refine sd_iload_n dTS_keep_57 rfl rfl ?_
          refine fx_aald (k) dTS_keep_58 rfl rfl rfl (by omega) (by decide) ?_
          refine sd_iconst (v := nI 0) dTS_keep_59 (by decide) ?_
          refine sd_aload_n dTS_keep_60 rfl rfl ?_
          refine sd_iconst (v := nI 0) dTS_keep_61 (by decide) ?_
          refine sd_cS [.ref (o + (tmo ((k) + 1))), .int (nI (0)), .ref (o + (tmo (T.length + 1))), .int (nI (0))] [] dTS_keep_62 kTS_46 mTM_alike_s (c_TM_alike (i := 0) (j := 0) (b := 1) (by omega) (by omega) x1 hl x2 hs xp hp (by omega) (by simp)) (by decide) (Nat.le_refl _) (Nat.le_refl _) (Nat.le_of_ble_eq_true rfl) rfl ?_
          refine nn_if_eq 70 dTS_keep_65 (by decide) (by decide) (fun c => absurd c (by decide)) (fun _ => ?_)
          refine sd_iload_n dTS_keep_68 rfl rfl ?_
          exact sd_iret dTS_keep_69 rfl (Nat.le_refl _) (Nat.le_refl _) ⟨rfl, rfl, D, rfl, hT, hz⟩
    ·
      refine sd_iload_n dTS_keep_36 rfl rfl ?_
      refine sd_aload_n dTS_keep_37 rfl rfl ?_
      refine fx_getiv (v := (nI (T.length))) 8 2 dTS_keep_38 fTS_26 rfl rfl (hT.2.1) ?_
      refine nn_icmp_ge 76 dTS_keep_41 (by decide) (by omega) (by omega) (fun c41 => ?_) (fun c41 => ?_)
      ·
        exact absurd c41 (by omega)
      ·
        refine sd_iload_n dTS_keep_44 rfl rfl ?_
        refine sd_aload_n dTS_keep_45 rfl rfl ?_
        refine fx_getr 8 1 (3) dTS_keep_46 fTS_17 rfl rfl ?_
        refine fx_alenr dTS_keep_49 rfl rfl ?_
        refine nn_icmp_ge 76 dTS_keep_50 (by decide) (by omega) (by omega) (fun c50 => ?_) (fun c50 => ?_)
        ·
          exact absurd c50 (by omega)
        ·
          refine sd_aload_n dTS_keep_53 rfl rfl ?_
          refine fx_getr 8 1 (3) dTS_keep_54 fTS_17 rfl rfl ?_
          refine sd_iload_n dTS_keep_57 rfl rfl ?_
          refine fx_aald (k) dTS_keep_58 rfl rfl rfl (by omega) (by decide) ?_
          refine sd_iconst (v := nI 0) dTS_keep_59 (by decide) ?_
          refine sd_aload_n dTS_keep_60 rfl rfl ?_
          refine sd_iconst (v := nI 0) dTS_keep_61 (by decide) ?_
          refine sd_cS [.ref (o + (tmo ((k) + 1))), .int (nI (0)), .ref (o + (tmo (T.length + 1))), .int (nI (0))] [] dTS_keep_62 kTS_46 mTM_alike_s (c_TM_alike (i := 0) (j := 0) (b := 0) (by omega) (by omega) x1 hl x2 hs xp hp (by omega) (by rw [x3.part, hw.part]; simp [hxl])) (by decide) (Nat.le_refl _) (Nat.le_refl _) (Nat.le_of_ble_eq_true rfl) rfl ?_
          refine nn_if_eq 70 dTS_keep_65 (by decide) (by decide) (fun _ => ?_) (fun c => absurd c (by decide))
          refine nn_iinc 1 dTS_keep_70 rfl (by decide) ?_
          refine sd_goto 36 dTS_keep_73 (by decide) ?_
          refine sd_locp (al' := [(0, .ref (o + (1))), (1, .ref (o + (tmo (T.length + 1)))), (2, .int (nI (k + 1)))]) [1, 2, 0] rfl ?_
          refine ih (k + 1) (by omega) (fun j hj => ?_)
          by_cases hjk : j = k
          · rw [hjk, hx]; exact fun z => hxl (Option.some.inj z)
          · exact hno j (by omega)
theorem l_TS_keepF {G : sd_G} {o : Nat} {D D1 : fx_D} {h0 : sd_H} {nx : Nat} {T : List tl_T} {L : tl_T} (hB : G.2.1 ≤ o) (hT : ts_T D T) (hN : T.length ≤ 70) (hl : tm_row D (T.length + 1) L) (hw : tl_wf L) (h1 : tm_set D1 (T.length + 1) L ∧ (∀ x, x ≠ tmo (T.length + 1) + 3 → D1.1 x = D.1 x) ∧ D1.2 = D.2) : sd_W G mTS_keep 2 0 0 (fx_is G.1.2 dk_S o h0 nx (some (.int (nI (tl_kp T L)))) (fun D' => ts_T D' (tl_ku T L) ∧ ts_f D D')) 36 [(0, .ref (o + 1)), (1, .ref (o + tmo (T.length + 1))), (2, .int (nI 0))] [] (fx_h G.1.2 dk_S o D1 h0) nx 0 0 := by
  have hf := tm_f_s h1.2.1 h1.2.2
  have hz := ts_f.row (r := T.length + 1) (by omega) (by omega) hf
  exact l_TS_keep hB (ts_T_f (Or.inl (by omega)) hf hT) hN (tm_row_s h1.2.1 h1.2.2 hl) h1.1 hw hz T.length 0 (by omega) (fun j hj => by omega)
theorem c_TS_keep {G : sd_G} {o : Nat} {D : fx_D} {h0 : sd_H} {nx : Nat} {T : List tl_T} {L : tl_T} (hB : G.2.1 ≤ o) (hT : ts_T D T) (hN : T.length ≤ 70) (h : tw D (T.length + 1) L) (hw : tl_wf L) : sd_Ct G mTS_keep 2 0 0 [.ref (o + 1)] (fx_h G.1.2 dk_S o D h0) nx (fx_is G.1.2 dk_S o h0 nx (some (.int (nI (tl_kp T L)))) (fun D' => ts_T D' (tl_ku T L) ∧ ts_f D D')) := by
  refine sd_Ct_of (by decide) (Nat.le_of_ble_eq_true rfl) ?_
  have h24 := hw.2.2
  rcases h with ⟨-, hl, hbig⟩ | ⟨z, -⟩
  ·
    refine sd_aload_n dTS_keep_0 rfl rfl ?_
    refine fx_getr 8 1 (3) dTS_keep_1 fTS_17 rfl rfl ?_
    refine sd_aload_n dTS_keep_4 rfl rfl ?_
    refine fx_getiv (v := (nI (T.length))) 8 2 dTS_keep_5 fTS_26 rfl rfl (hT.2.1) ?_
    refine sd_aload_n dTS_keep_8 rfl rfl ?_
    refine fx_getr 8 1 (3) dTS_keep_9 fTS_17 rfl rfl ?_
    refine fx_alenr dTS_keep_12 rfl rfl ?_
    refine sd_iconst (v := nI 1) dTS_keep_13 (by decide) ?_
    refine nn_isub dTS_keep_14 (by omega) ?_
    refine sd_cS [.int (nI (T.length)), .int (nI (72 - 1))] [.ref (o + (3))] dTS_keep_15 kTS_30 mMA_min_s (c_MA_mn (c := T.length) (by omega) (by omega) (by omega)) (by decide) (Nat.le_refl _) (Nat.le_refl _) (Nat.le_of_ble_eq_true rfl) rfl ?_
    refine fx_aald (T.length) dTS_keep_18 rfl rfl rfl (by omega) (by decide) ?_
    refine sd_astore_n dTS_keep_19 rfl (by decide) ?_
    refine sd_aload_n dTS_keep_20 rfl rfl ?_
    refine fx_getiv (v := (nI (0))) 7 4 dTS_keep_21 fTS_39 (dk_tm (by omega)) rfl (hbig) ?_
    refine nn_if_eq 30 dTS_keep_24 (by decide) (by decide) (fun _ => ?_) (fun c => absurd c (by decide))
    refine sd_aload_n dTS_keep_30 rfl rfl ?_
    refine fx_cP 7 sR_TM [] [] dTS_keep_31 kTS_43 rfl (dk_tm (by omega)) mTM_settle_v (c_TM_settle hB (by omega) hl (fun j hj => tl_ok_drop _ _ _ hw.1 hw.2.1 hj)) (by decide) (Nat.le_refl _) (Nat.le_refl _) (Nat.le_of_ble_eq_true rfl) rfl (fun D1 h1 => ?_)
    refine sd_iconst (v := nI 0) dTS_keep_34 (by decide) ?_
    refine sd_istore_n dTS_keep_35 rfl (by decide) ?_
    refine sd_locp (al' := [(0, .ref (o + (1))), (1, .ref (o + (tmo ((T.length) + 1)))), (2, .int (nI (0)))]) [2, 1, 0] rfl ?_
    exact l_TS_keepF hB hT hN hl hw h1
  · omega
theorem c_TS_keepBig {G : sd_G} {o : Nat} {D : fx_D} {h0 : sd_H} {nx n : Nat} {L : tl_T} (hn : n ≤ 71) (hm : D.2.1 1 2 = nI n) (hb : D.2.1 (tmo (n + 1)) 4 = nI 1) : sd_Ct G mTS_keep 2 0 0 [.ref (o + 1)] (fx_h G.1.2 dk_S o D h0) nx (sd_is (some (.int (-5))) (fx_h G.1.2 dk_S o D h0) nx) := by
  refine sd_Ct_of (by decide) (Nat.le_of_ble_eq_true rfl) ?_
  refine sd_aload_n dTS_keep_0 rfl rfl ?_
  refine fx_getr 8 1 (3) dTS_keep_1 fTS_17 rfl rfl ?_
  refine sd_aload_n dTS_keep_4 rfl rfl ?_
  refine fx_getiv (v := (nI (n))) 8 2 dTS_keep_5 fTS_26 rfl rfl (hm) ?_
  refine sd_aload_n dTS_keep_8 rfl rfl ?_
  refine fx_getr 8 1 (3) dTS_keep_9 fTS_17 rfl rfl ?_
  refine fx_alenr dTS_keep_12 rfl rfl ?_
  refine sd_iconst (v := nI 1) dTS_keep_13 (by decide) ?_
  refine nn_isub dTS_keep_14 (by omega) ?_
  refine sd_cS [.int (nI (n)), .int (nI (72 - 1))] [.ref (o + (3))] dTS_keep_15 kTS_30 mMA_min_s (c_MA_mn (c := n) (by omega) (by omega) (by omega)) (by decide) (Nat.le_refl _) (Nat.le_refl _) (Nat.le_of_ble_eq_true rfl) rfl ?_
  refine fx_aald (n) dTS_keep_18 rfl rfl rfl (by omega) (by decide) ?_
  refine sd_astore_n dTS_keep_19 rfl (by decide) ?_
  refine sd_aload_n dTS_keep_20 rfl rfl ?_
  refine fx_getiv (v := (nI (1))) 7 4 dTS_keep_21 fTS_39 (dk_tm (by omega)) rfl (hb) ?_
  refine nn_if_eq 30 dTS_keep_24 (by decide) (by decide) (fun c => absurd c (by decide)) (fun _ => ?_)
  refine sd_bipush (v := (-5)) dTS_keep_27 (by decide) ?_
  exact sd_iret dTS_keep_29 rfl (Nat.le_refl _) (Nat.le_refl _) ⟨rfl, rfl, rfl⟩
