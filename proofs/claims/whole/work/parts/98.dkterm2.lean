/-! ===== the class's rows: addPart, settle ===== -/
theorem dTM_addPart_0 : decode prog_8_method_4_code 0 = .ok (.aload_n 1, 1) := by decide +kernel
theorem dTM_addPart_1 : decode prog_8_method_4_code 1 = .ok (.getfield 18, 3) := by decide +kernel
theorem dTM_addPart_4 : decode prog_8_method_4_code 4 = .ok (.iload_n 2, 1) := by decide +kernel
theorem dTM_addPart_5 : decode prog_8_method_4_code 5 = .ok (.iaload, 1) := by decide +kernel
theorem dTM_addPart_6 : decode prog_8_method_4_code 6 = .ok (.iload_n 2, 1) := by decide +kernel
theorem dTM_addPart_7 : decode prog_8_method_4_code 7 = .ok (.isub, 1) := by decide +kernel
theorem dTM_addPart_8 : decode prog_8_method_4_code 8 = .ok (.istore_n 3, 1) := by decide +kernel
theorem dTM_addPart_9 : decode prog_8_method_4_code 9 = .ok (.aload_n 0, 1) := by decide +kernel
theorem dTM_addPart_10 : decode prog_8_method_4_code 10 = .ok (.getfield 21, 3) := by decide +kernel
theorem dTM_addPart_13 : decode prog_8_method_4_code 13 = .ok (.iload_n 3, 1) := by decide +kernel
theorem dTM_addPart_14 : decode prog_8_method_4_code 14 = .ok (.iadd, 1) := by decide +kernel
theorem dTM_addPart_15 : decode prog_8_method_4_code 15 = .ok (.bipush (24), 2) := by decide +kernel
theorem dTM_addPart_17 : decode prog_8_method_4_code 17 = .ok (.if_icmp .le (9), 3) := by decide +kernel
theorem dTM_addPart_20 : decode prog_8_method_4_code 20 = .ok (.aload_n 0, 1) := by decide +kernel
theorem dTM_addPart_21 : decode prog_8_method_4_code 21 = .ok (.iconst 1, 1) := by decide +kernel
theorem dTM_addPart_22 : decode prog_8_method_4_code 22 = .ok (.putfield 25, 3) := by decide +kernel
theorem dTM_addPart_25 : decode prog_8_method_4_code 25 = .ok (.return_, 1) := by decide +kernel
theorem dTM_addPart_26 : decode prog_8_method_4_code 26 = .ok (.iconst 0, 1) := by decide +kernel
theorem dTM_addPart_27 : decode prog_8_method_4_code 27 = .ok (.istore 4, 2) := by decide +kernel
theorem dTM_addPart_29 : decode prog_8_method_4_code 29 = .ok (.iload 4, 2) := by decide +kernel
theorem dTM_addPart_31 : decode prog_8_method_4_code 31 = .ok (.iload_n 3, 1) := by decide +kernel
theorem dTM_addPart_32 : decode prog_8_method_4_code 32 = .ok (.if_icmp .ge (51), 3) := by decide +kernel
theorem dTM_addPart_35 : decode prog_8_method_4_code 35 = .ok (.aload_n 0, 1) := by decide +kernel
theorem dTM_addPart_36 : decode prog_8_method_4_code 36 = .ok (.getfield 9, 3) := by decide +kernel
theorem dTM_addPart_39 : decode prog_8_method_4_code 39 = .ok (.aload_n 0, 1) := by decide +kernel
theorem dTM_addPart_40 : decode prog_8_method_4_code 40 = .ok (.getfield 21, 3) := by decide +kernel
theorem dTM_addPart_43 : decode prog_8_method_4_code 43 = .ok (.iload 4, 2) := by decide +kernel
theorem dTM_addPart_45 : decode prog_8_method_4_code 45 = .ok (.iadd, 1) := by decide +kernel
theorem dTM_addPart_46 : decode prog_8_method_4_code 46 = .ok (.aload_n 1, 1) := by decide +kernel
theorem dTM_addPart_47 : decode prog_8_method_4_code 47 = .ok (.getfield 9, 3) := by decide +kernel
theorem dTM_addPart_50 : decode prog_8_method_4_code 50 = .ok (.iload_n 2, 1) := by decide +kernel
theorem dTM_addPart_51 : decode prog_8_method_4_code 51 = .ok (.iload 4, 2) := by decide +kernel
theorem dTM_addPart_53 : decode prog_8_method_4_code 53 = .ok (.iadd, 1) := by decide +kernel
theorem dTM_addPart_54 : decode prog_8_method_4_code 54 = .ok (.iaload, 1) := by decide +kernel
theorem dTM_addPart_55 : decode prog_8_method_4_code 55 = .ok (.iastore, 1) := by decide +kernel
theorem dTM_addPart_56 : decode prog_8_method_4_code 56 = .ok (.aload_n 0, 1) := by decide +kernel
theorem dTM_addPart_57 : decode prog_8_method_4_code 57 = .ok (.getfield 15, 3) := by decide +kernel
theorem dTM_addPart_60 : decode prog_8_method_4_code 60 = .ok (.aload_n 0, 1) := by decide +kernel
theorem dTM_addPart_61 : decode prog_8_method_4_code 61 = .ok (.getfield 21, 3) := by decide +kernel
theorem dTM_addPart_64 : decode prog_8_method_4_code 64 = .ok (.iload 4, 2) := by decide +kernel
theorem dTM_addPart_66 : decode prog_8_method_4_code 66 = .ok (.iadd, 1) := by decide +kernel
theorem dTM_addPart_67 : decode prog_8_method_4_code 67 = .ok (.aload_n 1, 1) := by decide +kernel
theorem dTM_addPart_68 : decode prog_8_method_4_code 68 = .ok (.getfield 15, 3) := by decide +kernel
theorem dTM_addPart_71 : decode prog_8_method_4_code 71 = .ok (.iload_n 2, 1) := by decide +kernel
theorem dTM_addPart_72 : decode prog_8_method_4_code 72 = .ok (.iload 4, 2) := by decide +kernel
theorem dTM_addPart_74 : decode prog_8_method_4_code 74 = .ok (.iadd, 1) := by decide +kernel
theorem dTM_addPart_75 : decode prog_8_method_4_code 75 = .ok (.iaload, 1) := by decide +kernel
theorem dTM_addPart_76 : decode prog_8_method_4_code 76 = .ok (.iastore, 1) := by decide +kernel
theorem dTM_addPart_77 : decode prog_8_method_4_code 77 = .ok (.iinc 4 (1), 3) := by decide +kernel
theorem dTM_addPart_80 : decode prog_8_method_4_code 80 = .ok (.goto (-51), 3) := by decide +kernel
theorem dTM_addPart_83 : decode prog_8_method_4_code 83 = .ok (.aload_n 0, 1) := by decide +kernel
theorem dTM_addPart_84 : decode prog_8_method_4_code 84 = .ok (.dup, 1) := by decide +kernel
theorem dTM_addPart_85 : decode prog_8_method_4_code 85 = .ok (.getfield 21, 3) := by decide +kernel
theorem dTM_addPart_88 : decode prog_8_method_4_code 88 = .ok (.iload_n 3, 1) := by decide +kernel
theorem dTM_addPart_89 : decode prog_8_method_4_code 89 = .ok (.iadd, 1) := by decide +kernel
theorem dTM_addPart_90 : decode prog_8_method_4_code 90 = .ok (.putfield 21, 3) := by decide +kernel
theorem dTM_addPart_93 : decode prog_8_method_4_code 93 = .ok (.return_, 1) := by decide +kernel
theorem l_TM_addPart {G : sd_G} {o : Nat} {h0 : sd_H} {nx r q i n : Nat} {l : tl_T} {Q : sd_Q} (hB : G.2.1 ≤ o) (hr : r < 73) (hq : q < 73) (hne : q ≠ r) (M : tl_T) (hM : ∀ (k : Nat) (x : Nat × Nat), M[k]? = some x → l[i + k]? = some x) (hn : n + M.length ≤ 24) (hil : i + M.length ≤ 24) : ∀ (m j : Nat) (D : fx_D), M.length = j + m → tm_row D q l → D.2.1 (tmo r) 3 = nI n → (∀ (k : Nat) (x : Nat × Nat), k < j → M[k]? = some x → D.1 (tmo r + 1) (n + k) = nI x.1 ∧ D.1 (tmo r + 2) (n + k) = nI x.2) →
    (∀ D' : fx_D, tm_f r D D' → (∀ k, k < n → D'.1 (tmo r + 1) k = D.1 (tmo r + 1) k ∧ D'.1 (tmo r + 2) k = D.1 (tmo r + 2) k) → (∀ (k : Nat) (x : Nat × Nat), M[k]? = some x → D'.1 (tmo r + 1) (n + k) = nI x.1 ∧ D'.1 (tmo r + 2) (n + k) = nI x.2) → D'.2 = D.2 → sd_W G mTM_addPart 0 0 0 Q 83 [(0, .ref (o + tmo r)), (3, .int (nI M.length))] [] (fx_h G.1.2 dk_S o D' h0) nx 0 0) →
    sd_W G mTM_addPart 0 0 0 Q 29 [(0, .ref (o + tmo r)), (1, .ref (o + tmo q)), (2, .int (nI i)), (3, .int (nI M.length)), (4, .int (nI j))] [] (fx_h G.1.2 dk_S o D h0) nx 0 0 := by
  have n12 : ¬ tmo r + 1 = tmo r + 2 := by omega
  have n21 : ¬ tmo r + 2 = tmo r + 1 := by omega
  intro m
  induction m with
  | zero =>
    intro j D hj hl d3 hc K
    refine sd_iload dTM_addPart_29 rfl ?_
    refine sd_iload_n dTM_addPart_31 rfl rfl ?_
    refine nn_icmp_ge 83 dTM_addPart_32 (by decide) (by omega) (by omega) (fun c32 => ?_) (fun c32 => ?_)
    ·
      refine sd_locp (al' := [(0, .ref (o + (tmo (r)))), (3, .int (nI (M.length)))]) [0, 3] rfl ?_
      exact K D (tm_f.rf r D) (fun _ _ ↦ ⟨rfl, rfl⟩) (fun k x hx ↦ hc k x (by have := getE_lt hx; omega) hx) rfl
    ·
      exact absurd c32 (by omega)
  | succ m ih =>
    intro j D hj hl d3 hc K
    have hx : M[j]? = some M[j] := List.getElem?_eq_getElem (by omega)
    generalize M[j] = x at hx
    obtain ⟨q1, q2, q3, q4⟩ := hl.2.2 (i + j) x (hM j x hx)
    have f1 : tm_f r D (fx_ua (fx_ua D (tmo r + 1) (n + j) (nI x.1)) (tmo r + 2) (n + j) (nI x.2)) := (tm_f.ua D (by omega)).tr (tm_f.ua _ (by omega))
    have e2 : (fx_ua D (tmo r + 1) (n + j) (nI x.1)).1 (tmo q + 2) (i + j) = nI x.2 := by
      rw [(tm_f.ua (r := r) D (by omega)).1 _ (tmo_ne hne (by omega) (by omega)) (tmo_ne hne (by omega) (by omega)) (tmo_ne hne (by omega) (by omega))]
      exact q2
    have nxt := ih (j + 1) _ (by omega) (tm_row_f f1 hne hl) d3 (fun k y hk hy => by
      by_cases e : k = j
      · subst e
        rw [hx] at hy
        cases hy
        exact ⟨by simp [fx_ua, upd, n12], by simp [fx_ua, upd]⟩
      · obtain ⟨a, b⟩ := hc k y (by omega) hy
        have e' : ¬ n + k = n + j := by omega
        simp only [fx_ua, upd, n12, n21, e', if_true, if_false]
        exact ⟨a, b⟩) (fun D' a1 a2 a3 a4 => K D' (f1.tr a1) (fun k hk => by
        obtain ⟨b1, b2⟩ := a2 k hk
        have e' : ¬ k = n + j := by omega
        rw [b1, b2]
        simp only [fx_ua, upd, n12, n21, e', if_true, if_false]
        exact ⟨trivial, trivial⟩) a3 (a4.trans rfl))
    refine sd_iload dTM_addPart_29 rfl ?_
    refine sd_iload_n dTM_addPart_31 rfl rfl ?_
    refine nn_icmp_ge 83 dTM_addPart_32 (by decide) (by omega) (by omega) (fun c32 => ?_) (fun c32 => ?_)
    ·
      exact absurd c32 (by omega)
    ·
      refine sd_aload_n dTM_addPart_35 rfl rfl ?_
      refine fx_getr 7 0 (tmo (r) + 1) dTM_addPart_36 fTM_9 (dk_tm (by omega)) rfl ?_
      refine sd_aload_n dTM_addPart_39 rfl rfl ?_
      refine fx_getiv (v := (nI (n))) 7 3 dTM_addPart_40 fTM_21 (dk_tm (by omega)) rfl (d3) ?_
      refine sd_iload dTM_addPart_43 rfl ?_
      refine nn_iadd dTM_addPart_45 ?_
      refine sd_aload_n dTM_addPart_46 rfl rfl ?_
      refine fx_getr 7 0 (tmo (q) + 1) dTM_addPart_47 fTM_9 (dk_tm (by omega)) rfl ?_
      refine sd_iload_n dTM_addPart_50 rfl rfl ?_
      refine sd_iload dTM_addPart_51 rfl ?_
      refine nn_iadd dTM_addPart_53 ?_
      refine fx_ialdv (v := (nI (x.1))) (i + j) dTM_addPart_54 (dk_tm1 (by omega)) rfl (by omega) (by decide) (q1) ?_
      refine fx_iast (n + j) dTM_addPart_55 (dk_tm1 (by omega)) rfl (by omega) (by decide) hB ?_
      refine sd_aload_n dTM_addPart_56 rfl rfl ?_
      refine fx_getr 7 1 (tmo (r) + 2) dTM_addPart_57 fTM_15 (dk_tm (by omega)) rfl ?_
      refine sd_aload_n dTM_addPart_60 rfl rfl ?_
      refine fx_getiv (v := (nI (n))) 7 3 dTM_addPart_61 fTM_21 (dk_tm (by omega)) rfl (d3) ?_
      refine sd_iload dTM_addPart_64 rfl ?_
      refine nn_iadd dTM_addPart_66 ?_
      refine sd_aload_n dTM_addPart_67 rfl rfl ?_
      refine fx_getr 7 1 (tmo (q) + 2) dTM_addPart_68 fTM_15 (dk_tm (by omega)) rfl ?_
      refine sd_iload_n dTM_addPart_71 rfl rfl ?_
      refine sd_iload dTM_addPart_72 rfl ?_
      refine nn_iadd dTM_addPart_74 ?_
      refine fx_ialdv (v := (nI (x.2))) (i + j) dTM_addPart_75 (dk_tm2 (by omega)) rfl (by omega) (by decide) (e2) ?_
      refine fx_iast (n + j) dTM_addPart_76 (dk_tm2 (by omega)) rfl (by omega) (by decide) hB ?_
      refine nn_iinc 1 dTM_addPart_77 rfl (by decide) ?_
      refine sd_goto 29 dTM_addPart_80 (by decide) ?_
      refine sd_locp (al' := [(0, .ref (o + (tmo (r)))), (1, .ref (o + (tmo (q)))), (2, .int (nI (i))), (3, .int (nI (M.length))), (4, .int (nI (j + 1)))]) [1, 2, 3, 4, 0] rfl ?_
      exact nxt
theorem x_TM_addPart {G : sd_G} {o : Nat} {D : fx_D} {h0 : sd_H} {nx r n m : Nat} {Q : sd_Q} (hB : G.2.1 ≤ o) (hr : r < 73) (d3 : D.2.1 (tmo r) 3 = nI n) (hq : Q none (fx_h G.1.2 dk_S o (fx_uf D (tmo r) 3 (nI (n + m))) h0) nx) : sd_W G mTM_addPart 0 0 0 Q 83 [(0, .ref (o + tmo r)), (3, .int (nI m))] [] (fx_h G.1.2 dk_S o D h0) nx 0 0 := by
  refine sd_aload_n dTM_addPart_83 rfl rfl ?_
  refine sd_dup dTM_addPart_84 rfl ?_
  refine fx_getiv (v := (nI (n))) 7 3 dTM_addPart_85 fTM_21 (dk_tm (by omega)) rfl (d3) ?_
  refine sd_iload_n dTM_addPart_88 rfl rfl ?_
  refine nn_iadd dTM_addPart_89 ?_
  refine fx_puti 7 3 dTM_addPart_90 fTM_21 rfl rfl (dk_tm (by omega)) rfl hB ?_
  exact sd_vret dTM_addPart_93 rfl (Nat.le_refl _) (Nat.le_refl _) hq
theorem c_TM_addPart {G : sd_G} {o : Nat} {D : fx_D} {h0 : sd_H} {nx r q i : Nat} {l L : tl_T} (hB : G.2.1 ≤ o) (hr : r < 73) (hq : q < 73) (hne : q ≠ r) (h : tw D r L) (hl : tm_row D q l) (hs : tm_set D q l) (hi : i < l.length) : sd_Ct G mTM_addPart 0 0 0 [.ref (o + tmo r), .ref (o + tmo q), .int (nI i)] (fx_h G.1.2 dk_S o D h0) nx (fx_is G.1.2 dk_S o h0 nx none (fun D' => tw D' r (L ++ tl_part l i) ∧ tm_f r D D')) := by
  refine sd_Ct_of (by decide) (Nat.le_of_ble_eq_true rfl) ?_
  have l24 := hl.1
  obtain ⟨n, n1, n2, n3⟩ := h.ln
  have hel := tl_end_le (l := l) (i := i) (by omega)
  have hei : i < tl_end l i := tl_end_lt hi
  have hpl : (tl_part l i).length = tl_end l i - i := by rw [tl_part_len]; unfold tl_end; omega
  have n12 : ¬ tmo r + 1 = tmo r + 2 := by omega
  by_cases hn : n + (tl_part l i).length ≤ 24
  · have fin : ∀ D' : fx_D, tm_f r D D' → (∀ k, k < n → D'.1 (tmo r + 1) k = D.1 (tmo r + 1) k ∧ D'.1 (tmo r + 2) k = D.1 (tmo r + 2) k) → (∀ (k : Nat) (x : Nat × Nat), (tl_part l i)[k]? = some x → D'.1 (tmo r + 1) (n + k) = nI x.1 ∧ D'.1 (tmo r + 2) (n + k) = nI x.2) → D'.2 = D.2 → tw (fx_uf D' (tmo r) 3 (nI (n + (tl_part l i).length))) r (L ++ tl_part l i) := by
      intro D' a1 a2 a3 a4
      rcases h with ⟨h1, h2, h3⟩ | ⟨h1, h2, -⟩
      · have e := n3 h1
        subst e
        refine Or.inl ⟨by rw [List.length_append]; exact hn, ⟨by rw [List.length_append]; exact hn, by rw [List.length_append]; simp [fx_uf, upd], fun k x hx => ?_⟩, by
          have : (fx_uf D' (tmo r) 3 (nI (L.length + (tl_part l i).length))).2.1 (tmo r) 4 = D'.2.1 (tmo r) 4 := by simp [fx_uf, upd]
          rw [this, a4]
          exact h3⟩
        by_cases hk : k < L.length
        · rw [List.getElem?_append_left hk] at hx
          obtain ⟨b1, b2⟩ := a2 k hk
          show D'.1 (tmo r + 1) k = _ ∧ D'.1 (tmo r + 2) k = _ ∧ _
          rw [b1, b2]
          exact h2.2.2 k x hx
        · rw [List.getElem?_append_right (by omega)] at hx
          obtain ⟨b1, b2⟩ := a3 _ x hx
          rw [show L.length + (k - L.length) = k by omega] at b1 b2
          obtain ⟨-, -, c1, c2⟩ := hl.2.2 (i + (k - L.length)) x (by rw [← tl_part_get (getE_lt hx)]; exact hx)
          exact ⟨b1, b2, c1, c2⟩
      · exact Or.inr ⟨by rw [List.length_append]; omega, by
          have : (fx_uf D' (tmo r) 3 (nI (n + (tl_part l i).length))).2.1 (tmo r) 4 = D'.2.1 (tmo r) 4 := by simp [fx_uf, upd]
          rw [this, a4]
          exact h2, _, hn, by simp [fx_uf, upd]⟩
    have body := l_TM_addPart (G := G) (o := o) (h0 := h0) (nx := nx) (r := r) (q := q) (i := i) (n := n) (l := l) (Q := fx_is G.1.2 dk_S o h0 nx none (fun D' => tw D' r (L ++ tl_part l i) ∧ tm_f r D D')) hB hr hq hne (tl_part l i) (fun k x hx => by rw [← tl_part_get (getE_lt hx)]; exact hx) hn (by omega) (tl_part l i).length 0 D (by omega) hl n2 (fun k x hk => absurd hk (by omega)) (fun D' a1 a2 a3 a4 => by
      have d3 : D'.2.1 (tmo r) 3 = nI n := by rw [a4]; exact n2
      exact x_TM_addPart hB hr d3 ⟨rfl, rfl, _, rfl, fin D' a1 a2 a3 a4, a1.tr (tm_f.uf _)⟩)
    rw [hpl] at body hn
    refine sd_aload_n dTM_addPart_0 rfl rfl ?_
    refine fx_getr 7 2 (tmo (q) + 3) dTM_addPart_1 fTM_18 (dk_tm (by omega)) rfl ?_
    refine sd_iload_n dTM_addPart_4 rfl rfl ?_
    refine fx_ialdv (v := (nI (tl_end l i))) (i) dTM_addPart_5 (dk_tm3 (by omega)) rfl (by omega) (by decide) (hs i hi) ?_
    refine sd_iload_n dTM_addPart_6 rfl rfl ?_
    refine nn_isub dTM_addPart_7 (by omega) ?_
    refine sd_istore_n dTM_addPart_8 rfl (by decide) ?_
    refine sd_aload_n dTM_addPart_9 rfl rfl ?_
    refine fx_getiv (v := (nI (n))) 7 3 dTM_addPart_10 fTM_21 (dk_tm (by omega)) rfl (n2) ?_
    refine sd_iload_n dTM_addPart_13 rfl rfl ?_
    refine nn_iadd dTM_addPart_14 ?_
    refine sd_bipush (v := nI 24) dTM_addPart_15 (by decide) ?_
    refine nn_icmp_le 26 dTM_addPart_17 (by decide) (by omega) (by omega) (fun c17 => ?_) (fun c17 => ?_)
    ·
      refine sd_iconst (v := nI 0) dTM_addPart_26 (by decide) ?_
      refine sd_istore dTM_addPart_27 (by decide) ?_
      refine sd_locp (al' := [(0, .ref (o + (tmo (r)))), (1, .ref (o + (tmo (q)))), (2, .int (nI (i))), (3, .int (nI ((tl_end l i) - i))), (4, .int (nI (0)))]) [2, 3, 4, 1, 0] rfl ?_
      exact body
    ·
      exact absurd c17 (by omega)
  · have hov := tw_over (M := tl_part l i) h (by
      rw [List.length_append]
      by_cases z : L.length ≤ 24
      · have := n3 z; omega
      · omega)
    refine sd_aload_n dTM_addPart_0 rfl rfl ?_
    refine fx_getr 7 2 (tmo (q) + 3) dTM_addPart_1 fTM_18 (dk_tm (by omega)) rfl ?_
    refine sd_iload_n dTM_addPart_4 rfl rfl ?_
    refine fx_ialdv (v := (nI (tl_end l i))) (i) dTM_addPart_5 (dk_tm3 (by omega)) rfl (by omega) (by decide) (hs i hi) ?_
    refine sd_iload_n dTM_addPart_6 rfl rfl ?_
    refine nn_isub dTM_addPart_7 (by omega) ?_
    refine sd_istore_n dTM_addPart_8 rfl (by decide) ?_
    refine sd_aload_n dTM_addPart_9 rfl rfl ?_
    refine fx_getiv (v := (nI (n))) 7 3 dTM_addPart_10 fTM_21 (dk_tm (by omega)) rfl (n2) ?_
    refine sd_iload_n dTM_addPart_13 rfl rfl ?_
    refine nn_iadd dTM_addPart_14 ?_
    refine sd_bipush (v := nI 24) dTM_addPart_15 (by decide) ?_
    refine nn_icmp_le 26 dTM_addPart_17 (by decide) (by omega) (by omega) (fun c17 => ?_) (fun c17 => ?_)
    ·
      exact absurd c17 (by omega)
    ·
      refine sd_aload_n dTM_addPart_20 rfl rfl ?_
      refine sd_iconst (v := nI 1) dTM_addPart_21 (by decide) ?_
      refine fx_putz 7 4 dTM_addPart_22 fTM_25 rfl rfl (Or.inr rfl) (dk_tm (by omega)) rfl hB ?_
      exact sd_vret dTM_addPart_25 rfl (Nat.le_refl _) (Nat.le_refl _) ⟨rfl, rfl, _, rfl, hov, tm_f.uf D⟩
/-- where a part ends, by where its parts end -/
theorem tl_end_ar {l : tl_T} {i : Nat} (ho : tl_ok 1 (l.drop i)) (hi : i < l.length) : (tl_ar (tl_at l i).1 = 0 → tl_end l i = i + 1) ∧ (tl_ar (tl_at l i).1 = 1 → i + 1 < l.length ∧ tl_end l i = tl_end l (i + 1)) ∧ (tl_ar (tl_at l i).1 = 2 → i + 1 < l.length ∧ tl_end l (i + 1) < l.length ∧ tl_end l i = tl_end l (tl_end l (i + 1))) := by
  have hd := tl_drop_get (tl_at_some hi)
  have e3 : tl_end l i = i + (1 + tl_pl (0 + tl_ar (tl_at l i).1) (l.drop (i + 1))) := by
    rw [tl_end, hd]
    rfl
  refine ⟨fun e => ?_, fun e => ?_, fun e => ?_⟩
  · rw [e3, e]
    have : tl_pl (0 + 0) (l.drop (i + 1)) = 0 := by cases l.drop (i + 1) <;> rfl
    omega
  · rw [hd] at ho
    have ho2 : tl_ok (0 + tl_ar (tl_at l i).1) (l.drop (i + 1)) := ho
    rw [e] at ho2
    refine ⟨tl_ok_lt ho2, ?_⟩
    rw [e3, e]
    show i + (1 + tl_pl (0 + 1) _) = i + 1 + tl_pl 1 _
    rw [Nat.zero_add]
    omega
  · obtain ⟨a, b, c, -, -⟩ := tl_two_at ho hi e
    exact ⟨a, b, c.symm⟩
theorem dTM_settle_0 : decode prog_8_method_11_code 0 = .ok (.aload_n 0, 1) := by decide +kernel
theorem dTM_settle_1 : decode prog_8_method_11_code 1 = .ok (.getfield 21, 3) := by decide +kernel
theorem dTM_settle_4 : decode prog_8_method_11_code 4 = .ok (.iconst 1, 1) := by decide +kernel
theorem dTM_settle_5 : decode prog_8_method_11_code 5 = .ok (.isub, 1) := by decide +kernel
theorem dTM_settle_6 : decode prog_8_method_11_code 6 = .ok (.istore_n 1, 1) := by decide +kernel
theorem dTM_settle_7 : decode prog_8_method_11_code 7 = .ok (.iload_n 1, 1) := by decide +kernel
theorem dTM_settle_8 : decode prog_8_method_11_code 8 = .ok (.ifCond .lt (56), 3) := by decide +kernel
theorem dTM_settle_11 : decode prog_8_method_11_code 11 = .ok (.iload_n 1, 1) := by decide +kernel
theorem dTM_settle_12 : decode prog_8_method_11_code 12 = .ok (.iconst 1, 1) := by decide +kernel
theorem dTM_settle_13 : decode prog_8_method_11_code 13 = .ok (.iadd, 1) := by decide +kernel
theorem dTM_settle_14 : decode prog_8_method_11_code 14 = .ok (.istore_n 2, 1) := by decide +kernel
theorem dTM_settle_15 : decode prog_8_method_11_code 15 = .ok (.iconst 0, 1) := by decide +kernel
theorem dTM_settle_16 : decode prog_8_method_11_code 16 = .ok (.istore_n 3, 1) := by decide +kernel
theorem dTM_settle_17 : decode prog_8_method_11_code 17 = .ok (.iload_n 3, 1) := by decide +kernel
theorem dTM_settle_18 : decode prog_8_method_11_code 18 = .ok (.aload_n 0, 1) := by decide +kernel
theorem dTM_settle_19 : decode prog_8_method_11_code 19 = .ok (.getfield 9, 3) := by decide +kernel
theorem dTM_settle_22 : decode prog_8_method_11_code 22 = .ok (.iload_n 1, 1) := by decide +kernel
theorem dTM_settle_23 : decode prog_8_method_11_code 23 = .ok (.iaload, 1) := by decide +kernel
theorem dTM_settle_24 : decode prog_8_method_11_code 24 = .ok (.invokestatic 41, 3) := by decide +kernel
theorem dTM_settle_27 : decode prog_8_method_11_code 27 = .ok (.if_icmp .ge (24), 3) := by decide +kernel
theorem dTM_settle_30 : decode prog_8_method_11_code 30 = .ok (.iload_n 2, 1) := by decide +kernel
theorem dTM_settle_31 : decode prog_8_method_11_code 31 = .ok (.aload_n 0, 1) := by decide +kernel
theorem dTM_settle_32 : decode prog_8_method_11_code 32 = .ok (.getfield 21, 3) := by decide +kernel
theorem dTM_settle_35 : decode prog_8_method_11_code 35 = .ok (.if_icmp .ge (16), 3) := by decide +kernel
theorem dTM_settle_38 : decode prog_8_method_11_code 38 = .ok (.aload_n 0, 1) := by decide +kernel
theorem dTM_settle_39 : decode prog_8_method_11_code 39 = .ok (.getfield 18, 3) := by decide +kernel
theorem dTM_settle_42 : decode prog_8_method_11_code 42 = .ok (.iload_n 2, 1) := by decide +kernel
theorem dTM_settle_43 : decode prog_8_method_11_code 43 = .ok (.iaload, 1) := by decide +kernel
theorem dTM_settle_44 : decode prog_8_method_11_code 44 = .ok (.istore_n 2, 1) := by decide +kernel
theorem dTM_settle_45 : decode prog_8_method_11_code 45 = .ok (.iinc 3 (1), 3) := by decide +kernel
theorem dTM_settle_48 : decode prog_8_method_11_code 48 = .ok (.goto (-31), 3) := by decide +kernel
theorem dTM_settle_51 : decode prog_8_method_11_code 51 = .ok (.aload_n 0, 1) := by decide +kernel
theorem dTM_settle_52 : decode prog_8_method_11_code 52 = .ok (.getfield 18, 3) := by decide +kernel
theorem dTM_settle_55 : decode prog_8_method_11_code 55 = .ok (.iload_n 1, 1) := by decide +kernel
theorem dTM_settle_56 : decode prog_8_method_11_code 56 = .ok (.iload_n 2, 1) := by decide +kernel
theorem dTM_settle_57 : decode prog_8_method_11_code 57 = .ok (.iastore, 1) := by decide +kernel
theorem dTM_settle_58 : decode prog_8_method_11_code 58 = .ok (.iinc 1 (-1), 3) := by decide +kernel
theorem dTM_settle_61 : decode prog_8_method_11_code 61 = .ok (.goto (-54), 3) := by decide +kernel
theorem dTM_settle_64 : decode prog_8_method_11_code 64 = .ok (.return_, 1) := by decide +kernel
theorem b_TM_settle3 {G : sd_G} {o : Nat} {D : fx_D} {h0 : sd_H} {nx r j e c : Nat} {l : tl_T} {Q : sd_Q} (hB : G.2.1 ≤ o) (hr : r < 73) (hj : j < 24) (s1 : D.1 (tmo r + 1) j = nI (tl_at l j).1) (cP : sd_Ct G mTM_partsOf 0 0 0 [.int (nI (tl_at l j).1)] (fx_h G.1.2 dk_S o D h0) nx (sd_is (some (.int (nI c))) (fx_h G.1.2 dk_S o D h0) nx)) (nxt : sd_W G mTM_settle 1 0 0 Q 7 [(0, .ref (o + tmo r)), (1, .int (ix j))] [] (fx_h G.1.2 dk_S o (fx_ua D (tmo r + 3) j (nI e)) h0) nx 0 0) (hc : c = 2 := by rfl) : sd_W G mTM_settle 1 0 0 Q 17 [(0, .ref (o + tmo r)), (1, .int (nI j)), (2, .int (nI e)), (3, .int (nI (1 + 1)))] [] (fx_h G.1.2 dk_S o D h0) nx 0 0 := by
  subst hc
  refine sd_iload_n dTM_settle_17 rfl rfl ?_
  refine sd_aload_n dTM_settle_18 rfl rfl ?_
  refine fx_getr 7 0 (tmo (r) + 1) dTM_settle_19 fTM_9 (dk_tm (by omega)) rfl ?_
  refine sd_iload_n dTM_settle_22 rfl rfl ?_
  refine fx_ialdv (v := (nI ((tl_at l j).1))) (j) dTM_settle_23 (dk_tm1 (by omega)) rfl (by omega) (by decide) (s1) ?_
  refine sd_cS [.int (nI ((tl_at l j).1))] [.int (nI (2))] dTM_settle_24 kTM_41 mTM_partsOf_s (cP) (by decide) (Nat.le_refl _) (Nat.le_refl _) (Nat.le_of_ble_eq_true rfl) rfl ?_
  refine nn_icmp_ge 51 dTM_settle_27 (by decide) (by decide) (by decide) (fun _ => ?_) (fun c => absurd c (by decide))
  refine sd_aload_n dTM_settle_51 rfl rfl ?_
  refine fx_getr 7 2 (tmo (r) + 3) dTM_settle_52 fTM_18 (dk_tm (by omega)) rfl ?_
  refine sd_iload_n dTM_settle_55 rfl rfl ?_
  refine sd_iload_n dTM_settle_56 rfl rfl ?_
  refine fx_iast (j) dTM_settle_57 (dk_tm3 (by omega)) rfl (by omega) (by decide) hB ?_
  refine sd_iinc (ix j) dTM_settle_58 rfl (ix_dec j) (by decide) ?_
  refine sd_goto 7 dTM_settle_61 (by decide) ?_
  refine sd_locp (al' := [(0, .ref (o + (tmo (r)))), (1, .int (ix j))]) [1, 0] rfl ?_
  exact nxt
theorem b_TM_settle2 {G : sd_G} {o : Nat} {D : fx_D} {h0 : sd_H} {nx r j : Nat} {l : tl_T} {Q : sd_Q} (hB : G.2.1 ≤ o) (hr : r < 73) (l24 : l.length ≤ 24) (hj : j < l.length) (he : tl_end l (j + 1) < l.length) (s1 : D.1 (tmo r + 1) j = nI (tl_at l j).1) (cP : sd_Ct G mTM_partsOf 0 0 0 [.int (nI (tl_at l j).1)] (fx_h G.1.2 dk_S o D h0) nx (sd_is (some (.int (nI 2))) (fx_h G.1.2 dk_S o D h0) nx)) (d3 : D.2.1 (tmo r) 3 = nI l.length) (hs2 : D.1 (tmo r + 3) (tl_end l (j + 1)) = nI (tl_end l (tl_end l (j + 1)))) (nxt : sd_W G mTM_settle 1 0 0 Q 7 [(0, .ref (o + tmo r)), (1, .int (ix j))] [] (fx_h G.1.2 dk_S o (fx_ua D (tmo r + 3) j (nI (tl_end l (tl_end l (j + 1))))) h0) nx 0 0) : sd_W G mTM_settle 1 0 0 Q 17 [(0, .ref (o + tmo r)), (1, .int (nI j)), (2, .int (nI (tl_end l (j + 1)))), (3, .int (nI (0 + 1)))] [] (fx_h G.1.2 dk_S o D h0) nx 0 0 := by
  refine sd_iload_n dTM_settle_17 rfl rfl ?_
  refine sd_aload_n dTM_settle_18 rfl rfl ?_
  refine fx_getr 7 0 (tmo (r) + 1) dTM_settle_19 fTM_9 (dk_tm (by omega)) rfl ?_
  refine sd_iload_n dTM_settle_22 rfl rfl ?_
  refine fx_ialdv (v := (nI ((tl_at l j).1))) (j) dTM_settle_23 (dk_tm1 (by omega)) rfl (by omega) (by decide) (s1) ?_
  refine sd_cS [.int (nI ((tl_at l j).1))] [.int (nI (1))] dTM_settle_24 kTM_41 mTM_partsOf_s (cP) (by decide) (Nat.le_refl _) (Nat.le_refl _) (Nat.le_of_ble_eq_true rfl) rfl ?_
  refine nn_icmp_ge 51 dTM_settle_27 (by decide) (by decide) (by decide) (fun c => absurd c (by decide)) (fun _ => ?_)
  refine sd_iload_n dTM_settle_30 rfl rfl ?_
  refine sd_aload_n dTM_settle_31 rfl rfl ?_
  refine fx_getiv (v := (nI (l.length))) 7 3 dTM_settle_32 fTM_21 (dk_tm (by omega)) rfl (d3) ?_
  refine nn_icmp_ge 51 dTM_settle_35 (by decide) (by omega) (by omega) (fun c35 => ?_) (fun c35 => ?_)
  ·
    exact absurd c35 (by omega)
  ·
    refine sd_aload_n dTM_settle_38 rfl rfl ?_
    refine fx_getr 7 2 (tmo (r) + 3) dTM_settle_39 fTM_18 (dk_tm (by omega)) rfl ?_
    refine sd_iload_n dTM_settle_42 rfl rfl ?_
    refine fx_ialdv (v := (nI (tl_end l (tl_end l (j + 1))))) (tl_end l (j + 1)) dTM_settle_43 (dk_tm3 (by omega)) rfl (by omega) (by decide) (hs2) ?_
    refine sd_istore_n dTM_settle_44 rfl (by decide) ?_
    refine nn_iinc 1 dTM_settle_45 rfl (by decide) ?_
    refine sd_goto 17 dTM_settle_48 (by decide) ?_
    refine sd_locp (al' := [(0, .ref (o + (tmo (r)))), (1, .int (nI (j))), (2, .int (nI (tl_end l (tl_end l (j + 1))))), (3, .int (nI (2)))]) [2, 3, 1, 0] rfl ?_
    exact b_TM_settle3 hB hr (by omega) s1 cP nxt
theorem b_TM_settle1 {G : sd_G} {o : Nat} {D : fx_D} {h0 : sd_H} {nx r j : Nat} {l : tl_T} {Q : sd_Q} (hB : G.2.1 ≤ o) (hr : r < 73) (l24 : l.length ≤ 24) (hj : j + 1 < l.length) (s1 : D.1 (tmo r + 1) j = nI (tl_at l j).1) (cP : sd_Ct G mTM_partsOf 0 0 0 [.int (nI (tl_at l j).1)] (fx_h G.1.2 dk_S o D h0) nx (sd_is (some (.int (nI 2))) (fx_h G.1.2 dk_S o D h0) nx)) (d3 : D.2.1 (tmo r) 3 = nI l.length) (hs1 : D.1 (tmo r + 3) (j + 1) = nI (tl_end l (j + 1))) (kk : sd_W G mTM_settle 1 0 0 Q 17 [(0, .ref (o + tmo r)), (1, .int (nI j)), (2, .int (nI (tl_end l (j + 1)))), (3, .int (nI (0 + 1)))] [] (fx_h G.1.2 dk_S o D h0) nx 0 0) : sd_W G mTM_settle 1 0 0 Q 17 [(0, .ref (o + tmo r)), (1, .int (nI j)), (2, .int (nI (j + 1))), (3, .int (nI 0))] [] (fx_h G.1.2 dk_S o D h0) nx 0 0 := by
  refine sd_iload_n dTM_settle_17 rfl rfl ?_
  refine sd_aload_n dTM_settle_18 rfl rfl ?_
  refine fx_getr 7 0 (tmo (r) + 1) dTM_settle_19 fTM_9 (dk_tm (by omega)) rfl ?_
  refine sd_iload_n dTM_settle_22 rfl rfl ?_
  refine fx_ialdv (v := (nI ((tl_at l j).1))) (j) dTM_settle_23 (dk_tm1 (by omega)) rfl (by omega) (by decide) (s1) ?_
  refine sd_cS [.int (nI ((tl_at l j).1))] [.int (nI (0))] dTM_settle_24 kTM_41 mTM_partsOf_s (cP) (by decide) (Nat.le_refl _) (Nat.le_refl _) (Nat.le_of_ble_eq_true rfl) rfl ?_
  refine nn_icmp_ge 51 dTM_settle_27 (by decide) (by decide) (by decide) (fun c => absurd c (by decide)) (fun _ => ?_)
  refine sd_iload_n dTM_settle_30 rfl rfl ?_
  refine sd_aload_n dTM_settle_31 rfl rfl ?_
  refine fx_getiv (v := (nI (l.length))) 7 3 dTM_settle_32 fTM_21 (dk_tm (by omega)) rfl (d3) ?_
  refine nn_icmp_ge 51 dTM_settle_35 (by decide) (by omega) (by omega) (fun c35 => ?_) (fun c35 => ?_)
  ·
    exact absurd c35 (by omega)
  ·
    refine sd_aload_n dTM_settle_38 rfl rfl ?_
    refine fx_getr 7 2 (tmo (r) + 3) dTM_settle_39 fTM_18 (dk_tm (by omega)) rfl ?_
    refine sd_iload_n dTM_settle_42 rfl rfl ?_
    refine fx_ialdv (v := (nI (tl_end l (j + 1)))) (j + 1) dTM_settle_43 (dk_tm3 (by omega)) rfl (by omega) (by decide) (hs1) ?_
    refine sd_istore_n dTM_settle_44 rfl (by decide) ?_
    refine nn_iinc 1 dTM_settle_45 rfl (by decide) ?_
    refine sd_goto 17 dTM_settle_48 (by decide) ?_
    refine sd_locp (al' := [(0, .ref (o + (tmo (r)))), (1, .int (nI (j))), (2, .int (nI (tl_end l (j + 1)))), (3, .int (nI (1)))]) [2, 3, 1, 0] rfl ?_
    exact kk
theorem l_TM_settle {G : sd_G} {o : Nat} {D0 : fx_D} {h0 : sd_H} {nx r : Nat} {l : tl_T} (hB : G.2.1 ≤ o) (hr : r < 73) (hl : tm_row D0 r l) (hok : ∀ j, j < l.length → tl_ok 1 (l.drop j)) : ∀ (j : Nat) (D : fx_D), j ≤ l.length → (∀ x, x ≠ tmo r + 3 → D.1 x = D0.1 x) → D.2 = D0.2 → (∀ k, j ≤ k → k < l.length → D.1 (tmo r + 3) k = nI (tl_end l k)) → sd_W G mTM_settle 1 0 0 (fx_is G.1.2 dk_S o h0 nx none (fun D' => tm_set D' r l ∧ (∀ x, x ≠ tmo r + 3 → D'.1 x = D0.1 x) ∧ D'.2 = D0.2)) 7 [(0, .ref (o + tmo r)), (1, .int (ix j))] [] (fx_h G.1.2 dk_S o D h0) nx 0 0 := by
  have l24 := hl.1
  intro j
  induction j with
  | zero =>
    intro D hj f1 f2 hs
    refine sd_iload_n dTM_settle_7 rfl rfl ?_
    refine sd_if_lt 64 dTM_settle_8 (by decide) (fun c8 => ?_) (fun c8 => ?_)
    ·
      exact sd_vret dTM_settle_64 rfl (Nat.le_refl _) (Nat.le_refl _) ⟨rfl, rfl, _, rfl, fun k hk ↦ hs k (by omega) hk, f1, f2⟩
    ·
      exact absurd (show ix 0 < 0 by decide) c8
  | succ j ih =>
    intro D hj f1 f2 hs
    rw [show ix (j + 1) = nI j from rfl]
    have d3 : D.2.1 (tmo r) 3 = nI l.length := by rw [f2]; exact hl.2.1
    have hx := tl_at_some (l := l) (i := j) (by omega)
    obtain ⟨q1, q2, q3, q4⟩ := hl.2.2 j _ hx
    have s1 : D.1 (tmo r + 1) j = nI (tl_at l j).1 := by rw [f1 _ (by omega)]; exact q1
    obtain ⟨e0, e1, e2⟩ := tl_end_ar (hok j (by omega)) (by omega)
    have nxt := ih (fx_ua D (tmo r + 3) j (nI (tl_end l j))) (by omega) (fun x hx => by rw [← f1 x hx]; simp only [fx_ua, hx, if_false]) (show _ = _ from f2) (fun k a b => by
      rw [ua_at]
      by_cases z : k = j
      · rw [if_pos z, z]
      · rw [if_neg z]
        exact hs k (by omega) b)
    have cP := c_TM_partsOf (G := G) (h := fx_h G.1.2 dk_S o D h0) (nx := nx) (s := (tl_at l j).1) (by omega)
    have har := tl_ar_le (tl_at l j).1
    rcases (show tl_ar (tl_at l j).1 = 0 ∨ tl_ar (tl_at l j).1 = 1 ∨ tl_ar (tl_at l j).1 = 2 by omega) with ha | ha | ha
    · rw [ha] at cP
      rw [e0 ha] at nxt
      refine sd_iload_n dTM_settle_7 rfl rfl ?_
      refine nn_if_lt dTM_settle_8 64 (by decide) (by omega) ?_
      refine sd_iload_n dTM_settle_11 rfl rfl ?_
      refine sd_iconst (v := nI 1) dTM_settle_12 (by decide) ?_
      refine nn_iadd dTM_settle_13 ?_
      refine sd_istore_n dTM_settle_14 rfl (by decide) ?_
      refine sd_iconst (v := nI 0) dTM_settle_15 (by decide) ?_
      refine sd_istore_n dTM_settle_16 rfl (by decide) ?_
      refine sd_iload_n dTM_settle_17 rfl rfl ?_
      refine sd_aload_n dTM_settle_18 rfl rfl ?_
      refine fx_getr 7 0 (tmo (r) + 1) dTM_settle_19 fTM_9 (dk_tm (by omega)) rfl ?_
      refine sd_iload_n dTM_settle_22 rfl rfl ?_
      refine fx_ialdv (v := (nI ((tl_at l j).1))) (j) dTM_settle_23 (dk_tm1 (by omega)) rfl (by omega) (by decide) (s1) ?_
      refine sd_cS [.int (nI ((tl_at l j).1))] [.int (nI (0))] dTM_settle_24 kTM_41 mTM_partsOf_s (cP) (by decide) (Nat.le_refl _) (Nat.le_refl _) (Nat.le_of_ble_eq_true rfl) rfl ?_
      refine nn_icmp_ge 51 dTM_settle_27 (by decide) (by decide) (by decide) (fun _ => ?_) (fun c => absurd c (by decide))
      refine sd_aload_n dTM_settle_51 rfl rfl ?_
      refine fx_getr 7 2 (tmo (r) + 3) dTM_settle_52 fTM_18 (dk_tm (by omega)) rfl ?_
      refine sd_iload_n dTM_settle_55 rfl rfl ?_
      refine sd_iload_n dTM_settle_56 rfl rfl ?_
      refine fx_iast (j) dTM_settle_57 (dk_tm3 (by omega)) rfl (by omega) (by decide) hB ?_
      refine sd_iinc (ix j) dTM_settle_58 rfl (ix_dec j) (by decide) ?_
      refine sd_goto 7 dTM_settle_61 (by decide) ?_
      refine sd_locp (al' := [(0, .ref (o + (tmo (r)))), (1, .int (ix j))]) [3, 0] rfl ?_
      exact nxt
    · rw [ha] at cP
      obtain ⟨g1, g2⟩ := e1 ha
      have hs1 := hs (j + 1) (by omega) g1
      rw [g2] at nxt
      have hle := tl_end_le (l := l) (i := j + 1) (by omega)
      refine sd_iload_n dTM_settle_7 rfl rfl ?_
      refine nn_if_lt dTM_settle_8 64 (by decide) (by omega) ?_
      refine sd_iload_n dTM_settle_11 rfl rfl ?_
      refine sd_iconst (v := nI 1) dTM_settle_12 (by decide) ?_
      refine nn_iadd dTM_settle_13 ?_
      refine sd_istore_n dTM_settle_14 rfl (by decide) ?_
      refine sd_iconst (v := nI 0) dTM_settle_15 (by decide) ?_
      refine sd_istore_n dTM_settle_16 rfl (by decide) ?_
      refine sd_iload_n dTM_settle_17 rfl rfl ?_
      refine sd_aload_n dTM_settle_18 rfl rfl ?_
      refine fx_getr 7 0 (tmo (r) + 1) dTM_settle_19 fTM_9 (dk_tm (by omega)) rfl ?_
      refine sd_iload_n dTM_settle_22 rfl rfl ?_
      refine fx_ialdv (v := (nI ((tl_at l j).1))) (j) dTM_settle_23 (dk_tm1 (by omega)) rfl (by omega) (by decide) (s1) ?_
      refine sd_cS [.int (nI ((tl_at l j).1))] [.int (nI (0))] dTM_settle_24 kTM_41 mTM_partsOf_s (cP) (by decide) (Nat.le_refl _) (Nat.le_refl _) (Nat.le_of_ble_eq_true rfl) rfl ?_
      refine nn_icmp_ge 51 dTM_settle_27 (by decide) (by decide) (by decide) (fun c => absurd c (by decide)) (fun _ => ?_)
      refine sd_iload_n dTM_settle_30 rfl rfl ?_
      refine sd_aload_n dTM_settle_31 rfl rfl ?_
      refine fx_getiv (v := (nI (l.length))) 7 3 dTM_settle_32 fTM_21 (dk_tm (by omega)) rfl (d3) ?_
      refine nn_icmp_ge 51 dTM_settle_35 (by decide) (by omega) (by omega) (fun c35 => ?_) (fun c35 => ?_)
      ·
        exact absurd c35 (by omega)
      ·
        refine sd_aload_n dTM_settle_38 rfl rfl ?_
        refine fx_getr 7 2 (tmo (r) + 3) dTM_settle_39 fTM_18 (dk_tm (by omega)) rfl ?_
        refine sd_iload_n dTM_settle_42 rfl rfl ?_
        refine fx_ialdv (v := (nI (tl_end l (j + 1)))) (j + 1) dTM_settle_43 (dk_tm3 (by omega)) rfl (by omega) (by decide) (hs1) ?_
        refine sd_istore_n dTM_settle_44 rfl (by decide) ?_
        refine nn_iinc 1 dTM_settle_45 rfl (by decide) ?_
        refine sd_goto 17 dTM_settle_48 (by decide) ?_
        refine sd_iload_n dTM_settle_17 rfl rfl ?_
        refine sd_aload_n dTM_settle_18 rfl rfl ?_
        refine fx_getr 7 0 (tmo (r) + 1) dTM_settle_19 fTM_9 (dk_tm (by omega)) rfl ?_
        refine sd_iload_n dTM_settle_22 rfl rfl ?_
        refine fx_ialdv (v := (nI ((tl_at l j).1))) (j) dTM_settle_23 (dk_tm1 (by omega)) rfl (by omega) (by decide) (s1) ?_
        refine sd_cS [.int (nI ((tl_at l j).1))] [.int (nI (1))] dTM_settle_24 kTM_41 mTM_partsOf_s (cP) (by decide) (Nat.le_refl _) (Nat.le_refl _) (Nat.le_of_ble_eq_true rfl) rfl ?_
        refine nn_icmp_ge 51 dTM_settle_27 (by decide) (by decide) (by decide) (fun _ => ?_) (fun c => absurd c (by decide))
        refine sd_aload_n dTM_settle_51 rfl rfl ?_
        refine fx_getr 7 2 (tmo (r) + 3) dTM_settle_52 fTM_18 (dk_tm (by omega)) rfl ?_
        refine sd_iload_n dTM_settle_55 rfl rfl ?_
        refine sd_iload_n dTM_settle_56 rfl rfl ?_
        refine fx_iast (j) dTM_settle_57 (dk_tm3 (by omega)) rfl (by omega) (by decide) hB ?_
        refine sd_iinc (ix j) dTM_settle_58 rfl (ix_dec j) (by decide) ?_
        refine sd_goto 7 dTM_settle_61 (by decide) ?_
        refine sd_locp (al' := [(0, .ref (o + (tmo (r)))), (1, .int (ix j))]) [3, 0] rfl ?_
        exact nxt
    · rw [ha] at cP
      obtain ⟨g1, g2, g3⟩ := e2 ha
      have hs1 := hs (j + 1) (by omega) g1
      have lt1 := tl_end_lt (l := l) (i := j + 1) g1
      have hs2 := hs (tl_end l (j + 1)) (by omega) g2
      rw [g3] at nxt
      have b2 := b_TM_settle2 (G := G) (o := o) (h0 := h0) (nx := nx) (D := D) (l := l) (j := j) (Q := fx_is G.1.2 dk_S o h0 nx none (fun D' => tm_set D' r l ∧ (∀ x, x ≠ tmo r + 3 → D'.1 x = D0.1 x) ∧ D'.2 = D0.2)) hB hr l24 (by omega) g2 s1 cP d3 hs2 nxt
      have b1 := b_TM_settle1 hB hr l24 g1 s1 cP d3 hs1 b2
      refine sd_iload_n dTM_settle_7 rfl rfl ?_
      refine nn_if_lt dTM_settle_8 64 (by decide) (by omega) ?_
      refine sd_iload_n dTM_settle_11 rfl rfl ?_
      refine sd_iconst (v := nI 1) dTM_settle_12 (by decide) ?_
      refine nn_iadd dTM_settle_13 ?_
      refine sd_istore_n dTM_settle_14 rfl (by decide) ?_
      refine sd_iconst (v := nI 0) dTM_settle_15 (by decide) ?_
      refine sd_istore_n dTM_settle_16 rfl (by decide) ?_
      refine sd_locp (al' := [(0, .ref (o + (tmo (r)))), (1, .int (nI (j))), (2, .int (nI (j + 1))), (3, .int (nI (0)))]) [2, 3, 1, 0] rfl ?_
      exact b1
theorem c_TM_settle {G : sd_G} {o : Nat} {D : fx_D} {h0 : sd_H} {nx r : Nat} {l : tl_T} (hB : G.2.1 ≤ o) (hr : r < 73) (hl : tm_row D r l) (hok : ∀ j, j < l.length → tl_ok 1 (l.drop j)) : sd_Ct G mTM_settle 1 0 0 [.ref (o + tmo r)] (fx_h G.1.2 dk_S o D h0) nx (fx_is G.1.2 dk_S o h0 nx none (fun D' => tm_set D' r l ∧ (∀ x, x ≠ tmo r + 3 → D'.1 x = D.1 x) ∧ D'.2 = D.2)) := by
  refine sd_Ct_of (by decide) (Nat.le_of_ble_eq_true rfl) ?_
  have l24 := hl.1
  refine sd_aload_n dTM_settle_0 rfl rfl ?_
  refine fx_getiv (v := (nI (l.length))) 7 3 dTM_settle_1 fTM_21 (dk_tm (by omega)) rfl (hl.2.1) ?_
  refine sd_iconst (v := nI 1) dTM_settle_4 (by decide) ?_
  refine sd_isub dTM_settle_5 ?_
  rw [show ((nI (l.length)) - (nI (1))) = (ix l.length) from ix_sub l.length]
  refine sd_istore_n dTM_settle_6 rfl (by decide) ?_
  refine sd_locp (al' := [(0, .ref (o + (tmo (r)))), (1, .int (ix l.length))]) [1, 0] rfl ?_
  exact l_TM_settle hB hr hl hok l.length D (Nat.le_refl _) (fun _ _ ↦ rfl) rfl (fun k a b ↦ absurd a (by omega))
