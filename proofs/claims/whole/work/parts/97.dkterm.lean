/-! ===== the class's rows ===== -/
theorem tmo_ne {r q i j : Nat} (h : r ≠ q) (hi : i ≤ 3) (hj : j ≤ 3) : tmo r + i ≠ tmo q + j := by
  show 4 + 4 * r + i ≠ 4 + 4 * q + j
  omega
theorem tmo_ne0 {r q : Nat} (h : r ≠ q) : tmo r ≠ tmo q := by
  show 4 + 4 * r ≠ 4 + 4 * q
  omega
/-- D' differs from D in row r -/
def tm_f (r : Nat) (D D' : fx_D) : Prop := (∀ x, x ≠ tmo r + 1 → x ≠ tmo r + 2 → x ≠ tmo r + 3 → D'.1 x = D.1 x) ∧ (∀ x, x ≠ tmo r → D'.2.1 x = D.2.1 x) ∧ D'.2.2 = D.2.2
theorem tm_f.rf (r : Nat) (D : fx_D) : tm_f r D D := ⟨fun _ _ _ _ => rfl, fun _ _ => rfl, rfl⟩
theorem tm_f.tr {r : Nat} {D D' D2 : fx_D} (h : tm_f r D D') (h2 : tm_f r D' D2) : tm_f r D D2 := ⟨fun x a b c => (h2.1 x a b c).trans (h.1 x a b c), fun x a => (h2.2.1 x a).trans (h.2.1 x a), h2.2.2.trans h.2.2⟩
theorem tm_f.ua {r : Nat} (D : fx_D) {i j : Nat} {v : Int32} (h : 1 ≤ i ∧ i ≤ 3) : tm_f r D (fx_ua D (tmo r + i) j v) := ⟨fun x a b c => by
  have e : ¬ x = tmo r + i := by
    rcases (show i = 1 ∨ i = 2 ∨ i = 3 by omega) with rfl | rfl | rfl
    · exact a
    · exact b
    · exact c
  simp only [fx_ua, e, if_false], fun _ _ => rfl, rfl⟩
theorem tm_f.uf {r : Nat} (D : fx_D) {j : Nat} {v : Int32} : tm_f r D (fx_uf D (tmo r) j v) := ⟨fun _ _ _ _ => rfl, fun x a => by simp only [fx_uf, a, if_false], rfl⟩
theorem tm_row_f {r q : Nat} {D D' : fx_D} {l : tl_T} (hf : tm_f r D D') (hq : q ≠ r) (h : tm_row D q l) : tm_row D' q l := by
  refine ⟨h.1, by rw [hf.2.1 (tmo q) (tmo_ne0 hq)]; exact h.2.1, fun k x hx => ?_⟩
  rw [hf.1 _ (tmo_ne hq (by omega) (by omega)) (tmo_ne hq (by omega) (by omega)) (tmo_ne hq (by omega) (by omega)), hf.1 _ (tmo_ne hq (by omega) (by omega)) (tmo_ne hq (by omega) (by omega)) (tmo_ne hq (by omega) (by omega))]
  exact h.2.2 k x hx
theorem tm_set_f {r q : Nat} {D D' : fx_D} {l : tl_T} (hf : tm_f r D D') (hq : q ≠ r) (h : tm_set D q l) : tm_set D' q l := fun k hk => by
  rw [hf.1 _ (tmo_ne hq (by omega) (by omega)) (tmo_ne hq (by omega) (by omega)) (tmo_ne hq (by omega) (by omega))]
  exact h k hk
/-- row r has been written with L, as far as there was room -/
def tw (D : fx_D) (r : Nat) (L : tl_T) : Prop := (L.length ≤ 24 ∧ tm_row D r L ∧ D.2.1 (tmo r) 4 = nI 0) ∨ (24 < L.length ∧ D.2.1 (tmo r) 4 = nI 1 ∧ ∃ n, n ≤ 24 ∧ D.2.1 (tmo r) 3 = nI n)
theorem tw.ln {D : fx_D} {r : Nat} {L : tl_T} (h : tw D r L) : ∃ n, n ≤ 24 ∧ D.2.1 (tmo r) 3 = nI n ∧ (L.length ≤ 24 → n = L.length) := by
  rcases h with ⟨h1, h2, -⟩ | ⟨h1, -, n, h2, h3⟩
  · exact ⟨L.length, h1, h2.2.1, fun _ => rfl⟩
  · exact ⟨n, h2, h3, fun z => by omega⟩
theorem tw_begin {D : fx_D} {r : Nat} : tw (fx_uf (fx_uf D (tmo r) 3 (nI 0)) (tmo r) 4 (nI 0)) r [] ∧ tm_f r D (fx_uf (fx_uf D (tmo r) 3 (nI 0)) (tmo r) 4 (nI 0)) := ⟨Or.inl ⟨by simp, ⟨by simp, by simp [fx_uf, upd], fun k x h => by simp at h⟩, by simp [fx_uf, upd]⟩, (tm_f.uf D).tr (tm_f.uf _)⟩
/-- one symbol more -/
theorem tw_add {D : fx_D} {r n s t : Nat} {L : tl_T} (h : tw D r L) (hn : D.2.1 (tmo r) 3 = nI n) (hn24 : n < 24) (hs : s < 100) (ht : t < 2 ^ 25) : tw (fx_uf (fx_ua (fx_ua D (tmo r + 1) n (nI s)) (tmo r + 2) n (nI t)) (tmo r) 3 (nI (n + 1))) r (L ++ [(s, t)]) := by
  rcases h with ⟨h1, h2, h3⟩ | ⟨h1, h2, -⟩
  · have e : n = L.length := nI_inj (by omega) (by omega) (hn.symm.trans h2.2.1)
    subst e
    refine Or.inl ⟨by rw [List.length_append, List.length_singleton]; omega, ⟨by rw [List.length_append, List.length_singleton]; omega, by rw [List.length_append, List.length_singleton]; simp [fx_uf, upd], fun k x hx => ?_⟩, by simpa [fx_uf, fx_ua, upd] using h3⟩
    have n12 : ¬ tmo r + 1 = tmo r + 2 := by omega
    have n21 : ¬ tmo r + 2 = tmo r + 1 := by omega
    by_cases hl : k < L.length
    · rw [List.getElem?_append_left hl] at hx
      have hk : ¬ k = L.length := by omega
      simp only [fx_uf, fx_ua, upd, n12, n21, hk, if_true, if_false]
      exact h2.2.2 k x hx
    · have hgl := getE_lt hx
      rw [List.length_append, List.length_singleton] at hgl
      rw [List.getElem?_append_right (by omega), show k - L.length = 0 by omega] at hx
      cases hx
      have hk : k = L.length := by omega
      simp only [fx_uf, fx_ua, upd, n12, n21, hk, if_true, if_false]
      exact ⟨trivial, trivial, hs, ht⟩
  · exact Or.inr ⟨by rw [List.length_append]; omega, by simpa [fx_uf, fx_ua, upd] using h2, n + 1, by omega, by simp [fx_uf, upd]⟩
theorem tw_over {D : fx_D} {r : Nat} {L M : tl_T} (h : tw D r L) (hl : 24 < (L ++ M).length) : tw (fx_uf D (tmo r) 4 (nI 1)) r (L ++ M) := by
  obtain ⟨n, n1, n2, -⟩ := h.ln
  exact Or.inr ⟨hl, by simp [fx_uf, upd], n, n1, by simpa [fx_uf, upd] using n2⟩
theorem dTM_add_0 : decode prog_8_method_3_code 0 = .ok (.aload_n 0, 1) := by decide +kernel
theorem dTM_add_1 : decode prog_8_method_3_code 1 = .ok (.getfield 21, 3) := by decide +kernel
theorem dTM_add_4 : decode prog_8_method_3_code 4 = .ok (.bipush (24), 2) := by decide +kernel
theorem dTM_add_6 : decode prog_8_method_3_code 6 = .ok (.if_icmp .ge (8), 3) := by decide +kernel
theorem dTM_add_9 : decode prog_8_method_3_code 9 = .ok (.iload_n 2, 1) := by decide +kernel
theorem dTM_add_10 : decode prog_8_method_3_code 10 = .ok (.iconst (-1), 1) := by decide +kernel
theorem dTM_add_11 : decode prog_8_method_3_code 11 = .ok (.if_icmp .ne (9), 3) := by decide +kernel
theorem dTM_add_14 : decode prog_8_method_3_code 14 = .ok (.aload_n 0, 1) := by decide +kernel
theorem dTM_add_15 : decode prog_8_method_3_code 15 = .ok (.iconst 1, 1) := by decide +kernel
theorem dTM_add_16 : decode prog_8_method_3_code 16 = .ok (.putfield 25, 3) := by decide +kernel
theorem dTM_add_19 : decode prog_8_method_3_code 19 = .ok (.return_, 1) := by decide +kernel
theorem dTM_add_20 : decode prog_8_method_3_code 20 = .ok (.aload_n 0, 1) := by decide +kernel
theorem dTM_add_21 : decode prog_8_method_3_code 21 = .ok (.getfield 9, 3) := by decide +kernel
theorem dTM_add_24 : decode prog_8_method_3_code 24 = .ok (.aload_n 0, 1) := by decide +kernel
theorem dTM_add_25 : decode prog_8_method_3_code 25 = .ok (.getfield 21, 3) := by decide +kernel
theorem dTM_add_28 : decode prog_8_method_3_code 28 = .ok (.iload_n 1, 1) := by decide +kernel
theorem dTM_add_29 : decode prog_8_method_3_code 29 = .ok (.iastore, 1) := by decide +kernel
theorem dTM_add_30 : decode prog_8_method_3_code 30 = .ok (.aload_n 0, 1) := by decide +kernel
theorem dTM_add_31 : decode prog_8_method_3_code 31 = .ok (.getfield 15, 3) := by decide +kernel
theorem dTM_add_34 : decode prog_8_method_3_code 34 = .ok (.aload_n 0, 1) := by decide +kernel
theorem dTM_add_35 : decode prog_8_method_3_code 35 = .ok (.getfield 21, 3) := by decide +kernel
theorem dTM_add_38 : decode prog_8_method_3_code 38 = .ok (.iload_n 2, 1) := by decide +kernel
theorem dTM_add_39 : decode prog_8_method_3_code 39 = .ok (.iastore, 1) := by decide +kernel
theorem dTM_add_40 : decode prog_8_method_3_code 40 = .ok (.aload_n 0, 1) := by decide +kernel
theorem dTM_add_41 : decode prog_8_method_3_code 41 = .ok (.dup, 1) := by decide +kernel
theorem dTM_add_42 : decode prog_8_method_3_code 42 = .ok (.getfield 21, 3) := by decide +kernel
theorem dTM_add_45 : decode prog_8_method_3_code 45 = .ok (.iconst 1, 1) := by decide +kernel
theorem dTM_add_46 : decode prog_8_method_3_code 46 = .ok (.iadd, 1) := by decide +kernel
theorem dTM_add_47 : decode prog_8_method_3_code 47 = .ok (.putfield 21, 3) := by decide +kernel
theorem dTM_add_50 : decode prog_8_method_3_code 50 = .ok (.return_, 1) := by decide +kernel
theorem c_TM_add {G : sd_G} {o : Nat} {D : fx_D} {h0 : sd_H} {nx r s t : Nat} {L : tl_T} (hB : G.2.1 ≤ o) (hr : r < 73) (h : tw D r L) (hs : s < 100) (ht : t < 2 ^ 25) : sd_Ct G mTM_add 0 0 0 [.ref (o + tmo r), .int (nI s), .int (nI t)] (fx_h G.1.2 dk_S o D h0) nx (fx_is G.1.2 dk_S o h0 nx none (fun D' => tw D' r (L ++ [(s, t)]) ∧ tm_f r D D')) := by
  refine sd_Ct_of (by decide) (Nat.le_of_ble_eq_true rfl) ?_
  obtain ⟨n, n1, n2, n3⟩ := h.ln
  have hne : ¬ nI t = -1 := fun e => by
    have := nI_toInt (n := t) (by omega)
    rw [e] at this
    have e1 : (-1 : Int32).toInt = -1 := rfl
    omega
  by_cases hn : n = 24
  · subst hn
    have hov := tw_over (M := [(s, t)]) h (by
      rw [List.length_append, List.length_singleton]
      by_cases z : L.length ≤ 24
      · have := n3 z; omega
      · omega)
    refine sd_aload_n dTM_add_0 rfl rfl ?_
    refine fx_getiv (v := (nI (24))) 7 3 dTM_add_1 fTM_21 (dk_tm (by omega)) rfl (n2) ?_
    refine sd_bipush (v := nI 24) dTM_add_4 (by decide) ?_
    refine nn_icmp_ge 14 dTM_add_6 (by decide) (by decide) (by decide) (fun _ => ?_) (fun c => absurd c (by decide))
    refine sd_aload_n dTM_add_14 rfl rfl ?_
    refine sd_iconst (v := nI 1) dTM_add_15 (by decide) ?_
    refine fx_putz 7 4 dTM_add_16 fTM_25 rfl rfl (Or.inr rfl) (dk_tm (by omega)) rfl hB ?_
    exact sd_vret dTM_add_19 rfl (Nat.le_refl _) (Nat.le_refl _) ⟨rfl, rfl, _, rfl, hov, tm_f.uf D⟩
  ·
    refine sd_aload_n dTM_add_0 rfl rfl ?_
    refine fx_getiv (v := (nI (n))) 7 3 dTM_add_1 fTM_21 (dk_tm (by omega)) rfl (n2) ?_
    refine sd_bipush (v := nI 24) dTM_add_4 (by decide) ?_
    refine nn_icmp_ge 14 dTM_add_6 (by decide) (by omega) (by omega) (fun c6 => ?_) (fun c6 => ?_)
    ·
      exact absurd c6 (by omega)
    ·
      refine sd_iload_n dTM_add_9 rfl rfl ?_
      refine sd_iconst (v := (-1)) dTM_add_10 (by decide) ?_
      refine sd_icmp_ne 20 dTM_add_11 (by decide) (fun c11 => ?_) (fun c11 => ?_)
      ·
        refine sd_aload_n dTM_add_20 rfl rfl ?_
        refine fx_getr 7 0 (tmo (r) + 1) dTM_add_21 fTM_9 (dk_tm (by omega)) rfl ?_
        refine sd_aload_n dTM_add_24 rfl rfl ?_
        refine fx_getiv (v := (nI (n))) 7 3 dTM_add_25 fTM_21 (dk_tm (by omega)) rfl (n2) ?_
        refine sd_iload_n dTM_add_28 rfl rfl ?_
        refine fx_iast (n) dTM_add_29 (dk_tm1 (by omega)) rfl (by omega) (by decide) hB ?_
        refine sd_aload_n dTM_add_30 rfl rfl ?_
        refine fx_getr 7 1 (tmo (r) + 2) dTM_add_31 fTM_15 (dk_tm (by omega)) rfl ?_
        refine sd_aload_n dTM_add_34 rfl rfl ?_
        refine fx_getiv (v := (nI (n))) 7 3 dTM_add_35 fTM_21 (dk_tm (by omega)) rfl ((by simpa [fx_ua] using n2)) ?_
        refine sd_iload_n dTM_add_38 rfl rfl ?_
        refine fx_iast (n) dTM_add_39 (dk_tm2 (by omega)) rfl (by omega) (by decide) hB ?_
        refine sd_aload_n dTM_add_40 rfl rfl ?_
        refine sd_dup dTM_add_41 rfl ?_
        refine fx_getiv (v := (nI (n))) 7 3 dTM_add_42 fTM_21 (dk_tm (by omega)) rfl ((by simpa [fx_ua] using n2)) ?_
        refine sd_iconst (v := nI 1) dTM_add_45 (by decide) ?_
        refine nn_iadd dTM_add_46 ?_
        refine fx_puti 7 3 dTM_add_47 fTM_21 rfl rfl (dk_tm (by omega)) rfl hB ?_
        exact sd_vret dTM_add_50 rfl (Nat.le_refl _) (Nat.le_refl _) ⟨rfl, rfl, _, rfl, tw_add h n2 (by omega) hs ht, ((tm_f.ua D (by omega)).tr (tm_f.ua _ (by omega))).tr (tm_f.uf _)⟩
      ·
        exact absurd c11 hne
theorem c_TM_addBig {G : sd_G} {o : Nat} {D : fx_D} {h0 : sd_H} {nx r s n : Nat} (hB : G.2.1 ≤ o) (hr : r < 73) (hn : n ≤ 24) (h : D.2.1 (tmo r) 3 = nI n) : sd_Ct G mTM_add 0 0 0 [.ref (o + tmo r), .int (nI s), .int (-1)] (fx_h G.1.2 dk_S o D h0) nx (sd_is none (fx_h G.1.2 dk_S o (fx_uf D (tmo r) 4 (nI 1)) h0) nx) := by
  refine sd_Ct_of (by decide) (Nat.le_of_ble_eq_true rfl) ?_
  refine sd_aload_n dTM_add_0 rfl rfl ?_
  refine fx_getiv (v := (nI (n))) 7 3 dTM_add_1 fTM_21 (dk_tm (by omega)) rfl (h) ?_
  refine sd_bipush (v := nI 24) dTM_add_4 (by decide) ?_
  refine nn_icmp_ge 14 dTM_add_6 (by decide) (by omega) (by omega) (fun c6 => ?_) (fun c6 => ?_)
  ·
    refine sd_aload_n dTM_add_14 rfl rfl ?_
    refine sd_iconst (v := nI 1) dTM_add_15 (by decide) ?_
    refine fx_putz 7 4 dTM_add_16 fTM_25 rfl rfl (Or.inr rfl) (dk_tm (by omega)) rfl hB ?_
    exact sd_vret dTM_add_19 rfl (Nat.le_refl _) (Nat.le_refl _) ⟨rfl, rfl, rfl⟩
  ·
    refine sd_iload_n dTM_add_9 rfl rfl ?_
    refine sd_iconst (v := (-1)) dTM_add_10 (by decide) ?_
    refine sd_icmp_ne 20 dTM_add_11 (by decide) (fun c11 => ?_) (fun c11 => ?_)
    ·
      exact absurd rfl c11
    ·
      refine sd_aload_n dTM_add_14 rfl rfl ?_
      refine sd_iconst (v := nI 1) dTM_add_15 (by decide) ?_
      refine fx_putz 7 4 dTM_add_16 fTM_25 rfl rfl (Or.inr rfl) (dk_tm (by omega)) rfl hB ?_
      exact sd_vret dTM_add_19 rfl (Nat.le_refl _) (Nat.le_refl _) ⟨rfl, rfl, rfl⟩
theorem dTM_right_0 : decode prog_8_method_15_code 0 = .ok (.aload_n 0, 1) := by decide +kernel
theorem dTM_right_1 : decode prog_8_method_15_code 1 = .ok (.getfield 18, 3) := by decide +kernel
theorem dTM_right_4 : decode prog_8_method_15_code 4 = .ok (.iconst 1, 1) := by decide +kernel
theorem dTM_right_5 : decode prog_8_method_15_code 5 = .ok (.iaload, 1) := by decide +kernel
theorem dTM_right_6 : decode prog_8_method_15_code 6 = .ok (.ireturn, 1) := by decide +kernel
theorem c_TM_right {G : sd_G} {o : Nat} {D : fx_D} {h0 : sd_H} {nx r : Nat} {l : tl_T} (hr : r < 73) (hl : tm_set D r l) (h1 : 1 < l.length) : sd_Ct G mTM_right 0 0 0 [.ref (o + tmo r)] (fx_h G.1.2 dk_S o D h0) nx (sd_is (some (.int (nI (tl_end l 1)))) (fx_h G.1.2 dk_S o D h0) nx) := by
  refine sd_Ct_of (by decide) (Nat.le_of_ble_eq_true rfl) ?_
  refine sd_aload_n dTM_right_0 rfl rfl ?_
  refine fx_getr 7 2 (tmo (r) + 3) dTM_right_1 fTM_18 (dk_tm (by omega)) rfl ?_
  refine sd_iconst (v := nI 1) dTM_right_4 (by decide) ?_
  refine fx_ialdv (v := (nI (tl_end l 1))) (1) dTM_right_5 (dk_tm3 (by omega)) rfl (by omega) (by decide) (hl 1 h1) ?_
  exact sd_iret dTM_right_6 rfl (Nat.le_refl _) (Nat.le_refl _) ⟨rfl, rfl, rfl⟩
