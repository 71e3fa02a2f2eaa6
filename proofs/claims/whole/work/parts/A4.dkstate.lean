/-! ===== the class's Statement ===== -/
/-- its hypotheses -/
def so_r (D : fx_D) (s : Nat) (L : List Nat) : Prop := L.length ≤ 6 ∧ D.2.1 s 1 = nI L.length ∧ ∀ k t : Nat, L[k]? = some t → D.1 (s + 1) k = nI t ∧ t < 2 ^ 30
/-- L has been assumed, as far as there was room -/
def so_w (D : fx_D) (s : Nat) (L : List Nat) : Prop := (L.length ≤ 6 ∧ so_r D s L ∧ D.2.1 s 3 = nI 0) ∨ (6 < L.length ∧ D.2.1 s 3 = nI 1 ∧ ∃ R, so_r D s R)
/-- D' differs from D in the hypotheses of s -/
def so_f (s : Nat) (D D' : fx_D) : Prop := (∀ x, x ≠ s + 1 → D'.1 x = D.1 x) ∧ (∀ x j, ¬ (x = s ∧ (j = 1 ∨ j = 3)) → D'.2.1 x j = D.2.1 x j) ∧ D'.2.2 = D.2.2
theorem so_f.rf (s : Nat) (D : fx_D) : so_f s D D := ⟨fun _ _ => rfl, fun _ _ _ => rfl, rfl⟩
theorem so_f.tr {s : Nat} {D D' D2 : fx_D} (h : so_f s D D') (h2 : so_f s D' D2) : so_f s D D2 := ⟨fun x a => (h2.1 x a).trans (h.1 x a), fun x j a => (h2.2.1 x j a).trans (h.2.1 x j a), h2.2.2.trans h.2.2⟩
theorem so_f.ua {s : Nat} (D : fx_D) {i : Nat} {v : Int32} : so_f s D (fx_ua D (s + 1) i v) := ⟨fun x a => by simp only [fx_ua, a, if_false], fun _ _ _ => rfl, rfl⟩
theorem so_f.uf {s : Nat} (D : fx_D) {j : Nat} {v : Int32} (hj : j = 1 ∨ j = 3) : so_f s D (fx_uf D s j v) := ⟨fun _ _ => rfl, fun x i a => by
  by_cases hx : x = s
  · have hi : ¬ i = j := fun e => a ⟨hx, e ▸ hj⟩
    subst hx
    simp [fx_uf, upd, hi]
  · simp [fx_uf, hx], rfl⟩
theorem so_r_f {s u : Nat} {D D' : fx_D} {L : List Nat} (hf : so_f s D D') (h1 : u + 1 ≠ s + 1) (h : so_r D u L) : so_r D' u L := by
  refine ⟨h.1, by rw [hf.2.1 u 1 (fun z => h1 (by rw [z.1]))]; exact h.2.1, fun k t ht => ?_⟩
  rw [hf.1 _ h1]
  exact h.2.2 k t ht
theorem so_w.ln {D : fx_D} {s : Nat} {L : List Nat} (h : so_w D s L) : ∃ R, so_r D s R ∧ (L.length ≤ 6 → R = L ∧ D.2.1 s 3 = nI 0) ∧ (6 < L.length → D.2.1 s 3 = nI 1) := by
  rcases h with ⟨h1, h2, h3⟩ | ⟨h1, h3, R, h2⟩
  · exact ⟨L, h2, fun _ => ⟨rfl, h3⟩, fun z => by omega⟩
  · exact ⟨R, h2, fun z => by omega, fun _ => h3⟩
theorem ls_h_ge (L : List Nat) (t : Nat) : L.length ≤ (ls_h L t).length := by
  unfold ls_h
  split
  · exact Nat.le_refl _
  · rw [List.length_append]; omega
theorem so_w_in {D : fx_D} {s t : Nat} {L R : List Nat} (h : so_w D s L) (hR : L.length ≤ 6 → R = L) (ht : t ∈ R) : so_w D s (ls_h L t) := by
  by_cases hl : L.length ≤ 6
  · have e : ls_h L t = L := if_pos (by rw [← hR hl]; exact ht)
    rw [e]
    exact h
  · rcases h with ⟨h1, -⟩ | ⟨h1, h2, h3⟩
    · exact absurd h1 hl
    · have := ls_h_ge L t
      exact Or.inr ⟨by omega, h2, h3⟩
theorem so_w_full {D : fx_D} {s t : Nat} {L R : List Nat} (hr : so_r D s R) (hR : L.length ≤ 6 → R = L) (ht : t ∉ R) (h6 : R.length = 6) : so_w (fx_uf D s 3 (nI 1)) s (ls_h L t) := by
  refine Or.inr ⟨?_, by simp [fx_uf, upd], R, hr.1, by simpa [fx_uf, upd] using hr.2.1, hr.2.2⟩
  by_cases hl : L.length ≤ 6
  · have := hR hl
    subst this
    have e : ls_h R t = R ++ [t] := if_neg ht
    rw [e, List.length_append, List.length_singleton]
    omega
  · have := ls_h_ge L t
    omega
theorem so_w_app {D : fx_D} {s t : Nat} {L R : List Nat} (h : so_w D s L) (hr : so_r D s R) (hR : L.length ≤ 6 → R = L) (ht : t ∉ R) (h6 : R.length < 6) (ht30 : t < 2 ^ 30) : so_w (fx_uf (fx_ua D (s + 1) R.length (nI t)) s 1 (nI (R.length + 1))) s (ls_h L t) := by
  have hr' : so_r (fx_uf (fx_ua D (s + 1) R.length (nI t)) s 1 (nI (R.length + 1))) s (R ++ [t]) := by
    refine ⟨by rw [List.length_append, List.length_singleton]; omega, by rw [List.length_append, List.length_singleton]; simp [fx_uf, upd], fun k u hu => ?_⟩
    by_cases hk : k < R.length
    · rw [List.getElem?_append_left hk] at hu
      have hk' : ¬ k = R.length := by omega
      simp only [fx_uf, fx_ua, upd, hk', if_true, if_false]
      exact hr.2.2 k u hu
    · have hg := getE_lt hu
      rw [List.length_append, List.length_singleton] at hg
      rw [List.getElem?_append_right (by omega), show k - R.length = 0 by omega] at hu
      cases hu
      have hk' : k = R.length := by omega
      simp only [fx_uf, fx_ua, upd, hk', if_true]
      exact ⟨trivial, ht30⟩
  rcases h with ⟨h1, -, h3⟩ | ⟨h1, h2, h3⟩
  · have := hR h1
    subst this
    have e : ls_h R t = R ++ [t] := if_neg ht
    rw [e]
    exact Or.inl ⟨by rw [List.length_append, List.length_singleton]; omega, hr', by simpa [fx_uf, fx_ua, upd] using h3⟩
  · have := ls_h_ge L t
    exact Or.inr ⟨by omega, by simpa [fx_uf, fx_ua, upd] using h2, _, hr'⟩
theorem dST_begin_0 : decode prog_7_method_2_code 0 = .ok (.aload_n 0, 1) := by decide +kernel
theorem dST_begin_1 : decode prog_7_method_2_code 1 = .ok (.iconst 0, 1) := by decide +kernel
theorem dST_begin_2 : decode prog_7_method_2_code 2 = .ok (.putfield 15, 3) := by decide +kernel
theorem dST_begin_5 : decode prog_7_method_2_code 5 = .ok (.aload_n 0, 1) := by decide +kernel
theorem dST_begin_6 : decode prog_7_method_2_code 6 = .ok (.iconst (-1), 1) := by decide +kernel
theorem dST_begin_7 : decode prog_7_method_2_code 7 = .ok (.putfield 19, 3) := by decide +kernel
theorem dST_begin_10 : decode prog_7_method_2_code 10 = .ok (.aload_n 0, 1) := by decide +kernel
theorem dST_begin_11 : decode prog_7_method_2_code 11 = .ok (.iconst 0, 1) := by decide +kernel
theorem dST_begin_12 : decode prog_7_method_2_code 12 = .ok (.putfield 22, 3) := by decide +kernel
theorem dST_begin_15 : decode prog_7_method_2_code 15 = .ok (.return_, 1) := by decide +kernel
theorem c_ST_begin {G : sd_G} {o : Nat} {D : fx_D} {h0 : sd_H} {nx s : Nat} (hB : G.2.1 ≤ o) (hso_s : dk_so s) : sd_Ct G mST_begin 0 0 0 [.ref (o + s)] (fx_h G.1.2 dk_S o D h0) nx (sd_is none (fx_h G.1.2 dk_S o (fx_uf (fx_uf (fx_uf D s 1 (nI 0)) s 2 (-1)) s 3 (nI 0)) h0) nx) := by
  refine sd_Ct_of (by decide) (Nat.le_of_ble_eq_true rfl) ?_
  refine sd_aload_n dST_begin_0 rfl rfl ?_
  refine sd_iconst (v := nI 0) dST_begin_1 (by decide) ?_
  refine fx_puti 6 1 dST_begin_2 fST_15 rfl rfl hso_s.1 rfl hB ?_
  refine sd_aload_n dST_begin_5 rfl rfl ?_
  refine sd_iconst (v := (-1)) dST_begin_6 (by decide) ?_
  refine fx_puti 6 2 dST_begin_7 fST_19 rfl rfl hso_s.1 rfl hB ?_
  refine sd_aload_n dST_begin_10 rfl rfl ?_
  refine sd_iconst (v := nI 0) dST_begin_11 (by decide) ?_
  refine fx_putz 6 3 dST_begin_12 fST_22 rfl rfl (Or.inl rfl) hso_s.1 rfl hB ?_
  exact sd_vret dST_begin_15 rfl (Nat.le_refl _) (Nat.le_refl _) ⟨rfl, rfl, rfl⟩
theorem dST_conclude_0 : decode prog_7_method_6_code 0 = .ok (.aload_n 0, 1) := by decide +kernel
theorem dST_conclude_1 : decode prog_7_method_6_code 1 = .ok (.iload_n 1, 1) := by decide +kernel
theorem dST_conclude_2 : decode prog_7_method_6_code 2 = .ok (.putfield 19, 3) := by decide +kernel
theorem dST_conclude_5 : decode prog_7_method_6_code 5 = .ok (.iload_n 1, 1) := by decide +kernel
theorem dST_conclude_6 : decode prog_7_method_6_code 6 = .ok (.ifCond .ge (8), 3) := by decide +kernel
theorem dST_conclude_9 : decode prog_7_method_6_code 9 = .ok (.aload_n 0, 1) := by decide +kernel
theorem dST_conclude_10 : decode prog_7_method_6_code 10 = .ok (.iconst 1, 1) := by decide +kernel
theorem dST_conclude_11 : decode prog_7_method_6_code 11 = .ok (.putfield 22, 3) := by decide +kernel
theorem dST_conclude_14 : decode prog_7_method_6_code 14 = .ok (.return_, 1) := by decide +kernel
theorem c_ST_conclude {G : sd_G} {o : Nat} {D : fx_D} {h0 : sd_H} {nx s t : Nat} (hB : G.2.1 ≤ o) (hso_s : dk_so s) (ht : t < 2 ^ 31) : sd_Ct G mST_conclude 0 0 0 [.ref (o + s), .int (nI t)] (fx_h G.1.2 dk_S o D h0) nx (sd_is none (fx_h G.1.2 dk_S o (fx_uf D s 2 (nI t)) h0) nx) := by
  refine sd_Ct_of (by decide) (Nat.le_of_ble_eq_true rfl) ?_
  refine sd_aload_n dST_conclude_0 rfl rfl ?_
  refine sd_iload_n dST_conclude_1 rfl rfl ?_
  refine fx_puti 6 2 dST_conclude_2 fST_19 rfl rfl hso_s.1 rfl hB ?_
  refine sd_iload_n dST_conclude_5 rfl rfl ?_
  refine nn_if_ge dST_conclude_6 14 (by decide) (by omega) ?_
  exact sd_vret dST_conclude_14 rfl (Nat.le_refl _) (Nat.le_refl _) ⟨rfl, rfl, rfl⟩
theorem c_ST_concludeBig {G : sd_G} {o : Nat} {D : fx_D} {h0 : sd_H} {nx s : Nat} {x : Int32} (hB : G.2.1 ≤ o) (hso_s : dk_so s) (hx : x < 0) : sd_Ct G mST_conclude 0 0 0 [.ref (o + s), .int x] (fx_h G.1.2 dk_S o D h0) nx (sd_is none (fx_h G.1.2 dk_S o (fx_uf (fx_uf D s 2 x) s 3 (nI 1)) h0) nx) := by
  refine sd_Ct_of (by decide) (Nat.le_of_ble_eq_true rfl) ?_
  refine sd_aload_n dST_conclude_0 rfl rfl ?_
  refine sd_iload_n dST_conclude_1 rfl rfl ?_
  refine fx_puti 6 2 dST_conclude_2 fST_19 rfl rfl hso_s.1 rfl hB ?_
  refine sd_iload_n dST_conclude_5 rfl rfl ?_
  refine sd_if_ge 14 dST_conclude_6 (by decide) (fun c6 => ?_) (fun c6 => ?_)
  ·
    exact absurd hx (Int32.not_lt.mpr c6)
  ·
    refine sd_aload_n dST_conclude_9 rfl rfl ?_
    refine sd_iconst (v := nI 1) dST_conclude_10 (by decide) ?_
    refine fx_putz 6 3 dST_conclude_11 fST_22 rfl rfl (Or.inr rfl) hso_s.1 rfl hB ?_
    exact sd_vret dST_conclude_14 rfl (Nat.le_refl _) (Nat.le_refl _) ⟨rfl, rfl, rfl⟩
theorem dST_assumes_0 : decode prog_7_method_7_code 0 = .ok (.iconst 0, 1) := by decide +kernel
theorem dST_assumes_1 : decode prog_7_method_7_code 1 = .ok (.istore_n 2, 1) := by decide +kernel
theorem dST_assumes_2 : decode prog_7_method_7_code 2 = .ok (.iload_n 2, 1) := by decide +kernel
theorem dST_assumes_3 : decode prog_7_method_7_code 3 = .ok (.aload_n 0, 1) := by decide +kernel
theorem dST_assumes_4 : decode prog_7_method_7_code 4 = .ok (.getfield 15, 3) := by decide +kernel
theorem dST_assumes_7 : decode prog_7_method_7_code 7 = .ok (.if_icmp .ge (21), 3) := by decide +kernel
theorem dST_assumes_10 : decode prog_7_method_7_code 10 = .ok (.aload_n 0, 1) := by decide +kernel
theorem dST_assumes_11 : decode prog_7_method_7_code 11 = .ok (.getfield 9, 3) := by decide +kernel
theorem dST_assumes_14 : decode prog_7_method_7_code 14 = .ok (.iload_n 2, 1) := by decide +kernel
theorem dST_assumes_15 : decode prog_7_method_7_code 15 = .ok (.iaload, 1) := by decide +kernel
theorem dST_assumes_16 : decode prog_7_method_7_code 16 = .ok (.iload_n 1, 1) := by decide +kernel
theorem dST_assumes_17 : decode prog_7_method_7_code 17 = .ok (.if_icmp .ne (5), 3) := by decide +kernel
theorem dST_assumes_20 : decode prog_7_method_7_code 20 = .ok (.iconst 1, 1) := by decide +kernel
theorem dST_assumes_21 : decode prog_7_method_7_code 21 = .ok (.ireturn, 1) := by decide +kernel
theorem dST_assumes_22 : decode prog_7_method_7_code 22 = .ok (.iinc 2 (1), 3) := by decide +kernel
theorem dST_assumes_25 : decode prog_7_method_7_code 25 = .ok (.goto (-23), 3) := by decide +kernel
theorem dST_assumes_28 : decode prog_7_method_7_code 28 = .ok (.iconst 0, 1) := by decide +kernel
theorem dST_assumes_29 : decode prog_7_method_7_code 29 = .ok (.ireturn, 1) := by decide +kernel
theorem l_ST_assumes {G : sd_G} {o : Nat} {D : fx_D} {h0 : sd_H} {nx s t b : Nat} {L : List Nat} (hso_s : dk_so s) (hL : so_r D s L) (ht : t < 2 ^ 30) (hb2 : b < 2) : ∀ (n k : Nat), L.length = k + n → (b = 1 ↔ t ∈ L.drop k) → sd_W G mST_assumes 0 0 0 (sd_is (some (.int (nI b))) (fx_h G.1.2 dk_S o D h0) nx) 2 [(0, .ref (o + s)), (1, .int (nI t)), (2, .int (nI k))] [] (fx_h G.1.2 dk_S o D h0) nx 0 0 := by
  have l6 := hL.1
  intro n
  induction n with
  | zero =>
    intro k hk hb
    rw [List.drop_of_length_le (by omega)] at hb
    have hb0 : b = 0 := by
      have : ¬ b = 1 := fun e => by simpa using hb.mp e
      omega
    subst hb0
    refine sd_iload_n dST_assumes_2 rfl rfl ?_
    refine sd_aload_n dST_assumes_3 rfl rfl ?_
    refine fx_getiv (v := (nI (L.length))) 6 1 dST_assumes_4 fST_15 hso_s.1 rfl (hL.2.1) ?_
    refine nn_icmp_ge 28 dST_assumes_7 (by decide) (by omega) (by omega) (fun c7 => ?_) (fun c7 => ?_)
    ·
      refine sd_iconst (v := nI 0) dST_assumes_28 (by decide) ?_
      exact sd_zret dST_assumes_29 rfl (Or.inl rfl) (Nat.le_refl _) (Nat.le_refl _) ⟨rfl, rfl, rfl⟩
    ·
      exact absurd c7 (by omega)
  | succ n ih =>
    intro k hk hb
    obtain ⟨x, hx⟩ : ∃ x, L[k]? = some x := ⟨L[k], List.getElem?_eq_getElem (by omega)⟩
    have hdr : L.drop k = x :: L.drop (k + 1) := by
      obtain ⟨z1, z2⟩ := List.getElem?_eq_some_iff.mp hx
      rw [List.drop_eq_getElem_cons z1, z2]
    obtain ⟨x1, x2⟩ := hL.2.2 k x hx
    rw [hdr, List.mem_cons] at hb
    by_cases e : x = t
    · obtain rfl : b = 1 := hb.mpr (Or.inl e.symm)
      refine sd_iload_n dST_assumes_2 rfl rfl ?_
      refine sd_aload_n dST_assumes_3 rfl rfl ?_
      refine fx_getiv (v := (nI (L.length))) 6 1 dST_assumes_4 fST_15 hso_s.1 rfl (hL.2.1) ?_
      refine nn_icmp_ge 28 dST_assumes_7 (by decide) (by omega) (by omega) (fun c7 => ?_) (fun c7 => ?_)
      ·
        exact absurd c7 (by omega)
      ·
        refine sd_aload_n dST_assumes_10 rfl rfl ?_
        refine fx_getr 6 0 (s + 1) dST_assumes_11 fST_9 hso_s.1 rfl ?_
        refine sd_iload_n dST_assumes_14 rfl rfl ?_
        refine fx_ialdv (v := (nI (x))) (k) dST_assumes_15 hso_s.2 rfl (by omega) (by decide) (x1) ?_
        refine sd_iload_n dST_assumes_16 rfl rfl ?_
        refine nn_icmp_ne 22 dST_assumes_17 (by decide) (by omega) (by omega) (fun c17 => ?_) (fun c17 => ?_)
        ·
          exact absurd e c17
        ·
          refine sd_iconst (v := nI 1) dST_assumes_20 (by decide) ?_
          exact sd_zret dST_assumes_21 rfl (Or.inr rfl) (Nat.le_refl _) (Nat.le_refl _) ⟨rfl, rfl, rfl⟩
    ·
      refine sd_iload_n dST_assumes_2 rfl rfl ?_
      refine sd_aload_n dST_assumes_3 rfl rfl ?_
      refine fx_getiv (v := (nI (L.length))) 6 1 dST_assumes_4 fST_15 hso_s.1 rfl (hL.2.1) ?_
      refine nn_icmp_ge 28 dST_assumes_7 (by decide) (by omega) (by omega) (fun c7 => ?_) (fun c7 => ?_)
      ·
        exact absurd c7 (by omega)
      ·
        refine sd_aload_n dST_assumes_10 rfl rfl ?_
        refine fx_getr 6 0 (s + 1) dST_assumes_11 fST_9 hso_s.1 rfl ?_
        refine sd_iload_n dST_assumes_14 rfl rfl ?_
        refine fx_ialdv (v := (nI (x))) (k) dST_assumes_15 hso_s.2 rfl (by omega) (by decide) (x1) ?_
        refine sd_iload_n dST_assumes_16 rfl rfl ?_
        refine nn_icmp_ne 22 dST_assumes_17 (by decide) (by omega) (by omega) (fun c17 => ?_) (fun c17 => ?_)
        ·
          refine nn_iinc 1 dST_assumes_22 rfl (by decide) ?_
          refine sd_goto 2 dST_assumes_25 (by decide) ?_
          refine sd_locp (al' := [(0, .ref (o + (s))), (1, .int (nI (t))), (2, .int (nI (k + 1)))]) [1, 2, 0] rfl ?_
          exact ih (k + 1) (by omega) (hb.trans ⟨fun z => z.resolve_left (fun q => e q.symm), Or.inr⟩)
        ·
          exact absurd c17 e
theorem c_ST_assumes {G : sd_G} {o : Nat} {D : fx_D} {h0 : sd_H} {nx s t b : Nat} {L : List Nat} (hso_s : dk_so s) (hL : so_r D s L) (ht : t < 2 ^ 30) (hb2 : b < 2) (hb : b = 1 ↔ t ∈ L) : sd_Ct G mST_assumes 0 0 0 [.ref (o + s), .int (nI t)] (fx_h G.1.2 dk_S o D h0) nx (sd_is (some (.int (nI b))) (fx_h G.1.2 dk_S o D h0) nx) := by
  refine sd_Ct_of (by decide) (Nat.le_of_ble_eq_true rfl) ?_
  refine sd_iconst (v := nI 0) dST_assumes_0 (by decide) ?_
  refine sd_istore_n dST_assumes_1 rfl (by decide) ?_
  refine sd_locp (al' := [(0, .ref (o + (s))), (1, .int (nI (t))), (2, .int (nI (0)))]) [1, 2, 0] rfl ?_
  exact l_ST_assumes hso_s hL ht hb2 L.length 0 (by omega) (by rw [List.drop_zero]; exact hb)
theorem dST_assume_0 : decode prog_7_method_3_code 0 = .ok (.iload_n 1, 1) := by decide +kernel
theorem dST_assume_1 : decode prog_7_method_3_code 1 = .ok (.ifCond .lt (12), 3) := by decide +kernel
theorem dST_assume_4 : decode prog_7_method_3_code 4 = .ok (.aload_n 0, 1) := by decide +kernel
theorem dST_assume_5 : decode prog_7_method_3_code 5 = .ok (.iload_n 1, 1) := by decide +kernel
theorem dST_assume_6 : decode prog_7_method_3_code 6 = .ok (.invokevirtual 26, 3) := by decide +kernel
theorem dST_assume_9 : decode prog_7_method_3_code 9 = .ok (.ifCond .eq (4), 3) := by decide +kernel
theorem dST_assume_12 : decode prog_7_method_3_code 12 = .ok (.return_, 1) := by decide +kernel
theorem dST_assume_13 : decode prog_7_method_3_code 13 = .ok (.iload_n 1, 1) := by decide +kernel
theorem dST_assume_14 : decode prog_7_method_3_code 14 = .ok (.ifCond .lt (12), 3) := by decide +kernel
theorem dST_assume_17 : decode prog_7_method_3_code 17 = .ok (.aload_n 0, 1) := by decide +kernel
theorem dST_assume_18 : decode prog_7_method_3_code 18 = .ok (.getfield 15, 3) := by decide +kernel
theorem dST_assume_21 : decode prog_7_method_3_code 21 = .ok (.bipush (6), 2) := by decide +kernel
theorem dST_assume_23 : decode prog_7_method_3_code 23 = .ok (.if_icmp .lt (9), 3) := by decide +kernel
theorem dST_assume_26 : decode prog_7_method_3_code 26 = .ok (.aload_n 0, 1) := by decide +kernel
theorem dST_assume_27 : decode prog_7_method_3_code 27 = .ok (.iconst 1, 1) := by decide +kernel
theorem dST_assume_28 : decode prog_7_method_3_code 28 = .ok (.putfield 22, 3) := by decide +kernel
theorem dST_assume_31 : decode prog_7_method_3_code 31 = .ok (.return_, 1) := by decide +kernel
theorem dST_assume_32 : decode prog_7_method_3_code 32 = .ok (.aload_n 0, 1) := by decide +kernel
theorem dST_assume_33 : decode prog_7_method_3_code 33 = .ok (.getfield 9, 3) := by decide +kernel
theorem dST_assume_36 : decode prog_7_method_3_code 36 = .ok (.aload_n 0, 1) := by decide +kernel
theorem dST_assume_37 : decode prog_7_method_3_code 37 = .ok (.getfield 15, 3) := by decide +kernel
theorem dST_assume_40 : decode prog_7_method_3_code 40 = .ok (.iload_n 1, 1) := by decide +kernel
theorem dST_assume_41 : decode prog_7_method_3_code 41 = .ok (.iastore, 1) := by decide +kernel
theorem dST_assume_42 : decode prog_7_method_3_code 42 = .ok (.aload_n 0, 1) := by decide +kernel
theorem dST_assume_43 : decode prog_7_method_3_code 43 = .ok (.dup, 1) := by decide +kernel
theorem dST_assume_44 : decode prog_7_method_3_code 44 = .ok (.getfield 15, 3) := by decide +kernel
theorem dST_assume_47 : decode prog_7_method_3_code 47 = .ok (.iconst 1, 1) := by decide +kernel
theorem dST_assume_48 : decode prog_7_method_3_code 48 = .ok (.iadd, 1) := by decide +kernel
theorem dST_assume_49 : decode prog_7_method_3_code 49 = .ok (.putfield 15, 3) := by decide +kernel
theorem dST_assume_52 : decode prog_7_method_3_code 52 = .ok (.return_, 1) := by decide +kernel
theorem c_ST_assume {G : sd_G} {o : Nat} {D : fx_D} {h0 : sd_H} {nx s t : Nat} {L : List Nat} (hB : G.2.1 ≤ o) (hso_s : dk_so s) (h : so_w D s L) (ht : t < 2 ^ 30) : sd_Ct G mST_assume 1 0 0 [.ref (o + s), .int (nI t)] (fx_h G.1.2 dk_S o D h0) nx (fx_is G.1.2 dk_S o h0 nx none (fun D' => so_w D' s (ls_h L t) ∧ so_f s D D')) := by
  refine sd_Ct_of (by decide) (Nat.le_of_ble_eq_true rfl) ?_
  obtain ⟨R, hR, hRL, -⟩ := h.ln
  have hRL' : L.length ≤ 6 → R = L := fun z => (hRL z).1
  have r6 := hR.1
  by_cases hm : t ∈ R
  · have hq := so_w_in h hRL' hm
    refine sd_iload_n dST_assume_0 rfl rfl ?_
    refine nn_if_lt dST_assume_1 13 (by decide) (by omega) ?_
    refine sd_aload_n dST_assume_4 rfl rfl ?_
    refine sd_iload_n dST_assume_5 rfl rfl ?_
    refine fx_cV 6 sR_ST [.int (nI (t))] [] dST_assume_6 kST_26 rfl hso_s.1 mST_assumes_v (c_ST_assumes (b := 1) hso_s hR ht (by omega) (by simp [hm])) (by decide) (Nat.le_refl _) (Nat.le_refl _) (Nat.le_of_ble_eq_true rfl) rfl ?_
    refine nn_if_eq 13 dST_assume_9 (by decide) (by decide) (fun c => absurd c (by decide)) (fun _ => ?_)
    exact sd_vret dST_assume_12 rfl (Nat.le_refl _) (Nat.le_refl _) ⟨rfl, rfl, D, rfl, hq, so_f.rf s D⟩
  · by_cases h6 : R.length = 6
    · have hq := so_w_full hR hRL' hm h6
      refine sd_iload_n dST_assume_0 rfl rfl ?_
      refine nn_if_lt dST_assume_1 13 (by decide) (by omega) ?_
      refine sd_aload_n dST_assume_4 rfl rfl ?_
      refine sd_iload_n dST_assume_5 rfl rfl ?_
      refine fx_cV 6 sR_ST [.int (nI (t))] [] dST_assume_6 kST_26 rfl hso_s.1 mST_assumes_v (c_ST_assumes (b := 0) hso_s hR ht (by omega) (by simp [hm])) (by decide) (Nat.le_refl _) (Nat.le_refl _) (Nat.le_of_ble_eq_true rfl) rfl ?_
      refine nn_if_eq 13 dST_assume_9 (by decide) (by decide) (fun _ => ?_) (fun c => absurd c (by decide))
      refine sd_iload_n dST_assume_13 rfl rfl ?_
      refine nn_if_lt dST_assume_14 26 (by decide) (by omega) ?_
      refine sd_aload_n dST_assume_17 rfl rfl ?_
      refine fx_getiv (v := (nI (R.length))) 6 1 dST_assume_18 fST_15 hso_s.1 rfl (hR.2.1) ?_
      refine sd_bipush (v := nI 6) dST_assume_21 (by decide) ?_
      refine nn_icmp_lt 32 dST_assume_23 (by decide) (by omega) (by omega) (fun c23 => ?_) (fun c23 => ?_)
      ·
        exact absurd c23 (by omega)
      ·
        refine sd_aload_n dST_assume_26 rfl rfl ?_
        refine sd_iconst (v := nI 1) dST_assume_27 (by decide) ?_
        refine fx_putz 6 3 dST_assume_28 fST_22 rfl rfl (Or.inr rfl) hso_s.1 rfl hB ?_
        exact sd_vret dST_assume_31 rfl (Nat.le_refl _) (Nat.le_refl _) ⟨rfl, rfl, _, rfl, hq, so_f.uf D (Or.inr rfl)⟩
    · have hq := so_w_app h hR hRL' hm (by omega) ht
      refine sd_iload_n dST_assume_0 rfl rfl ?_
      refine nn_if_lt dST_assume_1 13 (by decide) (by omega) ?_
      refine sd_aload_n dST_assume_4 rfl rfl ?_
      refine sd_iload_n dST_assume_5 rfl rfl ?_
      refine fx_cV 6 sR_ST [.int (nI (t))] [] dST_assume_6 kST_26 rfl hso_s.1 mST_assumes_v (c_ST_assumes (b := 0) hso_s hR ht (by omega) (by simp [hm])) (by decide) (Nat.le_refl _) (Nat.le_refl _) (Nat.le_of_ble_eq_true rfl) rfl ?_
      refine nn_if_eq 13 dST_assume_9 (by decide) (by decide) (fun _ => ?_) (fun c => absurd c (by decide))
      refine sd_iload_n dST_assume_13 rfl rfl ?_
      refine nn_if_lt dST_assume_14 26 (by decide) (by omega) ?_
      refine sd_aload_n dST_assume_17 rfl rfl ?_
      refine fx_getiv (v := (nI (R.length))) 6 1 dST_assume_18 fST_15 hso_s.1 rfl (hR.2.1) ?_
      refine sd_bipush (v := nI 6) dST_assume_21 (by decide) ?_
      refine nn_icmp_lt 32 dST_assume_23 (by decide) (by omega) (by omega) (fun c23 => ?_) (fun c23 => ?_)
      ·
        refine sd_aload_n dST_assume_32 rfl rfl ?_
        refine fx_getr 6 0 (s + 1) dST_assume_33 fST_9 hso_s.1 rfl ?_
        refine sd_aload_n dST_assume_36 rfl rfl ?_
        refine fx_getiv (v := (nI (R.length))) 6 1 dST_assume_37 fST_15 hso_s.1 rfl (hR.2.1) ?_
        refine sd_iload_n dST_assume_40 rfl rfl ?_
        refine fx_iast (R.length) dST_assume_41 hso_s.2 rfl (by omega) (by decide) hB ?_
        refine sd_aload_n dST_assume_42 rfl rfl ?_
        refine sd_dup dST_assume_43 rfl ?_
        refine fx_getiv (v := (nI (R.length))) 6 1 dST_assume_44 fST_15 hso_s.1 rfl (hR.2.1) ?_
        refine sd_iconst (v := nI 1) dST_assume_47 (by decide) ?_
        refine nn_iadd dST_assume_48 ?_
        refine fx_puti 6 1 dST_assume_49 fST_15 rfl rfl hso_s.1 rfl hB ?_
        exact sd_vret dST_assume_52 rfl (Nat.le_refl _) (Nat.le_refl _) ⟨rfl, rfl, _, rfl, hq, (so_f.ua D).tr (so_f.uf _ (Or.inl rfl))⟩
      ·
        exact absurd c23 (by omega)
def so_long : List Nat := List.range 7
theorem so_w_long {D : fx_D} {s : Nat} {L : List Nat} (h : so_w D s L) : so_w (fx_uf D s 3 (nI 1)) s so_long := by
  obtain ⟨R, hR, -⟩ := h.ln
  exact Or.inr ⟨by decide, by simp [fx_uf, upd], R, hR.1, by simpa [fx_uf, upd] using hR.2.1, hR.2.2⟩
/-- a term that could not be made -/
theorem c_ST_assumeBig {G : sd_G} {o : Nat} {D : fx_D} {h0 : sd_H} {nx s : Nat} {x : Int32} {L : List Nat} (hB : G.2.1 ≤ o) (hso_s : dk_so s) (h : so_w D s L) (hx : x < 0) : sd_Ct G mST_assume 1 0 0 [.ref (o + s), .int x] (fx_h G.1.2 dk_S o D h0) nx (fx_is G.1.2 dk_S o h0 nx none (fun D' => so_w D' s so_long ∧ so_f s D D')) := by
  refine sd_Ct_of (by decide) (Nat.le_of_ble_eq_true rfl) ?_
  have hq := so_w_long h
  refine sd_iload_n dST_assume_0 rfl rfl ?_
  refine sd_if_lt 13 dST_assume_1 (by decide) (fun c1 => ?_) (fun c1 => ?_)
  ·
    refine sd_iload_n dST_assume_13 rfl rfl ?_
    refine sd_if_lt 26 dST_assume_14 (by decide) (fun c14 => ?_) (fun c14 => ?_)
    ·
      refine sd_aload_n dST_assume_26 rfl rfl ?_
      refine sd_iconst (v := nI 1) dST_assume_27 (by decide) ?_
      refine fx_putz 6 3 dST_assume_28 fST_22 rfl rfl (Or.inr rfl) hso_s.1 rfl hB ?_
      exact sd_vret dST_assume_31 rfl (Nat.le_refl _) (Nat.le_refl _) ⟨rfl, rfl, _, rfl, hq, so_f.uf D (Or.inr rfl)⟩
    ·
      exact absurd hx c14
  ·
    exact absurd hx c1
