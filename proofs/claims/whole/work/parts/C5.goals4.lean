/-! ===== the class's Goals: leftBig, take ===== -/
theorem left_tab : ∀ k, k < 9 → sz_LEFT.2.2.2.getD (nI k).toNatClampNeg 0 = nI (gk k) := by decide
theorem dGS_leftBig_0 : decode prog_4_method_15_code 0 = .ok (.iconst 0, 1) := by decide +kernel
theorem dGS_leftBig_1 : decode prog_4_method_15_code 1 = .ok (.istore_n 2, 1) := by decide +kernel
theorem dGS_leftBig_2 : decode prog_4_method_15_code 2 = .ok (.iload_n 2, 1) := by decide +kernel
theorem dGS_leftBig_3 : decode prog_4_method_15_code 3 = .ok (.getstatic 86, 3) := by decide +kernel
theorem dGS_leftBig_6 : decode prog_4_method_15_code 6 = .ok (.iload_n 1, 1) := by decide +kernel
theorem dGS_leftBig_7 : decode prog_4_method_15_code 7 = .ok (.iaload, 1) := by decide +kernel
theorem dGS_leftBig_8 : decode prog_4_method_15_code 8 = .ok (.if_icmp .ge (31), 3) := by decide +kernel
theorem dGS_leftBig_11 : decode prog_4_method_15_code 11 = .ok (.aload_n 0, 1) := by decide +kernel
theorem dGS_leftBig_12 : decode prog_4_method_15_code 12 = .ok (.getfield 11, 3) := by decide +kernel
theorem dGS_leftBig_15 : decode prog_4_method_15_code 15 = .ok (.aload_n 0, 1) := by decide +kernel
theorem dGS_leftBig_16 : decode prog_4_method_15_code 16 = .ok (.getfield 33, 3) := by decide +kernel
theorem dGS_leftBig_19 : decode prog_4_method_15_code 19 = .ok (.iload_n 2, 1) := by decide +kernel
theorem dGS_leftBig_20 : decode prog_4_method_15_code 20 = .ok (.iadd, 1) := by decide +kernel
theorem dGS_leftBig_21 : decode prog_4_method_15_code 21 = .ok (.aaload, 1) := by decide +kernel
theorem dGS_leftBig_22 : decode prog_4_method_15_code 22 = .ok (.getfield 46, 3) := by decide +kernel
theorem dGS_leftBig_25 : decode prog_4_method_15_code 25 = .ok (.getfield 227, 3) := by decide +kernel
theorem dGS_leftBig_28 : decode prog_4_method_15_code 28 = .ok (.ifCond .eq (5), 3) := by decide +kernel
theorem dGS_leftBig_31 : decode prog_4_method_15_code 31 = .ok (.iconst 1, 1) := by decide +kernel
theorem dGS_leftBig_32 : decode prog_4_method_15_code 32 = .ok (.ireturn, 1) := by decide +kernel
theorem dGS_leftBig_33 : decode prog_4_method_15_code 33 = .ok (.iinc 2 (1), 3) := by decide +kernel
theorem dGS_leftBig_36 : decode prog_4_method_15_code 36 = .ok (.goto (-34), 3) := by decide +kernel
theorem dGS_leftBig_39 : decode prog_4_method_15_code 39 = .ok (.iconst 0, 1) := by decide +kernel
theorem dGS_leftBig_40 : decode prog_4_method_15_code 40 = .ok (.ireturn, 1) := by decide +kernel
theorem l_GS_leftBig {G : sd_G} {o : Nat} {D : fx_D} {h0 : sd_H} {nx k n b : Nat} {f : Nat → Nat} (hk : k < 9) (hn : n ≤ 30) (hm : D.2.1 432 3 = nI n) (hf : ∀ i, i < gk k → D.2.1 (436 + 3 * (n + i) + 1) 3 = nI (f i) ∧ f i < 2) (hb2 : b < 2) : ∀ (m j : Nat), gk k = j + m → (b = 1 ↔ ∃ i, j ≤ i ∧ i < gk k ∧ f i = 1) → sd_W G mGS_leftBig 0 0 0 (sd_is (some (.int (nI b))) (fx_h G.1.2 dk_S o D h0) nx) 2 [(0, .ref (o + 432)), (1, .int (nI k)), (2, .int (nI j))] [] (fx_h G.1.2 dk_S o D h0) nx 0 0 := by
  have g2 := gk_le k
  intro m
  induction m with
  | zero =>
    intro j hj hb
    have hb0 : b = 0 := by
      have : ¬ b = 1 := fun e => by
        obtain ⟨i, h1, h2, -⟩ := hb.mp e
        omega
      omega
    refine sd_iload_n dGS_leftBig_2 rfl rfl ?_
    refine sd_gets sz_LEFT dGS_leftBig_3 (by decide) (Or.inr ⟨"SequentDesk", (sd_nT (sd_in4 (List.mem_of_getElem? (i := 21) rfl)) rfl)⟩) ?_
    refine sd_iload_n dGS_leftBig_6 rfl rfl ?_
    refine sd_tald sz_LEFT (v := (nI (gk k))) dGS_leftBig_7 (by decide) (vp_in_nI (by show _ < 9; omega) (by decide)) (left_tab k hk) ?_
    refine nn_icmp_ge 39 dGS_leftBig_8 (by decide) (by omega) (by omega) (fun c8 => ?_) (fun c8 => ?_)
    ·
      refine sd_iconst (v := nI 0) dGS_leftBig_39 (by decide) ?_
      exact sd_zret dGS_leftBig_40 rfl (Or.inl rfl) (Nat.le_refl _) (Nat.le_refl _) ⟨by rw [hb0], rfl, rfl⟩
    ·
      exact absurd c8 (by omega)
  | succ m ih =>
    intro j hj hb
    obtain ⟨f1, f2⟩ := hf j (by omega)
    by_cases h1 : f j = 1
    · have hb1 : b = 1 := hb.mpr ⟨j, Nat.le_refl _, by omega, h1⟩
      rw [h1] at f1
      refine sd_iload_n dGS_leftBig_2 rfl rfl ?_
      refine sd_gets sz_LEFT dGS_leftBig_3 (by decide) (Or.inr ⟨"SequentDesk", (sd_nT (sd_in4 (List.mem_of_getElem? (i := 21) rfl)) rfl)⟩) ?_
      refine sd_iload_n dGS_leftBig_6 rfl rfl ?_
      refine sd_tald sz_LEFT (v := (nI (gk k))) dGS_leftBig_7 (by decide) (vp_in_nI (by show _ < 9; omega) (by decide)) (left_tab k hk) ?_
      refine nn_icmp_ge 39 dGS_leftBig_8 (by decide) (by omega) (by omega) (fun c8 => ?_) (fun c8 => ?_)
      ·
        exact absurd c8 (by omega)
      ·
        refine sd_aload_n dGS_leftBig_11 rfl rfl ?_
        refine fx_getr 3 2 (433) dGS_leftBig_12 fGS_11 rfl rfl ?_
        refine sd_aload_n dGS_leftBig_15 rfl rfl ?_
        refine fx_getiv (v := (nI (n))) 3 3 dGS_leftBig_16 fGS_33 rfl rfl (hm) ?_
        refine sd_iload_n dGS_leftBig_19 rfl rfl ?_
        refine nn_iadd dGS_leftBig_20 ?_
        refine fx_aald (n + j) dGS_leftBig_21 rfl rfl rfl (by omega) (by decide) ?_
        refine fx_getr 2 0 (436 + 3 * (n + j) + 1) dGS_leftBig_22 fGS_46 (dk_gl (by omega)) rfl ?_
        refine fx_getiv (v := (nI (1))) 6 3 dGS_leftBig_25 fGS_227 (dk_gls (g := n + j) (by omega)).1 rfl (f1) ?_
        refine nn_if_eq 33 dGS_leftBig_28 (by decide) (by decide) (fun c => absurd c (by decide)) (fun _ => ?_)
        refine sd_iconst (v := nI 1) dGS_leftBig_31 (by decide) ?_
        exact sd_zret dGS_leftBig_32 rfl (Or.inr rfl) (Nat.le_refl _) (Nat.le_refl _) ⟨by rw [hb1], rfl, rfl⟩
    · have h0' : f j = 0 := by omega
      rw [h0'] at f1
      have hb' : b = 1 ↔ ∃ i, j + 1 ≤ i ∧ i < gk k ∧ f i = 1 := hb.trans ⟨fun ⟨i, q1, q2, q3⟩ => ⟨i, by
        by_cases e : i = j
        · subst e
          exact absurd q3 h1
        · omega, q2, q3⟩, fun ⟨i, q1, q2, q3⟩ => ⟨i, by omega, q2, q3⟩⟩
      refine sd_iload_n dGS_leftBig_2 rfl rfl ?_
      refine sd_gets sz_LEFT dGS_leftBig_3 (by decide) (Or.inr ⟨"SequentDesk", (sd_nT (sd_in4 (List.mem_of_getElem? (i := 21) rfl)) rfl)⟩) ?_
      refine sd_iload_n dGS_leftBig_6 rfl rfl ?_
      refine sd_tald sz_LEFT (v := (nI (gk k))) dGS_leftBig_7 (by decide) (vp_in_nI (by show _ < 9; omega) (by decide)) (left_tab k hk) ?_
      refine nn_icmp_ge 39 dGS_leftBig_8 (by decide) (by omega) (by omega) (fun c8 => ?_) (fun c8 => ?_)
      ·
        exact absurd c8 (by omega)
      ·
        refine sd_aload_n dGS_leftBig_11 rfl rfl ?_
        refine fx_getr 3 2 (433) dGS_leftBig_12 fGS_11 rfl rfl ?_
        refine sd_aload_n dGS_leftBig_15 rfl rfl ?_
        refine fx_getiv (v := (nI (n))) 3 3 dGS_leftBig_16 fGS_33 rfl rfl (hm) ?_
        refine sd_iload_n dGS_leftBig_19 rfl rfl ?_
        refine nn_iadd dGS_leftBig_20 ?_
        refine fx_aald (n + j) dGS_leftBig_21 rfl rfl rfl (by omega) (by decide) ?_
        refine fx_getr 2 0 (436 + 3 * (n + j) + 1) dGS_leftBig_22 fGS_46 (dk_gl (by omega)) rfl ?_
        refine fx_getiv (v := (nI (0))) 6 3 dGS_leftBig_25 fGS_227 (dk_gls (g := n + j) (by omega)).1 rfl (f1) ?_
        refine nn_if_eq 33 dGS_leftBig_28 (by decide) (by decide) (fun _ => ?_) (fun c => absurd c (by decide))
        refine nn_iinc 1 dGS_leftBig_33 rfl (by decide) ?_
        refine sd_goto 2 dGS_leftBig_36 (by decide) ?_
        refine sd_locp (al' := [(0, .ref (o + (432))), (1, .int (nI (k))), (2, .int (nI (j + 1)))]) [1, 2, 0] rfl ?_
        exact ih (j + 1) (by omega) hb'
theorem c_GS_leftBig {G : sd_G} {o : Nat} {D : fx_D} {h0 : sd_H} {nx k n b : Nat} {f : Nat → Nat} (hk : k < 9) (hn : n ≤ 30) (hm : D.2.1 432 3 = nI n) (hf : ∀ i, i < gk k → D.2.1 (436 + 3 * (n + i) + 1) 3 = nI (f i) ∧ f i < 2) (hb2 : b < 2) (hb : b = 1 ↔ ∃ i, i < gk k ∧ f i = 1) : sd_Ct G mGS_leftBig 0 0 0 [.ref (o + 432), .int (nI k)] (fx_h G.1.2 dk_S o D h0) nx (sd_is (some (.int (nI b))) (fx_h G.1.2 dk_S o D h0) nx) := by
  refine sd_Ct_of (by decide) (Nat.le_of_ble_eq_true rfl) ?_
  refine sd_iconst (v := nI 0) dGS_leftBig_0 (by decide) ?_
  refine sd_istore_n dGS_leftBig_1 rfl (by decide) ?_
  refine sd_locp (al' := [(0, .ref (o + (432))), (1, .int (nI (k))), (2, .int (nI (0)))]) [1, 2, 0] rfl ?_
  exact l_GS_leftBig hk hn hm hf hb2 (gk k) 0 (by omega) (hb.trans ⟨fun ⟨i, q⟩ => ⟨i, Nat.zero_le _, q⟩, fun ⟨i, _, q⟩ => ⟨i, q⟩⟩)
theorem opn_push {D D' : fx_D} {L : List Nat} {g : Nat} (h : dk_opn D L) (hl : L.length < 30) (hc : D'.2.1 432 5 = nI (L.length + 1)) (hg : D'.1 434 L.length = nI g) (hs : ∀ j, j < L.length → D'.1 434 j = D.1 434 j) : dk_opn D' (g :: L) := by
  refine ⟨by simp only [List.length_cons]; omega, hc, fun k u hu => ?_⟩
  rw [List.reverse_cons] at hu
  by_cases hk : k < L.length
  · rw [List.getElem?_append_left (by simpa using hk)] at hu
    rw [hs k hk]
    exact h.2.2 k u hu
  · have hk' : k = L.length := by
      have := getE_lt hu
      simp at this
      omega
    subst hk'
    rw [List.getElem?_append_right (by simp)] at hu
    simp at hu
    rw [hg, hu]
theorem opn_pop {D D' : fx_D} {L : List Nat} {g : Nat} (h : dk_opn D (g :: L)) (hc : D'.2.1 432 5 = nI L.length) (hs : D'.1 434 = D.1 434) : dk_opn D' L ∧ D.1 434 L.length = nI g ∧ L.length < 30 := by
  have h1 := h.1
  simp only [List.length_cons] at h1
  refine ⟨⟨by omega, hc, fun k u hu => ?_⟩, h.2.2 L.length g (by simp), by omega⟩
  rw [hs]
  have hk := getE_lt hu
  exact h.2.2 k u (by rw [List.reverse_cons, List.getElem?_append_left hk]; exact hu)
theorem tkn_push {D D' : fx_D} {L : List Nat} {g : Nat} (h : dk_tkn D L) (hl : L.length < 30) (hc : D'.2.1 432 7 = nI (L.length + 1)) (hg : D'.1 435 L.length = nI g) (hs : ∀ j, j < L.length → D'.1 435 j = D.1 435 j) : dk_tkn D' (g :: L) := by
  refine ⟨by simp only [List.length_cons]; omega, hc, fun k u hu => ?_⟩
  rw [List.reverse_cons] at hu
  by_cases hk : k < L.length
  · rw [List.getElem?_append_left (by simpa using hk)] at hu
    rw [hs k hk]
    exact h.2.2 k u hu
  · have hk' : k = L.length := by
      have := getE_lt hu
      simp at this
      omega
    subst hk'
    rw [List.getElem?_append_right (by simp)] at hu
    simp at hu
    rw [hg, hu]
theorem tkn_pop {D D' : fx_D} {L : List Nat} {g : Nat} (h : dk_tkn D (g :: L)) (hc : D'.2.1 432 7 = nI L.length) (hs : D'.1 435 = D.1 435) : dk_tkn D' L ∧ D.1 435 L.length = nI g ∧ L.length < 30 := by
  have h1 := h.1
  simp only [List.length_cons] at h1
  refine ⟨⟨by omega, hc, fun k u hu => ?_⟩, h.2.2 L.length g (by simp), by omega⟩
  rw [hs]
  have hk := getE_lt hu
  exact h.2.2 k u (by rw [List.reverse_cons, List.getElem?_append_left hk]; exact hu)
/-- only opens changed -/
def op_f (D D' : fx_D) : Prop := (∀ x, x ≠ 432 → x ≠ 434 → ag D D' x) ∧ (∀ j, j ≠ 5 → D'.2.1 432 j = D.2.1 432 j)
theorem op_f.rf (D : fx_D) : op_f D D := ⟨fun _ _ _ => ⟨rfl, rfl, rfl⟩, fun _ _ => rfl⟩
theorem op_f.tr {D D' D2 : fx_D} (h : op_f D D') (h2 : op_f D' D2) : op_f D D2 := ⟨fun x a b => (h.1 x a b).tr (h2.1 x a b), fun j a => (h2.2 j a).trans (h.2 j a)⟩
theorem op_f.st {D : fx_D} {i : Nat} {v w : Int32} : op_f D (fx_uf (fx_ua D 434 i v) 432 5 w) := ⟨fun x a b => (ag_ua b).tr (ag_uf a), fun j a => by simp [fx_uf, fx_ua, upd, a]⟩
theorem dGS_take_0 : decode prog_4_method_16_code 0 = .ok (.aload_n 0, 1) := by decide +kernel
theorem dGS_take_1 : decode prog_4_method_16_code 1 = .ok (.dup, 1) := by decide +kernel
theorem dGS_take_2 : decode prog_4_method_16_code 2 = .ok (.getfield 37, 3) := by decide +kernel
theorem dGS_take_5 : decode prog_4_method_16_code 5 = .ok (.iconst 1, 1) := by decide +kernel
theorem dGS_take_6 : decode prog_4_method_16_code 6 = .ok (.isub, 1) := by decide +kernel
theorem dGS_take_7 : decode prog_4_method_16_code 7 = .ok (.putfield 37, 3) := by decide +kernel
theorem dGS_take_10 : decode prog_4_method_16_code 10 = .ok (.aload_n 0, 1) := by decide +kernel
theorem dGS_take_11 : decode prog_4_method_16_code 11 = .ok (.getfield 17, 3) := by decide +kernel
theorem dGS_take_14 : decode prog_4_method_16_code 14 = .ok (.aload_n 0, 1) := by decide +kernel
theorem dGS_take_15 : decode prog_4_method_16_code 15 = .ok (.getfield 37, 3) := by decide +kernel
theorem dGS_take_18 : decode prog_4_method_16_code 18 = .ok (.iaload, 1) := by decide +kernel
theorem dGS_take_19 : decode prog_4_method_16_code 19 = .ok (.istore_n 3, 1) := by decide +kernel
theorem dGS_take_20 : decode prog_4_method_16_code 20 = .ok (.aload_n 0, 1) := by decide +kernel
theorem dGS_take_21 : decode prog_4_method_16_code 21 = .ok (.getfield 11, 3) := by decide +kernel
theorem dGS_take_24 : decode prog_4_method_16_code 24 = .ok (.iload_n 3, 1) := by decide +kernel
theorem dGS_take_25 : decode prog_4_method_16_code 25 = .ok (.aaload, 1) := by decide +kernel
theorem dGS_take_26 : decode prog_4_method_16_code 26 = .ok (.iload_n 1, 1) := by decide +kernel
theorem dGS_take_27 : decode prog_4_method_16_code 27 = .ok (.putfield 228, 3) := by decide +kernel
theorem dGS_take_30 : decode prog_4_method_16_code 30 = .ok (.aload_n 0, 1) := by decide +kernel
theorem dGS_take_31 : decode prog_4_method_16_code 31 = .ok (.getfield 11, 3) := by decide +kernel
theorem dGS_take_34 : decode prog_4_method_16_code 34 = .ok (.iload_n 3, 1) := by decide +kernel
theorem dGS_take_35 : decode prog_4_method_16_code 35 = .ok (.aaload, 1) := by decide +kernel
theorem dGS_take_36 : decode prog_4_method_16_code 36 = .ok (.iload_n 1, 1) := by decide +kernel
theorem dGS_take_37 : decode prog_4_method_16_code 37 = .ok (.bipush (8), 2) := by decide +kernel
theorem dGS_take_39 : decode prog_4_method_16_code 39 = .ok (.if_icmp .ne (7), 3) := by decide +kernel
theorem dGS_take_42 : decode prog_4_method_16_code 42 = .ok (.iload_n 2, 1) := by decide +kernel
theorem dGS_take_43 : decode prog_4_method_16_code 43 = .ok (.goto (4), 3) := by decide +kernel
theorem dGS_take_46 : decode prog_4_method_16_code 46 = .ok (.iconst (-1), 1) := by decide +kernel
theorem dGS_take_47 : decode prog_4_method_16_code 47 = .ok (.putfield 231, 3) := by decide +kernel
theorem dGS_take_50 : decode prog_4_method_16_code 50 = .ok (.aload_n 0, 1) := by decide +kernel
theorem dGS_take_51 : decode prog_4_method_16_code 51 = .ok (.getfield 11, 3) := by decide +kernel
theorem dGS_take_54 : decode prog_4_method_16_code 54 = .ok (.iload_n 3, 1) := by decide +kernel
theorem dGS_take_55 : decode prog_4_method_16_code 55 = .ok (.aaload, 1) := by decide +kernel
theorem dGS_take_56 : decode prog_4_method_16_code 56 = .ok (.aload_n 0, 1) := by decide +kernel
theorem dGS_take_57 : decode prog_4_method_16_code 57 = .ok (.getfield 33, 3) := by decide +kernel
theorem dGS_take_60 : decode prog_4_method_16_code 60 = .ok (.putfield 234, 3) := by decide +kernel
theorem dGS_take_63 : decode prog_4_method_16_code 63 = .ok (.aload_n 0, 1) := by decide +kernel
theorem dGS_take_64 : decode prog_4_method_16_code 64 = .ok (.getfield 21, 3) := by decide +kernel
theorem dGS_take_67 : decode prog_4_method_16_code 67 = .ok (.aload_n 0, 1) := by decide +kernel
theorem dGS_take_68 : decode prog_4_method_16_code 68 = .ok (.getfield 40, 3) := by decide +kernel
theorem dGS_take_71 : decode prog_4_method_16_code 71 = .ok (.iload_n 3, 1) := by decide +kernel
theorem dGS_take_72 : decode prog_4_method_16_code 72 = .ok (.iastore, 1) := by decide +kernel
theorem dGS_take_73 : decode prog_4_method_16_code 73 = .ok (.aload_n 0, 1) := by decide +kernel
theorem dGS_take_74 : decode prog_4_method_16_code 74 = .ok (.dup, 1) := by decide +kernel
theorem dGS_take_75 : decode prog_4_method_16_code 75 = .ok (.getfield 40, 3) := by decide +kernel
theorem dGS_take_78 : decode prog_4_method_16_code 78 = .ok (.iconst 1, 1) := by decide +kernel
theorem dGS_take_79 : decode prog_4_method_16_code 79 = .ok (.iadd, 1) := by decide +kernel
theorem dGS_take_80 : decode prog_4_method_16_code 80 = .ok (.putfield 40, 3) := by decide +kernel
theorem dGS_take_83 : decode prog_4_method_16_code 83 = .ok (.getstatic 86, 3) := by decide +kernel
theorem dGS_take_86 : decode prog_4_method_16_code 86 = .ok (.iload_n 1, 1) := by decide +kernel
theorem dGS_take_87 : decode prog_4_method_16_code 87 = .ok (.iaload, 1) := by decide +kernel
theorem dGS_take_88 : decode prog_4_method_16_code 88 = .ok (.iconst 1, 1) := by decide +kernel
theorem dGS_take_89 : decode prog_4_method_16_code 89 = .ok (.isub, 1) := by decide +kernel
theorem dGS_take_90 : decode prog_4_method_16_code 90 = .ok (.istore 4, 2) := by decide +kernel
theorem dGS_take_92 : decode prog_4_method_16_code 92 = .ok (.iload 4, 2) := by decide +kernel
theorem dGS_take_94 : decode prog_4_method_16_code 94 = .ok (.ifCond .lt (35), 3) := by decide +kernel
theorem dGS_take_97 : decode prog_4_method_16_code 97 = .ok (.aload_n 0, 1) := by decide +kernel
theorem dGS_take_98 : decode prog_4_method_16_code 98 = .ok (.getfield 17, 3) := by decide +kernel
theorem dGS_take_101 : decode prog_4_method_16_code 101 = .ok (.aload_n 0, 1) := by decide +kernel
theorem dGS_take_102 : decode prog_4_method_16_code 102 = .ok (.getfield 37, 3) := by decide +kernel
theorem dGS_take_105 : decode prog_4_method_16_code 105 = .ok (.aload_n 0, 1) := by decide +kernel
theorem dGS_take_106 : decode prog_4_method_16_code 106 = .ok (.getfield 33, 3) := by decide +kernel
theorem dGS_take_109 : decode prog_4_method_16_code 109 = .ok (.iload 4, 2) := by decide +kernel
theorem dGS_take_111 : decode prog_4_method_16_code 111 = .ok (.iadd, 1) := by decide +kernel
theorem dGS_take_112 : decode prog_4_method_16_code 112 = .ok (.iastore, 1) := by decide +kernel
theorem dGS_take_113 : decode prog_4_method_16_code 113 = .ok (.aload_n 0, 1) := by decide +kernel
theorem dGS_take_114 : decode prog_4_method_16_code 114 = .ok (.dup, 1) := by decide +kernel
theorem dGS_take_115 : decode prog_4_method_16_code 115 = .ok (.getfield 37, 3) := by decide +kernel
theorem dGS_take_118 : decode prog_4_method_16_code 118 = .ok (.iconst 1, 1) := by decide +kernel
theorem dGS_take_119 : decode prog_4_method_16_code 119 = .ok (.iadd, 1) := by decide +kernel
theorem dGS_take_120 : decode prog_4_method_16_code 120 = .ok (.putfield 37, 3) := by decide +kernel
theorem dGS_take_123 : decode prog_4_method_16_code 123 = .ok (.iinc 4 (-1), 3) := by decide +kernel
theorem dGS_take_126 : decode prog_4_method_16_code 126 = .ok (.goto (-34), 3) := by decide +kernel
theorem dGS_take_129 : decode prog_4_method_16_code 129 = .ok (.aload_n 0, 1) := by decide +kernel
theorem dGS_take_130 : decode prog_4_method_16_code 130 = .ok (.dup, 1) := by decide +kernel
theorem dGS_take_131 : decode prog_4_method_16_code 131 = .ok (.getfield 33, 3) := by decide +kernel
theorem dGS_take_134 : decode prog_4_method_16_code 134 = .ok (.getstatic 86, 3) := by decide +kernel
theorem dGS_take_137 : decode prog_4_method_16_code 137 = .ok (.iload_n 1, 1) := by decide +kernel
theorem dGS_take_138 : decode prog_4_method_16_code 138 = .ok (.iaload, 1) := by decide +kernel
theorem dGS_take_139 : decode prog_4_method_16_code 139 = .ok (.iadd, 1) := by decide +kernel
theorem dGS_take_140 : decode prog_4_method_16_code 140 = .ok (.putfield 33, 3) := by decide +kernel
theorem dGS_take_143 : decode prog_4_method_16_code 143 = .ok (.return_, 1) := by decide +kernel
theorem l_GS_take {G : sd_G} {o : Nat} {D0 : fx_D} {h0 : sd_H} {nx k n g : Nat} {y : Int32} {Lf : List Nat} {Qp : fx_D → Prop} (hB : G.2.1 ≤ o) (hk : k < 9) (hn : n + gk k ≤ 30) (hm : D0.2.1 432 3 = nI n) (hQ : ∀ D', dk_opn D' Lf → op_f D0 D' → Qp (fx_uf D' 432 3 (nI (n + gk k)))) : ∀ (m : Nat) (L : List Nat) (D : fx_D), dk_opn D L → L.length + m ≤ 30 → m ≤ 2 → op_f D0 D → Lf = (List.range m).map (fun j => n + j) ++ L → sd_W G mGS_take 0 0 0 (fx_is G.1.2 dk_S o h0 nx none Qp) 92 [(0, .ref (o + 432)), (1, .int (nI k)), (2, .int y), (3, .int (nI g)), (4, .int (ix m))] [] (fx_h G.1.2 dk_S o D h0) nx 0 0 := by
  intro m
  induction m with
  | zero =>
    intro L D hL hl hm2 hf he
    have he' : Lf = L := he
    subst he'
    have h3 : D.2.1 432 3 = nI n := by rw [hf.2 3 (by decide)]; exact hm
    refine sd_iload dGS_take_92 rfl ?_
    refine sd_if_lt 129 dGS_take_94 (by decide) (fun c94 => ?_) (fun c94 => ?_)
    ·
      refine sd_aload_n dGS_take_129 rfl rfl ?_
      refine sd_dup dGS_take_130 rfl ?_
      refine fx_getiv (v := (nI (n))) 3 3 dGS_take_131 fGS_33 rfl rfl (h3) ?_
      refine sd_gets sz_LEFT dGS_take_134 (by decide) (Or.inr ⟨"SequentDesk", (sd_nT (sd_in4 (List.mem_of_getElem? (i := 21) rfl)) rfl)⟩) ?_
      refine sd_iload_n dGS_take_137 rfl rfl ?_
      refine sd_tald sz_LEFT (v := (nI (gk k))) dGS_take_138 (by decide) (vp_in_nI (by show _ < 9; omega) (by decide)) (left_tab k hk) ?_
      refine nn_iadd dGS_take_139 ?_
      refine fx_puti 3 3 dGS_take_140 fGS_33 rfl rfl rfl rfl hB ?_
      exact sd_vret dGS_take_143 rfl (Nat.le_refl _) (Nat.le_refl _) ⟨rfl, rfl, _, rfl, hQ D hL hf⟩
    ·
      exact absurd (show ix 0 < 0 by decide) c94
  | succ m ih =>
    intro L D hL hl hm2 hf he
    rw [show ix (m + 1) = nI m from rfl]
    have h3 : D.2.1 432 3 = nI n := by rw [hf.2 3 (by decide)]; exact hm
    have h5 : D.2.1 432 5 = nI L.length := hL.2.1
    have hp : dk_opn (fx_uf (fx_ua D 434 L.length (nI (n + m))) 432 5 (nI (L.length + 1))) ((n + m) :: L) := opn_push hL (by omega) (by simp [fx_uf, upd]) (by simp [fx_uf, fx_ua, upd]) (fun j hj => by simp [fx_uf, fx_ua, upd, show j ≠ L.length by omega])
    have he2 : Lf = (List.range m).map (fun j => n + j) ++ ((n + m) :: L) := by
      rw [he, List.range_succ, List.map_append, List.append_assoc]
      rfl
    refine sd_iload dGS_take_92 rfl ?_
    refine nn_if_lt dGS_take_94 129 (by decide) (by omega) ?_
    refine sd_aload_n dGS_take_97 rfl rfl ?_
    refine fx_getr 3 4 (434) dGS_take_98 fGS_17 rfl rfl ?_
    refine sd_aload_n dGS_take_101 rfl rfl ?_
    refine fx_getiv (v := (nI (L.length))) 3 5 dGS_take_102 fGS_37 rfl rfl (h5) ?_
    refine sd_aload_n dGS_take_105 rfl rfl ?_
    refine fx_getiv (v := (nI (n))) 3 3 dGS_take_106 fGS_33 rfl rfl (h3) ?_
    refine sd_iload dGS_take_109 rfl ?_
    refine nn_iadd dGS_take_111 ?_
    refine fx_iast (L.length) dGS_take_112 rfl rfl (by omega) (by decide) hB ?_
    refine sd_aload_n dGS_take_113 rfl rfl ?_
    refine sd_dup dGS_take_114 rfl ?_
    refine fx_getiv (v := (nI (L.length))) 3 5 dGS_take_115 fGS_37 rfl rfl ((by rw [← h5]; rfl)) ?_
    refine sd_iconst (v := nI 1) dGS_take_118 (by decide) ?_
    refine nn_iadd dGS_take_119 ?_
    refine fx_puti 3 5 dGS_take_120 fGS_37 rfl rfl rfl rfl hB ?_
    refine sd_iinc (ix m) dGS_take_123 rfl (ix_dec m) (by decide) ?_
    refine sd_goto 92 dGS_take_126 (by decide) ?_
    refine sd_locp (al' := [(0, .ref (o + (432))), (1, .int (nI (k))), (2, .int (y)), (3, .int (nI (g))), (4, .int (ix m))]) [1, 2, 3, 4, 0] rfl ?_
    exact ih _ _ hp (by simp only [List.length_cons]; omega) (by omega) (hf.tr op_f.st) he2
/-- behind take -/
def tkk_P (k a g n : Nat) (tl dn : List Nat) (D D' : fx_D) : Prop := dk_opn D' ((List.range (gk k)).map (fun j => n + j) ++ tl) ∧ dk_tkn D' (g :: dn) ∧ D'.2.1 432 3 = nI (n + gk k) ∧ (D'.2.1 (436 + 3 * g) 1 = nI k ∧ (k = 8 → D'.2.1 (436 + 3 * g) 2 = nI a) ∧ D'.2.1 (436 + 3 * g) 3 = nI n) ∧ ∀ x, x ≠ 432 → x ≠ 434 → x ≠ 435 → x ≠ 436 + 3 * g → ag D D' x
def tkk_D (D : fx_D) (k : Nat) (t : Int32) (g n p q : Nat) : fx_D := fx_uf (fx_ua (fx_uf (fx_uf (fx_uf (fx_uf D 432 5 (nI p)) (436 + 3 * g) 1 (nI k)) (436 + 3 * g) 2 t) (436 + 3 * g) 3 (nI n)) 435 q (nI g)) 432 7 (nI (q + 1))
theorem tkk_ok {D : fx_D} {k n g : Nat} {t : Int32} {tl dn : List Nat} (hO : dk_opn D (g :: tl)) (hT : dk_tkn D dn) (hd : dn.length < 30) : dk_opn (tkk_D D k t g n tl.length dn.length) tl ∧ dk_tkn (tkk_D D k t g n tl.length dn.length) (g :: dn) ∧ (tkk_D D k t g n tl.length dn.length).2.1 432 3 = D.2.1 432 3 ∧ ((tkk_D D k t g n tl.length dn.length).2.1 (436 + 3 * g) 1 = nI k ∧ (tkk_D D k t g n tl.length dn.length).2.1 (436 + 3 * g) 2 = t ∧ (tkk_D D k t g n tl.length dn.length).2.1 (436 + 3 * g) 3 = nI n) ∧ ∀ x, x ≠ 432 → x ≠ 434 → x ≠ 435 → x ≠ 436 + 3 * g → ag D (tkk_D D k t g n tl.length dn.length) x := by
  have e1 : (432 : Nat) ≠ 436 + 3 * g := by omega
  have e2 : 436 + 3 * g ≠ 432 := by omega
  refine ⟨(opn_pop hO (by simp [tkk_D, fx_uf, fx_ua, upd, e1]) (by simp [tkk_D, fx_uf, fx_ua])).1, tkn_push hT hd (by simp [tkk_D, fx_uf, fx_ua, upd]) (by simp [tkk_D, fx_uf, fx_ua, upd]) (fun j hj => by simp [tkk_D, fx_uf, fx_ua, upd, show j ≠ dn.length by omega]), by simp [tkk_D, fx_uf, fx_ua, upd, e1], ⟨?_, ?_, ?_⟩, fun x h1 h2 h3 h4 => ?_⟩
  · simp [tkk_D, fx_uf, fx_ua, upd, e2]
  · simp [tkk_D, fx_uf, fx_ua, upd, e2]
  · simp [tkk_D, fx_uf, fx_ua, upd, e2]
  · exact ((((ag_uf h1).tr (ag_uf h4)).tr (ag_uf h4)).tr (ag_uf h4)).tr ((ag_ua h3).tr (ag_uf h1))
theorem c_GS_take {G : sd_G} {o : Nat} {D : fx_D} {h0 : sd_H} {nx k a n g : Nat} {y : Int32} {tl dn : List Nat} (hB : G.2.1 ≤ o) (hk : k < 9) (hn : n + gk k ≤ 30) (hm : D.2.1 432 3 = nI n) (hO : dk_opn D (g :: tl)) (hT : dk_tkn D dn) (hg : g < 30) (hl : tl.length + gk k ≤ 30) (hd : dn.length < 30) (hy : k = 8 → y = nI a) : sd_Ct G mGS_take 0 0 0 [.ref (o + 432), .int (nI k), .int y] (fx_h G.1.2 dk_S o D h0) nx (fx_is G.1.2 dk_S o h0 nx none (tkk_P k a g n tl dn D)) := by
  refine sd_Ct_of (by decide) (Nat.le_of_ble_eq_true rfl) ?_
  have c1 : D.2.1 432 5 = nI (tl.length + 1) := hO.2.1
  obtain ⟨-, o2, o3⟩ := opn_pop (D' := fx_uf D 432 5 (nI tl.length)) hO (by simp [fx_uf, upd]) rfl
  have t1 : D.2.1 432 7 = nI dn.length := hT.2.1
  have g2 := gk_le k
  have e1 : (432 : Nat) ≠ 436 + 3 * g := by omega
  have fin : ∀ t : Int32, (k = 8 → t = nI a) → ∀ D', dk_opn D' ((List.range (gk k)).map (fun j => n + j) ++ tl) → op_f (tkk_D D k t g n tl.length dn.length) D' → tkk_P k a g n tl dn D (fx_uf D' 432 3 (nI (n + gk k))) := by
    intro t ht D' q1 q2
    obtain ⟨k1, k2, k3, k4, k5⟩ := tkk_ok (k := k) (n := n) (t := t) hO hT hd
    have a4 := (q2.1 (436 + 3 * g) (by omega) (by omega)).tr (ag_uf (D := D') (y := 432) (i := 3) (v := nI (n + gk k)) (by omega))
    have a5 := (q2.1 435 (by omega) (by omega)).tr (ag_uf (D := D') (y := 432) (i := 3) (v := nI (n + gk k)) (by omega))
    refine ⟨⟨q1.1, by simpa [fx_uf, upd] using q1.2.1, q1.2.2⟩, ⟨k2.1, ?_, fun i u hu => by rw [a5.1]; exact k2.2.2 i u hu⟩, by simp [fx_uf, upd], ⟨by rw [a4.2.1]; exact k4.1, fun q => by rw [a4.2.1, k4.2.1]; exact ht q, by rw [a4.2.1]; exact k4.2.2⟩, fun x h1 h2 h3 h4 => ((k5 x h1 h2 h3 h4).tr (q2.1 x h1 h2)).tr (ag_uf h1)⟩
    have := q2.2 7 (by decide)
    rw [← k2.2.1, ← this]
    simp [fx_uf, upd]
  by_cases h8 : k = 8
  · have hy8 := hy h8
    subst hy8
    refine sd_aload_n dGS_take_0 rfl rfl ?_
    refine sd_dup dGS_take_1 rfl ?_
    refine fx_getiv (v := (nI (tl.length + 1))) 3 5 dGS_take_2 fGS_37 rfl rfl (c1) ?_
    refine sd_iconst (v := nI 1) dGS_take_5 (by decide) ?_
    refine nn_isub dGS_take_6 (by omega) ?_
    refine fx_puti 3 5 dGS_take_7 fGS_37 rfl rfl rfl rfl hB ?_
    rw [show (fx_uf (D) (432) 5 ((nI ((tl.length + 1) - 1)))) = fx_uf D 432 5 (nI tl.length) from rfl]
    refine sd_aload_n dGS_take_10 rfl rfl ?_
    refine fx_getr 3 4 (434) dGS_take_11 fGS_17 rfl rfl ?_
    refine sd_aload_n dGS_take_14 rfl rfl ?_
    refine fx_getiv (v := (nI (tl.length))) 3 5 dGS_take_15 fGS_37 rfl rfl ((by simp [fx_uf, upd])) ?_
    refine fx_ialdv (v := (nI (g))) (tl.length) dGS_take_18 rfl rfl (by omega) (by decide) (o2) ?_
    refine sd_istore_n dGS_take_19 rfl (by decide) ?_
    refine sd_aload_n dGS_take_20 rfl rfl ?_
    refine fx_getr 3 2 (433) dGS_take_21 fGS_11 rfl rfl ?_
    refine sd_iload_n dGS_take_24 rfl rfl ?_
    refine fx_aald (g) dGS_take_25 rfl rfl rfl (by omega) (by decide) ?_
    refine sd_iload_n dGS_take_26 rfl rfl ?_
    refine fx_puti 2 1 dGS_take_27 fGS_228 rfl rfl (dk_gl (by omega)) rfl hB ?_
    refine sd_aload_n dGS_take_30 rfl rfl ?_
    refine fx_getr 3 2 (433) dGS_take_31 fGS_11 rfl rfl ?_
    refine sd_iload_n dGS_take_34 rfl rfl ?_
    refine fx_aald (g) dGS_take_35 rfl rfl rfl (by omega) (by decide) ?_
    refine sd_iload_n dGS_take_36 rfl rfl ?_
    refine sd_bipush (v := nI 8) dGS_take_37 (by decide) ?_
    refine nn_icmp_ne 46 dGS_take_39 (by decide) (by omega) (by omega) (fun c39 => ?_) (fun c39 => ?_)
    ·
      exact absurd h8 c39
    ·
      refine sd_iload_n dGS_take_42 rfl rfl ?_
      refine sd_goto 47 dGS_take_43 (by decide) ?_
      refine fx_puti 2 2 dGS_take_47 fGS_231 rfl rfl (dk_gl (by omega)) rfl hB ?_
      refine sd_aload_n dGS_take_50 rfl rfl ?_
      refine fx_getr 3 2 (433) dGS_take_51 fGS_11 rfl rfl ?_
      refine sd_iload_n dGS_take_54 rfl rfl ?_
      refine fx_aald (g) dGS_take_55 rfl rfl rfl (by omega) (by decide) ?_
      refine sd_aload_n dGS_take_56 rfl rfl ?_
      refine fx_getiv (v := (nI (n))) 3 3 dGS_take_57 fGS_33 rfl rfl ((by rw [← hm]; simp [fx_uf, upd, e1])) ?_
      refine fx_puti 2 3 dGS_take_60 fGS_234 rfl rfl (dk_gl (by omega)) rfl hB ?_
      refine sd_aload_n dGS_take_63 rfl rfl ?_
      refine fx_getr 3 6 (435) dGS_take_64 fGS_21 rfl rfl ?_
      refine sd_aload_n dGS_take_67 rfl rfl ?_
      refine fx_getiv (v := (nI (dn.length))) 3 7 dGS_take_68 fGS_40 rfl rfl ((by rw [← t1]; simp [fx_uf, upd, e1])) ?_
      refine sd_iload_n dGS_take_71 rfl rfl ?_
      refine fx_iast (dn.length) dGS_take_72 rfl rfl (by omega) (by decide) hB ?_
      refine sd_aload_n dGS_take_73 rfl rfl ?_
      refine sd_dup dGS_take_74 rfl ?_
      refine fx_getiv (v := (nI (dn.length))) 3 7 dGS_take_75 fGS_40 rfl rfl ((by rw [← t1]; simp [fx_uf, fx_ua, upd, e1])) ?_
      refine sd_iconst (v := nI 1) dGS_take_78 (by decide) ?_
      refine nn_iadd dGS_take_79 ?_
      refine fx_puti 3 7 dGS_take_80 fGS_40 rfl rfl rfl rfl hB ?_
      refine sd_gets sz_LEFT dGS_take_83 (by decide) (Or.inr ⟨"SequentDesk", (sd_nT (sd_in4 (List.mem_of_getElem? (i := 21) rfl)) rfl)⟩) ?_
      refine sd_iload_n dGS_take_86 rfl rfl ?_
      refine sd_tald sz_LEFT (v := (nI (gk k))) dGS_take_87 (by decide) (vp_in_nI (by show _ < 9; omega) (by decide)) (left_tab k hk) ?_
      refine sd_iconst (v := nI 1) dGS_take_88 (by decide) ?_
      refine sd_isub dGS_take_89 ?_
      rw [show ((nI (gk k)) - (nI (1))) = (ix (gk k)) from ix_sub (gk k)]
      refine sd_istore dGS_take_90 (by decide) ?_
      refine sd_locp (al' := [(0, .ref (o + (432))), (1, .int (nI (k))), (2, .int (nI (a))), (3, .int (nI (g))), (4, .int (ix (gk k)))]) [2, 3, 4, 1, 0] rfl ?_
      obtain ⟨k1, k2, k3, k4, k5⟩ := tkk_ok (k := k) (n := n) (t := nI a) hO hT hd
      exact l_GS_take hB hk hn (D0 := tkk_D D k (nI a) g n tl.length dn.length) (k3.trans hm) (fin (nI a) (fun _ => rfl)) (gk k) tl _ k1 hl g2 (op_f.rf _) rfl
  · skip
    refine sd_aload_n dGS_take_0 rfl rfl ?_
    refine sd_dup dGS_take_1 rfl ?_
    refine fx_getiv (v := (nI (tl.length + 1))) 3 5 dGS_take_2 fGS_37 rfl rfl (c1) ?_
    refine sd_iconst (v := nI 1) dGS_take_5 (by decide) ?_
    refine nn_isub dGS_take_6 (by omega) ?_
    refine fx_puti 3 5 dGS_take_7 fGS_37 rfl rfl rfl rfl hB ?_
    rw [show (fx_uf (D) (432) 5 ((nI ((tl.length + 1) - 1)))) = fx_uf D 432 5 (nI tl.length) from rfl]
    refine sd_aload_n dGS_take_10 rfl rfl ?_
    refine fx_getr 3 4 (434) dGS_take_11 fGS_17 rfl rfl ?_
    refine sd_aload_n dGS_take_14 rfl rfl ?_
    refine fx_getiv (v := (nI (tl.length))) 3 5 dGS_take_15 fGS_37 rfl rfl ((by simp [fx_uf, upd])) ?_
    refine fx_ialdv (v := (nI (g))) (tl.length) dGS_take_18 rfl rfl (by omega) (by decide) (o2) ?_
    refine sd_istore_n dGS_take_19 rfl (by decide) ?_
    refine sd_aload_n dGS_take_20 rfl rfl ?_
    refine fx_getr 3 2 (433) dGS_take_21 fGS_11 rfl rfl ?_
    refine sd_iload_n dGS_take_24 rfl rfl ?_
    refine fx_aald (g) dGS_take_25 rfl rfl rfl (by omega) (by decide) ?_
    refine sd_iload_n dGS_take_26 rfl rfl ?_
    refine fx_puti 2 1 dGS_take_27 fGS_228 rfl rfl (dk_gl (by omega)) rfl hB ?_
    refine sd_aload_n dGS_take_30 rfl rfl ?_
    refine fx_getr 3 2 (433) dGS_take_31 fGS_11 rfl rfl ?_
    refine sd_iload_n dGS_take_34 rfl rfl ?_
    refine fx_aald (g) dGS_take_35 rfl rfl rfl (by omega) (by decide) ?_
    refine sd_iload_n dGS_take_36 rfl rfl ?_
    refine sd_bipush (v := nI 8) dGS_take_37 (by decide) ?_
    refine nn_icmp_ne 46 dGS_take_39 (by decide) (by omega) (by omega) (fun c39 => ?_) (fun c39 => ?_)
    ·
      refine sd_iconst (v := (-1)) dGS_take_46 (by decide) ?_
      refine fx_puti 2 2 dGS_take_47 fGS_231 rfl rfl (dk_gl (by omega)) rfl hB ?_
      refine sd_aload_n dGS_take_50 rfl rfl ?_
      refine fx_getr 3 2 (433) dGS_take_51 fGS_11 rfl rfl ?_
      refine sd_iload_n dGS_take_54 rfl rfl ?_
      refine fx_aald (g) dGS_take_55 rfl rfl rfl (by omega) (by decide) ?_
      refine sd_aload_n dGS_take_56 rfl rfl ?_
      refine fx_getiv (v := (nI (n))) 3 3 dGS_take_57 fGS_33 rfl rfl ((by rw [← hm]; simp [fx_uf, upd, e1])) ?_
      refine fx_puti 2 3 dGS_take_60 fGS_234 rfl rfl (dk_gl (by omega)) rfl hB ?_
      refine sd_aload_n dGS_take_63 rfl rfl ?_
      refine fx_getr 3 6 (435) dGS_take_64 fGS_21 rfl rfl ?_
      refine sd_aload_n dGS_take_67 rfl rfl ?_
      refine fx_getiv (v := (nI (dn.length))) 3 7 dGS_take_68 fGS_40 rfl rfl ((by rw [← t1]; simp [fx_uf, upd, e1])) ?_
      refine sd_iload_n dGS_take_71 rfl rfl ?_
      refine fx_iast (dn.length) dGS_take_72 rfl rfl (by omega) (by decide) hB ?_
      refine sd_aload_n dGS_take_73 rfl rfl ?_
      refine sd_dup dGS_take_74 rfl ?_
      refine fx_getiv (v := (nI (dn.length))) 3 7 dGS_take_75 fGS_40 rfl rfl ((by rw [← t1]; simp [fx_uf, fx_ua, upd, e1])) ?_
      refine sd_iconst (v := nI 1) dGS_take_78 (by decide) ?_
      refine nn_iadd dGS_take_79 ?_
      refine fx_puti 3 7 dGS_take_80 fGS_40 rfl rfl rfl rfl hB ?_
      refine sd_gets sz_LEFT dGS_take_83 (by decide) (Or.inr ⟨"SequentDesk", (sd_nT (sd_in4 (List.mem_of_getElem? (i := 21) rfl)) rfl)⟩) ?_
      refine sd_iload_n dGS_take_86 rfl rfl ?_
      refine sd_tald sz_LEFT (v := (nI (gk k))) dGS_take_87 (by decide) (vp_in_nI (by show _ < 9; omega) (by decide)) (left_tab k hk) ?_
      refine sd_iconst (v := nI 1) dGS_take_88 (by decide) ?_
      refine sd_isub dGS_take_89 ?_
      rw [show ((nI (gk k)) - (nI (1))) = (ix (gk k)) from ix_sub (gk k)]
      refine sd_istore dGS_take_90 (by decide) ?_
      refine sd_locp (al' := [(0, .ref (o + (432))), (1, .int (nI (k))), (2, .int (y)), (3, .int (nI (g))), (4, .int (ix (gk k)))]) [2, 3, 4, 1, 0] rfl ?_
      obtain ⟨k1, k2, k3, k4, k5⟩ := tkk_ok (k := k) (n := n) (t := -1) hO hT hd
      exact l_GS_take hB hk hn (D0 := tkk_D D k (-1) g n tl.length dn.length) (k3.trans hm) (fin (-1) (fun q => absurd q h8)) (gk k) tl _ k1 hl g2 (op_f.rf _) rfl
    ·
      exact absurd c39 h8
