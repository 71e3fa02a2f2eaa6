/-! ===== the model: symbol, term ===== -/
theorem nn_or2 (a b : Nat) : nI a ||| nI b = nI (a ||| b) := by
  apply nn_inj
  rw [Int32.toBitVec_or, nn_tb, nn_tb, nn_tb, BitVec.ofNat_or]
theorem nn_lt_get {α : Type} {x : Int32} {L : List α} (h : nn_lt x L.length) : ∃ (t : Nat) (l : α), t < L.length ∧ x = nI t ∧ L[t]? = some l := by
  obtain ⟨t, ht, rfl⟩ := h
  exact ⟨t, L[t], ht, rfl, List.getElem?_eq_getElem ht⟩
theorem getE_lt {α : Type} {L : List α} {t : Nat} {l : α} (h : L[t]? = some l) : t < L.length := (List.getElem?_eq_some_iff.mp h).1
theorem dMO_symbol_0 : decode prog_13_method_42_code 0 = .ok (.aload_n 0, 1) := by decide +kernel
theorem dMO_symbol_1 : decode prog_13_method_42_code 1 = .ok (.iload_n 1, 1) := by decide +kernel
theorem dMO_symbol_2 : decode prog_13_method_42_code 2 = .ok (.invokevirtual 200, 3) := by decide +kernel
theorem dMO_symbol_5 : decode prog_13_method_42_code 5 = .ok (.ifCond .eq (28), 3) := by decide +kernel
theorem dMO_symbol_8 : decode prog_13_method_42_code 8 = .ok (.iload_n 2, 1) := by decide +kernel
theorem dMO_symbol_9 : decode prog_13_method_42_code 9 = .ok (.iconst 0, 1) := by decide +kernel
theorem dMO_symbol_10 : decode prog_13_method_42_code 10 = .ok (.aload_n 0, 1) := by decide +kernel
theorem dMO_symbol_11 : decode prog_13_method_42_code 11 = .ok (.getfield 16, 3) := by decide +kernel
theorem dMO_symbol_14 : decode prog_13_method_42_code 14 = .ok (.iload_n 1, 1) := by decide +kernel
theorem dMO_symbol_15 : decode prog_13_method_42_code 15 = .ok (.iaload, 1) := by decide +kernel
theorem dMO_symbol_16 : decode prog_13_method_42_code 16 = .ok (.iconst 1, 1) := by decide +kernel
theorem dMO_symbol_17 : decode prog_13_method_42_code 17 = .ok (.isub, 1) := by decide +kernel
theorem dMO_symbol_18 : decode prog_13_method_42_code 18 = .ok (.invokestatic 102, 3) := by decide +kernel
theorem dMO_symbol_21 : decode prog_13_method_42_code 21 = .ok (.ifCond .eq (12), 3) := by decide +kernel
theorem dMO_symbol_24 : decode prog_13_method_42_code 24 = .ok (.iload_n 3, 1) := by decide +kernel
theorem dMO_symbol_25 : decode prog_13_method_42_code 25 = .ok (.iconst 0, 1) := by decide +kernel
theorem dMO_symbol_26 : decode prog_13_method_42_code 26 = .ok (.iconst 1, 1) := by decide +kernel
theorem dMO_symbol_27 : decode prog_13_method_42_code 27 = .ok (.invokestatic 102, 3) := by decide +kernel
theorem dMO_symbol_30 : decode prog_13_method_42_code 30 = .ok (.ifCond .ne (5), 3) := by decide +kernel
theorem dMO_symbol_33 : decode prog_13_method_42_code 33 = .ok (.iconst (-1), 1) := by decide +kernel
theorem dMO_symbol_34 : decode prog_13_method_42_code 34 = .ok (.ireturn, 1) := by decide +kernel
theorem dMO_symbol_35 : decode prog_13_method_42_code 35 = .ok (.iload_n 3, 1) := by decide +kernel
theorem dMO_symbol_36 : decode prog_13_method_42_code 36 = .ok (.ifCond .ne (12), 3) := by decide +kernel
theorem dMO_symbol_39 : decode prog_13_method_42_code 39 = .ok (.aload_n 0, 1) := by decide +kernel
theorem dMO_symbol_40 : decode prog_13_method_42_code 40 = .ok (.iload_n 1, 1) := by decide +kernel
theorem dMO_symbol_41 : decode prog_13_method_42_code 41 = .ok (.iload_n 2, 1) := by decide +kernel
theorem dMO_symbol_42 : decode prog_13_method_42_code 42 = .ok (.invokevirtual 131, 3) := by decide +kernel
theorem dMO_symbol_45 : decode prog_13_method_42_code 45 = .ok (.goto (9), 3) := by decide +kernel
theorem dMO_symbol_48 : decode prog_13_method_42_code 48 = .ok (.aload_n 0, 1) := by decide +kernel
theorem dMO_symbol_49 : decode prog_13_method_42_code 49 = .ok (.iload_n 1, 1) := by decide +kernel
theorem dMO_symbol_50 : decode prog_13_method_42_code 50 = .ok (.iload_n 2, 1) := by decide +kernel
theorem dMO_symbol_51 : decode prog_13_method_42_code 51 = .ok (.invokevirtual 134, 3) := by decide +kernel
theorem dMO_symbol_54 : decode prog_13_method_42_code 54 = .ok (.ireturn, 1) := by decide +kernel
theorem c_MO_symbol {G : sd_G} {o : Nat} {D : fx_D} {h0 : sd_H} {nx : Nat} {S : st_S} {x y z a : Int32} (hR : mo_R S D) (hs : sp_symbol S x y z a) : sd_Ct G mMO_symbol 2 0 0 [.ref (o + 0), .int x, .int y, .int z] (fx_h G.1.2 mo_S o D h0) nx (sd_is (some (.int a)) (fx_h G.1.2 mo_S o D h0) nx) := by
  refine sd_Ct_of (by decide) (Nat.le_of_ble_eq_true rfl) ?_
  have hT := hR.2.1
  have h64 := hT.1
  rcases hs with ⟨hn, rfl⟩ | ⟨t, i, w, l, q, rfl, rfl, rfl, hw, ht, hi, rfl⟩
  · by_cases h1 : nn_lt x (st_T S).length
    · obtain ⟨t, l, htl, rfl, ht⟩ := nn_lt_get h1
      obtain ⟨hl, hwf⟩ := hT.2.2 t l ht
      have l24 := hl.1
      by_cases h2 : nn_lt y l.length
      · obtain ⟨i, q, hil, rfl, hi⟩ := nn_lt_get h2
        have h3 : ¬ nn_lt z 2 := by
          rintro ⟨w, hw, rfl⟩
          exact hn ⟨t, i, w, l, q, rfl, rfl, rfl, hw, ht, hi⟩
        refine sd_aload_n dMO_symbol_0 rfl rfl ?_
        refine sd_iload_n dMO_symbol_1 rfl rfl ?_
        refine fx_cV 10 sR_MO [.int (nI (t))] [] dMO_symbol_2 kMO_200 rfl rfl mMO_isTerm_v (c_MO_isTerm (b := 1) h64 hT.2.1 (by omega) (by simp only [true_iff]; exact h1)) (by decide) (Nat.le_refl _) (Nat.le_refl _) (Nat.le_of_ble_eq_true rfl) rfl ?_
        refine nn_if_eq 33 dMO_symbol_5 (by decide) (by decide) (fun c => absurd c (by decide)) (fun _ => ?_)
        refine sd_iload_n dMO_symbol_8 rfl rfl ?_
        refine sd_iconst (v := nI 0) dMO_symbol_9 (by decide) ?_
        refine sd_aload_n dMO_symbol_10 rfl rfl ?_
        refine fx_getr 10 2 (3) dMO_symbol_11 fMO_16 rfl rfl ?_
        refine sd_iload_n dMO_symbol_14 rfl rfl ?_
        refine fx_ialdv (t) dMO_symbol_15 rfl rfl (by omega) (by decide) (hl.2.1) ?_
        refine sd_iconst (v := nI 1) dMO_symbol_16 (by decide) ?_
        refine sd_isub dMO_symbol_17 ?_
        refine sd_cS [.int (nI (i)), .int (nI (0)), .int ((nI (l.length)) - (nI (1)))] [] dMO_symbol_18 kMO_102 mMO_in_s (c_MO_in (b := 1) (by omega) (by simp only [true_iff]; exact (nn_has (by omega)).mpr h2)) (by decide) (Nat.le_refl _) (Nat.le_refl _) (Nat.le_of_ble_eq_true rfl) rfl ?_
        refine nn_if_eq 33 dMO_symbol_21 (by decide) (by decide) (fun c => absurd c (by decide)) (fun _ => ?_)
        refine sd_iload_n dMO_symbol_24 rfl rfl ?_
        refine sd_iconst (v := nI 0) dMO_symbol_25 (by decide) ?_
        refine sd_iconst (v := nI 1) dMO_symbol_26 (by decide) ?_
        refine sd_cS [.int (z), .int (nI (0)), .int (nI (1))] [] dMO_symbol_27 kMO_102 mMO_in_s (c_MO_in (b := 0) (by omega) (by rw [mo_in_of (by omega)]; simp [h3])) (by decide) (Nat.le_refl _) (Nat.le_refl _) (Nat.le_of_ble_eq_true rfl) rfl ?_
        refine nn_if_ne 35 dMO_symbol_30 (by decide) (by decide) (fun c => absurd c (by decide)) (fun _ => ?_)
        refine sd_iconst (v := (-1)) dMO_symbol_33 (by decide) ?_
        exact sd_iret dMO_symbol_34 rfl (Nat.le_refl _) (Nat.le_refl _) ⟨rfl, rfl, rfl⟩
      ·
        refine sd_aload_n dMO_symbol_0 rfl rfl ?_
        refine sd_iload_n dMO_symbol_1 rfl rfl ?_
        refine fx_cV 10 sR_MO [.int (nI (t))] [] dMO_symbol_2 kMO_200 rfl rfl mMO_isTerm_v (c_MO_isTerm (b := 1) h64 hT.2.1 (by omega) (by simp only [true_iff]; exact h1)) (by decide) (Nat.le_refl _) (Nat.le_refl _) (Nat.le_of_ble_eq_true rfl) rfl ?_
        refine nn_if_eq 33 dMO_symbol_5 (by decide) (by decide) (fun c => absurd c (by decide)) (fun _ => ?_)
        refine sd_iload_n dMO_symbol_8 rfl rfl ?_
        refine sd_iconst (v := nI 0) dMO_symbol_9 (by decide) ?_
        refine sd_aload_n dMO_symbol_10 rfl rfl ?_
        refine fx_getr 10 2 (3) dMO_symbol_11 fMO_16 rfl rfl ?_
        refine sd_iload_n dMO_symbol_14 rfl rfl ?_
        refine fx_ialdv (t) dMO_symbol_15 rfl rfl (by omega) (by decide) (hl.2.1) ?_
        refine sd_iconst (v := nI 1) dMO_symbol_16 (by decide) ?_
        refine sd_isub dMO_symbol_17 ?_
        refine sd_cS [.int (y), .int (nI (0)), .int ((nI (l.length)) - (nI (1)))] [] dMO_symbol_18 kMO_102 mMO_in_s (c_MO_in (b := 0) (by omega) (by rw [nn_has (by omega)]; constructor; intro e; cases e; intro e; exact absurd e h2)) (by decide) (Nat.le_refl _) (Nat.le_refl _) (Nat.le_of_ble_eq_true rfl) rfl ?_
        refine nn_if_eq 33 dMO_symbol_21 (by decide) (by decide) (fun _ => ?_) (fun c => absurd c (by decide))
        refine sd_iconst (v := (-1)) dMO_symbol_33 (by decide) ?_
        exact sd_iret dMO_symbol_34 rfl (Nat.le_refl _) (Nat.le_refl _) ⟨rfl, rfl, rfl⟩
    ·
      refine sd_aload_n dMO_symbol_0 rfl rfl ?_
      refine sd_iload_n dMO_symbol_1 rfl rfl ?_
      refine fx_cV 10 sR_MO [.int (x)] [] dMO_symbol_2 kMO_200 rfl rfl mMO_isTerm_v (c_MO_isTerm (b := 0) h64 hT.2.1 (by omega) (by constructor; intro e; cases e; intro e; exact absurd e h1)) (by decide) (Nat.le_refl _) (Nat.le_refl _) (Nat.le_of_ble_eq_true rfl) rfl ?_
      refine nn_if_eq 33 dMO_symbol_5 (by decide) (by decide) (fun _ => ?_) (fun c => absurd c (by decide))
      refine sd_iconst (v := (-1)) dMO_symbol_33 (by decide) ?_
      exact sd_iret dMO_symbol_34 rfl (Nat.le_refl _) (Nat.le_refl _) ⟨rfl, rfl, rfl⟩
  · obtain ⟨hl, hwf⟩ := hT.2.2 t l ht
    have l24 := hl.1
    have htl := getE_lt ht
    have hil := getE_lt hi
    obtain ⟨q1, q2, q3, q4⟩ := hl.2.2 i q hi
    have h1 : nn_lt (nI t) (st_T S).length := ⟨t, htl, rfl⟩
    have h2 : nn_lt (nI i) l.length := ⟨i, hil, rfl⟩
    have h3 : nn_lt (nI w) 2 := ⟨w, hw, rfl⟩
    have s1 := c_MO_symbolAt (G := G) (o := o) (D := D) (h0 := h0) (nx := nx) (r := t) (i := i) (by omega)
    have t1 := c_MO_typeAt (G := G) (o := o) (D := D) (h0 := h0) (nx := nx) (r := t) (i := i) (by omega)
    rw [q1] at s1
    rw [q2] at t1
    refine sd_aload_n dMO_symbol_0 rfl rfl ?_
    refine sd_iload_n dMO_symbol_1 rfl rfl ?_
    refine fx_cV 10 sR_MO [.int (nI (t))] [] dMO_symbol_2 kMO_200 rfl rfl mMO_isTerm_v (c_MO_isTerm (b := 1) h64 hT.2.1 (by omega) (by simp only [true_iff]; exact h1)) (by decide) (Nat.le_refl _) (Nat.le_refl _) (Nat.le_of_ble_eq_true rfl) rfl ?_
    refine nn_if_eq 33 dMO_symbol_5 (by decide) (by decide) (fun c => absurd c (by decide)) (fun _ => ?_)
    refine sd_iload_n dMO_symbol_8 rfl rfl ?_
    refine sd_iconst (v := nI 0) dMO_symbol_9 (by decide) ?_
    refine sd_aload_n dMO_symbol_10 rfl rfl ?_
    refine fx_getr 10 2 (3) dMO_symbol_11 fMO_16 rfl rfl ?_
    refine sd_iload_n dMO_symbol_14 rfl rfl ?_
    refine fx_ialdv (t) dMO_symbol_15 rfl rfl (by omega) (by decide) (hl.2.1) ?_
    refine sd_iconst (v := nI 1) dMO_symbol_16 (by decide) ?_
    refine sd_isub dMO_symbol_17 ?_
    refine sd_cS [.int (nI (i)), .int (nI (0)), .int ((nI (l.length)) - (nI (1)))] [] dMO_symbol_18 kMO_102 mMO_in_s (c_MO_in (b := 1) (by omega) (by simp only [true_iff]; exact (nn_has (by omega)).mpr h2)) (by decide) (Nat.le_refl _) (Nat.le_refl _) (Nat.le_of_ble_eq_true rfl) rfl ?_
    refine nn_if_eq 33 dMO_symbol_21 (by decide) (by decide) (fun c => absurd c (by decide)) (fun _ => ?_)
    refine sd_iload_n dMO_symbol_24 rfl rfl ?_
    refine sd_iconst (v := nI 0) dMO_symbol_25 (by decide) ?_
    refine sd_iconst (v := nI 1) dMO_symbol_26 (by decide) ?_
    refine sd_cS [.int (nI (w)), .int (nI (0)), .int (nI (1))] [] dMO_symbol_27 kMO_102 mMO_in_s (c_MO_in (b := 1) (by omega) (by rw [mo_in_of (by omega)]; simp only [true_iff]; exact h3)) (by decide) (Nat.le_refl _) (Nat.le_refl _) (Nat.le_of_ble_eq_true rfl) rfl ?_
    refine nn_if_ne 35 dMO_symbol_30 (by decide) (by decide) (fun _ => ?_) (fun c => absurd c (by decide))
    refine sd_iload_n dMO_symbol_35 rfl rfl ?_
    refine nn_if_ne 48 dMO_symbol_36 (by decide) (by omega) (fun c36 => ?_) (fun c36 => ?_)
    ·
      refine sd_aload_n dMO_symbol_48 rfl rfl ?_
      refine sd_iload_n dMO_symbol_49 rfl rfl ?_
      refine sd_iload_n dMO_symbol_50 rfl rfl ?_
      refine fx_cV 10 sR_MO [.int (nI (t)), .int (nI (i))] [] dMO_symbol_51 kMO_134 rfl rfl mMO_typeAt_v (t1) (by decide) (Nat.le_refl _) (Nat.le_refl _) (Nat.le_of_ble_eq_true rfl) rfl ?_
      exact sd_iret dMO_symbol_54 rfl (Nat.le_refl _) (Nat.le_refl _) ⟨by first | rw [if_pos (by omega)] | rw [if_neg (by omega)], rfl, rfl⟩
    ·
      refine sd_aload_n dMO_symbol_39 rfl rfl ?_
      refine sd_iload_n dMO_symbol_40 rfl rfl ?_
      refine sd_iload_n dMO_symbol_41 rfl rfl ?_
      refine fx_cV 10 sR_MO [.int (nI (t)), .int (nI (i))] [] dMO_symbol_42 kMO_131 rfl rfl mMO_symbolAt_v (s1) (by decide) (Nat.le_refl _) (Nat.le_refl _) (Nat.le_of_ble_eq_true rfl) rfl ?_
      refine sd_goto 54 dMO_symbol_45 (by decide) ?_
      exact sd_iret dMO_symbol_54 rfl (Nat.le_refl _) (Nat.le_refl _) ⟨by first | rw [if_pos (by omega)] | rw [if_neg (by omega)], rfl, rfl⟩
theorem tl_set_cons (x : Nat × Nat) (l : tl_T) : tl_set (x :: l) = if x.1 < 8 then 2 ^ x.1 ||| tl_set l else tl_set l := rfl
theorem tl_dp_succ (l : tl_T) (a k n : Nat) : tl_dp l a k (n + 1) = (if a < tl_end l k then 1 else 0) + tl_dp l a (k + 1) n := rfl
theorem tl_deep_succ (l : tl_T) (n : Nat) : tl_deep l (n + 1) = max (tl_deep l n) (1 + tl_dp l n 0 n) := rfl
theorem dMO_term_0 : decode prog_13_method_41_code 0 = .ok (.aload_n 0, 1) := by decide +kernel
theorem dMO_term_1 : decode prog_13_method_41_code 1 = .ok (.iload_n 1, 1) := by decide +kernel
theorem dMO_term_2 : decode prog_13_method_41_code 2 = .ok (.invokevirtual 200, 3) := by decide +kernel
theorem dMO_term_5 : decode prog_13_method_41_code 5 = .ok (.ifCond .eq (12), 3) := by decide +kernel
theorem dMO_term_8 : decode prog_13_method_41_code 8 = .ok (.iload_n 2, 1) := by decide +kernel
theorem dMO_term_9 : decode prog_13_method_41_code 9 = .ok (.iconst 0, 1) := by decide +kernel
theorem dMO_term_10 : decode prog_13_method_41_code 10 = .ok (.iconst 3, 1) := by decide +kernel
theorem dMO_term_11 : decode prog_13_method_41_code 11 = .ok (.invokestatic 102, 3) := by decide +kernel
theorem dMO_term_14 : decode prog_13_method_41_code 14 = .ok (.ifCond .ne (5), 3) := by decide +kernel
theorem dMO_term_17 : decode prog_13_method_41_code 17 = .ok (.iconst (-1), 1) := by decide +kernel
theorem dMO_term_18 : decode prog_13_method_41_code 18 = .ok (.ireturn, 1) := by decide +kernel
theorem dMO_term_19 : decode prog_13_method_41_code 19 = .ok (.iconst 0, 1) := by decide +kernel
theorem dMO_term_20 : decode prog_13_method_41_code 20 = .ok (.istore_n 3, 1) := by decide +kernel
theorem dMO_term_21 : decode prog_13_method_41_code 21 = .ok (.iconst 0, 1) := by decide +kernel
theorem dMO_term_22 : decode prog_13_method_41_code 22 = .ok (.istore 4, 2) := by decide +kernel
theorem dMO_term_24 : decode prog_13_method_41_code 24 = .ok (.iconst 0, 1) := by decide +kernel
theorem dMO_term_25 : decode prog_13_method_41_code 25 = .ok (.istore 5, 2) := by decide +kernel
theorem dMO_term_27 : decode prog_13_method_41_code 27 = .ok (.iload 5, 2) := by decide +kernel
theorem dMO_term_29 : decode prog_13_method_41_code 29 = .ok (.aload_n 0, 1) := by decide +kernel
theorem dMO_term_30 : decode prog_13_method_41_code 30 = .ok (.getfield 16, 3) := by decide +kernel
theorem dMO_term_33 : decode prog_13_method_41_code 33 = .ok (.iload_n 1, 1) := by decide +kernel
theorem dMO_term_34 : decode prog_13_method_41_code 34 = .ok (.iaload, 1) := by decide +kernel
theorem dMO_term_35 : decode prog_13_method_41_code 35 = .ok (.if_icmp .ge (78), 3) := by decide +kernel
theorem dMO_term_38 : decode prog_13_method_41_code 38 = .ok (.aload_n 0, 1) := by decide +kernel
theorem dMO_term_39 : decode prog_13_method_41_code 39 = .ok (.iload_n 1, 1) := by decide +kernel
theorem dMO_term_40 : decode prog_13_method_41_code 40 = .ok (.iload 5, 2) := by decide +kernel
theorem dMO_term_42 : decode prog_13_method_41_code 42 = .ok (.invokevirtual 131, 3) := by decide +kernel
theorem dMO_term_45 : decode prog_13_method_41_code 45 = .ok (.bipush (8), 2) := by decide +kernel
theorem dMO_term_47 : decode prog_13_method_41_code 47 = .ok (.if_icmp .ge (15), 3) := by decide +kernel
theorem dMO_term_50 : decode prog_13_method_41_code 50 = .ok (.iload_n 3, 1) := by decide +kernel
theorem dMO_term_51 : decode prog_13_method_41_code 51 = .ok (.iconst 1, 1) := by decide +kernel
theorem dMO_term_52 : decode prog_13_method_41_code 52 = .ok (.aload_n 0, 1) := by decide +kernel
theorem dMO_term_53 : decode prog_13_method_41_code 53 = .ok (.iload_n 1, 1) := by decide +kernel
theorem dMO_term_54 : decode prog_13_method_41_code 54 = .ok (.iload 5, 2) := by decide +kernel
theorem dMO_term_56 : decode prog_13_method_41_code 56 = .ok (.invokevirtual 131, 3) := by decide +kernel
theorem dMO_term_59 : decode prog_13_method_41_code 59 = .ok (.ishl, 1) := by decide +kernel
theorem dMO_term_60 : decode prog_13_method_41_code 60 = .ok (.ior, 1) := by decide +kernel
theorem dMO_term_61 : decode prog_13_method_41_code 61 = .ok (.istore_n 3, 1) := by decide +kernel
theorem dMO_term_62 : decode prog_13_method_41_code 62 = .ok (.iconst 1, 1) := by decide +kernel
theorem dMO_term_63 : decode prog_13_method_41_code 63 = .ok (.istore 6, 2) := by decide +kernel
theorem dMO_term_65 : decode prog_13_method_41_code 65 = .ok (.iconst 0, 1) := by decide +kernel
theorem dMO_term_66 : decode prog_13_method_41_code 66 = .ok (.istore 7, 2) := by decide +kernel
theorem dMO_term_68 : decode prog_13_method_41_code 68 = .ok (.iload 7, 2) := by decide +kernel
theorem dMO_term_70 : decode prog_13_method_41_code 70 = .ok (.iload 5, 2) := by decide +kernel
theorem dMO_term_72 : decode prog_13_method_41_code 72 = .ok (.if_icmp .ge (24), 3) := by decide +kernel
theorem dMO_term_75 : decode prog_13_method_41_code 75 = .ok (.aload_n 0, 1) := by decide +kernel
theorem dMO_term_76 : decode prog_13_method_41_code 76 = .ok (.iload_n 1, 1) := by decide +kernel
theorem dMO_term_77 : decode prog_13_method_41_code 77 = .ok (.iload 7, 2) := by decide +kernel
theorem dMO_term_79 : decode prog_13_method_41_code 79 = .ok (.invokevirtual 128, 3) := by decide +kernel
theorem dMO_term_82 : decode prog_13_method_41_code 82 = .ok (.iload 5, 2) := by decide +kernel
theorem dMO_term_84 : decode prog_13_method_41_code 84 = .ok (.if_icmp .le (6), 3) := by decide +kernel
theorem dMO_term_87 : decode prog_13_method_41_code 87 = .ok (.iinc 6 (1), 3) := by decide +kernel
theorem dMO_term_90 : decode prog_13_method_41_code 90 = .ok (.iinc 7 (1), 3) := by decide +kernel
theorem dMO_term_93 : decode prog_13_method_41_code 93 = .ok (.goto (-25), 3) := by decide +kernel
theorem dMO_term_96 : decode prog_13_method_41_code 96 = .ok (.iload 6, 2) := by decide +kernel
theorem dMO_term_98 : decode prog_13_method_41_code 98 = .ok (.iload 4, 2) := by decide +kernel
theorem dMO_term_100 : decode prog_13_method_41_code 100 = .ok (.if_icmp .le (7), 3) := by decide +kernel
theorem dMO_term_103 : decode prog_13_method_41_code 103 = .ok (.iload 6, 2) := by decide +kernel
theorem dMO_term_105 : decode prog_13_method_41_code 105 = .ok (.istore 4, 2) := by decide +kernel
theorem dMO_term_107 : decode prog_13_method_41_code 107 = .ok (.iinc 5 (1), 3) := by decide +kernel
theorem dMO_term_110 : decode prog_13_method_41_code 110 = .ok (.goto (-83), 3) := by decide +kernel
theorem dMO_term_113 : decode prog_13_method_41_code 113 = .ok (.iload_n 2, 1) := by decide +kernel
theorem dMO_term_114 : decode prog_13_method_41_code 114 = .ok (.ifCond .ne (12), 3) := by decide +kernel
theorem dMO_term_117 : decode prog_13_method_41_code 117 = .ok (.aload_n 0, 1) := by decide +kernel
theorem dMO_term_118 : decode prog_13_method_41_code 118 = .ok (.getfield 16, 3) := by decide +kernel
theorem dMO_term_121 : decode prog_13_method_41_code 121 = .ok (.iload_n 1, 1) := by decide +kernel
theorem dMO_term_122 : decode prog_13_method_41_code 122 = .ok (.iaload, 1) := by decide +kernel
theorem dMO_term_123 : decode prog_13_method_41_code 123 = .ok (.goto (27), 3) := by decide +kernel
theorem dMO_term_126 : decode prog_13_method_41_code 126 = .ok (.iload_n 2, 1) := by decide +kernel
theorem dMO_term_127 : decode prog_13_method_41_code 127 = .ok (.iconst 1, 1) := by decide +kernel
theorem dMO_term_128 : decode prog_13_method_41_code 128 = .ok (.if_icmp .ne (11), 3) := by decide +kernel
theorem dMO_term_131 : decode prog_13_method_41_code 131 = .ok (.aload_n 0, 1) := by decide +kernel
theorem dMO_term_132 : decode prog_13_method_41_code 132 = .ok (.iload_n 1, 1) := by decide +kernel
theorem dMO_term_133 : decode prog_13_method_41_code 133 = .ok (.invokevirtual 203, 3) := by decide +kernel
theorem dMO_term_136 : decode prog_13_method_41_code 136 = .ok (.goto (14), 3) := by decide +kernel
theorem dMO_term_139 : decode prog_13_method_41_code 139 = .ok (.iload_n 2, 1) := by decide +kernel
theorem dMO_term_140 : decode prog_13_method_41_code 140 = .ok (.iconst 2, 1) := by decide +kernel
theorem dMO_term_141 : decode prog_13_method_41_code 141 = .ok (.if_icmp .ne (7), 3) := by decide +kernel
theorem dMO_term_144 : decode prog_13_method_41_code 144 = .ok (.iload_n 3, 1) := by decide +kernel
theorem dMO_term_145 : decode prog_13_method_41_code 145 = .ok (.goto (5), 3) := by decide +kernel
theorem dMO_term_148 : decode prog_13_method_41_code 148 = .ok (.iload 4, 2) := by decide +kernel
theorem dMO_term_150 : decode prog_13_method_41_code 150 = .ok (.ireturn, 1) := by decide +kernel
theorem l_MO_term1 {G : sd_G} {o : Nat} {D : fx_D} {h0 : sd_H} {nx t k set deep : Nat} {l : tl_T} {w : Int32} {Q : sd_Q} (ht : t < 72) (hl : mo_row D t l) (hw : tl_wf l) (hk : k < l.length)
    (kk : sd_W G mMO_term 2 0 0 Q 96 [(0, .ref (o + 0)), (1, .int (nI t)), (2, .int w), (3, .int (nI set)), (4, .int (nI deep)), (5, .int (nI k)), (6, .int (nI (1 + tl_dp l k 0 k))), (7, .int (nI k))] [] (fx_h G.1.2 mo_S o D h0) nx 0 0) :
    ∀ (n j c : Nat), k = j + n → c + tl_dp l k j n = 1 + tl_dp l k 0 k → c ≤ j + 1 → sd_W G mMO_term 2 0 0 Q 68 [(0, .ref (o + 0)), (1, .int (nI t)), (2, .int w), (3, .int (nI set)), (4, .int (nI deep)), (5, .int (nI k)), (6, .int (nI c)), (7, .int (nI j))] [] (fx_h G.1.2 mo_S o D h0) nx 0 0 := by
  have l24 := hl.1
  intro n
  induction n with
  | zero =>
    intro j c hj hc hb
    obtain rfl : j = k := by omega
    simp only [tl_dp, Nat.add_zero] at hc
    subst hc
    refine sd_iload dMO_term_68 rfl ?_
    refine sd_iload dMO_term_70 rfl ?_
    refine nn_icmp_ge 96 dMO_term_72 (by decide) (by omega) (by omega) (fun c72 => ?_) (fun c72 => ?_)
    ·
      refine sd_locp (al' := [(0, .ref (o + (0))), (1, .int (nI (t))), (2, .int (w)), (3, .int (nI (set))), (4, .int (nI (deep))), (5, .int (nI (j))), (6, .int (nI (1 + tl_dp l j 0 j))), (7, .int (nI (j)))]) [0, 1, 2, 3, 4, 5, 6, 7] rfl ?_
      exact kk
    ·
      exact absurd c72 (by omega)
  | succ n ih =>
    intro j c hj hc hb
    have e1 := tl_end_le (l := l) (i := j) (by omega)
    rw [tl_dp_succ] at hc
    refine sd_iload dMO_term_68 rfl ?_
    refine sd_iload dMO_term_70 rfl ?_
    refine nn_icmp_ge 96 dMO_term_72 (by decide) (by omega) (by omega) (fun c72 => ?_) (fun c72 => ?_)
    ·
      exact absurd c72 (by omega)
    ·
      refine sd_aload_n dMO_term_75 rfl rfl ?_
      refine sd_iload_n dMO_term_76 rfl rfl ?_
      refine sd_iload dMO_term_77 rfl ?_
      refine fx_cV 10 sR_MO [.int (nI (t)), .int (nI (j))] [] dMO_term_79 kMO_128 rfl rfl mMO_end_v (c_MO_end ht hl (by omega) (tl_ok_drop l 1 j hw.1 hw.2.1 (by omega))) (by decide) (Nat.le_refl _) (Nat.le_refl _) (Nat.le_of_ble_eq_true rfl) rfl ?_
      refine sd_iload dMO_term_82 rfl ?_
      refine nn_icmp_le 90 dMO_term_84 (by decide) (by omega) (by omega) (fun c84 => ?_) (fun c84 => ?_)
      ·
        rw [if_neg (by omega)] at hc
        refine nn_iinc 1 dMO_term_90 rfl (by decide) ?_
        refine sd_goto 68 dMO_term_93 (by decide) ?_
        refine sd_locp (al' := [(0, .ref (o + (0))), (1, .int (nI (t))), (2, .int (w)), (3, .int (nI (set))), (4, .int (nI (deep))), (5, .int (nI (k))), (6, .int (nI (c))), (7, .int (nI (j + 1)))]) [1, 2, 3, 4, 5, 6, 7, 0] rfl ?_
        exact ih (j + 1) _ (by omega) (by omega) (by omega)
      ·
        rw [if_pos (by omega)] at hc
        refine nn_iinc 1 dMO_term_87 rfl (by decide) ?_
        refine nn_iinc 1 dMO_term_90 rfl (by decide) ?_
        refine sd_goto 68 dMO_term_93 (by decide) ?_
        refine sd_locp (al' := [(0, .ref (o + (0))), (1, .int (nI (t))), (2, .int (w)), (3, .int (nI (set))), (4, .int (nI (deep))), (5, .int (nI (k))), (6, .int (nI (c + 1))), (7, .int (nI (j + 1)))]) [2, 3, 4, 5, 6, 7, 1, 0] rfl ?_
        exact ih (j + 1) _ (by omega) (by omega) (by omega)
theorem tl_dp_le (l : tl_T) (at_ : Nat) : ∀ (n k : Nat), tl_dp l at_ k n ≤ n
  | 0, k => Nat.le_refl _
  | n + 1, k => by
    have := tl_dp_le l at_ n (k + 1)
    unfold tl_dp
    split <;> omega
theorem tl_deep_le (l : tl_T) : ∀ n, tl_deep l n ≤ n
  | 0 => Nat.le_refl _
  | n + 1 => by
    have := tl_deep_le l n
    have := tl_dp_le l n n 0
    unfold tl_deep
    omega
theorem l_MO_term {G : sd_G} {o : Nat} {D : fx_D} {h0 : sd_H} {nx t w : Nat} {l : tl_T} {v : Int32} (ht : t < 72) (hl : mo_row D t l) (hwf : tl_wf l) (hw : w < 4) (hv : v = if w = 0 then nI l.length else if w = 1 then nI ((l.map (·.2)).headD 0) else if w = 2 then nI (tl_set l) else nI (tl_deep l l.length)) :
    ∀ (n k set : Nat), l.length = k + n → set ||| tl_set (l.drop k) = tl_set l → sd_W G mMO_term 2 0 0 (sd_is (some (.int v)) (fx_h G.1.2 mo_S o D h0) nx) 27 [(0, .ref (o + 0)), (1, .int (nI t)), (2, .int (nI w)), (3, .int (nI set)), (4, .int (nI (tl_deep l k))), (5, .int (nI k))] [] (fx_h G.1.2 mo_S o D h0) nx 0 0 := by
  have l24 := hl.1
  have hl0 : 0 < l.length := by
    have := hwf.1
    cases l with
    | nil => exact absurd this (by simp [tl_ok])
    | cons q r => simp
  intro n
  induction n with
  | zero =>
    intro k set hk hset
    rw [List.drop_of_length_le (by omega)] at hset
    simp only [tl_set, Nat.or_zero] at hset
    subst hset
    obtain rfl : k = l.length := by omega
    obtain ⟨x, hx⟩ : ∃ x, l[0]? = some x := ⟨l[0], List.getElem?_eq_getElem (by omega)⟩
    obtain ⟨x1, x2, x3, x4⟩ := hl.2.2 _ x hx
    have t1 := c_MO_typeOf (G := G) (o := o) (D := D) (h0 := h0) (nx := nx) (r := t) ht
    rw [show D.1 2 (24 * t) = nI x.2 from x2] at t1
    have hh : (l.map (·.2)).headD 0 = x.2 := by
      cases l with
      | nil => simp at hx
      | cons q r => simp at hx; subst hx; rfl
    refine sd_iload dMO_term_27 rfl ?_
    refine sd_aload_n dMO_term_29 rfl rfl ?_
    refine fx_getr 10 2 (3) dMO_term_30 fMO_16 rfl rfl ?_
    refine sd_iload_n dMO_term_33 rfl rfl ?_
    refine fx_ialdv (t) dMO_term_34 rfl rfl (by omega) (by decide) (hl.2.1) ?_
    refine nn_icmp_ge 113 dMO_term_35 (by decide) (by omega) (by omega) (fun c35 => ?_) (fun c35 => ?_)
    ·
      refine sd_iload_n dMO_term_113 rfl rfl ?_
      refine nn_if_ne 126 dMO_term_114 (by decide) (by omega) (fun c114 => ?_) (fun c114 => ?_)
      ·
        refine sd_iload_n dMO_term_126 rfl rfl ?_
        refine sd_iconst (v := nI 1) dMO_term_127 (by decide) ?_
        refine nn_icmp_ne 139 dMO_term_128 (by decide) (by omega) (by omega) (fun c128 => ?_) (fun c128 => ?_)
        ·
          refine sd_iload_n dMO_term_139 rfl rfl ?_
          refine sd_iconst (v := nI 2) dMO_term_140 (by decide) ?_
          refine nn_icmp_ne 148 dMO_term_141 (by decide) (by omega) (by omega) (fun c141 => ?_) (fun c141 => ?_)
          ·
            refine sd_iload dMO_term_148 rfl ?_
            refine sd_iret dMO_term_150 rfl (Nat.le_refl _) (Nat.le_refl _) ⟨?_, rfl, rfl⟩
            rw [hv]
            first | rw [if_pos (by omega)] | rw [if_neg (by omega), if_pos (by omega), hh] | rw [if_neg (by omega), if_neg (by omega), if_pos (by omega)] | rw [if_neg (by omega), if_neg (by omega), if_neg (by omega)]
          ·
            refine sd_iload_n dMO_term_144 rfl rfl ?_
            refine sd_goto 150 dMO_term_145 (by decide) ?_
            refine sd_iret dMO_term_150 rfl (Nat.le_refl _) (Nat.le_refl _) ⟨?_, rfl, rfl⟩
            rw [hv]
            first | rw [if_pos (by omega)] | rw [if_neg (by omega), if_pos (by omega), hh] | rw [if_neg (by omega), if_neg (by omega), if_pos (by omega)] | rw [if_neg (by omega), if_neg (by omega), if_neg (by omega)]
        ·
          refine sd_aload_n dMO_term_131 rfl rfl ?_
          refine sd_iload_n dMO_term_132 rfl rfl ?_
          refine fx_cV 10 sR_MO [.int (nI (t))] [] dMO_term_133 kMO_203 rfl rfl mMO_typeOf_v (t1) (by decide) (Nat.le_refl _) (Nat.le_refl _) (Nat.le_of_ble_eq_true rfl) rfl ?_
          refine sd_goto 150 dMO_term_136 (by decide) ?_
          refine sd_iret dMO_term_150 rfl (Nat.le_refl _) (Nat.le_refl _) ⟨?_, rfl, rfl⟩
          rw [hv]
          first | rw [if_pos (by omega)] | rw [if_neg (by omega), if_pos (by omega), hh] | rw [if_neg (by omega), if_neg (by omega), if_pos (by omega)] | rw [if_neg (by omega), if_neg (by omega), if_neg (by omega)]
      ·
        refine sd_aload_n dMO_term_117 rfl rfl ?_
        refine fx_getr 10 2 (3) dMO_term_118 fMO_16 rfl rfl ?_
        refine sd_iload_n dMO_term_121 rfl rfl ?_
        refine fx_ialdv (t) dMO_term_122 rfl rfl (by omega) (by decide) (hl.2.1) ?_
        refine sd_goto 150 dMO_term_123 (by decide) ?_
        refine sd_iret dMO_term_150 rfl (Nat.le_refl _) (Nat.le_refl _) ⟨?_, rfl, rfl⟩
        rw [hv]
        first | rw [if_pos (by omega)] | rw [if_neg (by omega), if_pos (by omega), hh] | rw [if_neg (by omega), if_neg (by omega), if_pos (by omega)] | rw [if_neg (by omega), if_neg (by omega), if_neg (by omega)]
    ·
      exact absurd c35 (by omega)
  | succ n ih =>
    intro k set hk hset
    obtain ⟨x, hx⟩ : ∃ x, l[k]? = some x := ⟨l[k], List.getElem?_eq_getElem (by omega)⟩
    obtain ⟨x1, x2, x3, x4⟩ := hl.2.2 _ x hx
    have s1 := c_MO_symbolAt (G := G) (o := o) (D := D) (h0 := h0) (nx := nx) (r := t) (i := k) (by omega)
    rw [x1] at s1
    have d1 := tl_dp_le l k k 0
    have d2 := tl_deep_le l k
    rw [tl_drop_get hx, tl_set_cons] at hset
    have mid : ∀ set' : Nat, set' ||| tl_set (l.drop (k + 1)) = tl_set l → sd_W G mMO_term 2 0 0 (sd_is (some (.int v)) (fx_h G.1.2 mo_S o D h0) nx) 96 [(0, .ref (o + 0)), (1, .int (nI t)), (2, .int (nI w)), (3, .int (nI set')), (4, .int (nI (tl_deep l k))), (5, .int (nI k)), (6, .int (nI (1 + tl_dp l k 0 k))), (7, .int (nI k))] [] (fx_h G.1.2 mo_S o D h0) nx 0 0 := by
      intro set' hs'
      refine sd_iload dMO_term_96 rfl ?_
      refine sd_iload dMO_term_98 rfl ?_
      refine nn_icmp_le 107 dMO_term_100 (by decide) (by omega) (by omega) (fun c100 => ?_) (fun c100 => ?_)
      ·
        refine nn_iinc 1 dMO_term_107 rfl (by decide) ?_
        refine sd_goto 27 dMO_term_110 (by decide) ?_
        refine sd_locp (al' := [(0, .ref (o + (0))), (1, .int (nI (t))), (2, .int (nI (w))), (3, .int (nI (set'))), (4, .int (nI (tl_deep l k))), (5, .int (nI (k + 1)))]) [1, 2, 3, 4, 5, 0] rfl ?_
        first | (rw [show (1 + tl_dp l k 0 k) = tl_deep l (k + 1) by rw [tl_deep_succ]; omega]; exact ih (k + 1) set' (by omega) hs') | (rw [show tl_deep l k = tl_deep l (k + 1) by rw [tl_deep_succ]; omega]; exact ih (k + 1) set' (by omega) hs')
      ·
        refine sd_iload dMO_term_103 rfl ?_
        refine sd_istore dMO_term_105 (by decide) ?_
        refine nn_iinc 1 dMO_term_107 rfl (by decide) ?_
        refine sd_goto 27 dMO_term_110 (by decide) ?_
        refine sd_locp (al' := [(0, .ref (o + (0))), (1, .int (nI (t))), (2, .int (nI (w))), (3, .int (nI (set'))), (4, .int (nI (1 + tl_dp l k 0 k))), (5, .int (nI (k + 1)))]) [2, 3, 4, 5, 1, 0] rfl ?_
        first | (rw [show (1 + tl_dp l k 0 k) = tl_deep l (k + 1) by rw [tl_deep_succ]; omega]; exact ih (k + 1) set' (by omega) hs') | (rw [show tl_deep l k = tl_deep l (k + 1) by rw [tl_deep_succ]; omega]; exact ih (k + 1) set' (by omega) hs')
    have tail : ∀ set' : Nat, set' ||| tl_set (l.drop (k + 1)) = tl_set l → sd_W G mMO_term 2 0 0 (sd_is (some (.int v)) (fx_h G.1.2 mo_S o D h0) nx) 62 [(0, .ref (o + 0)), (1, .int (nI t)), (2, .int (nI w)), (3, .int (nI set')), (4, .int (nI (tl_deep l k))), (5, .int (nI k))] [] (fx_h G.1.2 mo_S o D h0) nx 0 0 := by
      intro set' hs'
      refine sd_iconst (v := nI 1) dMO_term_62 (by decide) ?_
      refine sd_istore dMO_term_63 (by decide) ?_
      refine sd_iconst (v := nI 0) dMO_term_65 (by decide) ?_
      refine sd_istore dMO_term_66 (by decide) ?_
      refine sd_locp (al' := [(0, .ref (o + (0))), (1, .int (nI (t))), (2, .int (nI (w))), (3, .int (nI (set'))), (4, .int (nI (tl_deep l k))), (5, .int (nI (k))), (6, .int (nI (1))), (7, .int (nI (0)))]) [2, 3, 4, 5, 6, 7, 1, 0] rfl ?_
      refine l_MO_term1 ht hl hwf (by omega) ?_ k 0 1 (by omega) rfl (by omega)
      exact mid set' hs'
    refine sd_iload dMO_term_27 rfl ?_
    refine sd_aload_n dMO_term_29 rfl rfl ?_
    refine fx_getr 10 2 (3) dMO_term_30 fMO_16 rfl rfl ?_
    refine sd_iload_n dMO_term_33 rfl rfl ?_
    refine fx_ialdv (t) dMO_term_34 rfl rfl (by omega) (by decide) (hl.2.1) ?_
    refine nn_icmp_ge 113 dMO_term_35 (by decide) (by omega) (by omega) (fun c35 => ?_) (fun c35 => ?_)
    ·
      exact absurd c35 (by omega)
    ·
      refine sd_aload_n dMO_term_38 rfl rfl ?_
      refine sd_iload_n dMO_term_39 rfl rfl ?_
      refine sd_iload dMO_term_40 rfl ?_
      refine fx_cV 10 sR_MO [.int (nI (t)), .int (nI (k))] [] dMO_term_42 kMO_131 rfl rfl mMO_symbolAt_v (s1) (by decide) (Nat.le_refl _) (Nat.le_refl _) (Nat.le_of_ble_eq_true rfl) rfl ?_
      refine sd_bipush (v := nI 8) dMO_term_45 (by decide) ?_
      refine nn_icmp_ge 62 dMO_term_47 (by decide) (by omega) (by omega) (fun c47 => ?_) (fun c47 => ?_)
      ·
        rw [if_neg (by omega)] at hset
        refine sd_locp (al' := [(0, .ref (o + (0))), (1, .int (nI (t))), (2, .int (nI (w))), (3, .int (nI (set))), (4, .int (nI (tl_deep l k))), (5, .int (nI (k)))]) [0, 1, 2, 3, 4, 5] rfl ?_
        first | exact tail _ hset | exact tail _ (by rw [Nat.or_assoc]; exact hset)
      ·
        rw [if_pos (by omega)] at hset
        refine sd_iload_n dMO_term_50 rfl rfl ?_
        refine sd_iconst (v := nI 1) dMO_term_51 (by decide) ?_
        refine sd_aload_n dMO_term_52 rfl rfl ?_
        refine sd_iload_n dMO_term_53 rfl rfl ?_
        refine sd_iload dMO_term_54 rfl ?_
        refine fx_cV 10 sR_MO [.int (nI (t)), .int (nI (k))] [.int (nI (1)), .int (nI (set))] dMO_term_56 kMO_131 rfl rfl mMO_symbolAt_v (s1) (by decide) (Nat.le_refl _) (Nat.le_refl _) (Nat.le_of_ble_eq_true rfl) rfl ?_
        refine nn_ishl dMO_term_59 (by omega) (tp_sh (by omega)) ?_
        refine sd_ior dMO_term_60 ?_
        rw [show ((nI (set)) ||| (nI (1 * 2 ^ x.1))) = (nI (set ||| 2 ^ x.1)) from by rw [nn_or2, Nat.one_mul]]
        refine sd_istore_n dMO_term_61 rfl (by decide) ?_
        refine sd_locp (al' := [(0, .ref (o + (0))), (1, .int (nI (t))), (2, .int (nI (w))), (3, .int (nI (set ||| 2 ^ x.1))), (4, .int (nI (tl_deep l k))), (5, .int (nI (k)))]) [1, 2, 3, 0, 4, 5] rfl ?_
        first | exact tail _ hset | exact tail _ (by rw [Nat.or_assoc]; exact hset)
theorem c_MO_term {G : sd_G} {o : Nat} {D : fx_D} {h0 : sd_H} {nx : Nat} {S : st_S} {x y a : Int32} (hR : mo_R S D) (hs : sp_term S x y a) : sd_Ct G mMO_term 2 0 0 [.ref (o + 0), .int x, .int y] (fx_h G.1.2 mo_S o D h0) nx (sd_is (some (.int a)) (fx_h G.1.2 mo_S o D h0) nx) := by
  refine sd_Ct_of (by decide) (Nat.le_of_ble_eq_true rfl) ?_
  have hT := hR.2.1
  have h64 := hT.1
  rcases hs with ⟨hn, rfl⟩ | ⟨t, w, l, rfl, rfl, ht, hw, hv⟩
  · by_cases h1 : nn_lt x (st_T S).length
    · have h2 : ¬ nn_lt y 4 := fun e => hn ⟨h1, e⟩
      refine sd_aload_n dMO_term_0 rfl rfl ?_
      refine sd_iload_n dMO_term_1 rfl rfl ?_
      refine fx_cV 10 sR_MO [.int (x)] [] dMO_term_2 kMO_200 rfl rfl mMO_isTerm_v (c_MO_isTerm (b := 1) h64 hT.2.1 (by omega) (by simp only [true_iff]; exact h1)) (by decide) (Nat.le_refl _) (Nat.le_refl _) (Nat.le_of_ble_eq_true rfl) rfl ?_
      refine nn_if_eq 17 dMO_term_5 (by decide) (by decide) (fun c => absurd c (by decide)) (fun _ => ?_)
      refine sd_iload_n dMO_term_8 rfl rfl ?_
      refine sd_iconst (v := nI 0) dMO_term_9 (by decide) ?_
      refine sd_iconst (v := nI 3) dMO_term_10 (by decide) ?_
      refine sd_cS [.int (y), .int (nI (0)), .int (nI (3))] [] dMO_term_11 kMO_102 mMO_in_s (c_MO_in (b := 0) (by omega) (by rw [mo_in_of (by omega)]; simp [h2])) (by decide) (Nat.le_refl _) (Nat.le_refl _) (Nat.le_of_ble_eq_true rfl) rfl ?_
      refine nn_if_ne 19 dMO_term_14 (by decide) (by decide) (fun c => absurd c (by decide)) (fun _ => ?_)
      refine sd_iconst (v := (-1)) dMO_term_17 (by decide) ?_
      exact sd_iret dMO_term_18 rfl (Nat.le_refl _) (Nat.le_refl _) ⟨rfl, rfl, rfl⟩
    ·
      refine sd_aload_n dMO_term_0 rfl rfl ?_
      refine sd_iload_n dMO_term_1 rfl rfl ?_
      refine fx_cV 10 sR_MO [.int (x)] [] dMO_term_2 kMO_200 rfl rfl mMO_isTerm_v (c_MO_isTerm (b := 0) h64 hT.2.1 (by omega) (by constructor; intro e; cases e; intro e; exact absurd e h1)) (by decide) (Nat.le_refl _) (Nat.le_refl _) (Nat.le_of_ble_eq_true rfl) rfl ?_
      refine nn_if_eq 17 dMO_term_5 (by decide) (by decide) (fun _ => ?_) (fun c => absurd c (by decide))
      refine sd_iconst (v := (-1)) dMO_term_17 (by decide) ?_
      exact sd_iret dMO_term_18 rfl (Nat.le_refl _) (Nat.le_refl _) ⟨rfl, rfl, rfl⟩
  · obtain ⟨hl, hwf⟩ := hT.2.2 t l ht
    have htl := getE_lt ht
    have h1 : nn_lt (nI t) (st_T S).length := ⟨t, htl, rfl⟩
    have h2 : nn_lt (nI w) 4 := ⟨w, hw, rfl⟩
    refine sd_aload_n dMO_term_0 rfl rfl ?_
    refine sd_iload_n dMO_term_1 rfl rfl ?_
    refine fx_cV 10 sR_MO [.int (nI (t))] [] dMO_term_2 kMO_200 rfl rfl mMO_isTerm_v (c_MO_isTerm (b := 1) h64 hT.2.1 (by omega) (by simp only [true_iff]; exact h1)) (by decide) (Nat.le_refl _) (Nat.le_refl _) (Nat.le_of_ble_eq_true rfl) rfl ?_
    refine nn_if_eq 17 dMO_term_5 (by decide) (by decide) (fun c => absurd c (by decide)) (fun _ => ?_)
    refine sd_iload_n dMO_term_8 rfl rfl ?_
    refine sd_iconst (v := nI 0) dMO_term_9 (by decide) ?_
    refine sd_iconst (v := nI 3) dMO_term_10 (by decide) ?_
    refine sd_cS [.int (nI (w)), .int (nI (0)), .int (nI (3))] [] dMO_term_11 kMO_102 mMO_in_s (c_MO_in (b := 1) (by omega) (by rw [mo_in_of (by omega)]; simp only [true_iff]; exact h2)) (by decide) (Nat.le_refl _) (Nat.le_refl _) (Nat.le_of_ble_eq_true rfl) rfl ?_
    refine nn_if_ne 19 dMO_term_14 (by decide) (by decide) (fun _ => ?_) (fun c => absurd c (by decide))
    refine sd_iconst (v := nI 0) dMO_term_19 (by decide) ?_
    refine sd_istore_n dMO_term_20 rfl (by decide) ?_
    refine sd_iconst (v := nI 0) dMO_term_21 (by decide) ?_
    refine sd_istore dMO_term_22 (by decide) ?_
    refine sd_iconst (v := nI 0) dMO_term_24 (by decide) ?_
    refine sd_istore dMO_term_25 (by decide) ?_
    refine sd_locp (al' := [(0, .ref (o + (0))), (1, .int (nI (t))), (2, .int (nI (w))), (3, .int (nI (0))), (4, .int (nI (0))), (5, .int (nI (0)))]) [3, 4, 5, 2, 1, 0] rfl ?_
    exact l_MO_term (by omega) hl hwf hw hv l.length 0 0 (by omega) (by rw [List.drop_zero, Nat.zero_or])
