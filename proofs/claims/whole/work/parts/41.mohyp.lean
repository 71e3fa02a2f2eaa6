/-! ===== the model: hypothesis, goal ===== -/
def sp_hypothesis (S : st_S) (x y a : Int32) : Prop := (¬ (∃ p k t : Nat, p < (st_th S).length ∧ x = nI p ∧ y = nI k ∧ (st_hy S p)[k]? = some t) ∧ a = -1) ∨ ∃ p k t : Nat, p < (st_th S).length ∧ x = nI p ∧ y = nI k ∧ (st_hy S p)[k]? = some t ∧ a = nI t
def sp_goal (S : st_S) (x a : Int32) (S' : st_S) : Prop := (¬ nn_lt x (st_T S).length ∧ a = -1 ∧ S' = S) ∨ ∃ t : Nat, t < (st_T S).length ∧ x = nI t ∧ (((tl_at (st_tm S t) 0).2 ≠ 4 ∧ a = -4 ∧ S' = S) ∨ ((tl_at (st_tm S t) 0).2 = 4 ∧ a = nI 1 ∧ S' = (S.1, S.2.1, S.2.2.1, S.2.2.2.1, [(t, [], none)], [0], [])))
theorem dMO_hypothesis_0 : decode prog_13_method_57_code 0 = .ok (.aload_n 0, 1) := by decide +kernel
theorem dMO_hypothesis_1 : decode prog_13_method_57_code 1 = .ok (.iload_n 1, 1) := by decide +kernel
theorem dMO_hypothesis_2 : decode prog_13_method_57_code 2 = .ok (.invokevirtual 219, 3) := by decide +kernel
theorem dMO_hypothesis_5 : decode prog_13_method_57_code 5 = .ok (.ifCond .eq (33), 3) := by decide +kernel
theorem dMO_hypothesis_8 : decode prog_13_method_57_code 8 = .ok (.iload_n 2, 1) := by decide +kernel
theorem dMO_hypothesis_9 : decode prog_13_method_57_code 9 = .ok (.iconst 0, 1) := by decide +kernel
theorem dMO_hypothesis_10 : decode prog_13_method_57_code 10 = .ok (.aload_n 0, 1) := by decide +kernel
theorem dMO_hypothesis_11 : decode prog_13_method_57_code 11 = .ok (.getfield 28, 3) := by decide +kernel
theorem dMO_hypothesis_14 : decode prog_13_method_57_code 14 = .ok (.iload_n 1, 1) := by decide +kernel
theorem dMO_hypothesis_15 : decode prog_13_method_57_code 15 = .ok (.iaload, 1) := by decide +kernel
theorem dMO_hypothesis_16 : decode prog_13_method_57_code 16 = .ok (.iconst 1, 1) := by decide +kernel
theorem dMO_hypothesis_17 : decode prog_13_method_57_code 17 = .ok (.isub, 1) := by decide +kernel
theorem dMO_hypothesis_18 : decode prog_13_method_57_code 18 = .ok (.invokestatic 102, 3) := by decide +kernel
theorem dMO_hypothesis_21 : decode prog_13_method_57_code 21 = .ok (.ifCond .eq (17), 3) := by decide +kernel
theorem dMO_hypothesis_24 : decode prog_13_method_57_code 24 = .ok (.aload_n 0, 1) := by decide +kernel
theorem dMO_hypothesis_25 : decode prog_13_method_57_code 25 = .ok (.getfield 31, 3) := by decide +kernel
theorem dMO_hypothesis_28 : decode prog_13_method_57_code 28 = .ok (.bipush (6), 2) := by decide +kernel
theorem dMO_hypothesis_30 : decode prog_13_method_57_code 30 = .ok (.iload_n 1, 1) := by decide +kernel
theorem dMO_hypothesis_31 : decode prog_13_method_57_code 31 = .ok (.imul, 1) := by decide +kernel
theorem dMO_hypothesis_32 : decode prog_13_method_57_code 32 = .ok (.iload_n 2, 1) := by decide +kernel
theorem dMO_hypothesis_33 : decode prog_13_method_57_code 33 = .ok (.iadd, 1) := by decide +kernel
theorem dMO_hypothesis_34 : decode prog_13_method_57_code 34 = .ok (.iaload, 1) := by decide +kernel
theorem dMO_hypothesis_35 : decode prog_13_method_57_code 35 = .ok (.goto (4), 3) := by decide +kernel
theorem dMO_hypothesis_38 : decode prog_13_method_57_code 38 = .ok (.iconst (-1), 1) := by decide +kernel
theorem dMO_hypothesis_39 : decode prog_13_method_57_code 39 = .ok (.ireturn, 1) := by decide +kernel
theorem c_MO_hypothesis {G : sd_G} {o : Nat} {D : fx_D} {h0 : sd_H} {nx : Nat} {S : st_S} {x y a : Int32} (hR : mo_R S D) (hH : st_okH S) (hs : sp_hypothesis S x y a) : sd_Ct G mMO_hypothesis 2 0 0 [.ref (o + 0), .int x, .int y] (fx_h G.1.2 mo_S o D h0) nx (sd_is (some (.int a)) (fx_h G.1.2 mo_S o D h0) nx) := by
  refine sd_Ct_of (by decide) (Nat.le_of_ble_eq_true rfl) ?_
  have h40 : (st_th S).length ≤ 40 := hR.2.2.2.2.1.1
  have ht := hR.2.2.2.2.1.2.1
  rcases hs with ⟨hn, rfl⟩ | ⟨p, k, t, hp, rfl, rfl, hk, rfl⟩
  · by_cases h1 : nn_lt x (st_th S).length
    · have h1' := h1
      obtain ⟨p, hp, rfl⟩ := h1'
      obtain ⟨-, -, p40, p7, p6, p8⟩ := mo_cn hR hH hp
      have h2 : ¬ nn_lt y (st_hy S p).length := by
        rintro ⟨k, hk, rfl⟩
        exact hn ⟨p, k, _, hp, rfl, rfl, List.getElem?_eq_getElem hk⟩
      refine sd_aload_n dMO_hypothesis_0 rfl rfl ?_
      refine sd_iload_n dMO_hypothesis_1 rfl rfl ?_
      refine fx_cV 10 sR_MO [.int (nI (p))] [] dMO_hypothesis_2 kMO_219 rfl rfl mMO_isTheorem_v (c_MO_isTheorem (b := 1) (by omega) ht (by omega) (by simp only [true_iff]; exact h1)) (by decide) (Nat.le_refl _) (Nat.le_refl _) (Nat.le_of_ble_eq_true rfl) rfl ?_
      refine nn_if_eq 38 dMO_hypothesis_5 (by decide) (by decide) (fun c => absurd c (by decide)) (fun _ => ?_)
      refine sd_iload_n dMO_hypothesis_8 rfl rfl ?_
      refine sd_iconst (v := nI 0) dMO_hypothesis_9 (by decide) ?_
      refine sd_aload_n dMO_hypothesis_10 rfl rfl ?_
      refine fx_getr 10 9 (7) dMO_hypothesis_11 fMO_28 rfl rfl ?_
      refine sd_iload_n dMO_hypothesis_14 rfl rfl ?_
      refine fx_ialdv (v := (nI ((st_hy S p).length))) (p) dMO_hypothesis_15 rfl rfl (by omega) (by decide) (p7) ?_
      refine sd_iconst (v := nI 1) dMO_hypothesis_16 (by decide) ?_
      refine sd_isub dMO_hypothesis_17 ?_
      refine sd_cS [.int (y), .int (nI (0)), .int ((nI ((st_hy S p).length)) - (nI (1)))] [] dMO_hypothesis_18 kMO_102 mMO_in_s (c_MO_in (b := 0) (by omega) (by rw [nn_has (by omega)]; constructor; intro e; cases e; intro e; exact absurd e h2)) (by decide) (Nat.le_refl _) (Nat.le_refl _) (Nat.le_of_ble_eq_true rfl) rfl ?_
      refine nn_if_eq 38 dMO_hypothesis_21 (by decide) (by decide) (fun _ => ?_) (fun c => absurd c (by decide))
      refine sd_iconst (v := (-1)) dMO_hypothesis_38 (by decide) ?_
      exact sd_iret dMO_hypothesis_39 rfl (Nat.le_refl _) (Nat.le_refl _) ⟨rfl, rfl, rfl⟩
    ·
      refine sd_aload_n dMO_hypothesis_0 rfl rfl ?_
      refine sd_iload_n dMO_hypothesis_1 rfl rfl ?_
      refine fx_cV 10 sR_MO [.int (x)] [] dMO_hypothesis_2 kMO_219 rfl rfl mMO_isTheorem_v (c_MO_isTheorem (b := 0) (by omega) ht (by omega) (by constructor; intro e; cases e; intro e; exact absurd e h1)) (by decide) (Nat.le_refl _) (Nat.le_refl _) (Nat.le_of_ble_eq_true rfl) rfl ?_
      refine nn_if_eq 38 dMO_hypothesis_5 (by decide) (by decide) (fun _ => ?_) (fun c => absurd c (by decide))
      refine sd_iconst (v := (-1)) dMO_hypothesis_38 (by decide) ?_
      exact sd_iret dMO_hypothesis_39 rfl (Nat.le_refl _) (Nat.le_refl _) ⟨rfl, rfl, rfl⟩
  · obtain ⟨-, -, p40, p7, p6, p8⟩ := mo_cn hR hH hp
    have hkl := getE_lt hk
    refine sd_aload_n dMO_hypothesis_0 rfl rfl ?_
    refine sd_iload_n dMO_hypothesis_1 rfl rfl ?_
    refine fx_cV 10 sR_MO [.int (nI (p))] [] dMO_hypothesis_2 kMO_219 rfl rfl mMO_isTheorem_v (c_MO_isTheorem (b := 1) (by omega) ht (by omega) (by simp only [true_iff]; exact ⟨p, hp, rfl⟩)) (by decide) (Nat.le_refl _) (Nat.le_refl _) (Nat.le_of_ble_eq_true rfl) rfl ?_
    refine nn_if_eq 38 dMO_hypothesis_5 (by decide) (by decide) (fun c => absurd c (by decide)) (fun _ => ?_)
    refine sd_iload_n dMO_hypothesis_8 rfl rfl ?_
    refine sd_iconst (v := nI 0) dMO_hypothesis_9 (by decide) ?_
    refine sd_aload_n dMO_hypothesis_10 rfl rfl ?_
    refine fx_getr 10 9 (7) dMO_hypothesis_11 fMO_28 rfl rfl ?_
    refine sd_iload_n dMO_hypothesis_14 rfl rfl ?_
    refine fx_ialdv (v := (nI ((st_hy S p).length))) (p) dMO_hypothesis_15 rfl rfl (by omega) (by decide) (p7) ?_
    refine sd_iconst (v := nI 1) dMO_hypothesis_16 (by decide) ?_
    refine sd_isub dMO_hypothesis_17 ?_
    refine sd_cS [.int (nI (k)), .int (nI (0)), .int ((nI ((st_hy S p).length)) - (nI (1)))] [] dMO_hypothesis_18 kMO_102 mMO_in_s (c_MO_in (b := 1) (by omega) (by simp only [true_iff]; exact (nn_has (by omega)).mpr ⟨k, hkl, rfl⟩)) (by decide) (Nat.le_refl _) (Nat.le_refl _) (Nat.le_of_ble_eq_true rfl) rfl ?_
    refine nn_if_eq 38 dMO_hypothesis_21 (by decide) (by decide) (fun c => absurd c (by decide)) (fun _ => ?_)
    refine sd_aload_n dMO_hypothesis_24 rfl rfl ?_
    refine fx_getr 10 10 (8) dMO_hypothesis_25 fMO_31 rfl rfl ?_
    refine sd_bipush (v := nI 6) dMO_hypothesis_28 (by decide) ?_
    refine sd_iload_n dMO_hypothesis_30 rfl rfl ?_
    refine nn_imul dMO_hypothesis_31 ?_
    refine sd_iload_n dMO_hypothesis_32 rfl rfl ?_
    refine nn_iadd dMO_hypothesis_33 ?_
    refine fx_ialdv (v := (nI (t))) ((6 * p) + k) dMO_hypothesis_34 rfl rfl (by omega) (by decide) ((p8 k t hk).1) ?_
    refine sd_goto 39 dMO_hypothesis_35 (by decide) ?_
    exact sd_iret dMO_hypothesis_39 rfl (Nat.le_refl _) (Nat.le_refl _) ⟨rfl, rfl, rfl⟩
