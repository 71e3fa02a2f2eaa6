/-! ===== the model: open ===== -/
/-- what is open is a goal -/
def st_okO (S : st_S) : Prop := ∀ g ∈ st_op S, g < (st_gl S).length
def sp_open (S : st_S) (x y a : Int32) : Prop := (¬ (∃ k g j : Nat, (st_op S)[k]? = some g ∧ x = nI k ∧ y = nI j ∧ j < 2 + (st_gh S g).length) ∧ a = -1) ∨ ∃ k g j : Nat, (st_op S)[k]? = some g ∧ x = nI k ∧ y = nI j ∧ j < 2 + (st_gh S g).length ∧ a = (match j with | 0 => nI (st_gt S g) | 1 => nI (st_gh S g).length | i + 2 => nI (((st_gh S g)[i]?).getD 0))
theorem nn_sub2 {y : Int32} {j : Nat} (h : y - nI 2 = nI j) : y = nI (j + 2) := by
  rw [← nI_add, ← h, Int32.sub_add_cancel]
theorem dMO_open2_0 : decode prog_13_method_67_code 0 = .ok (.iload_n 1, 1) := by decide +kernel
theorem dMO_open2_1 : decode prog_13_method_67_code 1 = .ok (.iconst 0, 1) := by decide +kernel
theorem dMO_open2_2 : decode prog_13_method_67_code 2 = .ok (.aload_n 0, 1) := by decide +kernel
theorem dMO_open2_3 : decode prog_13_method_67_code 3 = .ok (.getfield 273, 3) := by decide +kernel
theorem dMO_open2_6 : decode prog_13_method_67_code 6 = .ok (.iconst 1, 1) := by decide +kernel
theorem dMO_open2_7 : decode prog_13_method_67_code 7 = .ok (.isub, 1) := by decide +kernel
theorem dMO_open2_8 : decode prog_13_method_67_code 8 = .ok (.invokestatic 102, 3) := by decide +kernel
theorem dMO_open2_11 : decode prog_13_method_67_code 11 = .ok (.ifCond .ne (5), 3) := by decide +kernel
theorem dMO_open2_14 : decode prog_13_method_67_code 14 = .ok (.iconst (-1), 1) := by decide +kernel
theorem dMO_open2_15 : decode prog_13_method_67_code 15 = .ok (.ireturn, 1) := by decide +kernel
theorem dMO_open2_16 : decode prog_13_method_67_code 16 = .ok (.aload_n 0, 1) := by decide +kernel
theorem dMO_open2_17 : decode prog_13_method_67_code 17 = .ok (.getfield 67, 3) := by decide +kernel
theorem dMO_open2_20 : decode prog_13_method_67_code 20 = .ok (.iload_n 1, 1) := by decide +kernel
theorem dMO_open2_21 : decode prog_13_method_67_code 21 = .ok (.iaload, 1) := by decide +kernel
theorem dMO_open2_22 : decode prog_13_method_67_code 22 = .ok (.istore_n 3, 1) := by decide +kernel
theorem dMO_open2_23 : decode prog_13_method_67_code 23 = .ok (.iload_n 2, 1) := by decide +kernel
theorem dMO_open2_24 : decode prog_13_method_67_code 24 = .ok (.ifCond .ne (10), 3) := by decide +kernel
theorem dMO_open2_27 : decode prog_13_method_67_code 27 = .ok (.aload_n 0, 1) := by decide +kernel
theorem dMO_open2_28 : decode prog_13_method_67_code 28 = .ok (.getfield 46, 3) := by decide +kernel
theorem dMO_open2_31 : decode prog_13_method_67_code 31 = .ok (.iload_n 3, 1) := by decide +kernel
theorem dMO_open2_32 : decode prog_13_method_67_code 32 = .ok (.iaload, 1) := by decide +kernel
theorem dMO_open2_33 : decode prog_13_method_67_code 33 = .ok (.ireturn, 1) := by decide +kernel
theorem dMO_open2_34 : decode prog_13_method_67_code 34 = .ok (.iload_n 2, 1) := by decide +kernel
theorem dMO_open2_35 : decode prog_13_method_67_code 35 = .ok (.iconst 1, 1) := by decide +kernel
theorem dMO_open2_36 : decode prog_13_method_67_code 36 = .ok (.if_icmp .ne (12), 3) := by decide +kernel
theorem dMO_open2_39 : decode prog_13_method_67_code 39 = .ok (.aload_n 0, 1) := by decide +kernel
theorem dMO_open2_40 : decode prog_13_method_67_code 40 = .ok (.getfield 49, 3) := by decide +kernel
theorem dMO_open2_43 : decode prog_13_method_67_code 43 = .ok (.iload_n 3, 1) := by decide +kernel
theorem dMO_open2_44 : decode prog_13_method_67_code 44 = .ok (.iaload, 1) := by decide +kernel
theorem dMO_open2_45 : decode prog_13_method_67_code 45 = .ok (.goto (38), 3) := by decide +kernel
theorem dMO_open2_48 : decode prog_13_method_67_code 48 = .ok (.iload_n 2, 1) := by decide +kernel
theorem dMO_open2_49 : decode prog_13_method_67_code 49 = .ok (.iconst 2, 1) := by decide +kernel
theorem dMO_open2_50 : decode prog_13_method_67_code 50 = .ok (.isub, 1) := by decide +kernel
theorem dMO_open2_51 : decode prog_13_method_67_code 51 = .ok (.iconst 0, 1) := by decide +kernel
theorem dMO_open2_52 : decode prog_13_method_67_code 52 = .ok (.aload_n 0, 1) := by decide +kernel
theorem dMO_open2_53 : decode prog_13_method_67_code 53 = .ok (.getfield 49, 3) := by decide +kernel
theorem dMO_open2_56 : decode prog_13_method_67_code 56 = .ok (.iload_n 3, 1) := by decide +kernel
theorem dMO_open2_57 : decode prog_13_method_67_code 57 = .ok (.iaload, 1) := by decide +kernel
theorem dMO_open2_58 : decode prog_13_method_67_code 58 = .ok (.iconst 1, 1) := by decide +kernel
theorem dMO_open2_59 : decode prog_13_method_67_code 59 = .ok (.isub, 1) := by decide +kernel
theorem dMO_open2_60 : decode prog_13_method_67_code 60 = .ok (.invokestatic 102, 3) := by decide +kernel
theorem dMO_open2_63 : decode prog_13_method_67_code 63 = .ok (.ifCond .eq (19), 3) := by decide +kernel
theorem dMO_open2_66 : decode prog_13_method_67_code 66 = .ok (.aload_n 0, 1) := by decide +kernel
theorem dMO_open2_67 : decode prog_13_method_67_code 67 = .ok (.getfield 52, 3) := by decide +kernel
theorem dMO_open2_70 : decode prog_13_method_67_code 70 = .ok (.bipush (6), 2) := by decide +kernel
theorem dMO_open2_72 : decode prog_13_method_67_code 72 = .ok (.iload_n 3, 1) := by decide +kernel
theorem dMO_open2_73 : decode prog_13_method_67_code 73 = .ok (.imul, 1) := by decide +kernel
theorem dMO_open2_74 : decode prog_13_method_67_code 74 = .ok (.iload_n 2, 1) := by decide +kernel
theorem dMO_open2_75 : decode prog_13_method_67_code 75 = .ok (.iadd, 1) := by decide +kernel
theorem dMO_open2_76 : decode prog_13_method_67_code 76 = .ok (.iconst 2, 1) := by decide +kernel
theorem dMO_open2_77 : decode prog_13_method_67_code 77 = .ok (.isub, 1) := by decide +kernel
theorem dMO_open2_78 : decode prog_13_method_67_code 78 = .ok (.iaload, 1) := by decide +kernel
theorem dMO_open2_79 : decode prog_13_method_67_code 79 = .ok (.goto (4), 3) := by decide +kernel
theorem dMO_open2_82 : decode prog_13_method_67_code 82 = .ok (.iconst (-1), 1) := by decide +kernel
theorem dMO_open2_83 : decode prog_13_method_67_code 83 = .ok (.ireturn, 1) := by decide +kernel
theorem c_MO_open2 {G : sd_G} {o : Nat} {D : fx_D} {h0 : sd_H} {nx : Nat} {S : st_S} {x y a : Int32} (hR : mo_R S D) (hG : st_okG S) (hO : st_okO S) (hs : sp_open S x y a) : sd_Ct G mMO_open2 1 0 0 [.ref (o + 0), .int x, .int y] (fx_h G.1.2 mo_S o D h0) nx (sd_is (some (.int a)) (fx_h G.1.2 mo_S o D h0) nx) := by
  refine sd_Ct_of (by decide) (Nat.le_of_ble_eq_true rfl) ?_
  have ho := hR.2.2.2.2.2.2.1
  have h30 : (st_op S).length ≤ 30 := ho.1
  have h64 := hR.2.1.1
  rcases hs with ⟨hn, rfl⟩ | ⟨k, g, j, hk, rfl, rfl, hj, rfl⟩
  · by_cases h1 : nn_lt x (st_op S).length
    · have h1' := h1
      obtain ⟨k, g, hkl, rfl, hk⟩ := nn_lt_get h1'
      have hgl := hO g (List.mem_of_getElem? hk)
      obtain ⟨g1, g2, g3, g4, g5, g6⟩ := mo_gg hR hG hgl
      refine sd_iload_n dMO_open2_0 rfl rfl ?_
      refine sd_iconst (v := nI 0) dMO_open2_1 (by decide) ?_
      refine sd_aload_n dMO_open2_2 rfl rfl ?_
      refine fx_getiv (v := (nI ((st_op S).length))) 10 28 dMO_open2_3 fMO_273 rfl rfl (ho.2.1) ?_
      refine sd_iconst (v := nI 1) dMO_open2_6 (by decide) ?_
      refine sd_isub dMO_open2_7 ?_
      refine sd_cS [.int (nI (k)), .int (nI (0)), .int ((nI ((st_op S).length)) - (nI (1)))] [] dMO_open2_8 kMO_102 mMO_in_s (c_MO_in (b := 1) (by omega) (by simp only [true_iff]; exact (nn_has (by omega)).mpr h1)) (by decide) (Nat.le_refl _) (Nat.le_refl _) (Nat.le_of_ble_eq_true rfl) rfl ?_
      refine nn_if_ne 16 dMO_open2_11 (by decide) (by decide) (fun _ => ?_) (fun c => absurd c (by decide))
      refine sd_aload_n dMO_open2_16 rfl rfl ?_
      refine fx_getr 10 24 (20) dMO_open2_17 fMO_67 rfl rfl ?_
      refine sd_iload_n dMO_open2_20 rfl rfl ?_
      refine fx_ialdv (v := (nI (g))) (k) dMO_open2_21 rfl rfl (by omega) (by decide) (ho.2.2 k g hk) ?_
      refine sd_istore_n dMO_open2_22 rfl (by decide) ?_
      refine sd_iload_n dMO_open2_23 rfl rfl ?_
      refine sd_if_ne 34 dMO_open2_24 (by decide) (fun c24 => ?_) (fun c24 => ?_)
      ·
        refine sd_iload_n dMO_open2_34 rfl rfl ?_
        refine sd_iconst (v := nI 1) dMO_open2_35 (by decide) ?_
        refine sd_icmp_ne 48 dMO_open2_36 (by decide) (fun c36 => ?_) (fun c36 => ?_)
        ·
          refine sd_iload_n dMO_open2_48 rfl rfl ?_
          refine sd_iconst (v := nI 2) dMO_open2_49 (by decide) ?_
          refine sd_isub dMO_open2_50 ?_
          refine sd_iconst (v := nI 0) dMO_open2_51 (by decide) ?_
          refine sd_aload_n dMO_open2_52 rfl rfl ?_
          refine fx_getr 10 18 (14) dMO_open2_53 fMO_49 rfl rfl ?_
          refine sd_iload_n dMO_open2_56 rfl rfl ?_
          refine fx_ialdv (v := (nI ((st_gh S g).length))) (g) dMO_open2_57 rfl rfl (by omega) (by decide) (g4) ?_
          refine sd_iconst (v := nI 1) dMO_open2_58 (by decide) ?_
          refine sd_isub dMO_open2_59 ?_
          refine sd_cS [.int ((y) - (nI (2))), .int (nI (0)), .int ((nI ((st_gh S g).length)) - (nI (1)))] [] dMO_open2_60 kMO_102 mMO_in_s (c_MO_in (b := 0) (by omega) (by rw [nn_has (by omega)]; constructor; intro e; cases e; rintro ⟨j, hj, e⟩; exact absurd ⟨k, g, j + 2, hk, rfl, nn_sub2 e, by omega⟩ hn)) (by decide) (Nat.le_refl _) (Nat.le_refl _) (Nat.le_of_ble_eq_true rfl) rfl ?_
          refine nn_if_eq 82 dMO_open2_63 (by decide) (by decide) (fun _ => ?_) (fun c => absurd c (by decide))
          refine sd_iconst (v := (-1)) dMO_open2_82 (by decide) ?_
          exact sd_iret dMO_open2_83 rfl (Nat.le_refl _) (Nat.le_refl _) ⟨rfl, rfl, rfl⟩
        ·
          exact absurd ⟨k, g, 1, hk, rfl, c36, by omega⟩ hn
      ·
        exact absurd ⟨k, g, 0, hk, rfl, c24, by omega⟩ hn
    ·
      refine sd_iload_n dMO_open2_0 rfl rfl ?_
      refine sd_iconst (v := nI 0) dMO_open2_1 (by decide) ?_
      refine sd_aload_n dMO_open2_2 rfl rfl ?_
      refine fx_getiv (v := (nI ((st_op S).length))) 10 28 dMO_open2_3 fMO_273 rfl rfl (ho.2.1) ?_
      refine sd_iconst (v := nI 1) dMO_open2_6 (by decide) ?_
      refine sd_isub dMO_open2_7 ?_
      refine sd_cS [.int (x), .int (nI (0)), .int ((nI ((st_op S).length)) - (nI (1)))] [] dMO_open2_8 kMO_102 mMO_in_s (c_MO_in (b := 0) (by omega) (by rw [nn_has (by omega)]; constructor; intro e; cases e; intro e; exact absurd e h1)) (by decide) (Nat.le_refl _) (Nat.le_refl _) (Nat.le_of_ble_eq_true rfl) rfl ?_
      refine nn_if_ne 16 dMO_open2_11 (by decide) (by decide) (fun c => absurd c (by decide)) (fun _ => ?_)
      refine sd_iconst (v := (-1)) dMO_open2_14 (by decide) ?_
      exact sd_iret dMO_open2_15 rfl (Nat.le_refl _) (Nat.le_refl _) ⟨rfl, rfl, rfl⟩
  · have hkl := getE_lt hk
    have hgl := hO g (List.mem_of_getElem? hk)
    obtain ⟨g1, g2, g3, g4, g5, g6⟩ := mo_gg hR hG hgl
    match j, hj with
    | 0, hj =>
      refine sd_iload_n dMO_open2_0 rfl rfl ?_
      refine sd_iconst (v := nI 0) dMO_open2_1 (by decide) ?_
      refine sd_aload_n dMO_open2_2 rfl rfl ?_
      refine fx_getiv (v := (nI ((st_op S).length))) 10 28 dMO_open2_3 fMO_273 rfl rfl (ho.2.1) ?_
      refine sd_iconst (v := nI 1) dMO_open2_6 (by decide) ?_
      refine sd_isub dMO_open2_7 ?_
      refine sd_cS [.int (nI (k)), .int (nI (0)), .int ((nI ((st_op S).length)) - (nI (1)))] [] dMO_open2_8 kMO_102 mMO_in_s (c_MO_in (b := 1) (by omega) (by simp only [true_iff]; exact (nn_has (by omega)).mpr ⟨k, hkl, rfl⟩)) (by decide) (Nat.le_refl _) (Nat.le_refl _) (Nat.le_of_ble_eq_true rfl) rfl ?_
      refine nn_if_ne 16 dMO_open2_11 (by decide) (by decide) (fun _ => ?_) (fun c => absurd c (by decide))
      refine sd_aload_n dMO_open2_16 rfl rfl ?_
      refine fx_getr 10 24 (20) dMO_open2_17 fMO_67 rfl rfl ?_
      refine sd_iload_n dMO_open2_20 rfl rfl ?_
      refine fx_ialdv (v := (nI (g))) (k) dMO_open2_21 rfl rfl (by omega) (by decide) (ho.2.2 k g hk) ?_
      refine sd_istore_n dMO_open2_22 rfl (by decide) ?_
      refine sd_iload_n dMO_open2_23 rfl rfl ?_
      refine nn_if_ne 34 dMO_open2_24 (by decide) (by decide) (fun c => absurd c (by decide)) (fun _ => ?_)
      refine sd_aload_n dMO_open2_27 rfl rfl ?_
      refine fx_getr 10 17 (13) dMO_open2_28 fMO_46 rfl rfl ?_
      refine sd_iload_n dMO_open2_31 rfl rfl ?_
      refine fx_ialdv (v := (nI (st_gt S g))) (g) dMO_open2_32 rfl rfl (by omega) (by decide) (g1) ?_
      exact sd_iret dMO_open2_33 rfl (Nat.le_refl _) (Nat.le_refl _) ⟨rfl, rfl, rfl⟩
    | 1, hj =>
      refine sd_iload_n dMO_open2_0 rfl rfl ?_
      refine sd_iconst (v := nI 0) dMO_open2_1 (by decide) ?_
      refine sd_aload_n dMO_open2_2 rfl rfl ?_
      refine fx_getiv (v := (nI ((st_op S).length))) 10 28 dMO_open2_3 fMO_273 rfl rfl (ho.2.1) ?_
      refine sd_iconst (v := nI 1) dMO_open2_6 (by decide) ?_
      refine sd_isub dMO_open2_7 ?_
      refine sd_cS [.int (nI (k)), .int (nI (0)), .int ((nI ((st_op S).length)) - (nI (1)))] [] dMO_open2_8 kMO_102 mMO_in_s (c_MO_in (b := 1) (by omega) (by simp only [true_iff]; exact (nn_has (by omega)).mpr ⟨k, hkl, rfl⟩)) (by decide) (Nat.le_refl _) (Nat.le_refl _) (Nat.le_of_ble_eq_true rfl) rfl ?_
      refine nn_if_ne 16 dMO_open2_11 (by decide) (by decide) (fun _ => ?_) (fun c => absurd c (by decide))
      refine sd_aload_n dMO_open2_16 rfl rfl ?_
      refine fx_getr 10 24 (20) dMO_open2_17 fMO_67 rfl rfl ?_
      refine sd_iload_n dMO_open2_20 rfl rfl ?_
      refine fx_ialdv (v := (nI (g))) (k) dMO_open2_21 rfl rfl (by omega) (by decide) (ho.2.2 k g hk) ?_
      refine sd_istore_n dMO_open2_22 rfl (by decide) ?_
      refine sd_iload_n dMO_open2_23 rfl rfl ?_
      refine nn_if_ne 34 dMO_open2_24 (by decide) (by decide) (fun _ => ?_) (fun c => absurd c (by decide))
      refine sd_iload_n dMO_open2_34 rfl rfl ?_
      refine sd_iconst (v := nI 1) dMO_open2_35 (by decide) ?_
      refine nn_icmp_ne 48 dMO_open2_36 (by decide) (by decide) (by decide) (fun c => absurd c (by decide)) (fun _ => ?_)
      refine sd_aload_n dMO_open2_39 rfl rfl ?_
      refine fx_getr 10 18 (14) dMO_open2_40 fMO_49 rfl rfl ?_
      refine sd_iload_n dMO_open2_43 rfl rfl ?_
      refine fx_ialdv (v := (nI ((st_gh S g).length))) (g) dMO_open2_44 rfl rfl (by omega) (by decide) (g4) ?_
      refine sd_goto 83 dMO_open2_45 (by decide) ?_
      exact sd_iret dMO_open2_83 rfl (Nat.le_refl _) (Nat.le_refl _) ⟨rfl, rfl, rfl⟩
    | i + 2, hj =>
      have hx : (st_gh S g)[i]? = some (st_gh S g)[i] := List.getElem?_eq_getElem (by omega)
      generalize (st_gh S g)[i] = u at hx
      obtain ⟨u1, u2⟩ := g6 i u hx
      refine sd_iload_n dMO_open2_0 rfl rfl ?_
      refine sd_iconst (v := nI 0) dMO_open2_1 (by decide) ?_
      refine sd_aload_n dMO_open2_2 rfl rfl ?_
      refine fx_getiv (v := (nI ((st_op S).length))) 10 28 dMO_open2_3 fMO_273 rfl rfl (ho.2.1) ?_
      refine sd_iconst (v := nI 1) dMO_open2_6 (by decide) ?_
      refine sd_isub dMO_open2_7 ?_
      refine sd_cS [.int (nI (k)), .int (nI (0)), .int ((nI ((st_op S).length)) - (nI (1)))] [] dMO_open2_8 kMO_102 mMO_in_s (c_MO_in (b := 1) (by omega) (by simp only [true_iff]; exact (nn_has (by omega)).mpr ⟨k, hkl, rfl⟩)) (by decide) (Nat.le_refl _) (Nat.le_refl _) (Nat.le_of_ble_eq_true rfl) rfl ?_
      refine nn_if_ne 16 dMO_open2_11 (by decide) (by decide) (fun _ => ?_) (fun c => absurd c (by decide))
      refine sd_aload_n dMO_open2_16 rfl rfl ?_
      refine fx_getr 10 24 (20) dMO_open2_17 fMO_67 rfl rfl ?_
      refine sd_iload_n dMO_open2_20 rfl rfl ?_
      refine fx_ialdv (v := (nI (g))) (k) dMO_open2_21 rfl rfl (by omega) (by decide) (ho.2.2 k g hk) ?_
      refine sd_istore_n dMO_open2_22 rfl (by decide) ?_
      refine sd_iload_n dMO_open2_23 rfl rfl ?_
      refine nn_if_ne 34 dMO_open2_24 (by decide) (by omega) (fun c24 => ?_) (fun c24 => ?_)
      ·
        refine sd_iload_n dMO_open2_34 rfl rfl ?_
        refine sd_iconst (v := nI 1) dMO_open2_35 (by decide) ?_
        refine nn_icmp_ne 48 dMO_open2_36 (by decide) (by omega) (by omega) (fun c36 => ?_) (fun c36 => ?_)
        ·
          refine sd_iload_n dMO_open2_48 rfl rfl ?_
          refine sd_iconst (v := nI 2) dMO_open2_49 (by decide) ?_
          refine nn_isub dMO_open2_50 (by omega) ?_
          refine sd_iconst (v := nI 0) dMO_open2_51 (by decide) ?_
          refine sd_aload_n dMO_open2_52 rfl rfl ?_
          refine fx_getr 10 18 (14) dMO_open2_53 fMO_49 rfl rfl ?_
          refine sd_iload_n dMO_open2_56 rfl rfl ?_
          refine fx_ialdv (v := (nI ((st_gh S g).length))) (g) dMO_open2_57 rfl rfl (by omega) (by decide) (g4) ?_
          refine sd_iconst (v := nI 1) dMO_open2_58 (by decide) ?_
          refine sd_isub dMO_open2_59 ?_
          refine sd_cS [.int (nI ((i + 2) - 2)), .int (nI (0)), .int ((nI ((st_gh S g).length)) - (nI (1)))] [] dMO_open2_60 kMO_102 mMO_in_s (c_MO_in (b := 1) (by omega) (by simp only [true_iff]; exact (nn_has (by omega)).mpr ⟨i + 2 - 2, by omega, rfl⟩)) (by decide) (Nat.le_refl _) (Nat.le_refl _) (Nat.le_of_ble_eq_true rfl) rfl ?_
          refine nn_if_eq 82 dMO_open2_63 (by decide) (by decide) (fun c => absurd c (by decide)) (fun _ => ?_)
          refine sd_aload_n dMO_open2_66 rfl rfl ?_
          refine fx_getr 10 19 (15) dMO_open2_67 fMO_52 rfl rfl ?_
          refine sd_bipush (v := nI 6) dMO_open2_70 (by decide) ?_
          refine sd_iload_n dMO_open2_72 rfl rfl ?_
          refine nn_imul dMO_open2_73 ?_
          refine sd_iload_n dMO_open2_74 rfl rfl ?_
          refine nn_iadd dMO_open2_75 ?_
          refine sd_iconst (v := nI 2) dMO_open2_76 (by decide) ?_
          refine nn_isub dMO_open2_77 (by omega) ?_
          refine fx_ialdv (v := (nI (u))) (((6 * g) + (i + 2)) - 2) dMO_open2_78 rfl rfl (by omega) (by decide) ((by rw [show 6 * g + (i + 2) - 2 = 6 * g + i by omega]; exact u1)) ?_
          refine sd_goto 83 dMO_open2_79 (by decide) ?_
          exact sd_iret dMO_open2_83 rfl (Nat.le_refl _) (Nat.le_refl _) ⟨by simp only [hx, Option.getD_some], rfl, rfl⟩
        ·
          exact absurd c36 (by omega)
      ·
        exact absurd c24 (by omega)
