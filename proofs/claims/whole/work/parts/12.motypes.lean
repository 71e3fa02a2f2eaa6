/-! ===== the model's types ===== -/
theorem dMO_in_0 : decode prog_13_method_2_code 0 = .ok (.iload_n 0, 1) := by decide +kernel
theorem dMO_in_1 : decode prog_13_method_2_code 1 = .ok (.iload_n 1, 1) := by decide +kernel
theorem dMO_in_2 : decode prog_13_method_2_code 2 = .ok (.if_icmp .lt (12), 3) := by decide +kernel
theorem dMO_in_5 : decode prog_13_method_2_code 5 = .ok (.iload_n 0, 1) := by decide +kernel
theorem dMO_in_6 : decode prog_13_method_2_code 6 = .ok (.iload_n 2, 1) := by decide +kernel
theorem dMO_in_7 : decode prog_13_method_2_code 7 = .ok (.if_icmp .gt (7), 3) := by decide +kernel
theorem dMO_in_10 : decode prog_13_method_2_code 10 = .ok (.iconst 1, 1) := by decide +kernel
theorem dMO_in_11 : decode prog_13_method_2_code 11 = .ok (.goto (4), 3) := by decide +kernel
theorem dMO_in_14 : decode prog_13_method_2_code 14 = .ok (.iconst 0, 1) := by decide +kernel
theorem dMO_in_15 : decode prog_13_method_2_code 15 = .ok (.ireturn, 1) := by decide +kernel
theorem c_MO_in {G : sd_G} {h : sd_H} {nx b : Nat} {v l m : Int32} (hb2 : b < 2) (hb : b = 1 ↔ ¬ v < l ∧ ¬ m < v) : sd_Ct G mMO_in 0 0 0 [.int v, .int l, .int m] h nx (sd_is (some (.int (nI b))) h nx) := by
  refine sd_Ct_of (by decide) (Nat.le_of_ble_eq_true rfl) ?_
  refine sd_iload_n dMO_in_0 rfl rfl ?_
  refine sd_iload_n dMO_in_1 rfl rfl ?_
  refine sd_icmp_lt 14 dMO_in_2 (by decide) (fun c2 => ?_) (fun c2 => ?_)
  ·
    obtain rfl : b = 0 := by have : ¬ b = 1 := fun q => (hb.mp q).1 c2; omega
    refine sd_iconst (v := nI 0) dMO_in_14 (by decide) ?_
    exact sd_zret dMO_in_15 rfl (by first | exact Or.inl rfl | exact Or.inr rfl) (Nat.le_refl _) (Nat.le_refl _) ⟨rfl, rfl, rfl⟩
  ·
    refine sd_iload_n dMO_in_5 rfl rfl ?_
    refine sd_iload_n dMO_in_6 rfl rfl ?_
    refine sd_icmp_gt 14 dMO_in_7 (by decide) (fun c7 => ?_) (fun c7 => ?_)
    ·
      obtain rfl : b = 0 := by have : ¬ b = 1 := fun q => (hb.mp q).2 c7; omega
      refine sd_iconst (v := nI 0) dMO_in_14 (by decide) ?_
      exact sd_zret dMO_in_15 rfl (by first | exact Or.inl rfl | exact Or.inr rfl) (Nat.le_refl _) (Nat.le_refl _) ⟨rfl, rfl, rfl⟩
    ·
      obtain rfl : b = 1 := hb.mpr ⟨c2, c7⟩
      refine sd_iconst (v := nI 1) dMO_in_10 (by decide) ?_
      refine sd_goto 15 dMO_in_11 (by decide) ?_
      exact sd_zret dMO_in_15 rfl (by first | exact Or.inl rfl | exact Or.inr rfl) (Nat.le_refl _) (Nat.le_refl _) ⟨rfl, rfl, rfl⟩
theorem dMO_size_0 : decode prog_13_method_3_code 0 = .ok (.iconst 0, 1) := by decide +kernel
theorem dMO_size_1 : decode prog_13_method_3_code 1 = .ok (.istore_n 1, 1) := by decide +kernel
theorem dMO_size_2 : decode prog_13_method_3_code 2 = .ok (.iload_n 0, 1) := by decide +kernel
theorem dMO_size_3 : decode prog_13_method_3_code 3 = .ok (.iload_n 1, 1) := by decide +kernel
theorem dMO_size_4 : decode prog_13_method_3_code 4 = .ok (.iconst 1, 1) := by decide +kernel
theorem dMO_size_5 : decode prog_13_method_3_code 5 = .ok (.iadd, 1) := by decide +kernel
theorem dMO_size_6 : decode prog_13_method_3_code 6 = .ok (.ishr, 1) := by decide +kernel
theorem dMO_size_7 : decode prog_13_method_3_code 7 = .ok (.ifCond .le (9), 3) := by decide +kernel
theorem dMO_size_10 : decode prog_13_method_3_code 10 = .ok (.iinc 1 (1), 3) := by decide +kernel
theorem dMO_size_13 : decode prog_13_method_3_code 13 = .ok (.goto (-11), 3) := by decide +kernel
theorem dMO_size_16 : decode prog_13_method_3_code 16 = .ok (.iload_n 1, 1) := by decide +kernel
theorem dMO_size_17 : decode prog_13_method_3_code 17 = .ok (.ireturn, 1) := by decide +kernel
theorem tp_gz {t i : Nat} (h : t ≠ 0) : 0 < t / 2 ^ (i + 1) ↔ i < Nat.log2 t := by
  rw [show (0 < t / 2 ^ (i + 1)) = (1 ≤ t / 2 ^ (i + 1)) from rfl, Nat.le_div_iff_mul_le (Nat.two_pow_pos _), Nat.one_mul, ← Nat.le_log2 h, Nat.succ_le_iff]
theorem l_MO_size {G : sd_G} {h : sd_H} {nx t : Nat} (h0 : t ≠ 0) (ht : t < 2 ^ 31) : ∀ (n i : Nat), i + n = Nat.log2 t → sd_W G mMO_size 0 0 0 (sd_is (some (.int (nI (Nat.log2 t)))) h nx) 2 [(0, .int (nI t)), (1, .int (nI i))] [] h nx 0 0 := by
  have hl := tp_lg ht h0
  intro n
  induction n with
  | zero =>
    intro i hi
    refine sd_iload_n dMO_size_2 rfl rfl ?_
    refine sd_iload_n dMO_size_3 rfl rfl ?_
    refine sd_iconst (v := nI 1) dMO_size_4 (by decide) ?_
    refine nn_iadd dMO_size_5 ?_
    refine nn_ishr dMO_size_6 (by omega) (by omega) ?_
    refine nn_if_le 16 dMO_size_7 (by decide) (tp_div ht) (fun c7 => ?_) (fun c7 => ?_)
    ·
      refine sd_iload_n dMO_size_16 rfl rfl ?_
      exact sd_iret dMO_size_17 rfl (Nat.le_refl _) (Nat.le_refl _) ⟨by rw [show i = Nat.log2 t by omega], rfl, rfl⟩
    ·
      exact absurd ((tp_gz h0).mp c7) (by omega)
  | succ n ih =>
    intro i hi
    refine sd_iload_n dMO_size_2 rfl rfl ?_
    refine sd_iload_n dMO_size_3 rfl rfl ?_
    refine sd_iconst (v := nI 1) dMO_size_4 (by decide) ?_
    refine nn_iadd dMO_size_5 ?_
    refine nn_ishr dMO_size_6 (by omega) (by omega) ?_
    refine nn_if_le 16 dMO_size_7 (by decide) (tp_div ht) (fun c7 => ?_) (fun c7 => ?_)
    ·
      exact absurd ((tp_gz (i := i) h0).mpr (by omega)) (by omega)
    ·
      refine nn_iinc 1 dMO_size_10 rfl (by decide) ?_
      refine sd_goto 2 dMO_size_13 (by decide) ?_
      refine sd_locp (al' := [(0, .int (nI (t))), (1, .int (nI (i + 1)))]) [1, 0] rfl ?_
      exact ih (i + 1) (by omega)
theorem c_MO_size {G : sd_G} {h : sd_H} {nx t : Nat} (h0 : t ≠ 0) (ht : t < 2 ^ 31) : sd_Ct G mMO_size 0 0 0 [.int (nI t)] h nx (sd_is (some (.int (nI (Nat.log2 t)))) h nx) := by
  refine sd_Ct_of (by decide) (Nat.le_of_ble_eq_true rfl) ?_
  refine sd_iconst (v := nI 0) dMO_size_0 (by decide) ?_
  refine sd_istore_n dMO_size_1 rfl (by decide) ?_
  refine sd_locp (al' := [(0, .int (nI (t))), (1, .int (nI (0)))]) [1, 0] rfl ?_
  exact l_MO_size h0 ht (Nat.log2 t) 0 (by omega)
/-- what extent answers -/
def ty_xt (last : Nat) (r : Option Nat) : Int32 := match r with
  | some r => nI (last - r)
  | none => -1
theorem dMO_extent_0 : decode prog_13_method_5_code 0 = .ok (.iconst 1, 1) := by decide +kernel
theorem dMO_extent_1 : decode prog_13_method_5_code 1 = .ok (.istore_n 2, 1) := by decide +kernel
theorem dMO_extent_2 : decode prog_13_method_5_code 2 = .ok (.iload_n 1, 1) := by decide +kernel
theorem dMO_extent_3 : decode prog_13_method_5_code 3 = .ok (.istore_n 3, 1) := by decide +kernel
theorem dMO_extent_4 : decode prog_13_method_5_code 4 = .ok (.iload_n 2, 1) := by decide +kernel
theorem dMO_extent_5 : decode prog_13_method_5_code 5 = .ok (.ifCond .le (34), 3) := by decide +kernel
theorem dMO_extent_8 : decode prog_13_method_5_code 8 = .ok (.iload_n 3, 1) := by decide +kernel
theorem dMO_extent_9 : decode prog_13_method_5_code 9 = .ok (.ifCond .le (30), 3) := by decide +kernel
theorem dMO_extent_12 : decode prog_13_method_5_code 12 = .ok (.iinc 3 (-1), 3) := by decide +kernel
theorem dMO_extent_15 : decode prog_13_method_5_code 15 = .ok (.iload_n 0, 1) := by decide +kernel
theorem dMO_extent_16 : decode prog_13_method_5_code 16 = .ok (.iload_n 3, 1) := by decide +kernel
theorem dMO_extent_17 : decode prog_13_method_5_code 17 = .ok (.ishr, 1) := by decide +kernel
theorem dMO_extent_18 : decode prog_13_method_5_code 18 = .ok (.iconst 1, 1) := by decide +kernel
theorem dMO_extent_19 : decode prog_13_method_5_code 19 = .ok (.iand, 1) := by decide +kernel
theorem dMO_extent_20 : decode prog_13_method_5_code 20 = .ok (.iconst 1, 1) := by decide +kernel
theorem dMO_extent_21 : decode prog_13_method_5_code 21 = .ok (.if_icmp .ne (9), 3) := by decide +kernel
theorem dMO_extent_24 : decode prog_13_method_5_code 24 = .ok (.iinc 2 (1), 3) := by decide +kernel
theorem dMO_extent_27 : decode prog_13_method_5_code 27 = .ok (.goto (-23), 3) := by decide +kernel
theorem dMO_extent_30 : decode prog_13_method_5_code 30 = .ok (.iinc 2 (-1), 3) := by decide +kernel
theorem dMO_extent_33 : decode prog_13_method_5_code 33 = .ok (.iinc 3 (-1), 3) := by decide +kernel
theorem dMO_extent_36 : decode prog_13_method_5_code 36 = .ok (.goto (-32), 3) := by decide +kernel
theorem dMO_extent_39 : decode prog_13_method_5_code 39 = .ok (.iload_n 2, 1) := by decide +kernel
theorem dMO_extent_40 : decode prog_13_method_5_code 40 = .ok (.ifCond .gt (7), 3) := by decide +kernel
theorem dMO_extent_43 : decode prog_13_method_5_code 43 = .ok (.iload_n 3, 1) := by decide +kernel
theorem dMO_extent_44 : decode prog_13_method_5_code 44 = .ok (.ifCond .ge (7), 3) := by decide +kernel
theorem dMO_extent_47 : decode prog_13_method_5_code 47 = .ok (.iconst (-1), 1) := by decide +kernel
theorem dMO_extent_48 : decode prog_13_method_5_code 48 = .ok (.goto (6), 3) := by decide +kernel
theorem dMO_extent_51 : decode prog_13_method_5_code 51 = .ok (.iload_n 1, 1) := by decide +kernel
theorem dMO_extent_52 : decode prog_13_method_5_code 52 = .ok (.iload_n 3, 1) := by decide +kernel
theorem dMO_extent_53 : decode prog_13_method_5_code 53 = .ok (.isub, 1) := by decide +kernel
theorem dMO_extent_54 : decode prog_13_method_5_code 54 = .ok (.ireturn, 1) := by decide +kernel
theorem f_MO_extent {G : sd_G} {h : sd_H} {nx t last aw x : Nat} {v : Int32} (hl : last < 100) (ha : aw < 1000) (hu : x ≤ last) (hv : v = if aw = 0 then nI (last - x) else -1) : sd_W G mMO_extent 0 0 0 (sd_is (some (.int v)) h nx) 39 [(0, .int (nI t)), (1, .int (nI last)), (2, .int (nI aw)), (3, .int (nI x))] [] h nx 0 0 := by
  refine sd_iload_n dMO_extent_39 rfl rfl ?_
  refine nn_if_gt 47 dMO_extent_40 (by decide) (by omega) (fun c40 => ?_) (fun c40 => ?_)
  ·
    refine sd_iconst (v := (-1)) dMO_extent_47 (by decide) ?_
    refine sd_goto 54 dMO_extent_48 (by decide) ?_
    exact sd_iret dMO_extent_54 rfl (Nat.le_refl _) (Nat.le_refl _) ⟨by rw [hv]; first | rw [if_pos (by omega)] | rw [if_neg (by omega)], rfl, rfl⟩
  ·
    refine sd_iload_n dMO_extent_43 rfl rfl ?_
    refine nn_if_ge dMO_extent_44 51 (by decide) (by omega) ?_
    refine sd_iload_n dMO_extent_51 rfl rfl ?_
    refine sd_iload_n dMO_extent_52 rfl rfl ?_
    refine nn_isub dMO_extent_53 (by omega) ?_
    exact sd_iret dMO_extent_54 rfl (Nat.le_refl _) (Nat.le_refl _) ⟨by rw [hv]; first | rw [if_pos (by omega)] | rw [if_neg (by omega)], rfl, rfl⟩
theorem o_MO_extent {G : sd_G} {h : sd_H} {nx t last aw : Nat} (hl : last < 32) (ha : aw < 100) : sd_W G mMO_extent 0 0 0 (sd_is (some (.int (-1))) h nx) 4 [(0, .int (nI t)), (1, .int (nI last)), (2, .int (nI aw)), (3, .int (-1))] [] h nx 0 0 := by
  refine sd_iload_n dMO_extent_4 rfl rfl ?_
  refine nn_if_le 39 dMO_extent_5 (by decide) (by omega) (fun c5 => ?_) (fun c5 => ?_)
  ·
    refine sd_iload_n dMO_extent_39 rfl rfl ?_
    refine nn_if_gt 47 dMO_extent_40 (by decide) (by omega) (fun c40 => ?_) (fun c40 => ?_)
    ·
      refine sd_iconst (v := (-1)) dMO_extent_47 (by decide) ?_
      refine sd_goto 54 dMO_extent_48 (by decide) ?_
      exact sd_iret dMO_extent_54 rfl (Nat.le_refl _) (Nat.le_refl _) ⟨rfl, rfl, rfl⟩
    ·
      refine sd_iload_n dMO_extent_43 rfl rfl ?_
      refine sd_if_ge 51 dMO_extent_44 (by decide) (fun c44 => ?_) (fun c44 => ?_)
      ·
        exact absurd c44 (by decide)
      ·
        refine sd_iconst (v := (-1)) dMO_extent_47 (by decide) ?_
        refine sd_goto 54 dMO_extent_48 (by decide) ?_
        exact sd_iret dMO_extent_54 rfl (Nat.le_refl _) (Nat.le_refl _) ⟨rfl, rfl, rfl⟩
  ·
    refine sd_iload_n dMO_extent_8 rfl rfl ?_
    refine sd_if_le 39 dMO_extent_9 (by decide) (fun c9 => ?_) (fun c9 => ?_)
    ·
      refine sd_iload_n dMO_extent_39 rfl rfl ?_
      refine nn_if_gt 47 dMO_extent_40 (by decide) (by omega) (fun c40 => ?_) (fun c40 => ?_)
      ·
        refine sd_iconst (v := (-1)) dMO_extent_47 (by decide) ?_
        refine sd_goto 54 dMO_extent_48 (by decide) ?_
        exact sd_iret dMO_extent_54 rfl (Nat.le_refl _) (Nat.le_refl _) ⟨rfl, rfl, rfl⟩
      ·
        refine sd_iload_n dMO_extent_43 rfl rfl ?_
        refine sd_if_ge 51 dMO_extent_44 (by decide) (fun c44 => ?_) (fun c44 => ?_)
        ·
          exact absurd c44 (by decide)
        ·
          refine sd_iconst (v := (-1)) dMO_extent_47 (by decide) ?_
          refine sd_goto 54 dMO_extent_48 (by decide) ?_
          exact sd_iret dMO_extent_54 rfl (Nat.le_refl _) (Nat.le_refl _) ⟨rfl, rfl, rfl⟩
    ·
      exact absurd (show (-1 : Int32) ≤ 0 by decide) c9
theorem l_MO_extent {G : sd_G} {h : sd_H} {nx t last : Nat} (ht : t < 2 ^ 31) (hl : last < 32) : ∀ (n x aw : Nat), x ≤ n → x ≤ last → aw + x ≤ last + 1 → sd_W G mMO_extent 0 0 0 (sd_is (some (.int (ty_xt last (ty_ex t x aw)))) h nx) 4 [(0, .int (nI t)), (1, .int (nI last)), (2, .int (nI aw)), (3, .int (nI x))] [] h nx 0 0 := by
  intro n
  induction n with
  | zero =>
    intro x aw hx hu ha
    obtain rfl : x = 0 := by omega
    refine sd_iload_n dMO_extent_4 rfl rfl ?_
    refine nn_if_le 39 dMO_extent_5 (by decide) (by omega) (fun c5 => ?_) (fun c5 => ?_)
    ·
      refine sd_locp (al' := [(0, .int (nI (t))), (1, .int (nI (last))), (2, .int (nI (aw))), (3, .int (nI (0)))]) [0, 1, 2, 3] rfl ?_
      refine f_MO_extent (by omega) (by omega) (by omega) ?_
      cases aw with
      | zero => simp [ty_ex, ty_xt]
      | succ e => simp [ty_ex, ty_xt]
    ·
      refine sd_iload_n dMO_extent_8 rfl rfl ?_
      refine nn_if_le 39 dMO_extent_9 (by decide) (by decide) (fun _ => ?_) (fun c => absurd c (by decide))
      refine sd_locp (al' := [(0, .int (nI (t))), (1, .int (nI (last))), (2, .int (nI (aw))), (3, .int (nI (0)))]) [0, 1, 2, 3] rfl ?_
      refine f_MO_extent (by omega) (by omega) (by omega) ?_
      cases aw with
      | zero => simp [ty_ex, ty_xt]
      | succ e => simp [ty_ex, ty_xt]
  | succ n ih =>
    intro x aw hx hu ha
    match x, aw, hx, hu, ha with
    | x, 0, hx, hu, ha =>
      refine sd_iload_n dMO_extent_4 rfl rfl ?_
      refine nn_if_le 39 dMO_extent_5 (by decide) (by decide) (fun _ => ?_) (fun c => absurd c (by decide))
      refine sd_locp (al' := [(0, .int (nI (t))), (1, .int (nI (last))), (2, .int (nI (0))), (3, .int (nI (x)))]) [0, 1, 2, 3] rfl ?_
      refine f_MO_extent (by omega) (by omega) (by omega) ?_
      simp [ty_ex, ty_xt]
    | 0, e + 1, hx, hu, ha =>
      refine sd_iload_n dMO_extent_4 rfl rfl ?_
      refine nn_if_le 39 dMO_extent_5 (by decide) (by omega) (fun c5 => ?_) (fun c5 => ?_)
      ·
        exact absurd c5 (by omega)
      ·
        refine sd_iload_n dMO_extent_8 rfl rfl ?_
        refine nn_if_le 39 dMO_extent_9 (by decide) (by decide) (fun _ => ?_) (fun c => absurd c (by decide))
        refine sd_locp (al' := [(0, .int (nI (t))), (1, .int (nI (last))), (2, .int (nI (e + 1))), (3, .int (nI (0)))]) [0, 1, 2, 3] rfl ?_
        refine f_MO_extent (by omega) (by omega) (by omega) ?_
        simp [ty_ex, ty_xt]
    | 1, e + 1, hx, hu, ha =>
      refine sd_iload_n dMO_extent_4 rfl rfl ?_
      refine nn_if_le 39 dMO_extent_5 (by decide) (by omega) (fun c5 => ?_) (fun c5 => ?_)
      ·
        exact absurd c5 (by omega)
      ·
        refine sd_iload_n dMO_extent_8 rfl rfl ?_
        refine nn_if_le 39 dMO_extent_9 (by decide) (by decide) (fun c => absurd c (by decide)) (fun _ => ?_)
        refine nn_idec dMO_extent_12 rfl (by omega) (by decide) ?_
        refine sd_iload_n dMO_extent_15 rfl rfl ?_
        refine sd_iload_n dMO_extent_16 rfl rfl ?_
        refine nn_ishr dMO_extent_17 (by omega) (by omega) ?_
        refine sd_iconst (v := nI 1) dMO_extent_18 (by decide) ?_
        refine nn_iand1 dMO_extent_19 (tp_div ht) ?_
        refine sd_iconst (v := nI 1) dMO_extent_20 (by decide) ?_
        refine nn_icmp_ne 30 dMO_extent_21 (by decide) (by omega) (by omega) (fun c21 => ?_) (fun c21 => ?_)
        ·
          refine nn_idec dMO_extent_30 rfl (by omega) (by decide) ?_
          refine sd_iinc ((-1)) dMO_extent_33 rfl (by decide) (by decide) ?_
          refine sd_goto 4 dMO_extent_36 (by decide) ?_
          refine sd_locp (al' := [(0, .int (nI (t))), (1, .int (nI (last))), (2, .int (nI (e + 1 - 1))), (3, .int ((-1)))]) [2, 3, 1, 0] rfl ?_
          first | exact o_MO_extent (by omega) (by omega) | exact ih 0 (e + 1 + 1) (by omega) (by omega) (by omega)
        ·
          refine nn_iinc 1 dMO_extent_24 rfl (by decide) ?_
          refine sd_goto 4 dMO_extent_27 (by decide) ?_
          refine sd_locp (al' := [(0, .int (nI (t))), (1, .int (nI (last))), (2, .int (nI (e + 1 + 1))), (3, .int (nI (1 - 1)))]) [2, 3, 0, 1] rfl ?_
          first | exact o_MO_extent (by omega) (by omega) | exact ih 0 (e + 1 + 1) (by omega) (by omega) (by omega)
    | x + 2, e + 1, hx, hu, ha =>
      refine sd_iload_n dMO_extent_4 rfl rfl ?_
      refine nn_if_le 39 dMO_extent_5 (by decide) (by omega) (fun c5 => ?_) (fun c5 => ?_)
      ·
        exact absurd c5 (by omega)
      ·
        refine sd_iload_n dMO_extent_8 rfl rfl ?_
        refine nn_if_le 39 dMO_extent_9 (by decide) (by omega) (fun c9 => ?_) (fun c9 => ?_)
        ·
          exact absurd c9 (by omega)
        ·
          refine nn_idec dMO_extent_12 rfl (by omega) (by decide) ?_
          refine sd_iload_n dMO_extent_15 rfl rfl ?_
          refine sd_iload_n dMO_extent_16 rfl rfl ?_
          refine nn_ishr dMO_extent_17 (by omega) (by omega) ?_
          refine sd_iconst (v := nI 1) dMO_extent_18 (by decide) ?_
          refine nn_iand1 dMO_extent_19 (tp_div ht) ?_
          refine sd_iconst (v := nI 1) dMO_extent_20 (by decide) ?_
          refine nn_icmp_ne 30 dMO_extent_21 (by decide) (by omega) (by omega) (fun c21 => ?_) (fun c21 => ?_)
          ·
            rw [ty_ex, if_neg (by exact c21)]
            refine nn_idec dMO_extent_30 rfl (by omega) (by decide) ?_
            refine nn_idec dMO_extent_33 rfl (by omega) (by decide) ?_
            refine sd_goto 4 dMO_extent_36 (by decide) ?_
            refine sd_locp (al' := [(0, .int (nI (t))), (1, .int (nI (last))), (2, .int (nI (e + 1 - 1))), (3, .int (nI (x + 2 - 1 - 1)))]) [2, 3, 1, 0] rfl ?_
            exact ih _ _ (by omega) (by omega) (by omega)
          ·
            rw [ty_ex, if_pos (by exact c21)]
            refine nn_iinc 1 dMO_extent_24 rfl (by decide) ?_
            refine sd_goto 4 dMO_extent_27 (by decide) ?_
            refine sd_locp (al' := [(0, .int (nI (t))), (1, .int (nI (last))), (2, .int (nI (e + 1 + 1))), (3, .int (nI (x + 2 - 1)))]) [2, 3, 0, 1] rfl ?_
            exact ih _ _ (by omega) (by omega) (by omega)
theorem c_MO_extent {G : sd_G} {h : sd_H} {nx t last : Nat} (ht : t < 2 ^ 31) (hl : last < 32) : sd_Ct G mMO_extent 0 0 0 [.int (nI t), .int (nI last)] h nx (sd_is (some (.int (ty_xt last (ty_ex t last 1)))) h nx) := by
  refine sd_Ct_of (by decide) (Nat.le_of_ble_eq_true rfl) ?_
  refine sd_iconst (v := nI 1) dMO_extent_0 (by decide) ?_
  refine sd_istore_n dMO_extent_1 rfl (by decide) ?_
  refine sd_iload_n dMO_extent_2 rfl rfl ?_
  refine sd_istore_n dMO_extent_3 rfl (by decide) ?_
  refine sd_locp (al' := [(0, .int (nI (t))), (1, .int (nI (last))), (2, .int (nI (1))), (3, .int (nI (last)))]) [2, 3, 1, 0] rfl ?_
  exact l_MO_extent ht hl last last 1 (by omega) (by omega) (by omega)
theorem dMO_isType_0 : decode prog_13_method_6_code 0 = .ok (.iload_n 0, 1) := by decide +kernel
theorem dMO_isType_1 : decode prog_13_method_6_code 1 = .ok (.iconst 4, 1) := by decide +kernel
theorem dMO_isType_2 : decode prog_13_method_6_code 2 = .ok (.ldc 101, 2) := by decide +kernel
theorem dMO_isType_4 : decode prog_13_method_6_code 4 = .ok (.invokestatic 102, 3) := by decide +kernel
theorem dMO_isType_7 : decode prog_13_method_6_code 7 = .ok (.ifCond .eq (22), 3) := by decide +kernel
theorem dMO_isType_10 : decode prog_13_method_6_code 10 = .ok (.iload_n 0, 1) := by decide +kernel
theorem dMO_isType_11 : decode prog_13_method_6_code 11 = .ok (.iload_n 0, 1) := by decide +kernel
theorem dMO_isType_12 : decode prog_13_method_6_code 12 = .ok (.invokestatic 97, 3) := by decide +kernel
theorem dMO_isType_15 : decode prog_13_method_6_code 15 = .ok (.invokestatic 106, 3) := by decide +kernel
theorem dMO_isType_18 : decode prog_13_method_6_code 18 = .ok (.iload_n 0, 1) := by decide +kernel
theorem dMO_isType_19 : decode prog_13_method_6_code 19 = .ok (.invokestatic 97, 3) := by decide +kernel
theorem dMO_isType_22 : decode prog_13_method_6_code 22 = .ok (.if_icmp .ne (7), 3) := by decide +kernel
theorem dMO_isType_25 : decode prog_13_method_6_code 25 = .ok (.iconst 1, 1) := by decide +kernel
theorem dMO_isType_26 : decode prog_13_method_6_code 26 = .ok (.goto (4), 3) := by decide +kernel
theorem dMO_isType_29 : decode prog_13_method_6_code 29 = .ok (.iconst 0, 1) := by decide +kernel
theorem dMO_isType_30 : decode prog_13_method_6_code 30 = .ok (.ireturn, 1) := by decide +kernel
theorem c_MO_isType {G : sd_G} {h : sd_H} {nx : Nat} {x : Int32} {b : Nat} (hb2 : b < 2) (hb : b = 1 ↔ ty_is x) : sd_Ct G mMO_isType 1 0 0 [.int x] h nx (sd_is (some (.int (nI b))) h nx) := by
  refine sd_Ct_of (by decide) (Nat.le_of_ble_eq_true rfl) ?_
  by_cases hx : ¬ x < nI 4 ∧ ¬ nI 33554431 < x
  · obtain ⟨t, ht, rfl⟩ := nI_of (x := x) (fun q => hx.1 (Int32.lt_trans q (by decide)))
    have h4 : 4 ≤ t := Nat.not_lt.mp (fun q => hx.1 ((nI_ltI ht (by omega)).mpr q))
    have h25 : t < 2 ^ 25 := by
      have := Nat.not_lt.mp (fun q => hx.2 ((nI_ltI (by omega) ht).mpr q))
      omega
    have hlg := tp_lg h25 (by omega)
    have key : ty_is (nI t) ↔ ty_ex t (Nat.log2 t) 1 = some 0 := by
      constructor
      · rintro ⟨t2, e, h1, h2, h3⟩
        obtain rfl := (nI_eq ht (by omega)).mp e
        exact h3
      · intro h2
        exact ⟨t, rfl, h25, h4, h2⟩
    have key2 : ty_xt (Nat.log2 t) (ty_ex t (Nat.log2 t) 1) = nI (Nat.log2 t) ↔ ty_ex t (Nat.log2 t) 1 = some 0 := by
      have h2 : 2 ≤ Nat.log2 t := (Nat.le_log2 (by omega)).mpr (by omega)
      cases hx : ty_ex t (Nat.log2 t) 1 with
      | none =>
        simp only [ty_xt]
        constructor
        · intro q
          have := nI_pos (n := Nat.log2 t) (by omega)
          rw [← q] at this
          exact absurd (by decide) this
        · intro q; cases q
      | some r =>
        have := ty_ex_le _ _ _ _ (Nat.le_refl _) hx
        simp only [ty_xt]
        rw [nI_eq (by omega) (by omega), Option.some.injEq]
        omega
    rw [key, ← key2] at hb
    refine sd_iload_n dMO_isType_0 rfl rfl ?_
    refine sd_iconst (v := nI 4) dMO_isType_1 (by decide) ?_
    refine sd_ldc (v := nI 33554431) dMO_isType_2 (sd_memT (sd_in4 (List.mem_of_getElem? (i := 201) rfl)) rfl) ?_
    refine sd_cS [.int (nI (t)), .int (nI (4)), .int (nI (33554431))] [] dMO_isType_4 kMO_102 mMO_in_s (c_MO_in (b := 1) (by omega) (by simp only [true_iff]; exact hx)) (by decide) (Nat.le_refl _) (Nat.le_refl _) (Nat.le_of_ble_eq_true rfl) rfl ?_
    refine nn_if_eq 29 dMO_isType_7 (by decide) (by decide) (fun c => absurd c (by decide)) (fun _ => ?_)
    refine sd_iload_n dMO_isType_10 rfl rfl ?_
    refine sd_iload_n dMO_isType_11 rfl rfl ?_
    refine sd_cS [.int (nI (t))] [.int (nI (t))] dMO_isType_12 kMO_97 mMO_size_s (c_MO_size (by omega) ht) (by decide) (Nat.le_refl _) (Nat.le_refl _) (Nat.le_of_ble_eq_true rfl) rfl ?_
    refine sd_cS [.int (nI (t)), .int (nI (Nat.log2 t))] [] dMO_isType_15 kMO_106 mMO_extent_s (c_MO_extent ht (by omega)) (by decide) (Nat.le_refl _) (Nat.le_refl _) (Nat.le_of_ble_eq_true rfl) rfl ?_
    refine sd_iload_n dMO_isType_18 rfl rfl ?_
    refine sd_cS [.int (nI (t))] [.int (ty_xt (Nat.log2 t) (ty_ex t (Nat.log2 t) 1))] dMO_isType_19 kMO_97 mMO_size_s (c_MO_size (by omega) ht) (by decide) (Nat.le_refl _) (Nat.le_refl _) (Nat.le_of_ble_eq_true rfl) rfl ?_
    refine sd_icmp_ne 29 dMO_isType_22 (by decide) (fun c22 => ?_) (fun c22 => ?_)
    ·
      obtain rfl : b = 0 := by have : ¬ b = 1 := fun q => c22 (hb.mp q); omega
      refine sd_iconst (v := nI 0) dMO_isType_29 (by decide) ?_
      exact sd_zret dMO_isType_30 rfl (by first | exact Or.inl rfl | exact Or.inr rfl) (Nat.le_refl _) (Nat.le_refl _) ⟨rfl, rfl, rfl⟩
    ·
      obtain rfl : b = 1 := hb.mpr c22
      refine sd_iconst (v := nI 1) dMO_isType_25 (by decide) ?_
      refine sd_goto 30 dMO_isType_26 (by decide) ?_
      exact sd_zret dMO_isType_30 rfl (by first | exact Or.inl rfl | exact Or.inr rfl) (Nat.le_refl _) (Nat.le_refl _) ⟨rfl, rfl, rfl⟩
  · have hn : ¬ ty_is x := by
      rintro ⟨t, rfl, h1, h2, -⟩
      exact hx ⟨nI_nlt (b := 4) h2 (by omega), nI_nlt (b := t) (a := 33554431) (by omega) (by omega)⟩
    have hb1 : ¬ b = 1 := fun e => hn (hb.mp e)
    obtain rfl : b = 0 := by omega
    refine sd_iload_n dMO_isType_0 rfl rfl ?_
    refine sd_iconst (v := nI 4) dMO_isType_1 (by decide) ?_
    refine sd_ldc (v := nI 33554431) dMO_isType_2 (sd_memT (sd_in4 (List.mem_of_getElem? (i := 201) rfl)) rfl) ?_
    refine sd_cS [.int (x), .int (nI (4)), .int (nI (33554431))] [] dMO_isType_4 kMO_102 mMO_in_s (c_MO_in (b := 0) (by omega) (by constructor; intro q; cases q; intro q; exact absurd q hx)) (by decide) (Nat.le_refl _) (Nat.le_refl _) (Nat.le_of_ble_eq_true rfl) rfl ?_
    refine nn_if_eq 29 dMO_isType_7 (by decide) (by decide) (fun _ => ?_) (fun c => absurd c (by decide))
    refine sd_iconst (v := nI 0) dMO_isType_29 (by decide) ?_
    exact sd_zret dMO_isType_30 rfl (Or.inl rfl) (Nat.le_refl _) (Nat.le_refl _) ⟨rfl, rfl, rfl⟩
theorem dMO_isFunction_0 : decode prog_13_method_7_code 0 = .ok (.iload_n 0, 1) := by decide +kernel
theorem dMO_isFunction_1 : decode prog_13_method_7_code 1 = .ok (.iload_n 0, 1) := by decide +kernel
theorem dMO_isFunction_2 : decode prog_13_method_7_code 2 = .ok (.invokestatic 97, 3) := by decide +kernel
theorem dMO_isFunction_5 : decode prog_13_method_7_code 5 = .ok (.iconst 1, 1) := by decide +kernel
theorem dMO_isFunction_6 : decode prog_13_method_7_code 6 = .ok (.isub, 1) := by decide +kernel
theorem dMO_isFunction_7 : decode prog_13_method_7_code 7 = .ok (.ishr, 1) := by decide +kernel
theorem dMO_isFunction_8 : decode prog_13_method_7_code 8 = .ok (.iconst 1, 1) := by decide +kernel
theorem dMO_isFunction_9 : decode prog_13_method_7_code 9 = .ok (.iand, 1) := by decide +kernel
theorem dMO_isFunction_10 : decode prog_13_method_7_code 10 = .ok (.iconst 1, 1) := by decide +kernel
theorem dMO_isFunction_11 : decode prog_13_method_7_code 11 = .ok (.if_icmp .ne (7), 3) := by decide +kernel
theorem dMO_isFunction_14 : decode prog_13_method_7_code 14 = .ok (.iconst 1, 1) := by decide +kernel
theorem dMO_isFunction_15 : decode prog_13_method_7_code 15 = .ok (.goto (4), 3) := by decide +kernel
theorem dMO_isFunction_18 : decode prog_13_method_7_code 18 = .ok (.iconst 0, 1) := by decide +kernel
theorem dMO_isFunction_19 : decode prog_13_method_7_code 19 = .ok (.ireturn, 1) := by decide +kernel
theorem c_MO_isFunction {G : sd_G} {h : sd_H} {nx t b : Nat} (h4 : 4 ≤ t) (ht : t < 2 ^ 31) (hb2 : b < 2) (hb : b = 1 ↔ t / 2 ^ (Nat.log2 t - 1) % 2 = 1) : sd_Ct G mMO_isFunction 1 0 0 [.int (nI t)] h nx (sd_is (some (.int (nI b))) h nx) := by
  refine sd_Ct_of (by decide) (Nat.le_of_ble_eq_true rfl) ?_
  have hlg := tp_lg ht (by omega)
  have h2 : 2 ≤ Nat.log2 t := (Nat.le_log2 (by omega)).mpr (by omega)
  refine sd_iload_n dMO_isFunction_0 rfl rfl ?_
  refine sd_iload_n dMO_isFunction_1 rfl rfl ?_
  refine sd_cS [.int (nI (t))] [.int (nI (t))] dMO_isFunction_2 kMO_97 mMO_size_s (c_MO_size (by omega) ht) (by decide) (Nat.le_refl _) (Nat.le_refl _) (Nat.le_of_ble_eq_true rfl) rfl ?_
  refine sd_iconst (v := nI 1) dMO_isFunction_5 (by decide) ?_
  refine nn_isub dMO_isFunction_6 (by omega) ?_
  refine nn_ishr dMO_isFunction_7 (by omega) (by omega) ?_
  refine sd_iconst (v := nI 1) dMO_isFunction_8 (by decide) ?_
  refine nn_iand1 dMO_isFunction_9 (tp_div ht) ?_
  refine sd_iconst (v := nI 1) dMO_isFunction_10 (by decide) ?_
  refine nn_icmp_ne 18 dMO_isFunction_11 (by decide) (by omega) (by omega) (fun c11 => ?_) (fun c11 => ?_)
  ·
    refine sd_iconst (v := nI 0) dMO_isFunction_18 (by decide) ?_
    exact sd_zret dMO_isFunction_19 rfl (by first | exact Or.inl rfl | exact Or.inr rfl) (Nat.le_refl _) (Nat.le_refl _) ⟨by first | rw [show b = 1 by omega] | rw [show b = 0 by omega], rfl, rfl⟩
  ·
    refine sd_iconst (v := nI 1) dMO_isFunction_14 (by decide) ?_
    refine sd_goto 19 dMO_isFunction_15 (by decide) ?_
    exact sd_zret dMO_isFunction_19 rfl (by first | exact Or.inl rfl | exact Or.inr rfl) (Nat.le_refl _) (Nat.le_refl _) ⟨by first | rw [show b = 1 by omega] | rw [show b = 0 by omega], rfl, rfl⟩
theorem ty_xtr {t r : Nat} (hr : ty_ex t (Nat.log2 t - 1) 1 = some r) : ty_xt (Nat.log2 t - 1) (ty_ex t (Nat.log2 t - 1) 1) = nI (Nat.log2 t - 1 - ty_rem t) ∧ ty_rem t ≤ Nat.log2 t - 1 := by
  have := ty_ex_le _ _ _ _ (Nat.le_refl _) hr
  simp [ty_xt, ty_rem, hr, this]
theorem dMO_from_0 : decode prog_13_method_8_code 0 = .ok (.iload_n 0, 1) := by decide +kernel
theorem dMO_from_1 : decode prog_13_method_8_code 1 = .ok (.invokestatic 97, 3) := by decide +kernel
theorem dMO_from_4 : decode prog_13_method_8_code 4 = .ok (.iconst 1, 1) := by decide +kernel
theorem dMO_from_5 : decode prog_13_method_8_code 5 = .ok (.isub, 1) := by decide +kernel
theorem dMO_from_6 : decode prog_13_method_8_code 6 = .ok (.istore_n 1, 1) := by decide +kernel
theorem dMO_from_7 : decode prog_13_method_8_code 7 = .ok (.iload_n 0, 1) := by decide +kernel
theorem dMO_from_8 : decode prog_13_method_8_code 8 = .ok (.iload_n 1, 1) := by decide +kernel
theorem dMO_from_9 : decode prog_13_method_8_code 9 = .ok (.invokestatic 106, 3) := by decide +kernel
theorem dMO_from_12 : decode prog_13_method_8_code 12 = .ok (.istore_n 2, 1) := by decide +kernel
theorem dMO_from_13 : decode prog_13_method_8_code 13 = .ok (.iconst 1, 1) := by decide +kernel
theorem dMO_from_14 : decode prog_13_method_8_code 14 = .ok (.iload_n 2, 1) := by decide +kernel
theorem dMO_from_15 : decode prog_13_method_8_code 15 = .ok (.ishl, 1) := by decide +kernel
theorem dMO_from_16 : decode prog_13_method_8_code 16 = .ok (.iload_n 0, 1) := by decide +kernel
theorem dMO_from_17 : decode prog_13_method_8_code 17 = .ok (.iload_n 1, 1) := by decide +kernel
theorem dMO_from_18 : decode prog_13_method_8_code 18 = .ok (.iload_n 2, 1) := by decide +kernel
theorem dMO_from_19 : decode prog_13_method_8_code 19 = .ok (.isub, 1) := by decide +kernel
theorem dMO_from_20 : decode prog_13_method_8_code 20 = .ok (.ishr, 1) := by decide +kernel
theorem dMO_from_21 : decode prog_13_method_8_code 21 = .ok (.iconst 1, 1) := by decide +kernel
theorem dMO_from_22 : decode prog_13_method_8_code 22 = .ok (.iload_n 2, 1) := by decide +kernel
theorem dMO_from_23 : decode prog_13_method_8_code 23 = .ok (.ishl, 1) := by decide +kernel
theorem dMO_from_24 : decode prog_13_method_8_code 24 = .ok (.iconst 1, 1) := by decide +kernel
theorem dMO_from_25 : decode prog_13_method_8_code 25 = .ok (.isub, 1) := by decide +kernel
theorem dMO_from_26 : decode prog_13_method_8_code 26 = .ok (.iand, 1) := by decide +kernel
theorem dMO_from_27 : decode prog_13_method_8_code 27 = .ok (.ior, 1) := by decide +kernel
theorem dMO_from_28 : decode prog_13_method_8_code 28 = .ok (.ireturn, 1) := by decide +kernel
theorem c_MO_from {G : sd_G} {h : sd_H} {nx t r : Nat} (h4 : 4 ≤ t) (ht : t < 2 ^ 31) (hr : ty_ex t (Nat.log2 t - 1) 1 = some r) : sd_Ct G mMO_from 1 0 0 [.int (nI t)] h nx (sd_is (some (.int (nI (ty_from t)))) h nx) := by
  refine sd_Ct_of (by decide) (Nat.le_of_ble_eq_true rfl) ?_
  have hlg := tp_lg ht (by omega)
  have h2 : 2 ≤ Nat.log2 t := (Nat.le_log2 (by omega)).mpr (by omega)
  obtain ⟨e1, e2⟩ := ty_xtr hr
  have e3 : Nat.log2 t - 1 - (Nat.log2 t - 1 - ty_rem t) = ty_rem t := by omega
  have hc := c_MO_extent (G := G) (h := h) (nx := nx) (last := Nat.log2 t - 1) ht (by omega)
  rw [e1] at hc
  have h1 := Nat.two_pow_pos (Nat.log2 t - 1 - ty_rem t)
  refine sd_iload_n dMO_from_0 rfl rfl ?_
  refine sd_cS [.int (nI (t))] [] dMO_from_1 kMO_97 mMO_size_s (c_MO_size (by omega) ht) (by decide) (Nat.le_refl _) (Nat.le_refl _) (Nat.le_of_ble_eq_true rfl) rfl ?_
  refine sd_iconst (v := nI 1) dMO_from_4 (by decide) ?_
  refine nn_isub dMO_from_5 (by omega) ?_
  refine sd_istore_n dMO_from_6 rfl (by decide) ?_
  refine sd_iload_n dMO_from_7 rfl rfl ?_
  refine sd_iload_n dMO_from_8 rfl rfl ?_
  refine sd_cS [.int (nI (t)), .int (nI ((Nat.log2 t) - 1))] [] dMO_from_9 kMO_106 mMO_extent_s (hc) (by decide) (Nat.le_refl _) (Nat.le_refl _) (Nat.le_of_ble_eq_true rfl) rfl ?_
  refine sd_istore_n dMO_from_12 rfl (by decide) ?_
  refine sd_iconst (v := nI 1) dMO_from_13 (by decide) ?_
  refine sd_iload_n dMO_from_14 rfl rfl ?_
  refine nn_ishl dMO_from_15 (by omega) (tp_sh (by omega)) ?_
  refine sd_iload_n dMO_from_16 rfl rfl ?_
  refine sd_iload_n dMO_from_17 rfl rfl ?_
  refine sd_iload_n dMO_from_18 rfl rfl ?_
  refine nn_isub dMO_from_19 (by omega) ?_
  refine nn_ishr dMO_from_20 (by omega) (by omega) ?_
  refine sd_iconst (v := nI 1) dMO_from_21 (by decide) ?_
  refine sd_iload_n dMO_from_22 rfl rfl ?_
  refine nn_ishl dMO_from_23 (by omega) (tp_sh (by omega)) ?_
  refine sd_iconst (v := nI 1) dMO_from_24 (by decide) ?_
  refine nn_isub dMO_from_25 (by omega) ?_
  refine sd_iand dMO_from_26 ?_
  rw [show ((nI (t / 2 ^ (((Nat.log2 t) - 1) - (Nat.log2 t - 1 - ty_rem t)))) &&& (nI ((1 * 2 ^ (Nat.log2 t - 1 - ty_rem t)) - 1))) = (nI (t / 2 ^ ty_rem t % 2 ^ (Nat.log2 t - 1 - ty_rem t))) from by rw [e3]; exact tp_mask (tp_div ht) (by omega)]
  refine sd_ior dMO_from_27 ?_
  rw [show ((nI (1 * 2 ^ (Nat.log2 t - 1 - ty_rem t))) ||| (nI (t / 2 ^ ty_rem t % 2 ^ (Nat.log2 t - 1 - ty_rem t)))) = (nI (ty_from t)) from tp_or1 (Nat.mod_lt _ h1)]
  exact sd_iret dMO_from_28 rfl (Nat.le_refl _) (Nat.le_refl _) ⟨rfl, rfl, rfl⟩
theorem dMO_to_0 : decode prog_13_method_9_code 0 = .ok (.iload_n 0, 1) := by decide +kernel
theorem dMO_to_1 : decode prog_13_method_9_code 1 = .ok (.invokestatic 97, 3) := by decide +kernel
theorem dMO_to_4 : decode prog_13_method_9_code 4 = .ok (.iconst 1, 1) := by decide +kernel
theorem dMO_to_5 : decode prog_13_method_9_code 5 = .ok (.isub, 1) := by decide +kernel
theorem dMO_to_6 : decode prog_13_method_9_code 6 = .ok (.istore_n 1, 1) := by decide +kernel
theorem dMO_to_7 : decode prog_13_method_9_code 7 = .ok (.iload_n 1, 1) := by decide +kernel
theorem dMO_to_8 : decode prog_13_method_9_code 8 = .ok (.iload_n 0, 1) := by decide +kernel
theorem dMO_to_9 : decode prog_13_method_9_code 9 = .ok (.iload_n 1, 1) := by decide +kernel
theorem dMO_to_10 : decode prog_13_method_9_code 10 = .ok (.invokestatic 106, 3) := by decide +kernel
theorem dMO_to_13 : decode prog_13_method_9_code 13 = .ok (.isub, 1) := by decide +kernel
theorem dMO_to_14 : decode prog_13_method_9_code 14 = .ok (.istore_n 2, 1) := by decide +kernel
theorem dMO_to_15 : decode prog_13_method_9_code 15 = .ok (.iconst 1, 1) := by decide +kernel
theorem dMO_to_16 : decode prog_13_method_9_code 16 = .ok (.iload_n 2, 1) := by decide +kernel
theorem dMO_to_17 : decode prog_13_method_9_code 17 = .ok (.ishl, 1) := by decide +kernel
theorem dMO_to_18 : decode prog_13_method_9_code 18 = .ok (.iload_n 0, 1) := by decide +kernel
theorem dMO_to_19 : decode prog_13_method_9_code 19 = .ok (.iconst 1, 1) := by decide +kernel
theorem dMO_to_20 : decode prog_13_method_9_code 20 = .ok (.iload_n 2, 1) := by decide +kernel
theorem dMO_to_21 : decode prog_13_method_9_code 21 = .ok (.ishl, 1) := by decide +kernel
theorem dMO_to_22 : decode prog_13_method_9_code 22 = .ok (.iconst 1, 1) := by decide +kernel
theorem dMO_to_23 : decode prog_13_method_9_code 23 = .ok (.isub, 1) := by decide +kernel
theorem dMO_to_24 : decode prog_13_method_9_code 24 = .ok (.iand, 1) := by decide +kernel
theorem dMO_to_25 : decode prog_13_method_9_code 25 = .ok (.ior, 1) := by decide +kernel
theorem dMO_to_26 : decode prog_13_method_9_code 26 = .ok (.ireturn, 1) := by decide +kernel
theorem c_MO_to {G : sd_G} {h : sd_H} {nx t r : Nat} (h4 : 4 ≤ t) (ht : t < 2 ^ 31) (hr : ty_ex t (Nat.log2 t - 1) 1 = some r) : sd_Ct G mMO_to 1 0 0 [.int (nI t)] h nx (sd_is (some (.int (nI (ty_to t)))) h nx) := by
  refine sd_Ct_of (by decide) (Nat.le_of_ble_eq_true rfl) ?_
  have hlg := tp_lg ht (by omega)
  have h2 : 2 ≤ Nat.log2 t := (Nat.le_log2 (by omega)).mpr (by omega)
  obtain ⟨e1, e2⟩ := ty_xtr hr
  have e3 : Nat.log2 t - 1 - (Nat.log2 t - 1 - ty_rem t) = ty_rem t := by omega
  have hc := c_MO_extent (G := G) (h := h) (nx := nx) (last := Nat.log2 t - 1) ht (by omega)
  rw [e1] at hc
  have h1 := Nat.two_pow_pos (ty_rem t)
  refine sd_iload_n dMO_to_0 rfl rfl ?_
  refine sd_cS [.int (nI (t))] [] dMO_to_1 kMO_97 mMO_size_s (c_MO_size (by omega) ht) (by decide) (Nat.le_refl _) (Nat.le_refl _) (Nat.le_of_ble_eq_true rfl) rfl ?_
  refine sd_iconst (v := nI 1) dMO_to_4 (by decide) ?_
  refine nn_isub dMO_to_5 (by omega) ?_
  refine sd_istore_n dMO_to_6 rfl (by decide) ?_
  refine sd_iload_n dMO_to_7 rfl rfl ?_
  refine sd_iload_n dMO_to_8 rfl rfl ?_
  refine sd_iload_n dMO_to_9 rfl rfl ?_
  refine sd_cS [.int (nI (t)), .int (nI ((Nat.log2 t) - 1))] [.int (nI ((Nat.log2 t) - 1))] dMO_to_10 kMO_106 mMO_extent_s (hc) (by decide) (Nat.le_refl _) (Nat.le_refl _) (Nat.le_of_ble_eq_true rfl) rfl ?_
  refine nn_isub dMO_to_13 (by omega) ?_
  rw [e3]
  refine sd_istore_n dMO_to_14 rfl (by decide) ?_
  refine sd_iconst (v := nI 1) dMO_to_15 (by decide) ?_
  refine sd_iload_n dMO_to_16 rfl rfl ?_
  refine nn_ishl dMO_to_17 (by omega) (tp_sh (by omega)) ?_
  refine sd_iload_n dMO_to_18 rfl rfl ?_
  refine sd_iconst (v := nI 1) dMO_to_19 (by decide) ?_
  refine sd_iload_n dMO_to_20 rfl rfl ?_
  refine nn_ishl dMO_to_21 (by omega) (tp_sh (by omega)) ?_
  refine sd_iconst (v := nI 1) dMO_to_22 (by decide) ?_
  refine nn_isub dMO_to_23 (by omega) ?_
  refine sd_iand dMO_to_24 ?_
  rw [show ((nI (t)) &&& (nI ((1 * 2 ^ (ty_rem t)) - 1))) = (nI (t % 2 ^ ty_rem t)) from tp_mask ht (by omega)]
  refine sd_ior dMO_to_25 ?_
  rw [show ((nI (1 * 2 ^ (ty_rem t))) ||| (nI (t % 2 ^ ty_rem t))) = (nI (ty_to t)) from tp_or1 (Nat.mod_lt _ h1)]
  exact sd_iret dMO_to_26 rfl (Nat.le_refl _) (Nat.le_refl _) ⟨rfl, rfl, rfl⟩
theorem tp_top {a : Nat} (h0 : a ≠ 0) : a % 2 ^ Nat.log2 a + 2 ^ Nat.log2 a = a := by
  have h1 := Nat.log2_self_le h0
  have h2 := tp_lt a
  rw [Nat.pow_succ] at h2
  have h3 : a / 2 ^ Nat.log2 a = 1 := Nat.div_eq_of_lt_le (by omega) (by omega)
  have h4 := Nat.mod_add_div a (2 ^ Nat.log2 a)
  rw [h3, Nat.mul_one] at h4
  exact h4
theorem dMO_join_0 : decode prog_13_method_4_code 0 = .ok (.iload_n 0, 1) := by decide +kernel
theorem dMO_join_1 : decode prog_13_method_4_code 1 = .ok (.invokestatic 97, 3) := by decide +kernel
theorem dMO_join_4 : decode prog_13_method_4_code 4 = .ok (.istore_n 2, 1) := by decide +kernel
theorem dMO_join_5 : decode prog_13_method_4_code 5 = .ok (.iload_n 1, 1) := by decide +kernel
theorem dMO_join_6 : decode prog_13_method_4_code 6 = .ok (.invokestatic 97, 3) := by decide +kernel
theorem dMO_join_9 : decode prog_13_method_4_code 9 = .ok (.istore_n 3, 1) := by decide +kernel
theorem dMO_join_10 : decode prog_13_method_4_code 10 = .ok (.iload_n 2, 1) := by decide +kernel
theorem dMO_join_11 : decode prog_13_method_4_code 11 = .ok (.iload_n 3, 1) := by decide +kernel
theorem dMO_join_12 : decode prog_13_method_4_code 12 = .ok (.iadd, 1) := by decide +kernel
theorem dMO_join_13 : decode prog_13_method_4_code 13 = .ok (.bipush (23), 2) := by decide +kernel
theorem dMO_join_15 : decode prog_13_method_4_code 15 = .ok (.if_icmp .le (7), 3) := by decide +kernel
theorem dMO_join_18 : decode prog_13_method_4_code 18 = .ok (.iconst 0, 1) := by decide +kernel
theorem dMO_join_19 : decode prog_13_method_4_code 19 = .ok (.goto (24), 3) := by decide +kernel
theorem dMO_join_22 : decode prog_13_method_4_code 22 = .ok (.iconst 3, 1) := by decide +kernel
theorem dMO_join_23 : decode prog_13_method_4_code 23 = .ok (.iload_n 2, 1) := by decide +kernel
theorem dMO_join_24 : decode prog_13_method_4_code 24 = .ok (.ishl, 1) := by decide +kernel
theorem dMO_join_25 : decode prog_13_method_4_code 25 = .ok (.iload_n 0, 1) := by decide +kernel
theorem dMO_join_26 : decode prog_13_method_4_code 26 = .ok (.iconst 1, 1) := by decide +kernel
theorem dMO_join_27 : decode prog_13_method_4_code 27 = .ok (.iload_n 2, 1) := by decide +kernel
theorem dMO_join_28 : decode prog_13_method_4_code 28 = .ok (.ishl, 1) := by decide +kernel
theorem dMO_join_29 : decode prog_13_method_4_code 29 = .ok (.iconst 1, 1) := by decide +kernel
theorem dMO_join_30 : decode prog_13_method_4_code 30 = .ok (.isub, 1) := by decide +kernel
theorem dMO_join_31 : decode prog_13_method_4_code 31 = .ok (.iand, 1) := by decide +kernel
theorem dMO_join_32 : decode prog_13_method_4_code 32 = .ok (.ior, 1) := by decide +kernel
theorem dMO_join_33 : decode prog_13_method_4_code 33 = .ok (.iload_n 3, 1) := by decide +kernel
theorem dMO_join_34 : decode prog_13_method_4_code 34 = .ok (.ishl, 1) := by decide +kernel
theorem dMO_join_35 : decode prog_13_method_4_code 35 = .ok (.iload_n 1, 1) := by decide +kernel
theorem dMO_join_36 : decode prog_13_method_4_code 36 = .ok (.iconst 1, 1) := by decide +kernel
theorem dMO_join_37 : decode prog_13_method_4_code 37 = .ok (.iload_n 3, 1) := by decide +kernel
theorem dMO_join_38 : decode prog_13_method_4_code 38 = .ok (.ishl, 1) := by decide +kernel
theorem dMO_join_39 : decode prog_13_method_4_code 39 = .ok (.iconst 1, 1) := by decide +kernel
theorem dMO_join_40 : decode prog_13_method_4_code 40 = .ok (.isub, 1) := by decide +kernel
theorem dMO_join_41 : decode prog_13_method_4_code 41 = .ok (.iand, 1) := by decide +kernel
theorem dMO_join_42 : decode prog_13_method_4_code 42 = .ok (.ior, 1) := by decide +kernel
theorem dMO_join_43 : decode prog_13_method_4_code 43 = .ok (.ireturn, 1) := by decide +kernel
theorem c_MO_join {G : sd_G} {h : sd_H} {nx a b : Nat} (ha0 : a ≠ 0) (hb0 : b ≠ 0) (ha : a < 2 ^ 25) (hb : b < 2 ^ 25) : sd_Ct G mMO_join 1 0 0 [.int (nI a), .int (nI b)] h nx (sd_is (some (.int (nI (if Nat.log2 a + Nat.log2 b ≤ 23 then ty_jn a b else 0)))) h nx) := by
  refine sd_Ct_of (by decide) (Nat.le_of_ble_eq_true rfl) ?_
  have hla := tp_lg ha ha0
  have hlb := tp_lg hb hb0
  have ta := tp_lt a
  have top := tp_top ha0
  have hm := tp_am (t := Nat.log2 b) ta
  have p1 := Nat.two_pow_pos (Nat.log2 a)
  have p2 := Nat.two_pow_pos (Nat.log2 b)
  have e1 : 3 * 2 ^ Nat.log2 a + a % 2 ^ Nat.log2 a = 2 ^ (Nat.log2 a + 1) + a := by rw [Nat.pow_succ]; omega
  refine sd_iload_n dMO_join_0 rfl rfl ?_
  refine sd_cS [.int (nI (a))] [] dMO_join_1 kMO_97 mMO_size_s (c_MO_size ha0 (by omega)) (by decide) (Nat.le_refl _) (Nat.le_refl _) (Nat.le_of_ble_eq_true rfl) rfl ?_
  refine sd_istore_n dMO_join_4 rfl (by decide) ?_
  refine sd_iload_n dMO_join_5 rfl rfl ?_
  refine sd_cS [.int (nI (b))] [] dMO_join_6 kMO_97 mMO_size_s (c_MO_size hb0 (by omega)) (by decide) (Nat.le_refl _) (Nat.le_refl _) (Nat.le_of_ble_eq_true rfl) rfl ?_
  refine sd_istore_n dMO_join_9 rfl (by decide) ?_
  refine sd_iload_n dMO_join_10 rfl rfl ?_
  refine sd_iload_n dMO_join_11 rfl rfl ?_
  refine nn_iadd dMO_join_12 ?_
  refine sd_bipush (v := nI 23) dMO_join_13 (by decide) ?_
  refine nn_icmp_le 22 dMO_join_15 (by decide) (by omega) (by omega) (fun c15 => ?_) (fun c15 => ?_)
  ·
    have q2 := tp_31 (k := Nat.log2 a + 2) (by omega)
    rw [Nat.pow_succ, Nat.pow_succ] at q2
    have q3 := tp_31 (k := Nat.log2 a + 1 + Nat.log2 b + 1) (by omega)
    have q4 : (2 ^ (Nat.log2 a + 1) + a) * 2 ^ Nat.log2 b < 2 ^ (Nat.log2 a + 1 + Nat.log2 b + 1) := tp_am (by rw [Nat.pow_succ _ (Nat.log2 a + 1)]; omega)
    refine sd_iconst (v := nI 3) dMO_join_22 (by decide) ?_
    refine sd_iload_n dMO_join_23 rfl rfl ?_
    refine nn_ishl dMO_join_24 (by omega) (by omega) ?_
    refine sd_iload_n dMO_join_25 rfl rfl ?_
    refine sd_iconst (v := nI 1) dMO_join_26 (by decide) ?_
    refine sd_iload_n dMO_join_27 rfl rfl ?_
    refine nn_ishl dMO_join_28 (by omega) (tp_sh (by omega)) ?_
    refine sd_iconst (v := nI 1) dMO_join_29 (by decide) ?_
    refine nn_isub dMO_join_30 (by omega) ?_
    refine sd_iand dMO_join_31 ?_
    rw [show ((nI (a)) &&& (nI ((1 * 2 ^ (Nat.log2 a)) - 1))) = (nI (a % 2 ^ Nat.log2 a)) from tp_mask (by omega) (by omega)]
    refine sd_ior dMO_join_32 ?_
    rw [show ((nI (3 * 2 ^ (Nat.log2 a))) ||| (nI (a % 2 ^ Nat.log2 a))) = (nI (2 ^ (Nat.log2 a + 1) + a)) from by rw [nn_or (Nat.mod_lt _ p1), e1]]
    refine sd_iload_n dMO_join_33 rfl rfl ?_
    refine nn_ishl dMO_join_34 (by omega) (by omega) ?_
    refine sd_iload_n dMO_join_35 rfl rfl ?_
    refine sd_iconst (v := nI 1) dMO_join_36 (by decide) ?_
    refine sd_iload_n dMO_join_37 rfl rfl ?_
    refine nn_ishl dMO_join_38 (by omega) (tp_sh (by omega)) ?_
    refine sd_iconst (v := nI 1) dMO_join_39 (by decide) ?_
    refine nn_isub dMO_join_40 (by omega) ?_
    refine sd_iand dMO_join_41 ?_
    rw [show ((nI (b)) &&& (nI ((1 * 2 ^ (Nat.log2 b)) - 1))) = (nI (b % 2 ^ Nat.log2 b)) from tp_mask (by omega) (by omega)]
    refine sd_ior dMO_join_42 ?_
    rw [show ((nI ((2 ^ (Nat.log2 a + 1) + a) * 2 ^ (Nat.log2 b))) ||| (nI (b % 2 ^ Nat.log2 b))) = (nI (ty_jn a b)) from nn_or (Nat.mod_lt _ p2)]
    exact sd_iret dMO_join_43 rfl (Nat.le_refl _) (Nat.le_refl _) ⟨by first | rw [if_pos (by omega)] | rw [if_neg (by omega)], rfl, rfl⟩
  ·
    refine sd_iconst (v := nI 0) dMO_join_18 (by decide) ?_
    refine sd_goto 43 dMO_join_19 (by decide) ?_
    exact sd_iret dMO_join_43 rfl (Nat.le_refl _) (Nat.le_refl _) ⟨by first | rw [if_pos (by omega)] | rw [if_neg (by omega)], rfl, rfl⟩
