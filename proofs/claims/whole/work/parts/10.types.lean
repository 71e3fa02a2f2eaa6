/-! ===== SequentDesk.Types: digits, taken, isType, isFunction, from, to, join ===== -/
theorem tp_gt {t i : Nat} (h : t ≠ 0) : 1 < t / 2 ^ i ↔ i < Nat.log2 t := by
  rw [show (1 < t / 2 ^ i) = (2 ≤ t / 2 ^ i) from rfl, Nat.le_div_iff_mul_le (Nat.two_pow_pos i), ← Nat.succ_le_iff, Nat.le_log2 h, Nat.succ_eq_add_one, Nat.pow_succ, Nat.mul_comm]
theorem tp_lg {t k : Nat} (ht : t < 2 ^ k) (h : t ≠ 0) : Nat.log2 t < k := (Nat.log2_lt h).mpr ht
theorem tp_div {t i : Nat} (ht : t < 2 ^ 31) : t / 2 ^ i < 2 ^ 31 := Nat.lt_of_le_of_lt (Nat.div_le_self _ _) ht
/-- how many digits are left behind 'due' types that are read from digit h - 1 of t on -/
def ty_ex (t : Nat) : Nat → Nat → Option Nat
  | h, 0 => some h
  | 0, _ + 1 => none
  | 1, _ + 1 => none
  | h + 2, e + 1 => if t / 2 ^ (h + 1) % 2 = 1 then ty_ex t (h + 1) (e + 2) else ty_ex t h e
theorem ty_ex_le {t : Nat} : ∀ (n h e r : Nat), h ≤ n → ty_ex t h e = some r → r ≤ h := by
  intro n
  induction n with
  | zero =>
    intro h e r hh he
    obtain rfl : h = 0 := by omega
    cases e with
    | zero => simp [ty_ex] at he; omega
    | succ e => simp [ty_ex] at he
  | succ n ih =>
    intro h e r hh he
    match h, e, he with
    | h, 0, he => simp [ty_ex] at he; omega
    | 0, e + 1, he => simp [ty_ex] at he
    | 1, e + 1, he => simp [ty_ex] at he
    | h + 2, e + 1, he =>
      rw [ty_ex] at he
      by_cases hb : t / 2 ^ (h + 1) % 2 = 1
      · rw [if_pos hb] at he
        have := ih _ _ _ (by omega) he
        omega
      · rw [if_neg hb] at he
        have := ih _ _ _ (by omega) he
        omega
/-- what taken answers -/
def ty_tk (last : Nat) (r : Option Nat) : Nat := match r with
  | some r => last - r
  | none => 0
theorem dTY_digits_0 : decode prog_11_method_3_code 0 = .ok (.iconst 0, 1) := by decide +kernel
theorem dTY_digits_1 : decode prog_11_method_3_code 1 = .ok (.istore_n 1, 1) := by decide +kernel
theorem dTY_digits_2 : decode prog_11_method_3_code 2 = .ok (.iload_n 1, 1) := by decide +kernel
theorem dTY_digits_3 : decode prog_11_method_3_code 3 = .ok (.bipush (31), 2) := by decide +kernel
theorem dTY_digits_5 : decode prog_11_method_3_code 5 = .ok (.if_icmp .ge (16), 3) := by decide +kernel
theorem dTY_digits_8 : decode prog_11_method_3_code 8 = .ok (.iload_n 0, 1) := by decide +kernel
theorem dTY_digits_9 : decode prog_11_method_3_code 9 = .ok (.iload_n 1, 1) := by decide +kernel
theorem dTY_digits_10 : decode prog_11_method_3_code 10 = .ok (.ishr, 1) := by decide +kernel
theorem dTY_digits_11 : decode prog_11_method_3_code 11 = .ok (.iconst 1, 1) := by decide +kernel
theorem dTY_digits_12 : decode prog_11_method_3_code 12 = .ok (.if_icmp .le (9), 3) := by decide +kernel
theorem dTY_digits_15 : decode prog_11_method_3_code 15 = .ok (.iinc 1 (1), 3) := by decide +kernel
theorem dTY_digits_18 : decode prog_11_method_3_code 18 = .ok (.goto (-16), 3) := by decide +kernel
theorem dTY_digits_21 : decode prog_11_method_3_code 21 = .ok (.iload_n 1, 1) := by decide +kernel
theorem dTY_digits_22 : decode prog_11_method_3_code 22 = .ok (.ireturn, 1) := by decide +kernel
theorem l_TY_digits {G : sd_G} {h : sd_H} {nx t : Nat} (h0 : t ≠ 0) (ht : t < 2 ^ 31) : ∀ (n i : Nat), i + n = Nat.log2 t → sd_W G mTY_digits 0 0 0 (sd_is (some (.int (nI (Nat.log2 t)))) h nx) 2 [(0, .int (nI t)), (1, .int (nI i))] [] h nx 0 0 := by
  have hl := tp_lg ht h0
  intro n
  induction n with
  | zero =>
    intro i hi
    refine sd_iload_n dTY_digits_2 rfl rfl ?_
    refine sd_bipush (v := nI 31) dTY_digits_3 (by decide) ?_
    refine nn_icmp_ge 21 dTY_digits_5 (by decide) (by omega) (by omega) (fun c5 => ?_) (fun c5 => ?_)
    ·
      exact absurd c5 (by omega)
    ·
      refine sd_iload_n dTY_digits_8 rfl rfl ?_
      refine sd_iload_n dTY_digits_9 rfl rfl ?_
      refine nn_ishr dTY_digits_10 (by omega) (by omega) ?_
      refine sd_iconst (v := nI 1) dTY_digits_11 (by decide) ?_
      refine nn_icmp_le 21 dTY_digits_12 (by decide) (tp_div ht) (by omega) (fun c12 => ?_) (fun c12 => ?_)
      ·
        refine sd_iload_n dTY_digits_21 rfl rfl ?_
        exact sd_iret dTY_digits_22 rfl (Nat.le_refl _) (Nat.le_refl _) ⟨by rw [show i = Nat.log2 t by omega], rfl, rfl⟩
      ·
        exact absurd ((tp_gt h0).mp c12) (by omega)
  | succ n ih =>
    intro i hi
    refine sd_iload_n dTY_digits_2 rfl rfl ?_
    refine sd_bipush (v := nI 31) dTY_digits_3 (by decide) ?_
    refine nn_icmp_ge 21 dTY_digits_5 (by decide) (by omega) (by omega) (fun c5 => ?_) (fun c5 => ?_)
    ·
      exact absurd c5 (by omega)
    ·
      refine sd_iload_n dTY_digits_8 rfl rfl ?_
      refine sd_iload_n dTY_digits_9 rfl rfl ?_
      refine nn_ishr dTY_digits_10 (by omega) (by omega) ?_
      refine sd_iconst (v := nI 1) dTY_digits_11 (by decide) ?_
      refine nn_icmp_le 21 dTY_digits_12 (by decide) (tp_div ht) (by omega) (fun c12 => ?_) (fun c12 => ?_)
      ·
        exact absurd ((tp_gt (i := i) h0).mpr (by omega)) (by omega)
      ·
        refine nn_iinc 1 dTY_digits_15 rfl (by decide) ?_
        refine sd_goto 2 dTY_digits_18 (by decide) ?_
        refine sd_locp (al' := [(0, .int (nI (t))), (1, .int (nI (i + 1)))]) [1, 0] rfl ?_
        exact ih (i + 1) (by omega)
theorem c_TY_digits {G : sd_G} {h : sd_H} {nx t : Nat} (h0 : t ≠ 0) (ht : t < 2 ^ 31) : sd_Ct G mTY_digits 0 0 0 [.int (nI t)] h nx (sd_is (some (.int (nI (Nat.log2 t)))) h nx) := by
  refine sd_Ct_of (by decide) (Nat.le_of_ble_eq_true rfl) ?_
  refine sd_iconst (v := nI 0) dTY_digits_0 (by decide) ?_
  refine sd_istore_n dTY_digits_1 rfl (by decide) ?_
  refine sd_locp (al' := [(0, .int (nI (t))), (1, .int (nI (0)))]) [1, 0] rfl ?_
  exact l_TY_digits h0 ht (Nat.log2 t) 0 (by omega)
theorem dTY_taken_0 : decode prog_11_method_4_code 0 = .ok (.iconst 1, 1) := by decide +kernel
theorem dTY_taken_1 : decode prog_11_method_4_code 1 = .ok (.istore_n 2, 1) := by decide +kernel
theorem dTY_taken_2 : decode prog_11_method_4_code 2 = .ok (.iconst 0, 1) := by decide +kernel
theorem dTY_taken_3 : decode prog_11_method_4_code 3 = .ok (.istore_n 3, 1) := by decide +kernel
theorem dTY_taken_4 : decode prog_11_method_4_code 4 = .ok (.iload_n 2, 1) := by decide +kernel
theorem dTY_taken_5 : decode prog_11_method_4_code 5 = .ok (.ifCond .le (57), 3) := by decide +kernel
theorem dTY_taken_8 : decode prog_11_method_4_code 8 = .ok (.iload_n 3, 1) := by decide +kernel
theorem dTY_taken_9 : decode prog_11_method_4_code 9 = .ok (.iload_n 1, 1) := by decide +kernel
theorem dTY_taken_10 : decode prog_11_method_4_code 10 = .ok (.if_icmp .ge (52), 3) := by decide +kernel
theorem dTY_taken_13 : decode prog_11_method_4_code 13 = .ok (.iload_n 0, 1) := by decide +kernel
theorem dTY_taken_14 : decode prog_11_method_4_code 14 = .ok (.iload_n 1, 1) := by decide +kernel
theorem dTY_taken_15 : decode prog_11_method_4_code 15 = .ok (.iconst 1, 1) := by decide +kernel
theorem dTY_taken_16 : decode prog_11_method_4_code 16 = .ok (.isub, 1) := by decide +kernel
theorem dTY_taken_17 : decode prog_11_method_4_code 17 = .ok (.iload_n 3, 1) := by decide +kernel
theorem dTY_taken_18 : decode prog_11_method_4_code 18 = .ok (.isub, 1) := by decide +kernel
theorem dTY_taken_19 : decode prog_11_method_4_code 19 = .ok (.ishr, 1) := by decide +kernel
theorem dTY_taken_20 : decode prog_11_method_4_code 20 = .ok (.iconst 1, 1) := by decide +kernel
theorem dTY_taken_21 : decode prog_11_method_4_code 21 = .ok (.iand, 1) := by decide +kernel
theorem dTY_taken_22 : decode prog_11_method_4_code 22 = .ok (.iconst 1, 1) := by decide +kernel
theorem dTY_taken_23 : decode prog_11_method_4_code 23 = .ok (.if_icmp .ne (7), 3) := by decide +kernel
theorem dTY_taken_26 : decode prog_11_method_4_code 26 = .ok (.iconst 1, 1) := by decide +kernel
theorem dTY_taken_27 : decode prog_11_method_4_code 27 = .ok (.goto (4), 3) := by decide +kernel
theorem dTY_taken_30 : decode prog_11_method_4_code 30 = .ok (.iconst 0, 1) := by decide +kernel
theorem dTY_taken_31 : decode prog_11_method_4_code 31 = .ok (.istore 4, 2) := by decide +kernel
theorem dTY_taken_33 : decode prog_11_method_4_code 33 = .ok (.iload_n 3, 1) := by decide +kernel
theorem dTY_taken_34 : decode prog_11_method_4_code 34 = .ok (.iload 4, 2) := by decide +kernel
theorem dTY_taken_36 : decode prog_11_method_4_code 36 = .ok (.ifCond .eq (7), 3) := by decide +kernel
theorem dTY_taken_39 : decode prog_11_method_4_code 39 = .ok (.iconst 1, 1) := by decide +kernel
theorem dTY_taken_40 : decode prog_11_method_4_code 40 = .ok (.goto (4), 3) := by decide +kernel
theorem dTY_taken_43 : decode prog_11_method_4_code 43 = .ok (.iconst 2, 1) := by decide +kernel
theorem dTY_taken_44 : decode prog_11_method_4_code 44 = .ok (.iadd, 1) := by decide +kernel
theorem dTY_taken_45 : decode prog_11_method_4_code 45 = .ok (.istore_n 3, 1) := by decide +kernel
theorem dTY_taken_46 : decode prog_11_method_4_code 46 = .ok (.iload_n 2, 1) := by decide +kernel
theorem dTY_taken_47 : decode prog_11_method_4_code 47 = .ok (.iload 4, 2) := by decide +kernel
theorem dTY_taken_49 : decode prog_11_method_4_code 49 = .ok (.ifCond .eq (7), 3) := by decide +kernel
theorem dTY_taken_52 : decode prog_11_method_4_code 52 = .ok (.iconst 1, 1) := by decide +kernel
theorem dTY_taken_53 : decode prog_11_method_4_code 53 = .ok (.goto (4), 3) := by decide +kernel
theorem dTY_taken_56 : decode prog_11_method_4_code 56 = .ok (.iconst (-1), 1) := by decide +kernel
theorem dTY_taken_57 : decode prog_11_method_4_code 57 = .ok (.iadd, 1) := by decide +kernel
theorem dTY_taken_58 : decode prog_11_method_4_code 58 = .ok (.istore_n 2, 1) := by decide +kernel
theorem dTY_taken_59 : decode prog_11_method_4_code 59 = .ok (.goto (-55), 3) := by decide +kernel
theorem dTY_taken_62 : decode prog_11_method_4_code 62 = .ok (.iload_n 2, 1) := by decide +kernel
theorem dTY_taken_63 : decode prog_11_method_4_code 63 = .ok (.ifCond .ne (12), 3) := by decide +kernel
theorem dTY_taken_66 : decode prog_11_method_4_code 66 = .ok (.iload_n 3, 1) := by decide +kernel
theorem dTY_taken_67 : decode prog_11_method_4_code 67 = .ok (.iload_n 1, 1) := by decide +kernel
theorem dTY_taken_68 : decode prog_11_method_4_code 68 = .ok (.if_icmp .gt (7), 3) := by decide +kernel
theorem dTY_taken_71 : decode prog_11_method_4_code 71 = .ok (.iload_n 3, 1) := by decide +kernel
theorem dTY_taken_72 : decode prog_11_method_4_code 72 = .ok (.goto (4), 3) := by decide +kernel
theorem dTY_taken_75 : decode prog_11_method_4_code 75 = .ok (.iconst 0, 1) := by decide +kernel
theorem dTY_taken_76 : decode prog_11_method_4_code 76 = .ok (.ireturn, 1) := by decide +kernel
theorem f_TY_taken {G : sd_G} {h : sd_H} {nx t last aw us v : Nat} (hl : last < 100) (ha : aw < 1000) (hu : us < 1000) (hv : v = if aw = 0 ∧ us ≤ last then us else 0) : sd_W G mTY_taken 0 0 0 (sd_is (some (.int (nI v))) h nx) 62 [(0, .int (nI t)), (1, .int (nI last)), (2, .int (nI aw)), (3, .int (nI us))] [] h nx 0 0 := by
  refine sd_iload_n dTY_taken_62 rfl rfl ?_
  refine nn_if_ne 75 dTY_taken_63 (by decide) (by omega) (fun c63 => ?_) (fun c63 => ?_)
  ·
    refine sd_iconst (v := nI 0) dTY_taken_75 (by decide) ?_
    exact sd_iret dTY_taken_76 rfl (Nat.le_refl _) (Nat.le_refl _) ⟨by rw [hv]; first | rw [if_pos ⟨by omega, by omega⟩] | rw [if_neg (by omega)], rfl, rfl⟩
  ·
    refine sd_iload_n dTY_taken_66 rfl rfl ?_
    refine sd_iload_n dTY_taken_67 rfl rfl ?_
    refine nn_icmp_gt 75 dTY_taken_68 (by decide) (by omega) (by omega) (fun c68 => ?_) (fun c68 => ?_)
    ·
      refine sd_iconst (v := nI 0) dTY_taken_75 (by decide) ?_
      exact sd_iret dTY_taken_76 rfl (Nat.le_refl _) (Nat.le_refl _) ⟨by rw [hv]; first | rw [if_pos ⟨by omega, by omega⟩] | rw [if_neg (by omega)], rfl, rfl⟩
    ·
      refine sd_iload_n dTY_taken_71 rfl rfl ?_
      refine sd_goto 76 dTY_taken_72 (by decide) ?_
      exact sd_iret dTY_taken_76 rfl (Nat.le_refl _) (Nat.le_refl _) ⟨by rw [hv]; first | rw [if_pos ⟨by omega, by omega⟩] | rw [if_neg (by omega)], rfl, rfl⟩
theorem o_TY_taken {G : sd_G} {h : sd_H} {nx t last aw : Nat} (hl : last < 32) (ha : aw < 100) : sd_W G mTY_taken 0 0 0 (sd_is (some (.int (nI 0))) h nx) 4 [(0, .int (nI t)), (1, .int (nI last)), (2, .int (nI aw)), (3, .int (nI (last + 1)))] [] h nx 0 0 := by
  refine sd_iload_n dTY_taken_4 rfl rfl ?_
  refine nn_if_le 62 dTY_taken_5 (by decide) (by omega) (fun c5 => ?_) (fun c5 => ?_)
  ·
    refine sd_locp (al' := [(0, .int (nI (t))), (1, .int (nI (last))), (2, .int (nI (aw))), (3, .int (nI (last + 1)))]) [0, 1, 2, 3] rfl ?_
    exact f_TY_taken (by omega) (by omega) (by omega) (by rw [if_neg (by omega)])
  ·
    refine sd_iload_n dTY_taken_8 rfl rfl ?_
    refine sd_iload_n dTY_taken_9 rfl rfl ?_
    refine nn_icmp_ge 62 dTY_taken_10 (by decide) (by omega) (by omega) (fun c10 => ?_) (fun c10 => ?_)
    ·
      refine sd_locp (al' := [(0, .int (nI (t))), (1, .int (nI (last))), (2, .int (nI (aw))), (3, .int (nI (last + 1)))]) [0, 1, 2, 3] rfl ?_
      exact f_TY_taken (by omega) (by omega) (by omega) (by rw [if_neg (by omega)])
    ·
      exact absurd c10 (by omega)
theorem l_TY_taken {G : sd_G} {h : sd_H} {nx t last : Nat} (ht : t < 2 ^ 31) (hl : last < 32) : ∀ (n x aw us : Nat), x ≤ n → us + x = last → aw ≤ us + 1 → sd_W G mTY_taken 0 0 0 (sd_is (some (.int (nI (ty_tk last (ty_ex t x aw))))) h nx) 4 [(0, .int (nI t)), (1, .int (nI last)), (2, .int (nI aw)), (3, .int (nI us))] [] h nx 0 0 := by
  intro n
  induction n with
  | zero =>
    intro x aw us hx hu ha
    obtain rfl : x = 0 := by omega
    refine sd_iload_n dTY_taken_4 rfl rfl ?_
    refine nn_if_le 62 dTY_taken_5 (by decide) (by omega) (fun c5 => ?_) (fun c5 => ?_)
    ·
      refine sd_locp (al' := [(0, .int (nI (t))), (1, .int (nI (last))), (2, .int (nI (aw))), (3, .int (nI (us)))]) [0, 1, 2, 3] rfl ?_
      refine f_TY_taken (by omega) (by omega) (by omega) ?_
      cases aw with
      | zero => simp [ty_ex, ty_tk]; split <;> omega
      | succ e => simp [ty_ex, ty_tk]
    ·
      refine sd_iload_n dTY_taken_8 rfl rfl ?_
      refine sd_iload_n dTY_taken_9 rfl rfl ?_
      refine nn_icmp_ge 62 dTY_taken_10 (by decide) (by omega) (by omega) (fun c10 => ?_) (fun c10 => ?_)
      ·
        refine sd_locp (al' := [(0, .int (nI (t))), (1, .int (nI (last))), (2, .int (nI (aw))), (3, .int (nI (us)))]) [0, 1, 2, 3] rfl ?_
        refine f_TY_taken (by omega) (by omega) (by omega) ?_
        cases aw with
        | zero => simp [ty_ex, ty_tk]; split <;> omega
        | succ e => simp [ty_ex, ty_tk]
      ·
        exact absurd c10 (by omega)
  | succ n ih =>
    intro x aw us hx hu ha
    match x, aw, hx, hu, ha with
    | x, 0, hx, hu, ha =>
      refine sd_iload_n dTY_taken_4 rfl rfl ?_
      refine nn_if_le 62 dTY_taken_5 (by decide) (by decide) (fun _ => ?_) (fun c => absurd c (by decide))
      refine sd_locp (al' := [(0, .int (nI (t))), (1, .int (nI (last))), (2, .int (nI (0))), (3, .int (nI (us)))]) [0, 1, 2, 3] rfl ?_
      refine f_TY_taken (by omega) (by omega) (by omega) ?_
      simp [ty_ex, ty_tk]; split <;> omega
    | 0, e + 1, hx, hu, ha =>
      refine sd_iload_n dTY_taken_4 rfl rfl ?_
      refine nn_if_le 62 dTY_taken_5 (by decide) (by omega) (fun c5 => ?_) (fun c5 => ?_)
      ·
        exact absurd c5 (by omega)
      ·
        refine sd_iload_n dTY_taken_8 rfl rfl ?_
        refine sd_iload_n dTY_taken_9 rfl rfl ?_
        refine nn_icmp_ge 62 dTY_taken_10 (by decide) (by omega) (by omega) (fun c10 => ?_) (fun c10 => ?_)
        ·
          refine sd_locp (al' := [(0, .int (nI (t))), (1, .int (nI (last))), (2, .int (nI (e + 1))), (3, .int (nI (us)))]) [0, 1, 2, 3] rfl ?_
          refine f_TY_taken (by omega) (by omega) (by omega) ?_
          simp [ty_ex, ty_tk]
        ·
          exact absurd c10 (by omega)
    | 1, e + 1, hx, hu, ha =>
      refine sd_iload_n dTY_taken_4 rfl rfl ?_
      refine nn_if_le 62 dTY_taken_5 (by decide) (by omega) (fun c5 => ?_) (fun c5 => ?_)
      ·
        exact absurd c5 (by omega)
      ·
        refine sd_iload_n dTY_taken_8 rfl rfl ?_
        refine sd_iload_n dTY_taken_9 rfl rfl ?_
        refine nn_icmp_ge 62 dTY_taken_10 (by decide) (by omega) (by omega) (fun c10 => ?_) (fun c10 => ?_)
        ·
          exact absurd c10 (by omega)
        ·
          refine sd_iload_n dTY_taken_13 rfl rfl ?_
          refine sd_iload_n dTY_taken_14 rfl rfl ?_
          refine sd_iconst (v := nI 1) dTY_taken_15 (by decide) ?_
          refine nn_isub dTY_taken_16 (by omega) ?_
          refine sd_iload_n dTY_taken_17 rfl rfl ?_
          refine nn_isub dTY_taken_18 (by omega) ?_
          refine nn_ishr dTY_taken_19 (by omega) (by omega) ?_
          refine sd_iconst (v := nI 1) dTY_taken_20 (by decide) ?_
          refine nn_iand1 dTY_taken_21 (tp_div ht) ?_
          refine sd_iconst (v := nI 1) dTY_taken_22 (by decide) ?_
          refine nn_icmp_ne 30 dTY_taken_23 (by decide) (by omega) (by omega) (fun c23 => ?_) (fun c23 => ?_)
          ·
            refine sd_iconst (v := nI 0) dTY_taken_30 (by decide) ?_
            refine sd_istore dTY_taken_31 (by decide) ?_
            refine sd_iload_n dTY_taken_33 rfl rfl ?_
            refine sd_iload dTY_taken_34 rfl ?_
            refine nn_if_eq 43 dTY_taken_36 (by decide) (by decide) (fun _ => ?_) (fun c => absurd c (by decide))
            refine sd_iconst (v := nI 2) dTY_taken_43 (by decide) ?_
            refine nn_iadd dTY_taken_44 ?_
            refine sd_istore_n dTY_taken_45 rfl (by decide) ?_
            refine sd_iload_n dTY_taken_46 rfl rfl ?_
            refine sd_iload dTY_taken_47 rfl ?_
            refine nn_if_eq 56 dTY_taken_49 (by decide) (by decide) (fun _ => ?_) (fun c => absurd c (by decide))
            refine sd_iconst (v := (-1)) dTY_taken_56 (by decide) ?_
            refine sd_iadd dTY_taken_57 ?_
            rw [show ((nI (e + 1)) + ((-1))) = (nI (e)) from pk_m1 e]
            refine sd_istore_n dTY_taken_58 rfl (by decide) ?_
            refine sd_goto 4 dTY_taken_59 (by decide) ?_
            refine sd_locp (al' := [(0, .int (nI (t))), (1, .int (nI (last))), (2, .int (nI (e))), (3, .int (nI (us + 2)))]) [3, 4, 0, 1] rfl ?_
            first | (rw [show us + 2 = last + 1 by omega]; exact o_TY_taken (by omega) (by omega)) | exact ih 0 (e + 1 + 1) (us + 1) (by omega) (by omega) (by omega)
          ·
            refine sd_iconst (v := nI 1) dTY_taken_26 (by decide) ?_
            refine sd_goto 31 dTY_taken_27 (by decide) ?_
            refine sd_istore dTY_taken_31 (by decide) ?_
            refine sd_iload_n dTY_taken_33 rfl rfl ?_
            refine sd_iload dTY_taken_34 rfl ?_
            refine nn_if_eq 43 dTY_taken_36 (by decide) (by decide) (fun c => absurd c (by decide)) (fun _ => ?_)
            refine sd_iconst (v := nI 1) dTY_taken_39 (by decide) ?_
            refine sd_goto 44 dTY_taken_40 (by decide) ?_
            refine nn_iadd dTY_taken_44 ?_
            refine sd_istore_n dTY_taken_45 rfl (by decide) ?_
            refine sd_iload_n dTY_taken_46 rfl rfl ?_
            refine sd_iload dTY_taken_47 rfl ?_
            refine nn_if_eq 56 dTY_taken_49 (by decide) (by decide) (fun c => absurd c (by decide)) (fun _ => ?_)
            refine sd_iconst (v := nI 1) dTY_taken_52 (by decide) ?_
            refine sd_goto 57 dTY_taken_53 (by decide) ?_
            refine nn_iadd dTY_taken_57 ?_
            refine sd_istore_n dTY_taken_58 rfl (by decide) ?_
            refine sd_goto 4 dTY_taken_59 (by decide) ?_
            refine sd_locp (al' := [(0, .int (nI (t))), (1, .int (nI (last))), (2, .int (nI ((e + 1) + 1))), (3, .int (nI (us + 1)))]) [3, 4, 0, 1] rfl ?_
            first | (rw [show us + 2 = last + 1 by omega]; exact o_TY_taken (by omega) (by omega)) | exact ih 0 (e + 1 + 1) (us + 1) (by omega) (by omega) (by omega)
    | x + 2, e + 1, hx, hu, ha =>
      have hb : last - 1 - us = x + 1 := by omega
      refine sd_iload_n dTY_taken_4 rfl rfl ?_
      refine nn_if_le 62 dTY_taken_5 (by decide) (by omega) (fun c5 => ?_) (fun c5 => ?_)
      ·
        exact absurd c5 (by omega)
      ·
        refine sd_iload_n dTY_taken_8 rfl rfl ?_
        refine sd_iload_n dTY_taken_9 rfl rfl ?_
        refine nn_icmp_ge 62 dTY_taken_10 (by decide) (by omega) (by omega) (fun c10 => ?_) (fun c10 => ?_)
        ·
          exact absurd c10 (by omega)
        ·
          refine sd_iload_n dTY_taken_13 rfl rfl ?_
          refine sd_iload_n dTY_taken_14 rfl rfl ?_
          refine sd_iconst (v := nI 1) dTY_taken_15 (by decide) ?_
          refine nn_isub dTY_taken_16 (by omega) ?_
          refine sd_iload_n dTY_taken_17 rfl rfl ?_
          refine nn_isub dTY_taken_18 (by omega) ?_
          refine nn_ishr dTY_taken_19 (by omega) (by omega) ?_
          refine sd_iconst (v := nI 1) dTY_taken_20 (by decide) ?_
          refine nn_iand1 dTY_taken_21 (tp_div ht) ?_
          refine sd_iconst (v := nI 1) dTY_taken_22 (by decide) ?_
          refine nn_icmp_ne 30 dTY_taken_23 (by decide) (by omega) (by omega) (fun c23 => ?_) (fun c23 => ?_)
          ·
            rw [ty_ex, if_neg (by rw [hb] at c23; exact c23)]
            refine sd_iconst (v := nI 0) dTY_taken_30 (by decide) ?_
            refine sd_istore dTY_taken_31 (by decide) ?_
            refine sd_iload_n dTY_taken_33 rfl rfl ?_
            refine sd_iload dTY_taken_34 rfl ?_
            refine nn_if_eq 43 dTY_taken_36 (by decide) (by decide) (fun _ => ?_) (fun c => absurd c (by decide))
            refine sd_iconst (v := nI 2) dTY_taken_43 (by decide) ?_
            refine nn_iadd dTY_taken_44 ?_
            refine sd_istore_n dTY_taken_45 rfl (by decide) ?_
            refine sd_iload_n dTY_taken_46 rfl rfl ?_
            refine sd_iload dTY_taken_47 rfl ?_
            refine nn_if_eq 56 dTY_taken_49 (by decide) (by decide) (fun _ => ?_) (fun c => absurd c (by decide))
            refine sd_iconst (v := (-1)) dTY_taken_56 (by decide) ?_
            refine sd_iadd dTY_taken_57 ?_
            rw [show ((nI (e + 1)) + ((-1))) = (nI (e)) from pk_m1 e]
            refine sd_istore_n dTY_taken_58 rfl (by decide) ?_
            refine sd_goto 4 dTY_taken_59 (by decide) ?_
            refine sd_locp (al' := [(0, .int (nI (t))), (1, .int (nI (last))), (2, .int (nI (e))), (3, .int (nI (us + 2)))]) [3, 4, 0, 1] rfl ?_
            exact ih _ _ _ (by omega) (by omega) (by omega)
          ·
            rw [ty_ex, if_pos (by rw [hb] at c23; exact c23)]
            refine sd_iconst (v := nI 1) dTY_taken_26 (by decide) ?_
            refine sd_goto 31 dTY_taken_27 (by decide) ?_
            refine sd_istore dTY_taken_31 (by decide) ?_
            refine sd_iload_n dTY_taken_33 rfl rfl ?_
            refine sd_iload dTY_taken_34 rfl ?_
            refine nn_if_eq 43 dTY_taken_36 (by decide) (by decide) (fun c => absurd c (by decide)) (fun _ => ?_)
            refine sd_iconst (v := nI 1) dTY_taken_39 (by decide) ?_
            refine sd_goto 44 dTY_taken_40 (by decide) ?_
            refine nn_iadd dTY_taken_44 ?_
            refine sd_istore_n dTY_taken_45 rfl (by decide) ?_
            refine sd_iload_n dTY_taken_46 rfl rfl ?_
            refine sd_iload dTY_taken_47 rfl ?_
            refine nn_if_eq 56 dTY_taken_49 (by decide) (by decide) (fun c => absurd c (by decide)) (fun _ => ?_)
            refine sd_iconst (v := nI 1) dTY_taken_52 (by decide) ?_
            refine sd_goto 57 dTY_taken_53 (by decide) ?_
            refine nn_iadd dTY_taken_57 ?_
            refine sd_istore_n dTY_taken_58 rfl (by decide) ?_
            refine sd_goto 4 dTY_taken_59 (by decide) ?_
            refine sd_locp (al' := [(0, .int (nI (t))), (1, .int (nI (last))), (2, .int (nI ((e + 1) + 1))), (3, .int (nI (us + 1)))]) [3, 4, 0, 1] rfl ?_
            exact ih _ _ _ (by omega) (by omega) (by omega)
theorem c_TY_taken {G : sd_G} {h : sd_H} {nx t last : Nat} (ht : t < 2 ^ 31) (hl : last < 32) : sd_Ct G mTY_taken 0 0 0 [.int (nI t), .int (nI last)] h nx (sd_is (some (.int (nI (ty_tk last (ty_ex t last 1))))) h nx) := by
  refine sd_Ct_of (by decide) (Nat.le_of_ble_eq_true rfl) ?_
  refine sd_iconst (v := nI 1) dTY_taken_0 (by decide) ?_
  refine sd_istore_n dTY_taken_1 rfl (by decide) ?_
  refine sd_iconst (v := nI 0) dTY_taken_2 (by decide) ?_
  refine sd_istore_n dTY_taken_3 rfl (by decide) ?_
  refine sd_locp (al' := [(0, .int (nI (t))), (1, .int (nI (last))), (2, .int (nI (1))), (3, .int (nI (0)))]) [2, 3, 1, 0] rfl ?_
  exact l_TY_taken ht hl last last 1 0 (by omega) (by omega) (by omega)
/-- a number is a type -/
def ty_is (x : Int32) : Prop := ∃ t : Nat, x = nI t ∧ t < 2 ^ 25 ∧ 4 ≤ t ∧ ty_ex t (Nat.log2 t) 1 = some 0
theorem ty_zb (x : Int32) : ∃ b : Nat, b < 2 ∧ (b = 1 ↔ ty_is x) := by
  by_cases h : ty_is x
  · exact ⟨1, by omega, by simp [h]⟩
  · exact ⟨0, by omega, by simp [h]⟩
theorem tp_25 {t : Nat} (h0 : t ≠ 0) : t < 2 ^ 25 ↔ Nat.log2 t ≤ 24 := by
  rw [← Nat.log2_lt h0]; omega
theorem ty_tk_eq {t : Nat} (h : 4 ≤ t) : ty_tk (Nat.log2 t) (ty_ex t (Nat.log2 t) 1) = Nat.log2 t ↔ ty_ex t (Nat.log2 t) 1 = some 0 := by
  have h2 : 2 ≤ Nat.log2 t := (Nat.le_log2 (by omega)).mpr (by omega)
  cases hx : ty_ex t (Nat.log2 t) 1 with
  | none => simp [ty_tk]; omega
  | some r =>
    have := ty_ex_le _ _ _ _ (Nat.le_refl _) hx
    simp [ty_tk]
    omega
theorem dTY_isType_0 : decode prog_11_method_2_code 0 = .ok (.iload_n 0, 1) := by decide +kernel
theorem dTY_isType_1 : decode prog_11_method_2_code 1 = .ok (.iconst 4, 1) := by decide +kernel
theorem dTY_isType_2 : decode prog_11_method_2_code 2 = .ok (.if_icmp .ge (5), 3) := by decide +kernel
theorem dTY_isType_5 : decode prog_11_method_2_code 5 = .ok (.iconst 0, 1) := by decide +kernel
theorem dTY_isType_6 : decode prog_11_method_2_code 6 = .ok (.ireturn, 1) := by decide +kernel
theorem dTY_isType_7 : decode prog_11_method_2_code 7 = .ok (.iload_n 0, 1) := by decide +kernel
theorem dTY_isType_8 : decode prog_11_method_2_code 8 = .ok (.invokestatic 9, 3) := by decide +kernel
theorem dTY_isType_11 : decode prog_11_method_2_code 11 = .ok (.istore_n 1, 1) := by decide +kernel
theorem dTY_isType_12 : decode prog_11_method_2_code 12 = .ok (.iload_n 1, 1) := by decide +kernel
theorem dTY_isType_13 : decode prog_11_method_2_code 13 = .ok (.bipush (24), 2) := by decide +kernel
theorem dTY_isType_15 : decode prog_11_method_2_code 15 = .ok (.if_icmp .gt (16), 3) := by decide +kernel
theorem dTY_isType_18 : decode prog_11_method_2_code 18 = .ok (.iload_n 0, 1) := by decide +kernel
theorem dTY_isType_19 : decode prog_11_method_2_code 19 = .ok (.iload_n 1, 1) := by decide +kernel
theorem dTY_isType_20 : decode prog_11_method_2_code 20 = .ok (.invokestatic 15, 3) := by decide +kernel
theorem dTY_isType_23 : decode prog_11_method_2_code 23 = .ok (.iload_n 1, 1) := by decide +kernel
theorem dTY_isType_24 : decode prog_11_method_2_code 24 = .ok (.if_icmp .ne (7), 3) := by decide +kernel
theorem dTY_isType_27 : decode prog_11_method_2_code 27 = .ok (.iconst 1, 1) := by decide +kernel
theorem dTY_isType_28 : decode prog_11_method_2_code 28 = .ok (.goto (4), 3) := by decide +kernel
theorem dTY_isType_31 : decode prog_11_method_2_code 31 = .ok (.iconst 0, 1) := by decide +kernel
theorem dTY_isType_32 : decode prog_11_method_2_code 32 = .ok (.ireturn, 1) := by decide +kernel
theorem c_TY_isType {G : sd_G} {h : sd_H} {nx : Nat} {x : Int32} {b : Nat} (hb2 : b < 2) (hb : b = 1 ↔ ty_is x) : sd_Ct G mTY_isType 1 0 0 [.int x] h nx (sd_is (some (.int (nI b))) h nx) := by
  refine sd_Ct_of (by decide) (Nat.le_of_ble_eq_true rfl) ?_
  rcases Int32.lt_or_le x 4 with hx | hx
  · have hn : ¬ ty_is x := by
      rintro ⟨t, rfl, h1, h2, -⟩
      exact absurd hx (nI_nlt (b := 4) h2 (by omega))
    have hb1 : ¬ b = 1 := fun e => hn (hb.mp e)
    obtain rfl : b = 0 := by omega
    refine sd_iload_n dTY_isType_0 rfl rfl ?_
    refine sd_iconst (v := nI 4) dTY_isType_1 (by decide) ?_
    refine sd_icmp_ge 7 dTY_isType_2 (by decide) (fun c2 => ?_) (fun c2 => ?_)
    ·
      exact absurd hx (Int32.not_lt.mpr c2)
    ·
      refine sd_iconst (v := nI 0) dTY_isType_5 (by decide) ?_
      exact sd_zret dTY_isType_6 rfl (Or.inl rfl) (Nat.le_refl _) (Nat.le_refl _) ⟨rfl, rfl, rfl⟩
  · obtain ⟨t, ht, rfl⟩ := nI_of (x := x) (fun q => absurd (Int32.lt_of_lt_of_le q (show (0 : Int32) ≤ 4 by decide)) (Int32.not_lt.mpr hx))
    have h4 : 4 ≤ t := (nI_leI (a := 4) (by omega) ht).mp hx
    have hlg := tp_lg ht (by omega)
    have key : ty_is (nI t) ↔ Nat.log2 t ≤ 24 ∧ ty_tk (Nat.log2 t) (ty_ex t (Nat.log2 t) 1) = Nat.log2 t := by
      rw [ty_tk_eq h4, ← tp_25 (by omega)]
      constructor
      · rintro ⟨t2, e, h1, h2, h3⟩
        obtain rfl := (nI_eq ht (by omega)).mp e
        exact ⟨h1, h3⟩
      · rintro ⟨h1, h2⟩
        exact ⟨t, rfl, h1, h4, h2⟩
    rw [key] at hb
    have htk : ty_tk (Nat.log2 t) (ty_ex t (Nat.log2 t) 1) < 2 ^ 31 := by
      unfold ty_tk
      split <;> omega
    refine sd_iload_n dTY_isType_0 rfl rfl ?_
    refine sd_iconst (v := nI 4) dTY_isType_1 (by decide) ?_
    refine nn_icmp_ge 7 dTY_isType_2 (by decide) (by omega) (by omega) (fun c2 => ?_) (fun c2 => ?_)
    ·
      refine sd_iload_n dTY_isType_7 rfl rfl ?_
      refine sd_cS [.int (nI (t))] [] dTY_isType_8 kTY_9 mTY_digits_s (c_TY_digits (by omega) ht) (by decide) (Nat.le_refl _) (Nat.le_refl _) (Nat.le_of_ble_eq_true rfl) rfl ?_
      refine sd_istore_n dTY_isType_11 rfl (by decide) ?_
      refine sd_iload_n dTY_isType_12 rfl rfl ?_
      refine sd_bipush (v := nI 24) dTY_isType_13 (by decide) ?_
      refine nn_icmp_gt 31 dTY_isType_15 (by decide) (by omega) (by omega) (fun c15 => ?_) (fun c15 => ?_)
      ·
        refine sd_iconst (v := nI 0) dTY_isType_31 (by decide) ?_
        exact sd_zret dTY_isType_32 rfl (by first | exact Or.inl rfl | exact Or.inr rfl) (Nat.le_refl _) (Nat.le_refl _) ⟨by first | rw [show b = 1 by omega] | rw [show b = 0 by omega], rfl, rfl⟩
      ·
        refine sd_iload_n dTY_isType_18 rfl rfl ?_
        refine sd_iload_n dTY_isType_19 rfl rfl ?_
        refine sd_cS [.int (nI (t)), .int (nI (Nat.log2 t))] [] dTY_isType_20 kTY_15 mTY_taken_s (c_TY_taken ht (by omega)) (by decide) (Nat.le_refl _) (Nat.le_refl _) (Nat.le_of_ble_eq_true rfl) rfl ?_
        refine sd_iload_n dTY_isType_23 rfl rfl ?_
        refine nn_icmp_ne 31 dTY_isType_24 (by decide) (by omega) (by omega) (fun c24 => ?_) (fun c24 => ?_)
        ·
          refine sd_iconst (v := nI 0) dTY_isType_31 (by decide) ?_
          exact sd_zret dTY_isType_32 rfl (by first | exact Or.inl rfl | exact Or.inr rfl) (Nat.le_refl _) (Nat.le_refl _) ⟨by first | rw [show b = 1 by omega] | rw [show b = 0 by omega], rfl, rfl⟩
        ·
          refine sd_iconst (v := nI 1) dTY_isType_27 (by decide) ?_
          refine sd_goto 32 dTY_isType_28 (by decide) ?_
          exact sd_zret dTY_isType_32 rfl (by first | exact Or.inl rfl | exact Or.inr rfl) (Nat.le_refl _) (Nat.le_refl _) ⟨by first | rw [show b = 1 by omega] | rw [show b = 0 by omega], rfl, rfl⟩
    ·
      exact absurd c2 (by omega)
