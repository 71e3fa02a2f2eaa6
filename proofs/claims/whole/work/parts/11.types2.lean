/-! ===== SequentDesk.Types: isFunction, lastDigits, from, to, join ===== -/
/-- the type of functions from a to b -/
def ty_jn (a b : Nat) : Nat := (2 ^ (Nat.log2 a + 1) + a) * 2 ^ Nat.log2 b + b % 2 ^ Nat.log2 b
/-- the digits that the first part of a type of functions leaves -/
def ty_rem (t : Nat) : Nat := (ty_ex t (Nat.log2 t - 1) 1).getD 0
def ty_from (t : Nat) : Nat := 2 ^ (Nat.log2 t - 1 - ty_rem t) + t / 2 ^ ty_rem t % 2 ^ (Nat.log2 t - 1 - ty_rem t)
def ty_to (t : Nat) : Nat := 2 ^ ty_rem t + t % 2 ^ ty_rem t
theorem tp_pw {a b : Nat} (h : a ≤ b) : 2 ^ a ≤ 2 ^ b := Nat.pow_le_pow_right (by omega) h
theorem tp_31 {k : Nat} (h : k < 31) : 2 ^ k < 2 ^ 31 := Nat.pow_lt_pow_right (by omega) h
theorem tp_sh {k : Nat} (h : k < 31) : 1 * 2 ^ k < 2 ^ 32 := by have := tp_31 h; omega
theorem tp_mask {a k : Nat} (ha : a < 2 ^ 31) (hk : k < 31) : nI a &&& nI (1 * 2 ^ k - 1) = nI (a % 2 ^ k) := by rw [Nat.one_mul]; exact nn_mask ha hk
theorem tp_or1 {b k : Nat} (hb : b < 2 ^ k) : nI (1 * 2 ^ k) ||| nI b = nI (2 ^ k + b) := by rw [nn_or hb, Nat.one_mul]
theorem tp_lt (t : Nat) : t < 2 ^ (Nat.log2 t + 1) := Nat.lt_log2_self
theorem dTY_lastDigits_0 : decode prog_11_method_8_code 0 = .ok (.iconst 1, 1) := by decide +kernel
theorem dTY_lastDigits_1 : decode prog_11_method_8_code 1 = .ok (.iload_n 1, 1) := by decide +kernel
theorem dTY_lastDigits_2 : decode prog_11_method_8_code 2 = .ok (.ishl, 1) := by decide +kernel
theorem dTY_lastDigits_3 : decode prog_11_method_8_code 3 = .ok (.iload_n 0, 1) := by decide +kernel
theorem dTY_lastDigits_4 : decode prog_11_method_8_code 4 = .ok (.iconst 1, 1) := by decide +kernel
theorem dTY_lastDigits_5 : decode prog_11_method_8_code 5 = .ok (.iload_n 1, 1) := by decide +kernel
theorem dTY_lastDigits_6 : decode prog_11_method_8_code 6 = .ok (.ishl, 1) := by decide +kernel
theorem dTY_lastDigits_7 : decode prog_11_method_8_code 7 = .ok (.iconst 1, 1) := by decide +kernel
theorem dTY_lastDigits_8 : decode prog_11_method_8_code 8 = .ok (.isub, 1) := by decide +kernel
theorem dTY_lastDigits_9 : decode prog_11_method_8_code 9 = .ok (.iand, 1) := by decide +kernel
theorem dTY_lastDigits_10 : decode prog_11_method_8_code 10 = .ok (.ior, 1) := by decide +kernel
theorem dTY_lastDigits_11 : decode prog_11_method_8_code 11 = .ok (.ireturn, 1) := by decide +kernel
theorem c_TY_lastDigits {G : sd_G} {h : sd_H} {nx a k : Nat} (ha : a < 2 ^ 31) (hk : k < 31) : sd_Ct G mTY_lastDigits 0 0 0 [.int (nI a), .int (nI k)] h nx (sd_is (some (.int (nI (2 ^ k + a % 2 ^ k)))) h nx) := by
  refine sd_Ct_of (by decide) (Nat.le_of_ble_eq_true rfl) ?_
  have h1 := Nat.two_pow_pos k
  refine sd_iconst (v := nI 1) dTY_lastDigits_0 (by decide) ?_
  refine sd_iload_n dTY_lastDigits_1 rfl rfl ?_
  refine nn_ishl dTY_lastDigits_2 (by omega) (tp_sh hk) ?_
  refine sd_iload_n dTY_lastDigits_3 rfl rfl ?_
  refine sd_iconst (v := nI 1) dTY_lastDigits_4 (by decide) ?_
  refine sd_iload_n dTY_lastDigits_5 rfl rfl ?_
  refine nn_ishl dTY_lastDigits_6 (by omega) (tp_sh hk) ?_
  refine sd_iconst (v := nI 1) dTY_lastDigits_7 (by decide) ?_
  refine nn_isub dTY_lastDigits_8 (by omega) ?_
  refine sd_iand dTY_lastDigits_9 ?_
  rw [show ((nI (a)) &&& (nI ((1 * 2 ^ k) - 1))) = (nI (a % 2 ^ k)) from tp_mask ha hk]
  refine sd_ior dTY_lastDigits_10 ?_
  rw [show ((nI (1 * 2 ^ k)) ||| (nI (a % 2 ^ k))) = (nI (2 ^ k + a % 2 ^ k)) from tp_or1 (Nat.mod_lt _ h1)]
  exact sd_iret dTY_lastDigits_11 rfl (Nat.le_refl _) (Nat.le_refl _) ⟨rfl, rfl, rfl⟩
theorem dTY_isFunction_0 : decode prog_11_method_5_code 0 = .ok (.iload_n 0, 1) := by decide +kernel
theorem dTY_isFunction_1 : decode prog_11_method_5_code 1 = .ok (.iload_n 0, 1) := by decide +kernel
theorem dTY_isFunction_2 : decode prog_11_method_5_code 2 = .ok (.invokestatic 9, 3) := by decide +kernel
theorem dTY_isFunction_5 : decode prog_11_method_5_code 5 = .ok (.iconst 1, 1) := by decide +kernel
theorem dTY_isFunction_6 : decode prog_11_method_5_code 6 = .ok (.isub, 1) := by decide +kernel
theorem dTY_isFunction_7 : decode prog_11_method_5_code 7 = .ok (.ishr, 1) := by decide +kernel
theorem dTY_isFunction_8 : decode prog_11_method_5_code 8 = .ok (.iconst 1, 1) := by decide +kernel
theorem dTY_isFunction_9 : decode prog_11_method_5_code 9 = .ok (.iand, 1) := by decide +kernel
theorem dTY_isFunction_10 : decode prog_11_method_5_code 10 = .ok (.iconst 1, 1) := by decide +kernel
theorem dTY_isFunction_11 : decode prog_11_method_5_code 11 = .ok (.if_icmp .ne (7), 3) := by decide +kernel
theorem dTY_isFunction_14 : decode prog_11_method_5_code 14 = .ok (.iconst 1, 1) := by decide +kernel
theorem dTY_isFunction_15 : decode prog_11_method_5_code 15 = .ok (.goto (4), 3) := by decide +kernel
theorem dTY_isFunction_18 : decode prog_11_method_5_code 18 = .ok (.iconst 0, 1) := by decide +kernel
theorem dTY_isFunction_19 : decode prog_11_method_5_code 19 = .ok (.ireturn, 1) := by decide +kernel
theorem c_TY_isFunction {G : sd_G} {h : sd_H} {nx t b : Nat} (h4 : 4 ≤ t) (ht : t < 2 ^ 31) (hb2 : b < 2) (hb : b = 1 ↔ t / 2 ^ (Nat.log2 t - 1) % 2 = 1) : sd_Ct G mTY_isFunction 1 0 0 [.int (nI t)] h nx (sd_is (some (.int (nI b))) h nx) := by
  refine sd_Ct_of (by decide) (Nat.le_of_ble_eq_true rfl) ?_
  have hlg := tp_lg ht (by omega)
  have h2 : 2 ≤ Nat.log2 t := (Nat.le_log2 (by omega)).mpr (by omega)
  refine sd_iload_n dTY_isFunction_0 rfl rfl ?_
  refine sd_iload_n dTY_isFunction_1 rfl rfl ?_
  refine sd_cS [.int (nI (t))] [.int (nI (t))] dTY_isFunction_2 kTY_9 mTY_digits_s (c_TY_digits (by omega) ht) (by decide) (Nat.le_refl _) (Nat.le_refl _) (Nat.le_of_ble_eq_true rfl) rfl ?_
  refine sd_iconst (v := nI 1) dTY_isFunction_5 (by decide) ?_
  refine nn_isub dTY_isFunction_6 (by omega) ?_
  refine nn_ishr dTY_isFunction_7 (by omega) (by omega) ?_
  refine sd_iconst (v := nI 1) dTY_isFunction_8 (by decide) ?_
  refine nn_iand1 dTY_isFunction_9 (tp_div ht) ?_
  refine sd_iconst (v := nI 1) dTY_isFunction_10 (by decide) ?_
  refine nn_icmp_ne 18 dTY_isFunction_11 (by decide) (by omega) (by omega) (fun c11 => ?_) (fun c11 => ?_)
  ·
    refine sd_iconst (v := nI 0) dTY_isFunction_18 (by decide) ?_
    exact sd_zret dTY_isFunction_19 rfl (by first | exact Or.inl rfl | exact Or.inr rfl) (Nat.le_refl _) (Nat.le_refl _) ⟨by first | rw [show b = 1 by omega] | rw [show b = 0 by omega], rfl, rfl⟩
  ·
    refine sd_iconst (v := nI 1) dTY_isFunction_14 (by decide) ?_
    refine sd_goto 19 dTY_isFunction_15 (by decide) ?_
    exact sd_zret dTY_isFunction_19 rfl (by first | exact Or.inl rfl | exact Or.inr rfl) (Nat.le_refl _) (Nat.le_refl _) ⟨by first | rw [show b = 1 by omega] | rw [show b = 0 by omega], rfl, rfl⟩
theorem ty_tkr {t r : Nat} (hr : ty_ex t (Nat.log2 t - 1) 1 = some r) : ty_tk (Nat.log2 t - 1) (ty_ex t (Nat.log2 t - 1) 1) = Nat.log2 t - 1 - ty_rem t ∧ ty_rem t ≤ Nat.log2 t - 1 := by
  have := ty_ex_le _ _ _ _ (Nat.le_refl _) hr
  simp [ty_tk, ty_rem, hr, this]
theorem dTY_from_0 : decode prog_11_method_6_code 0 = .ok (.iload_n 0, 1) := by decide +kernel
theorem dTY_from_1 : decode prog_11_method_6_code 1 = .ok (.invokestatic 9, 3) := by decide +kernel
theorem dTY_from_4 : decode prog_11_method_6_code 4 = .ok (.iconst 1, 1) := by decide +kernel
theorem dTY_from_5 : decode prog_11_method_6_code 5 = .ok (.isub, 1) := by decide +kernel
theorem dTY_from_6 : decode prog_11_method_6_code 6 = .ok (.istore_n 1, 1) := by decide +kernel
theorem dTY_from_7 : decode prog_11_method_6_code 7 = .ok (.iload_n 0, 1) := by decide +kernel
theorem dTY_from_8 : decode prog_11_method_6_code 8 = .ok (.iload_n 1, 1) := by decide +kernel
theorem dTY_from_9 : decode prog_11_method_6_code 9 = .ok (.invokestatic 15, 3) := by decide +kernel
theorem dTY_from_12 : decode prog_11_method_6_code 12 = .ok (.istore_n 2, 1) := by decide +kernel
theorem dTY_from_13 : decode prog_11_method_6_code 13 = .ok (.iload_n 0, 1) := by decide +kernel
theorem dTY_from_14 : decode prog_11_method_6_code 14 = .ok (.iload_n 1, 1) := by decide +kernel
theorem dTY_from_15 : decode prog_11_method_6_code 15 = .ok (.iload_n 2, 1) := by decide +kernel
theorem dTY_from_16 : decode prog_11_method_6_code 16 = .ok (.isub, 1) := by decide +kernel
theorem dTY_from_17 : decode prog_11_method_6_code 17 = .ok (.ishr, 1) := by decide +kernel
theorem dTY_from_18 : decode prog_11_method_6_code 18 = .ok (.iload_n 2, 1) := by decide +kernel
theorem dTY_from_19 : decode prog_11_method_6_code 19 = .ok (.invokestatic 19, 3) := by decide +kernel
theorem dTY_from_22 : decode prog_11_method_6_code 22 = .ok (.ireturn, 1) := by decide +kernel
theorem c_TY_from {G : sd_G} {h : sd_H} {nx t r : Nat} (h4 : 4 ≤ t) (ht : t < 2 ^ 31) (hr : ty_ex t (Nat.log2 t - 1) 1 = some r) : sd_Ct G mTY_from 1 0 0 [.int (nI t)] h nx (sd_is (some (.int (nI (ty_from t)))) h nx) := by
  refine sd_Ct_of (by decide) (Nat.le_of_ble_eq_true rfl) ?_
  have hlg := tp_lg ht (by omega)
  have h2 : 2 ≤ Nat.log2 t := (Nat.le_log2 (by omega)).mpr (by omega)
  obtain ⟨e1, e2⟩ := ty_tkr hr
  have e3 : Nat.log2 t - 1 - (Nat.log2 t - 1 - ty_rem t) = ty_rem t := by omega
  have hc := c_TY_taken (G := G) (h := h) (nx := nx) (last := Nat.log2 t - 1) ht (by omega)
  rw [e1] at hc
  refine sd_iload_n dTY_from_0 rfl rfl ?_
  refine sd_cS [.int (nI (t))] [] dTY_from_1 kTY_9 mTY_digits_s (c_TY_digits (by omega) ht) (by decide) (Nat.le_refl _) (Nat.le_refl _) (Nat.le_of_ble_eq_true rfl) rfl ?_
  refine sd_iconst (v := nI 1) dTY_from_4 (by decide) ?_
  refine nn_isub dTY_from_5 (by omega) ?_
  refine sd_istore_n dTY_from_6 rfl (by decide) ?_
  refine sd_iload_n dTY_from_7 rfl rfl ?_
  refine sd_iload_n dTY_from_8 rfl rfl ?_
  refine sd_cS [.int (nI (t)), .int (nI ((Nat.log2 t) - 1))] [] dTY_from_9 kTY_15 mTY_taken_s (hc) (by decide) (Nat.le_refl _) (Nat.le_refl _) (Nat.le_of_ble_eq_true rfl) rfl ?_
  refine sd_istore_n dTY_from_12 rfl (by decide) ?_
  refine sd_iload_n dTY_from_13 rfl rfl ?_
  refine sd_iload_n dTY_from_14 rfl rfl ?_
  refine sd_iload_n dTY_from_15 rfl rfl ?_
  refine nn_isub dTY_from_16 (by omega) ?_
  refine nn_ishr dTY_from_17 (by omega) (by omega) ?_
  refine sd_iload_n dTY_from_18 rfl rfl ?_
  refine sd_cS [.int (nI (t / 2 ^ (((Nat.log2 t) - 1) - (Nat.log2 t - 1 - ty_rem t)))), .int (nI (Nat.log2 t - 1 - ty_rem t))] [] dTY_from_19 kTY_19 mTY_lastDigits_s (c_TY_lastDigits (tp_div ht) (by omega)) (by decide) (Nat.le_refl _) (Nat.le_refl _) (Nat.le_of_ble_eq_true rfl) rfl ?_
  exact sd_iret dTY_from_22 rfl (Nat.le_refl _) (Nat.le_refl _) ⟨by rw [e3]; rfl, rfl, rfl⟩
theorem dTY_to_0 : decode prog_11_method_7_code 0 = .ok (.iload_n 0, 1) := by decide +kernel
theorem dTY_to_1 : decode prog_11_method_7_code 1 = .ok (.invokestatic 9, 3) := by decide +kernel
theorem dTY_to_4 : decode prog_11_method_7_code 4 = .ok (.iconst 1, 1) := by decide +kernel
theorem dTY_to_5 : decode prog_11_method_7_code 5 = .ok (.isub, 1) := by decide +kernel
theorem dTY_to_6 : decode prog_11_method_7_code 6 = .ok (.istore_n 1, 1) := by decide +kernel
theorem dTY_to_7 : decode prog_11_method_7_code 7 = .ok (.iload_n 0, 1) := by decide +kernel
theorem dTY_to_8 : decode prog_11_method_7_code 8 = .ok (.iload_n 1, 1) := by decide +kernel
theorem dTY_to_9 : decode prog_11_method_7_code 9 = .ok (.iload_n 0, 1) := by decide +kernel
theorem dTY_to_10 : decode prog_11_method_7_code 10 = .ok (.iload_n 1, 1) := by decide +kernel
theorem dTY_to_11 : decode prog_11_method_7_code 11 = .ok (.invokestatic 15, 3) := by decide +kernel
theorem dTY_to_14 : decode prog_11_method_7_code 14 = .ok (.isub, 1) := by decide +kernel
theorem dTY_to_15 : decode prog_11_method_7_code 15 = .ok (.invokestatic 19, 3) := by decide +kernel
theorem dTY_to_18 : decode prog_11_method_7_code 18 = .ok (.ireturn, 1) := by decide +kernel
theorem c_TY_to {G : sd_G} {h : sd_H} {nx t r : Nat} (h4 : 4 ≤ t) (ht : t < 2 ^ 31) (hr : ty_ex t (Nat.log2 t - 1) 1 = some r) : sd_Ct G mTY_to 1 0 0 [.int (nI t)] h nx (sd_is (some (.int (nI (ty_to t)))) h nx) := by
  refine sd_Ct_of (by decide) (Nat.le_of_ble_eq_true rfl) ?_
  have hlg := tp_lg ht (by omega)
  have h2 : 2 ≤ Nat.log2 t := (Nat.le_log2 (by omega)).mpr (by omega)
  obtain ⟨e1, e2⟩ := ty_tkr hr
  have e3 : Nat.log2 t - 1 - (Nat.log2 t - 1 - ty_rem t) = ty_rem t := by omega
  have hc := c_TY_taken (G := G) (h := h) (nx := nx) (last := Nat.log2 t - 1) ht (by omega)
  rw [e1] at hc
  refine sd_iload_n dTY_to_0 rfl rfl ?_
  refine sd_cS [.int (nI (t))] [] dTY_to_1 kTY_9 mTY_digits_s (c_TY_digits (by omega) ht) (by decide) (Nat.le_refl _) (Nat.le_refl _) (Nat.le_of_ble_eq_true rfl) rfl ?_
  refine sd_iconst (v := nI 1) dTY_to_4 (by decide) ?_
  refine nn_isub dTY_to_5 (by omega) ?_
  refine sd_istore_n dTY_to_6 rfl (by decide) ?_
  refine sd_iload_n dTY_to_7 rfl rfl ?_
  refine sd_iload_n dTY_to_8 rfl rfl ?_
  refine sd_iload_n dTY_to_9 rfl rfl ?_
  refine sd_iload_n dTY_to_10 rfl rfl ?_
  refine sd_cS [.int (nI (t)), .int (nI ((Nat.log2 t) - 1))] [.int (nI ((Nat.log2 t) - 1)), .int (nI (t))] dTY_to_11 kTY_15 mTY_taken_s (hc) (by decide) (Nat.le_refl _) (Nat.le_refl _) (Nat.le_of_ble_eq_true rfl) rfl ?_
  refine nn_isub dTY_to_14 (by omega) ?_
  refine sd_cS [.int (nI (t)), .int (nI (((Nat.log2 t) - 1) - (Nat.log2 t - 1 - ty_rem t)))] [] dTY_to_15 kTY_19 mTY_lastDigits_s (c_TY_lastDigits ht (by omega)) (by decide) (Nat.le_refl _) (Nat.le_refl _) (Nat.le_of_ble_eq_true rfl) rfl ?_
  exact sd_iret dTY_to_18 rfl (Nat.le_refl _) (Nat.le_refl _) ⟨by rw [e3]; rfl, rfl, rfl⟩
theorem tp_jn1 (a f t : Nat) : 1 * 2 ^ (f + t + 1) + a * 2 ^ t = (2 ^ (f + 1) + a) * 2 ^ t := by
  rw [Nat.add_mul, ← Nat.pow_add, Nat.one_mul, show f + 1 + t = f + t + 1 by omega]
theorem tp_am {a f t : Nat} (h : a < 2 ^ (f + 1)) : a * 2 ^ t < 2 ^ (f + t + 1) := by
  rw [show f + t + 1 = f + 1 + t by omega, Nat.pow_add]
  exact Nat.mul_lt_mul_of_pos_right h (Nat.two_pow_pos t)
theorem dTY_join_0 : decode prog_11_method_9_code 0 = .ok (.iload_n 0, 1) := by decide +kernel
theorem dTY_join_1 : decode prog_11_method_9_code 1 = .ok (.iconst (-1), 1) := by decide +kernel
theorem dTY_join_2 : decode prog_11_method_9_code 2 = .ok (.if_icmp .eq (8), 3) := by decide +kernel
theorem dTY_join_5 : decode prog_11_method_9_code 5 = .ok (.iload_n 1, 1) := by decide +kernel
theorem dTY_join_6 : decode prog_11_method_9_code 6 = .ok (.iconst (-1), 1) := by decide +kernel
theorem dTY_join_7 : decode prog_11_method_9_code 7 = .ok (.if_icmp .ne (5), 3) := by decide +kernel
theorem dTY_join_10 : decode prog_11_method_9_code 10 = .ok (.iconst (-1), 1) := by decide +kernel
theorem dTY_join_11 : decode prog_11_method_9_code 11 = .ok (.ireturn, 1) := by decide +kernel
theorem dTY_join_12 : decode prog_11_method_9_code 12 = .ok (.iload_n 0, 1) := by decide +kernel
theorem dTY_join_13 : decode prog_11_method_9_code 13 = .ok (.invokestatic 9, 3) := by decide +kernel
theorem dTY_join_16 : decode prog_11_method_9_code 16 = .ok (.istore_n 2, 1) := by decide +kernel
theorem dTY_join_17 : decode prog_11_method_9_code 17 = .ok (.iload_n 1, 1) := by decide +kernel
theorem dTY_join_18 : decode prog_11_method_9_code 18 = .ok (.invokestatic 9, 3) := by decide +kernel
theorem dTY_join_21 : decode prog_11_method_9_code 21 = .ok (.istore_n 3, 1) := by decide +kernel
theorem dTY_join_22 : decode prog_11_method_9_code 22 = .ok (.iconst 1, 1) := by decide +kernel
theorem dTY_join_23 : decode prog_11_method_9_code 23 = .ok (.iload_n 2, 1) := by decide +kernel
theorem dTY_join_24 : decode prog_11_method_9_code 24 = .ok (.iadd, 1) := by decide +kernel
theorem dTY_join_25 : decode prog_11_method_9_code 25 = .ok (.iload_n 3, 1) := by decide +kernel
theorem dTY_join_26 : decode prog_11_method_9_code 26 = .ok (.iadd, 1) := by decide +kernel
theorem dTY_join_27 : decode prog_11_method_9_code 27 = .ok (.bipush (24), 2) := by decide +kernel
theorem dTY_join_29 : decode prog_11_method_9_code 29 = .ok (.if_icmp .le (5), 3) := by decide +kernel
theorem dTY_join_32 : decode prog_11_method_9_code 32 = .ok (.iconst (-1), 1) := by decide +kernel
theorem dTY_join_33 : decode prog_11_method_9_code 33 = .ok (.ireturn, 1) := by decide +kernel
theorem dTY_join_34 : decode prog_11_method_9_code 34 = .ok (.iconst 1, 1) := by decide +kernel
theorem dTY_join_35 : decode prog_11_method_9_code 35 = .ok (.iload_n 2, 1) := by decide +kernel
theorem dTY_join_36 : decode prog_11_method_9_code 36 = .ok (.iload_n 3, 1) := by decide +kernel
theorem dTY_join_37 : decode prog_11_method_9_code 37 = .ok (.iadd, 1) := by decide +kernel
theorem dTY_join_38 : decode prog_11_method_9_code 38 = .ok (.iconst 1, 1) := by decide +kernel
theorem dTY_join_39 : decode prog_11_method_9_code 39 = .ok (.iadd, 1) := by decide +kernel
theorem dTY_join_40 : decode prog_11_method_9_code 40 = .ok (.ishl, 1) := by decide +kernel
theorem dTY_join_41 : decode prog_11_method_9_code 41 = .ok (.iload_n 0, 1) := by decide +kernel
theorem dTY_join_42 : decode prog_11_method_9_code 42 = .ok (.iload_n 3, 1) := by decide +kernel
theorem dTY_join_43 : decode prog_11_method_9_code 43 = .ok (.ishl, 1) := by decide +kernel
theorem dTY_join_44 : decode prog_11_method_9_code 44 = .ok (.ior, 1) := by decide +kernel
theorem dTY_join_45 : decode prog_11_method_9_code 45 = .ok (.iload_n 1, 1) := by decide +kernel
theorem dTY_join_46 : decode prog_11_method_9_code 46 = .ok (.iconst 1, 1) := by decide +kernel
theorem dTY_join_47 : decode prog_11_method_9_code 47 = .ok (.iload_n 3, 1) := by decide +kernel
theorem dTY_join_48 : decode prog_11_method_9_code 48 = .ok (.ishl, 1) := by decide +kernel
theorem dTY_join_49 : decode prog_11_method_9_code 49 = .ok (.iconst 1, 1) := by decide +kernel
theorem dTY_join_50 : decode prog_11_method_9_code 50 = .ok (.isub, 1) := by decide +kernel
theorem dTY_join_51 : decode prog_11_method_9_code 51 = .ok (.iand, 1) := by decide +kernel
theorem dTY_join_52 : decode prog_11_method_9_code 52 = .ok (.ior, 1) := by decide +kernel
theorem dTY_join_53 : decode prog_11_method_9_code 53 = .ok (.ireturn, 1) := by decide +kernel
theorem c_TY_join {G : sd_G} {h : sd_H} {nx a b : Nat} (ha0 : a ≠ 0) (hb0 : b ≠ 0) (ha : a < 2 ^ 25) (hb : b < 2 ^ 25) : sd_Ct G mTY_join 1 0 0 [.int (nI a), .int (nI b)] h nx (sd_is (some (.int (if Nat.log2 a + Nat.log2 b ≤ 23 then nI (ty_jn a b) else -1))) h nx) := by
  refine sd_Ct_of (by decide) (Nat.le_of_ble_eq_true rfl) ?_
  have hla := tp_lg ha ha0
  have hlb := tp_lg hb hb0
  have ta := tp_lt a
  have hm := tp_am (t := Nat.log2 b) ta
  have nn : ∀ x : Nat, x < 2 ^ 31 → ¬ nI x = -1 := fun x hx q => by
    have := nI_pos hx
    rw [q] at this
    exact this (by decide)
  refine sd_iload_n dTY_join_0 rfl rfl ?_
  refine sd_iconst (v := (-1)) dTY_join_1 (by decide) ?_
  refine sd_icmp_eq 10 dTY_join_2 (by decide) (fun c2 => ?_) (fun c2 => ?_)
  ·
    exact absurd c2 (nn a (by omega))
  ·
    refine sd_iload_n dTY_join_5 rfl rfl ?_
    refine sd_iconst (v := (-1)) dTY_join_6 (by decide) ?_
    refine sd_icmp_ne 12 dTY_join_7 (by decide) (fun c7 => ?_) (fun c7 => ?_)
    ·
      refine sd_iload_n dTY_join_12 rfl rfl ?_
      refine sd_cS [.int (nI (a))] [] dTY_join_13 kTY_9 mTY_digits_s (c_TY_digits ha0 (by omega)) (by decide) (Nat.le_refl _) (Nat.le_refl _) (Nat.le_of_ble_eq_true rfl) rfl ?_
      refine sd_istore_n dTY_join_16 rfl (by decide) ?_
      refine sd_iload_n dTY_join_17 rfl rfl ?_
      refine sd_cS [.int (nI (b))] [] dTY_join_18 kTY_9 mTY_digits_s (c_TY_digits hb0 (by omega)) (by decide) (Nat.le_refl _) (Nat.le_refl _) (Nat.le_of_ble_eq_true rfl) rfl ?_
      refine sd_istore_n dTY_join_21 rfl (by decide) ?_
      refine sd_iconst (v := nI 1) dTY_join_22 (by decide) ?_
      refine sd_iload_n dTY_join_23 rfl rfl ?_
      refine nn_iadd dTY_join_24 ?_
      refine sd_iload_n dTY_join_25 rfl rfl ?_
      refine nn_iadd dTY_join_26 ?_
      refine sd_bipush (v := nI 24) dTY_join_27 (by decide) ?_
      refine nn_icmp_le 34 dTY_join_29 (by decide) (by omega) (by omega) (fun c29 => ?_) (fun c29 => ?_)
      ·
        refine sd_iconst (v := nI 1) dTY_join_34 (by decide) ?_
        refine sd_iload_n dTY_join_35 rfl rfl ?_
        refine sd_iload_n dTY_join_36 rfl rfl ?_
        refine nn_iadd dTY_join_37 ?_
        refine sd_iconst (v := nI 1) dTY_join_38 (by decide) ?_
        refine nn_iadd dTY_join_39 ?_
        refine nn_ishl dTY_join_40 (by omega) (tp_sh (by omega)) ?_
        refine sd_iload_n dTY_join_41 rfl rfl ?_
        refine sd_iload_n dTY_join_42 rfl rfl ?_
        refine nn_ishl dTY_join_43 (by omega) (by have := tp_31 (k := Nat.log2 a + Nat.log2 b + 1) (by omega); omega) ?_
        refine sd_ior dTY_join_44 ?_
        rw [show ((nI (1 * 2 ^ (((Nat.log2 a) + (Nat.log2 b)) + 1))) ||| (nI (a * 2 ^ (Nat.log2 b)))) = (nI ((2 ^ (Nat.log2 a + 1) + a) * 2 ^ Nat.log2 b)) from by rw [nn_or hm, tp_jn1]]
        refine sd_iload_n dTY_join_45 rfl rfl ?_
        refine sd_iconst (v := nI 1) dTY_join_46 (by decide) ?_
        refine sd_iload_n dTY_join_47 rfl rfl ?_
        refine nn_ishl dTY_join_48 (by omega) (tp_sh (by omega)) ?_
        refine sd_iconst (v := nI 1) dTY_join_49 (by decide) ?_
        refine nn_isub dTY_join_50 (by have := Nat.two_pow_pos (Nat.log2 b); omega) ?_
        refine sd_iand dTY_join_51 ?_
        rw [show ((nI (b)) &&& (nI ((1 * 2 ^ (Nat.log2 b)) - 1))) = (nI (b % 2 ^ Nat.log2 b)) from tp_mask (by omega) (by omega)]
        refine sd_ior dTY_join_52 ?_
        rw [show ((nI ((2 ^ (Nat.log2 a + 1) + a) * 2 ^ Nat.log2 b)) ||| (nI (b % 2 ^ Nat.log2 b))) = (nI (ty_jn a b)) from nn_or (Nat.mod_lt _ (Nat.two_pow_pos _))]
        exact sd_iret dTY_join_53 rfl (Nat.le_refl _) (Nat.le_refl _) ⟨by first | rw [if_pos (by omega)] | rw [if_neg (by omega)], rfl, rfl⟩
      ·
        refine sd_iconst (v := (-1)) dTY_join_32 (by decide) ?_
        exact sd_iret dTY_join_33 rfl (Nat.le_refl _) (Nat.le_refl _) ⟨by first | rw [if_pos (by omega)] | rw [if_neg (by omega)], rfl, rfl⟩
    ·
      exact absurd c7 (nn b (by omega))
/-- where one is too long already -/
theorem c_TY_joinX {G : sd_G} {h : sd_H} {nx : Nat} {x y : Int32} (hx : x = -1 ∨ y = -1) : sd_Ct G mTY_join 1 0 0 [.int x, .int y] h nx (sd_is (some (.int (-1))) h nx) := by
  refine sd_Ct_of (by decide) (Nat.le_of_ble_eq_true rfl) ?_
  refine sd_iload_n dTY_join_0 rfl rfl ?_
  refine sd_iconst (v := (-1)) dTY_join_1 (by decide) ?_
  refine sd_icmp_eq 10 dTY_join_2 (by decide) (fun c2 => ?_) (fun c2 => ?_)
  ·
    refine sd_iconst (v := (-1)) dTY_join_10 (by decide) ?_
    exact sd_iret dTY_join_11 rfl (Nat.le_refl _) (Nat.le_refl _) ⟨rfl, rfl, rfl⟩
  ·
    refine sd_iload_n dTY_join_5 rfl rfl ?_
    refine sd_iconst (v := (-1)) dTY_join_6 (by decide) ?_
    refine sd_icmp_ne 12 dTY_join_7 (by decide) (fun c7 => ?_) (fun c7 => ?_)
    ·
      refine sd_locp (al' := [(0, .int (x)), (1, .int (y))]) [0, 1] rfl ?_
      exact absurd hx (by rintro (q | q); exact c2 q; exact c7 q)
    ·
      refine sd_iconst (v := (-1)) dTY_join_10 (by decide) ?_
      exact sd_iret dTY_join_11 rfl (Nat.le_refl _) (Nat.le_refl _) ⟨rfl, rfl, rfl⟩
