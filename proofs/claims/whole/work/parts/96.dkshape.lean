/-! ===== the class's cells ===== -/
/-- a row: 0 is the single one, t + 1 that of term t -/
abbrev tmo (r : Nat) : Nat := 4 + 4 * r
def dk_S : fx_S := fun x =>
  if x = 0 then some (.inl (0, [.inl 1, .inl 296, .inl 299, .inl 307, .inl 432]))
  else if x = 1 then some (.inl (8, [.inl 2, .inl 3, .inr false, .inl 4]))
  else if x = 2 then some (.inr (.inl 8))
  else if x = 3 then some (.inr (.inr (1, 72, fun t => 4 + 4 * (t + 1))))
  else if x < 296 then (if x % 4 = 0 then some (.inl (7, [.inl (x + 1), .inl (x + 2), .inl (x + 3), .inr false, .inr false])) else some (.inr (.inl 24)))
  else if x = 296 then some (.inl (1, [.inl 297, .inl 298, .inr false]))
  else if x < 299 then some (.inr (.inl 24))
  else if x = 299 then some (.inl (4, [.inl 300, .inl 301, .inl 302, .inl 303, .inl 304, .inl 305, .inl 306, .inr false, .inr false]))
  else if x < 305 then some (.inr (.inl 242))
  else if x < 307 then some (.inr (.inl 432))
  else if x = 307 then some (.inl (5, [.inl 1, .inl 308, .inr false]))
  else if x = 308 then some (.inr (.inr (2, 41, fun p => 309 + 3 * p)))
  else if x < 432 then (if x % 3 = 0 then some (.inl (9, [.inl (x + 1), .inr false, .inr false, .inr false, .inr true])) else if x % 3 = 1 then some (.inl (6, [.inl (x + 1), .inr false, .inr false, .inr false])) else some (.inr (.inl 6)))
  else if x = 432 then some (.inl (3, [.inl 1, .inl 307, .inl 433, .inr false, .inl 434, .inr false, .inl 435, .inr false]))
  else if x = 433 then some (.inr (.inr (3, 32, fun g => 436 + 3 * g)))
  else if x < 436 then some (.inr (.inl 30))
  else if x < 532 then (if x % 3 = 1 then some (.inl (2, [.inl (x + 1), .inr false, .inr false, .inr false])) else if x % 3 = 2 then some (.inl (6, [.inl (x + 1), .inr false, .inr false, .inr false])) else some (.inr (.inl 6)))
  else none
theorem dk_tm {r : Nat} (hr : r < 73) : dk_S (tmo r) = some (.inl (7, [.inl (tmo r + 1), .inl (tmo r + 2), .inl (tmo r + 3), .inr false, .inr false])) := by
  unfold dk_S
  rw [if_neg (by unfold tmo; omega), if_neg (by unfold tmo; omega), if_neg (by unfold tmo; omega), if_neg (by unfold tmo; omega), if_pos (by unfold tmo; omega), if_pos (by unfold tmo; omega)]
theorem dk_tmi {r i : Nat} (hr : r < 73) (hi : 1 ≤ i ∧ i ≤ 3) : dk_S (tmo r + i) = some (.inr (.inl 24)) := by
  unfold dk_S
  rw [if_neg (by unfold tmo; omega), if_neg (by unfold tmo; omega), if_neg (by unfold tmo; omega), if_neg (by unfold tmo; omega), if_pos (by unfold tmo; omega), if_neg (by unfold tmo; omega)]
theorem dk_tm1 {r : Nat} (hr : r < 73) : dk_S (tmo r + 1) = some (.inr (.inl 24)) := dk_tmi hr (by omega)
theorem dk_tm2 {r : Nat} (hr : r < 73) : dk_S (tmo r + 2) = some (.inr (.inl 24)) := dk_tmi hr (by omega)
theorem dk_tm3 {r : Nat} (hr : r < 73) : dk_S (tmo r + 3) = some (.inr (.inl 24)) := dk_tmi hr (by omega)
theorem dk_th {p : Nat} (hp : p < 41) : dk_S (309 + 3 * p) = some (.inl (9, [.inl (309 + 3 * p + 1), .inr false, .inr false, .inr false, .inr true])) := by
  unfold dk_S
  rw [if_neg (by omega), if_neg (by omega), if_neg (by omega), if_neg (by omega), if_neg (by omega), if_neg (by omega), if_neg (by omega), if_neg (by omega), if_neg (by omega), if_neg (by omega), if_neg (by omega), if_neg (by omega), if_pos (by omega), if_pos (by omega)]
/-- a Statement, and its hypotheses behind it -/
def dk_so (s : Nat) : Prop := dk_S s = some (.inl (6, [.inl (s + 1), .inr false, .inr false, .inr false])) ∧ dk_S (s + 1) = some (.inr (.inl 6))
theorem dk_ths {p : Nat} (hp : p < 41) : dk_so (309 + 3 * p + 1) := by
  constructor
  · unfold dk_S
    rw [if_neg (by omega), if_neg (by omega), if_neg (by omega), if_neg (by omega), if_neg (by omega), if_neg (by omega), if_neg (by omega), if_neg (by omega), if_neg (by omega), if_neg (by omega), if_neg (by omega), if_neg (by omega), if_pos (by omega), if_neg (by omega), if_pos (by omega)]
  · unfold dk_S
    rw [if_neg (by omega), if_neg (by omega), if_neg (by omega), if_neg (by omega), if_neg (by omega), if_neg (by omega), if_neg (by omega), if_neg (by omega), if_neg (by omega), if_neg (by omega), if_neg (by omega), if_neg (by omega), if_pos (by omega), if_neg (by omega), if_neg (by omega)]
theorem dk_gl {g : Nat} (hg : g < 32) : dk_S (436 + 3 * g) = some (.inl (2, [.inl (436 + 3 * g + 1), .inr false, .inr false, .inr false])) := by
  unfold dk_S
  rw [if_neg (by omega), if_neg (by omega), if_neg (by omega), if_neg (by omega), if_neg (by omega), if_neg (by omega), if_neg (by omega), if_neg (by omega), if_neg (by omega), if_neg (by omega), if_neg (by omega), if_neg (by omega), if_neg (by omega), if_neg (by omega), if_neg (by omega), if_neg (by omega), if_pos (by omega), if_pos (by omega)]
theorem dk_gls {g : Nat} (hg : g < 32) : dk_so (436 + 3 * g + 1) := by
  constructor
  · unfold dk_S
    rw [if_neg (by omega), if_neg (by omega), if_neg (by omega), if_neg (by omega), if_neg (by omega), if_neg (by omega), if_neg (by omega), if_neg (by omega), if_neg (by omega), if_neg (by omega), if_neg (by omega), if_neg (by omega), if_neg (by omega), if_neg (by omega), if_neg (by omega), if_neg (by omega), if_pos (by omega), if_neg (by omega), if_pos (by omega)]
  · unfold dk_S
    rw [if_neg (by omega), if_neg (by omega), if_neg (by omega), if_neg (by omega), if_neg (by omega), if_neg (by omega), if_neg (by omega), if_neg (by omega), if_neg (by omega), if_neg (by omega), if_neg (by omega), if_neg (by omega), if_neg (by omega), if_neg (by omega), if_neg (by omega), if_neg (by omega), if_pos (by omega), if_neg (by omega), if_neg (by omega)]
/-! ===== the class's rows: Term ===== -/
/-- row r holds l, which is settled or not -/
def tm_row (D : fx_D) (r : Nat) (l : tl_T) : Prop := l.length ≤ 24 ∧ D.2.1 (tmo r) 3 = nI l.length ∧ ∀ (k : Nat) (x : Nat × Nat), l[k]? = some x → D.1 (tmo r + 1) k = nI x.1 ∧ D.1 (tmo r + 2) k = nI x.2 ∧ x.1 < 100 ∧ x.2 < 2 ^ 25
def tm_set (D : fx_D) (r : Nat) (l : tl_T) : Prop := ∀ k, k < l.length → D.1 (tmo r + 3) k = nI (tl_end l k)
theorem dTM_begin_0 : decode prog_8_method_2_code 0 = .ok (.aload_n 0, 1) := by decide +kernel
theorem dTM_begin_1 : decode prog_8_method_2_code 1 = .ok (.iconst 0, 1) := by decide +kernel
theorem dTM_begin_2 : decode prog_8_method_2_code 2 = .ok (.putfield 21, 3) := by decide +kernel
theorem dTM_begin_5 : decode prog_8_method_2_code 5 = .ok (.aload_n 0, 1) := by decide +kernel
theorem dTM_begin_6 : decode prog_8_method_2_code 6 = .ok (.iconst 0, 1) := by decide +kernel
theorem dTM_begin_7 : decode prog_8_method_2_code 7 = .ok (.putfield 25, 3) := by decide +kernel
theorem dTM_begin_10 : decode prog_8_method_2_code 10 = .ok (.return_, 1) := by decide +kernel
theorem c_TM_begin {G : sd_G} {o : Nat} {D : fx_D} {h0 : sd_H} {nx r : Nat} (hB : G.2.1 ≤ o) (hr : r < 73) : sd_Ct G mTM_begin 0 0 0 [.ref (o + tmo r)] (fx_h G.1.2 dk_S o D h0) nx (sd_is none (fx_h G.1.2 dk_S o (fx_uf (fx_uf D (tmo r) 3 (nI 0)) (tmo r) 4 (nI 0)) h0) nx) := by
  refine sd_Ct_of (by decide) (Nat.le_of_ble_eq_true rfl) ?_
  refine sd_aload_n dTM_begin_0 rfl rfl ?_
  refine sd_iconst (v := nI 0) dTM_begin_1 (by decide) ?_
  refine fx_puti 7 3 dTM_begin_2 fTM_21 rfl rfl (dk_tm (by omega)) rfl hB ?_
  refine sd_aload_n dTM_begin_5 rfl rfl ?_
  refine sd_iconst (v := nI 0) dTM_begin_6 (by decide) ?_
  refine fx_putz 7 4 dTM_begin_7 fTM_25 rfl rfl (Or.inl rfl) (dk_tm (by omega)) rfl hB ?_
  exact sd_vret dTM_begin_10 rfl (Nat.le_refl _) (Nat.le_refl _) ⟨rfl, rfl, rfl⟩
theorem dTM_partsOf_0 : decode prog_8_method_12_code 0 = .ok (.iload_n 0, 1) := by decide +kernel
theorem dTM_partsOf_1 : decode prog_8_method_12_code 1 = .ok (.bipush (8), 2) := by decide +kernel
theorem dTM_partsOf_3 : decode prog_8_method_12_code 3 = .ok (.if_icmp .eq (9), 3) := by decide +kernel
theorem dTM_partsOf_6 : decode prog_8_method_12_code 6 = .ok (.iload_n 0, 1) := by decide +kernel
theorem dTM_partsOf_7 : decode prog_8_method_12_code 7 = .ok (.bipush (9), 2) := by decide +kernel
theorem dTM_partsOf_9 : decode prog_8_method_12_code 9 = .ok (.if_icmp .ne (5), 3) := by decide +kernel
theorem dTM_partsOf_12 : decode prog_8_method_12_code 12 = .ok (.iconst 2, 1) := by decide +kernel
theorem dTM_partsOf_13 : decode prog_8_method_12_code 13 = .ok (.ireturn, 1) := by decide +kernel
theorem dTM_partsOf_14 : decode prog_8_method_12_code 14 = .ok (.iload_n 0, 1) := by decide +kernel
theorem dTM_partsOf_15 : decode prog_8_method_12_code 15 = .ok (.bipush (10), 2) := by decide +kernel
theorem dTM_partsOf_17 : decode prog_8_method_12_code 17 = .ok (.if_icmp .ne (7), 3) := by decide +kernel
theorem dTM_partsOf_20 : decode prog_8_method_12_code 20 = .ok (.iconst 1, 1) := by decide +kernel
theorem dTM_partsOf_21 : decode prog_8_method_12_code 21 = .ok (.goto (4), 3) := by decide +kernel
theorem dTM_partsOf_24 : decode prog_8_method_12_code 24 = .ok (.iconst 0, 1) := by decide +kernel
theorem dTM_partsOf_25 : decode prog_8_method_12_code 25 = .ok (.ireturn, 1) := by decide +kernel
theorem c_TM_partsOf {G : sd_G} {h : sd_H} {nx s : Nat} (hs : s < 2 ^ 31) : sd_Ct G mTM_partsOf 0 0 0 [.int (nI s)] h nx (sd_is (some (.int (nI (tl_ar s)))) h nx) := by
  refine sd_Ct_of (by decide) (Nat.le_of_ble_eq_true rfl) ?_
  have e : tl_ar s = if s = 8 ∨ s = 9 then 2 else if s = 10 then 1 else 0 := rfl
  rw [e]
  refine sd_iload_n dTM_partsOf_0 rfl rfl ?_
  refine sd_bipush (v := nI 8) dTM_partsOf_1 (by decide) ?_
  refine nn_icmp_eq 12 dTM_partsOf_3 (by decide) (by omega) (by omega) (fun c3 => ?_) (fun c3 => ?_)
  ·
    refine sd_iconst (v := nI 2) dTM_partsOf_12 (by decide) ?_
    exact sd_iret dTM_partsOf_13 rfl (Nat.le_refl _) (Nat.le_refl _) ⟨by rw [if_pos (by omega)], rfl, rfl⟩
  ·
    refine sd_iload_n dTM_partsOf_6 rfl rfl ?_
    refine sd_bipush (v := nI 9) dTM_partsOf_7 (by decide) ?_
    refine nn_icmp_ne 14 dTM_partsOf_9 (by decide) (by omega) (by omega) (fun c9 => ?_) (fun c9 => ?_)
    ·
      refine sd_iload_n dTM_partsOf_14 rfl rfl ?_
      refine sd_bipush (v := nI 10) dTM_partsOf_15 (by decide) ?_
      refine nn_icmp_ne 24 dTM_partsOf_17 (by decide) (by omega) (by omega) (fun c17 => ?_) (fun c17 => ?_)
      ·
        refine sd_iconst (v := nI 0) dTM_partsOf_24 (by decide) ?_
        exact sd_iret dTM_partsOf_25 rfl (Nat.le_refl _) (Nat.le_refl _) ⟨by first | rw [if_neg (by omega), if_pos (by omega)] | rw [if_neg (by omega), if_neg (by omega)], rfl, rfl⟩
      ·
        refine sd_iconst (v := nI 1) dTM_partsOf_20 (by decide) ?_
        refine sd_goto 25 dTM_partsOf_21 (by decide) ?_
        exact sd_iret dTM_partsOf_25 rfl (Nat.le_refl _) (Nat.le_refl _) ⟨by first | rw [if_neg (by omega), if_pos (by omega)] | rw [if_neg (by omega), if_neg (by omega)], rfl, rfl⟩
    ·
      refine sd_iconst (v := nI 2) dTM_partsOf_12 (by decide) ?_
      exact sd_iret dTM_partsOf_13 rfl (Nat.le_refl _) (Nat.le_refl _) ⟨by rw [if_pos (by omega)], rfl, rfl⟩
theorem dTM_isEquation_0 : decode prog_8_method_14_code 0 = .ok (.aload_n 0, 1) := by decide +kernel
theorem dTM_isEquation_1 : decode prog_8_method_14_code 1 = .ok (.getfield 9, 3) := by decide +kernel
theorem dTM_isEquation_4 : decode prog_8_method_14_code 4 = .ok (.iconst 0, 1) := by decide +kernel
theorem dTM_isEquation_5 : decode prog_8_method_14_code 5 = .ok (.iaload, 1) := by decide +kernel
theorem dTM_isEquation_6 : decode prog_8_method_14_code 6 = .ok (.bipush (9), 2) := by decide +kernel
theorem dTM_isEquation_8 : decode prog_8_method_14_code 8 = .ok (.if_icmp .ne (7), 3) := by decide +kernel
theorem dTM_isEquation_11 : decode prog_8_method_14_code 11 = .ok (.iconst 1, 1) := by decide +kernel
theorem dTM_isEquation_12 : decode prog_8_method_14_code 12 = .ok (.goto (4), 3) := by decide +kernel
theorem dTM_isEquation_15 : decode prog_8_method_14_code 15 = .ok (.iconst 0, 1) := by decide +kernel
theorem dTM_isEquation_16 : decode prog_8_method_14_code 16 = .ok (.ireturn, 1) := by decide +kernel
theorem c_TM_isEquation {G : sd_G} {o : Nat} {D : fx_D} {h0 : sd_H} {nx r b : Nat} {l : tl_T} {x : Nat × Nat} (hr : r < 73) (hl : tm_row D r l) (hx : l[0]? = some x) (hb2 : b < 2) (hb : b = 1 ↔ x.1 = 9) : sd_Ct G mTM_isEquation 0 0 0 [.ref (o + tmo r)] (fx_h G.1.2 dk_S o D h0) nx (sd_is (some (.int (nI b))) (fx_h G.1.2 dk_S o D h0) nx) := by
  refine sd_Ct_of (by decide) (Nat.le_of_ble_eq_true rfl) ?_
  obtain ⟨q1, q2, q3, q4⟩ := hl.2.2 0 x hx
  refine sd_aload_n dTM_isEquation_0 rfl rfl ?_
  refine fx_getr 7 0 (tmo (r) + 1) dTM_isEquation_1 fTM_9 (dk_tm (by omega)) rfl ?_
  refine sd_iconst (v := nI 0) dTM_isEquation_4 (by decide) ?_
  refine fx_ialdv (v := (nI (x.1))) (0) dTM_isEquation_5 (dk_tm1 (by omega)) rfl (by omega) (by decide) (q1) ?_
  refine sd_bipush (v := nI 9) dTM_isEquation_6 (by decide) ?_
  refine nn_icmp_ne 15 dTM_isEquation_8 (by decide) (by omega) (by omega) (fun c8 => ?_) (fun c8 => ?_)
  ·
    refine sd_iconst (v := nI 0) dTM_isEquation_15 (by decide) ?_
    exact sd_zret dTM_isEquation_16 rfl (nn_01 (by omega)) (Nat.le_refl _) (Nat.le_refl _) ⟨by rw [show b = (0) by omega], rfl, rfl⟩
  ·
    refine sd_iconst (v := nI 1) dTM_isEquation_11 (by decide) ?_
    refine sd_goto 16 dTM_isEquation_12 (by decide) ?_
    exact sd_zret dTM_isEquation_16 rfl (nn_01 (by omega)) (Nat.le_refl _) (Nat.le_refl _) ⟨by rw [show b = (1) by omega], rfl, rfl⟩
