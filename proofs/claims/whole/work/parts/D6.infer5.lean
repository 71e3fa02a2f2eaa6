/-! ===== the class's Inference: typeOf, workOut, firstRefusal ===== -/
def fd (T : Option ft) : Int32 := match T with
  | none => 0
  | some t => if tt_len t ≤ 24 then nI (tt_n t) else -1
theorem fd_ne {t : ft} (h : tt_ok t) : ¬ fd (some t) = 0 := by
  unfold fd
  simp only
  split
  · next h24 =>
    intro e
    have h1 := tt_n_lt h h24
    have h2 := (tt_log t h).2
    have := nI_inj (a := tt_n t) (b := 0) (by omega) (by omega) e
    omega
  · decide
theorem c_TY_jx {G : sd_G} {h : sd_H} {nx : Nat} {a b : ft} (ha : tt_ok a) (hb : tt_ok b) : sd_Ct G mTY_join 1 0 0 [.int (fd (some a)), .int (fd (some b))] h nx (sd_is (some (.int (fd (some (.append a b))))) h nx) := by
  have e : fd (some (.append a b)) = if 1 + tt_len a + tt_len b ≤ 24 then nI (ty_jn (tt_n a) (tt_n b)) else -1 := rfl
  rw [e]
  by_cases h1 : tt_len a ≤ 24
  · by_cases h2 : tt_len b ≤ 24
    · have e1 : fd (some a) = nI (tt_n a) := if_pos h1
      have e2 : fd (some b) = nI (tt_n b) := if_pos h2
      obtain ⟨l1, g1⟩ := tt_log a ha
      obtain ⟨l2, g2⟩ := tt_log b hb
      have c := c_TY_join (G := G) (h := h) (nx := nx) (a := tt_n a) (b := tt_n b) (by omega) (by omega) (tt_n_lt ha h1) (tt_n_lt hb h2)
      rw [e1, e2]
      rw [l1, l2] at c
      by_cases q : tt_len a + tt_len b ≤ 23
      · rw [if_pos q] at c
        rw [if_pos (by omega)]
        exact c
      · rw [if_neg q] at c
        rw [if_neg (by omega)]
        exact c
    · have e2 : fd (some b) = -1 := if_neg h2
      rw [if_neg (by omega), e2]
      exact c_TY_joinX (Or.inr rfl)
  · have e1 : fd (some a) = -1 := if_neg h1
    rw [if_neg (by omega), e1]
    exact c_TY_joinX (Or.inl rfl)
/-- the tree that typeOf finds -/
def ty_o (K L R ρ : Nat → Nat) (T : Nat → Option ft) (n : Nat) : Option ft := if K n = 3 then (match T (ρ (L n)), T (ρ (R n)) with | some a, some b => some (.append a b) | _, _ => none) else if K n = 1 then some .nil else some .line
def wo_D (D : fx_D) (N : Nat) (T : Nat → Option ft) : Prop := ∀ n, n < N → D.1 304 n = fd (T n)
def wo_I (N : Nat) (K L R ρ : Nat → Nat) (T : Nat → Option ft) : Prop := (∀ n t, T n = some t → tt_ok t) ∧ ∀ n, n < N → ρ n = n → ∀ t, T n = some t → (K n = 0 → t = .line) ∧ (K n = 1 → t = .nil) ∧ (K n = 2 → t = .line) ∧ (K n = 3 → ∃ a b, T (ρ (L n)) = some a ∧ T (ρ (R n)) = some b ∧ t = .append a b)
theorem dIN_typeOf_0 : decode prog_5_method_12_code 0 = .ok (.aload_n 0, 1) := by decide +kernel
theorem dIN_typeOf_1 : decode prog_5_method_12_code 1 = .ok (.getfield 15, 3) := by decide +kernel
theorem dIN_typeOf_4 : decode prog_5_method_12_code 4 = .ok (.iload_n 1, 1) := by decide +kernel
theorem dIN_typeOf_5 : decode prog_5_method_12_code 5 = .ok (.iaload, 1) := by decide +kernel
theorem dIN_typeOf_6 : decode prog_5_method_12_code 6 = .ok (.ifCond .ne (5), 3) := by decide +kernel
theorem dIN_typeOf_9 : decode prog_5_method_12_code 9 = .ok (.iconst 5, 1) := by decide +kernel
theorem dIN_typeOf_10 : decode prog_5_method_12_code 10 = .ok (.ireturn, 1) := by decide +kernel
theorem dIN_typeOf_11 : decode prog_5_method_12_code 11 = .ok (.aload_n 0, 1) := by decide +kernel
theorem dIN_typeOf_12 : decode prog_5_method_12_code 12 = .ok (.getfield 15, 3) := by decide +kernel
theorem dIN_typeOf_15 : decode prog_5_method_12_code 15 = .ok (.iload_n 1, 1) := by decide +kernel
theorem dIN_typeOf_16 : decode prog_5_method_12_code 16 = .ok (.iaload, 1) := by decide +kernel
theorem dIN_typeOf_17 : decode prog_5_method_12_code 17 = .ok (.iconst 1, 1) := by decide +kernel
theorem dIN_typeOf_18 : decode prog_5_method_12_code 18 = .ok (.if_icmp .eq (10), 3) := by decide +kernel
theorem dIN_typeOf_21 : decode prog_5_method_12_code 21 = .ok (.aload_n 0, 1) := by decide +kernel
theorem dIN_typeOf_22 : decode prog_5_method_12_code 22 = .ok (.getfield 15, 3) := by decide +kernel
theorem dIN_typeOf_25 : decode prog_5_method_12_code 25 = .ok (.iload_n 1, 1) := by decide +kernel
theorem dIN_typeOf_26 : decode prog_5_method_12_code 26 = .ok (.iaload, 1) := by decide +kernel
theorem dIN_typeOf_27 : decode prog_5_method_12_code 27 = .ok (.ireturn, 1) := by decide +kernel
theorem dIN_typeOf_28 : decode prog_5_method_12_code 28 = .ok (.aload_n 0, 1) := by decide +kernel
theorem dIN_typeOf_29 : decode prog_5_method_12_code 29 = .ok (.getfield 24, 3) := by decide +kernel
theorem dIN_typeOf_32 : decode prog_5_method_12_code 32 = .ok (.aload_n 0, 1) := by decide +kernel
theorem dIN_typeOf_33 : decode prog_5_method_12_code 33 = .ok (.aload_n 0, 1) := by decide +kernel
theorem dIN_typeOf_34 : decode prog_5_method_12_code 34 = .ok (.getfield 18, 3) := by decide +kernel
theorem dIN_typeOf_37 : decode prog_5_method_12_code 37 = .ok (.iload_n 1, 1) := by decide +kernel
theorem dIN_typeOf_38 : decode prog_5_method_12_code 38 = .ok (.iaload, 1) := by decide +kernel
theorem dIN_typeOf_39 : decode prog_5_method_12_code 39 = .ok (.invokevirtual 68, 3) := by decide +kernel
theorem dIN_typeOf_42 : decode prog_5_method_12_code 42 = .ok (.iaload, 1) := by decide +kernel
theorem dIN_typeOf_43 : decode prog_5_method_12_code 43 = .ok (.istore_n 2, 1) := by decide +kernel
theorem dIN_typeOf_44 : decode prog_5_method_12_code 44 = .ok (.aload_n 0, 1) := by decide +kernel
theorem dIN_typeOf_45 : decode prog_5_method_12_code 45 = .ok (.getfield 24, 3) := by decide +kernel
theorem dIN_typeOf_48 : decode prog_5_method_12_code 48 = .ok (.aload_n 0, 1) := by decide +kernel
theorem dIN_typeOf_49 : decode prog_5_method_12_code 49 = .ok (.aload_n 0, 1) := by decide +kernel
theorem dIN_typeOf_50 : decode prog_5_method_12_code 50 = .ok (.getfield 21, 3) := by decide +kernel
theorem dIN_typeOf_53 : decode prog_5_method_12_code 53 = .ok (.iload_n 1, 1) := by decide +kernel
theorem dIN_typeOf_54 : decode prog_5_method_12_code 54 = .ok (.iaload, 1) := by decide +kernel
theorem dIN_typeOf_55 : decode prog_5_method_12_code 55 = .ok (.invokevirtual 68, 3) := by decide +kernel
theorem dIN_typeOf_58 : decode prog_5_method_12_code 58 = .ok (.iaload, 1) := by decide +kernel
theorem dIN_typeOf_59 : decode prog_5_method_12_code 59 = .ok (.istore_n 3, 1) := by decide +kernel
theorem dIN_typeOf_60 : decode prog_5_method_12_code 60 = .ok (.iload_n 2, 1) := by decide +kernel
theorem dIN_typeOf_61 : decode prog_5_method_12_code 61 = .ok (.ifCond .eq (7), 3) := by decide +kernel
theorem dIN_typeOf_64 : decode prog_5_method_12_code 64 = .ok (.iload_n 3, 1) := by decide +kernel
theorem dIN_typeOf_65 : decode prog_5_method_12_code 65 = .ok (.ifCond .ne (7), 3) := by decide +kernel
theorem dIN_typeOf_68 : decode prog_5_method_12_code 68 = .ok (.iconst 0, 1) := by decide +kernel
theorem dIN_typeOf_69 : decode prog_5_method_12_code 69 = .ok (.goto (8), 3) := by decide +kernel
theorem dIN_typeOf_72 : decode prog_5_method_12_code 72 = .ok (.iload_n 2, 1) := by decide +kernel
theorem dIN_typeOf_73 : decode prog_5_method_12_code 73 = .ok (.iload_n 3, 1) := by decide +kernel
theorem dIN_typeOf_74 : decode prog_5_method_12_code 74 = .ok (.invokestatic 110, 3) := by decide +kernel
theorem dIN_typeOf_77 : decode prog_5_method_12_code 77 = .ok (.ireturn, 1) := by decide +kernel
theorem c_IN_typeOf {G : sd_G} {o : Nat} {D : fx_D} {h0 : sd_H} {nx N n : Nat} {K L R lk ρ : Nat → Nat} {T : Nat → Option ft} (hG : in_G D N K L R lk) (hb : in_B N K L R lk) (hr : lkr lk ρ) (hn : n < N) (hD : wo_D D N T) (hok : ∀ n t, T n = some t → tt_ok t) : sd_Ct G mIN_typeOf 2 0 0 [.ref (o + 299), .int (nI n)] (fx_h G.1.2 dk_S o D h0) nx (sd_is (some (.int (fd (ty_o K L R ρ T n)))) (fx_h G.1.2 dk_S o D h0) nx) := by
  refine sd_Ct_of (by decide) (Nat.le_of_ble_eq_true rfl) ?_
  obtain ⟨-, kn, ln⟩ := hG.2 n hn
  have k4 := hb.2.2.2.1 n
  have b2 := hb.2.1
  have lkN := fun m (hm : m < N) => (hb.2.2.1 m hm).1
  rcases (show K n = 0 ∨ K n = 1 ∨ K n = 2 ∨ K n = 3 by omega) with k | k | k | k
  · have e : ty_o K L R ρ T n = some .line := by unfold ty_o; rw [if_neg (by omega), if_neg (by omega)]
    rw [e]
    rw [k] at kn
    refine sd_aload_n dIN_typeOf_0 rfl rfl ?_
    refine fx_getr 4 1 (301) dIN_typeOf_1 fIN_15 rfl rfl ?_
    refine sd_iload_n dIN_typeOf_4 rfl rfl ?_
    refine fx_ialdv (v := (nI (0))) (n) dIN_typeOf_5 rfl rfl (by omega) (by decide) (kn) ?_
    refine nn_if_ne 11 dIN_typeOf_6 (by decide) (by decide) (fun c => absurd c (by decide)) (fun _ => ?_)
    refine sd_iconst (v := nI 5) dIN_typeOf_9 (by decide) ?_
    exact sd_iret dIN_typeOf_10 rfl (Nat.le_refl _) (Nat.le_refl _) ⟨rfl, rfl, rfl⟩
  · have e : ty_o K L R ρ T n = some .nil := by unfold ty_o; rw [if_neg (by omega), if_pos (by omega)]
    rw [e]
    rw [k] at kn
    refine sd_aload_n dIN_typeOf_0 rfl rfl ?_
    refine fx_getr 4 1 (301) dIN_typeOf_1 fIN_15 rfl rfl ?_
    refine sd_iload_n dIN_typeOf_4 rfl rfl ?_
    refine fx_ialdv (v := (nI (4))) (n) dIN_typeOf_5 rfl rfl (by omega) (by decide) (kn) ?_
    refine nn_if_ne 11 dIN_typeOf_6 (by decide) (by decide) (fun _ => ?_) (fun c => absurd c (by decide))
    refine sd_aload_n dIN_typeOf_11 rfl rfl ?_
    refine fx_getr 4 1 (301) dIN_typeOf_12 fIN_15 rfl rfl ?_
    refine sd_iload_n dIN_typeOf_15 rfl rfl ?_
    refine fx_ialdv (v := (nI (4))) (n) dIN_typeOf_16 rfl rfl (by omega) (by decide) (kn) ?_
    refine sd_iconst (v := nI 1) dIN_typeOf_17 (by decide) ?_
    refine nn_icmp_eq 28 dIN_typeOf_18 (by decide) (by decide) (by decide) (fun c => absurd c (by decide)) (fun _ => ?_)
    refine sd_aload_n dIN_typeOf_21 rfl rfl ?_
    refine fx_getr 4 1 (301) dIN_typeOf_22 fIN_15 rfl rfl ?_
    refine sd_iload_n dIN_typeOf_25 rfl rfl ?_
    refine fx_ialdv (v := (nI (4))) (n) dIN_typeOf_26 rfl rfl (by omega) (by decide) (kn) ?_
    exact sd_iret dIN_typeOf_27 rfl (Nat.le_refl _) (Nat.le_refl _) ⟨rfl, rfl, rfl⟩
  · have e : ty_o K L R ρ T n = some .line := by unfold ty_o; rw [if_neg (by omega), if_neg (by omega)]
    rw [e]
    rw [k] at kn
    refine sd_aload_n dIN_typeOf_0 rfl rfl ?_
    refine fx_getr 4 1 (301) dIN_typeOf_1 fIN_15 rfl rfl ?_
    refine sd_iload_n dIN_typeOf_4 rfl rfl ?_
    refine fx_ialdv (v := (nI (5))) (n) dIN_typeOf_5 rfl rfl (by omega) (by decide) (kn) ?_
    refine nn_if_ne 11 dIN_typeOf_6 (by decide) (by decide) (fun _ => ?_) (fun c => absurd c (by decide))
    refine sd_aload_n dIN_typeOf_11 rfl rfl ?_
    refine fx_getr 4 1 (301) dIN_typeOf_12 fIN_15 rfl rfl ?_
    refine sd_iload_n dIN_typeOf_15 rfl rfl ?_
    refine fx_ialdv (v := (nI (5))) (n) dIN_typeOf_16 rfl rfl (by omega) (by decide) (kn) ?_
    refine sd_iconst (v := nI 1) dIN_typeOf_17 (by decide) ?_
    refine nn_icmp_eq 28 dIN_typeOf_18 (by decide) (by decide) (by decide) (fun c => absurd c (by decide)) (fun _ => ?_)
    refine sd_aload_n dIN_typeOf_21 rfl rfl ?_
    refine fx_getr 4 1 (301) dIN_typeOf_22 fIN_15 rfl rfl ?_
    refine sd_iload_n dIN_typeOf_25 rfl rfl ?_
    refine fx_ialdv (v := (nI (5))) (n) dIN_typeOf_26 rfl rfl (by omega) (by decide) (kn) ?_
    exact sd_iret dIN_typeOf_27 rfl (Nat.le_refl _) (Nat.le_refl _) ⟨rfl, rfl, rfl⟩
  · rw [k] at kn
    obtain ⟨l1, r1⟩ := ln k
    obtain ⟨lN, rN⟩ := (hb.2.2.1 n hn).2 k
    have xL := lkr_lt hr lkN lN
    have xR := lkr_lt hr lkN rN
    have fL := hD _ xL
    have fR := hD _ xR
    have cl := c_IN_root (G := G) (o := o) (h0 := h0) (nx := nx) hG hb hr lN
    have cr := c_IN_root (G := G) (o := o) (h0 := h0) (nx := nx) hG hb hr rN
    have e0 : ty_o K L R ρ T n = (match T (ρ (L n)), T (ρ (R n)) with | some a, some b => some (.append a b) | _, _ => none) := by unfold ty_o; rw [if_pos k]
    cases tL : T (ρ (L n)) with
    | none =>
      have e : ty_o K L R ρ T n = none := by rw [e0, tL]
      rw [e]
      rw [tL] at fL
      refine sd_aload_n dIN_typeOf_0 rfl rfl ?_
      refine fx_getr 4 1 (301) dIN_typeOf_1 fIN_15 rfl rfl ?_
      refine sd_iload_n dIN_typeOf_4 rfl rfl ?_
      refine fx_ialdv (v := (nI (1))) (n) dIN_typeOf_5 rfl rfl (by omega) (by decide) (kn) ?_
      refine nn_if_ne 11 dIN_typeOf_6 (by decide) (by decide) (fun _ => ?_) (fun c => absurd c (by decide))
      refine sd_aload_n dIN_typeOf_11 rfl rfl ?_
      refine fx_getr 4 1 (301) dIN_typeOf_12 fIN_15 rfl rfl ?_
      refine sd_iload_n dIN_typeOf_15 rfl rfl ?_
      refine fx_ialdv (v := (nI (1))) (n) dIN_typeOf_16 rfl rfl (by omega) (by decide) (kn) ?_
      refine sd_iconst (v := nI 1) dIN_typeOf_17 (by decide) ?_
      refine nn_icmp_eq 28 dIN_typeOf_18 (by decide) (by decide) (by decide) (fun _ => ?_) (fun c => absurd c (by decide))
      refine sd_aload_n dIN_typeOf_28 rfl rfl ?_
      refine fx_getr 4 4 (304) dIN_typeOf_29 fIN_24 rfl rfl ?_
      refine sd_aload_n dIN_typeOf_32 rfl rfl ?_
      refine sd_aload_n dIN_typeOf_33 rfl rfl ?_
      refine fx_getr 4 2 (302) dIN_typeOf_34 fIN_18 rfl rfl ?_
      refine sd_iload_n dIN_typeOf_37 rfl rfl ?_
      refine fx_ialdv (v := (nI (L n))) (n) dIN_typeOf_38 rfl rfl (by omega) (by decide) (l1) ?_
      refine fx_cV 4 sR_IN [.int (nI (L n))] [.ref (o + (304))] dIN_typeOf_39 kIN_68 rfl rfl mIN_root_v (cl) (by decide) (Nat.le_refl _) (Nat.le_refl _) (Nat.le_of_ble_eq_true rfl) rfl ?_
      refine fx_ialdv (v := (nI (0))) (ρ (L n)) dIN_typeOf_42 rfl rfl (by omega) (by decide) (fL) ?_
      refine sd_istore_n dIN_typeOf_43 rfl (by decide) ?_
      refine sd_aload_n dIN_typeOf_44 rfl rfl ?_
      refine fx_getr 4 4 (304) dIN_typeOf_45 fIN_24 rfl rfl ?_
      refine sd_aload_n dIN_typeOf_48 rfl rfl ?_
      refine sd_aload_n dIN_typeOf_49 rfl rfl ?_
      refine fx_getr 4 3 (303) dIN_typeOf_50 fIN_21 rfl rfl ?_
      refine sd_iload_n dIN_typeOf_53 rfl rfl ?_
      refine fx_ialdv (v := (nI (R n))) (n) dIN_typeOf_54 rfl rfl (by omega) (by decide) (r1) ?_
      refine fx_cV 4 sR_IN [.int (nI (R n))] [.ref (o + (304))] dIN_typeOf_55 kIN_68 rfl rfl mIN_root_v (cr) (by decide) (Nat.le_refl _) (Nat.le_refl _) (Nat.le_of_ble_eq_true rfl) rfl ?_
      refine fx_ialdv (v := (fd (T (ρ (R n))))) (ρ (R n)) dIN_typeOf_58 rfl rfl (by omega) (by decide) (fR) ?_
      refine sd_istore_n dIN_typeOf_59 rfl (by decide) ?_
      refine sd_iload_n dIN_typeOf_60 rfl rfl ?_
      refine nn_if_eq 68 dIN_typeOf_61 (by decide) (by decide) (fun _ => ?_) (fun c => absurd c (by decide))
      refine sd_iconst (v := nI 0) dIN_typeOf_68 (by decide) ?_
      refine sd_goto 77 dIN_typeOf_69 (by decide) ?_
      exact sd_iret dIN_typeOf_77 rfl (Nat.le_refl _) (Nat.le_refl _) ⟨rfl, rfl, rfl⟩
    | some a =>
      have ha := hok _ _ tL
      have na := fd_ne ha
      rw [tL] at fL
      cases tR : T (ρ (R n)) with
      | none =>
        have e : ty_o K L R ρ T n = none := by rw [e0, tL, tR]
        rw [e]
        rw [tR] at fR
        refine sd_aload_n dIN_typeOf_0 rfl rfl ?_
        refine fx_getr 4 1 (301) dIN_typeOf_1 fIN_15 rfl rfl ?_
        refine sd_iload_n dIN_typeOf_4 rfl rfl ?_
        refine fx_ialdv (v := (nI (1))) (n) dIN_typeOf_5 rfl rfl (by omega) (by decide) (kn) ?_
        refine nn_if_ne 11 dIN_typeOf_6 (by decide) (by decide) (fun _ => ?_) (fun c => absurd c (by decide))
        refine sd_aload_n dIN_typeOf_11 rfl rfl ?_
        refine fx_getr 4 1 (301) dIN_typeOf_12 fIN_15 rfl rfl ?_
        refine sd_iload_n dIN_typeOf_15 rfl rfl ?_
        refine fx_ialdv (v := (nI (1))) (n) dIN_typeOf_16 rfl rfl (by omega) (by decide) (kn) ?_
        refine sd_iconst (v := nI 1) dIN_typeOf_17 (by decide) ?_
        refine nn_icmp_eq 28 dIN_typeOf_18 (by decide) (by decide) (by decide) (fun _ => ?_) (fun c => absurd c (by decide))
        refine sd_aload_n dIN_typeOf_28 rfl rfl ?_
        refine fx_getr 4 4 (304) dIN_typeOf_29 fIN_24 rfl rfl ?_
        refine sd_aload_n dIN_typeOf_32 rfl rfl ?_
        refine sd_aload_n dIN_typeOf_33 rfl rfl ?_
        refine fx_getr 4 2 (302) dIN_typeOf_34 fIN_18 rfl rfl ?_
        refine sd_iload_n dIN_typeOf_37 rfl rfl ?_
        refine fx_ialdv (v := (nI (L n))) (n) dIN_typeOf_38 rfl rfl (by omega) (by decide) (l1) ?_
        refine fx_cV 4 sR_IN [.int (nI (L n))] [.ref (o + (304))] dIN_typeOf_39 kIN_68 rfl rfl mIN_root_v (cl) (by decide) (Nat.le_refl _) (Nat.le_refl _) (Nat.le_of_ble_eq_true rfl) rfl ?_
        refine fx_ialdv (v := (fd (some a))) (ρ (L n)) dIN_typeOf_42 rfl rfl (by omega) (by decide) (fL) ?_
        refine sd_istore_n dIN_typeOf_43 rfl (by decide) ?_
        refine sd_aload_n dIN_typeOf_44 rfl rfl ?_
        refine fx_getr 4 4 (304) dIN_typeOf_45 fIN_24 rfl rfl ?_
        refine sd_aload_n dIN_typeOf_48 rfl rfl ?_
        refine sd_aload_n dIN_typeOf_49 rfl rfl ?_
        refine fx_getr 4 3 (303) dIN_typeOf_50 fIN_21 rfl rfl ?_
        refine sd_iload_n dIN_typeOf_53 rfl rfl ?_
        refine fx_ialdv (v := (nI (R n))) (n) dIN_typeOf_54 rfl rfl (by omega) (by decide) (r1) ?_
        refine fx_cV 4 sR_IN [.int (nI (R n))] [.ref (o + (304))] dIN_typeOf_55 kIN_68 rfl rfl mIN_root_v (cr) (by decide) (Nat.le_refl _) (Nat.le_refl _) (Nat.le_of_ble_eq_true rfl) rfl ?_
        refine fx_ialdv (v := (nI (0))) (ρ (R n)) dIN_typeOf_58 rfl rfl (by omega) (by decide) (fR) ?_
        refine sd_istore_n dIN_typeOf_59 rfl (by decide) ?_
        refine sd_iload_n dIN_typeOf_60 rfl rfl ?_
        refine sd_if_eq 68 dIN_typeOf_61 (by decide) (fun c61 => ?_) (fun c61 => ?_)
        ·
          refine sd_iconst (v := nI 0) dIN_typeOf_68 (by decide) ?_
          refine sd_goto 77 dIN_typeOf_69 (by decide) ?_
          exact sd_iret dIN_typeOf_77 rfl (Nat.le_refl _) (Nat.le_refl _) ⟨rfl, rfl, rfl⟩
        ·
          refine sd_iload_n dIN_typeOf_64 rfl rfl ?_
          refine nn_if_ne 72 dIN_typeOf_65 (by decide) (by decide) (fun c => absurd c (by decide)) (fun _ => ?_)
          refine sd_iconst (v := nI 0) dIN_typeOf_68 (by decide) ?_
          refine sd_goto 77 dIN_typeOf_69 (by decide) ?_
          exact sd_iret dIN_typeOf_77 rfl (Nat.le_refl _) (Nat.le_refl _) ⟨rfl, rfl, rfl⟩
      | some b =>
        have hb' := hok _ _ tR
        have nb := fd_ne hb'
        have e : ty_o K L R ρ T n = some (.append a b) := by rw [e0, tL, tR]
        rw [e]
        rw [tR] at fR
        refine sd_aload_n dIN_typeOf_0 rfl rfl ?_
        refine fx_getr 4 1 (301) dIN_typeOf_1 fIN_15 rfl rfl ?_
        refine sd_iload_n dIN_typeOf_4 rfl rfl ?_
        refine fx_ialdv (v := (nI (1))) (n) dIN_typeOf_5 rfl rfl (by omega) (by decide) (kn) ?_
        refine nn_if_ne 11 dIN_typeOf_6 (by decide) (by decide) (fun _ => ?_) (fun c => absurd c (by decide))
        refine sd_aload_n dIN_typeOf_11 rfl rfl ?_
        refine fx_getr 4 1 (301) dIN_typeOf_12 fIN_15 rfl rfl ?_
        refine sd_iload_n dIN_typeOf_15 rfl rfl ?_
        refine fx_ialdv (v := (nI (1))) (n) dIN_typeOf_16 rfl rfl (by omega) (by decide) (kn) ?_
        refine sd_iconst (v := nI 1) dIN_typeOf_17 (by decide) ?_
        refine nn_icmp_eq 28 dIN_typeOf_18 (by decide) (by decide) (by decide) (fun _ => ?_) (fun c => absurd c (by decide))
        refine sd_aload_n dIN_typeOf_28 rfl rfl ?_
        refine fx_getr 4 4 (304) dIN_typeOf_29 fIN_24 rfl rfl ?_
        refine sd_aload_n dIN_typeOf_32 rfl rfl ?_
        refine sd_aload_n dIN_typeOf_33 rfl rfl ?_
        refine fx_getr 4 2 (302) dIN_typeOf_34 fIN_18 rfl rfl ?_
        refine sd_iload_n dIN_typeOf_37 rfl rfl ?_
        refine fx_ialdv (v := (nI (L n))) (n) dIN_typeOf_38 rfl rfl (by omega) (by decide) (l1) ?_
        refine fx_cV 4 sR_IN [.int (nI (L n))] [.ref (o + (304))] dIN_typeOf_39 kIN_68 rfl rfl mIN_root_v (cl) (by decide) (Nat.le_refl _) (Nat.le_refl _) (Nat.le_of_ble_eq_true rfl) rfl ?_
        refine fx_ialdv (v := (fd (some a))) (ρ (L n)) dIN_typeOf_42 rfl rfl (by omega) (by decide) (fL) ?_
        refine sd_istore_n dIN_typeOf_43 rfl (by decide) ?_
        refine sd_aload_n dIN_typeOf_44 rfl rfl ?_
        refine fx_getr 4 4 (304) dIN_typeOf_45 fIN_24 rfl rfl ?_
        refine sd_aload_n dIN_typeOf_48 rfl rfl ?_
        refine sd_aload_n dIN_typeOf_49 rfl rfl ?_
        refine fx_getr 4 3 (303) dIN_typeOf_50 fIN_21 rfl rfl ?_
        refine sd_iload_n dIN_typeOf_53 rfl rfl ?_
        refine fx_ialdv (v := (nI (R n))) (n) dIN_typeOf_54 rfl rfl (by omega) (by decide) (r1) ?_
        refine fx_cV 4 sR_IN [.int (nI (R n))] [.ref (o + (304))] dIN_typeOf_55 kIN_68 rfl rfl mIN_root_v (cr) (by decide) (Nat.le_refl _) (Nat.le_refl _) (Nat.le_of_ble_eq_true rfl) rfl ?_
        refine fx_ialdv (v := (fd (some b))) (ρ (R n)) dIN_typeOf_58 rfl rfl (by omega) (by decide) (fR) ?_
        refine sd_istore_n dIN_typeOf_59 rfl (by decide) ?_
        refine sd_iload_n dIN_typeOf_60 rfl rfl ?_
        refine sd_if_eq 68 dIN_typeOf_61 (by decide) (fun c61 => ?_) (fun c61 => ?_)
        ·
          exact absurd c61 na
        ·
          refine sd_iload_n dIN_typeOf_64 rfl rfl ?_
          refine sd_if_ne 72 dIN_typeOf_65 (by decide) (fun c65 => ?_) (fun c65 => ?_)
          ·
            refine sd_iload_n dIN_typeOf_72 rfl rfl ?_
            refine sd_iload_n dIN_typeOf_73 rfl rfl ?_
            refine sd_cS [.int (fd (some a)), .int (fd (some b))] [] dIN_typeOf_74 kIN_110 mTY_join_s (c_TY_jx ha hb') (by decide) (Nat.le_refl _) (Nat.le_refl _) (Nat.le_of_ble_eq_true rfl) rfl ?_
            exact sd_iret dIN_typeOf_77 rfl (Nat.le_refl _) (Nat.le_refl _) ⟨rfl, rfl, rfl⟩
          ·
            exact absurd c65 nb
theorem in_G_304 {D : fx_D} {N i : Nat} {v : Int32} {K L R lk : Nat → Nat} (h : in_G D N K L R lk) : in_G (fx_ua D 304 i v) N K L R lk := ⟨h.1, fun n hn => by simpa [fx_ua] using h.2 n hn⟩
theorem f_304 {D : fx_D} {i : Nat} {v : Int32} : in_f D (fx_ua D 304 i v) := fun z hz => ag_ua (by omega)
theorem wo_D_set {D : fx_D} {N j : Nat} {T : Nat → Option ft} {t : Option ft} (h : wo_D D N T) : wo_D (fx_ua D 304 j (fd t)) N (upN T j t) := fun n hn => by
  by_cases e : n = j
  · subst e
    simp [fx_ua, upd, upN]
  · simpa [fx_ua, upd, upN, e] using h n hn
def wo_c (N : Nat) (ρ : Nat → Nat) (T : Nat → Option ft) : Nat := cn_r N (fun n => decide (ρ n = n) && (T n).isNone)
def wo_st (N : Nat) (K L R ρ : Nat → Nat) (T : Nat → Option ft) : Prop := ∀ n, n < N → ρ n = n → T n = none → ty_o K L R ρ T n = none
theorem wo_I_set {N j : Nat} {K L R ρ : Nat → Nat} {T : Nat → Option ft} {t : ft} (h : wo_I N K L R ρ T) (hj : T j = none) (ht : ty_o K L R ρ T j = some t) : wo_I N K L R ρ (upN T j (some t)) := by
  have mono : ∀ n u, T n = some u → upN T j (some t) n = some u := fun n u hu => by
    have : n ≠ j := fun e => by rw [e, hj] at hu; cases hu
    simp only [upN, this, if_false]
    exact hu
  have tp : tt_ok t ∧ (K j = 0 → t = .line) ∧ (K j = 1 → t = .nil) ∧ (K j = 2 → t = .line) ∧ (K j = 3 → ∃ a b, T (ρ (L j)) = some a ∧ T (ρ (R j)) = some b ∧ t = .append a b) := by
    unfold ty_o at ht
    by_cases k3 : K j = 3
    · rw [if_pos k3] at ht
      cases tL : T (ρ (L j)) with
      | none => rw [tL] at ht; cases ht
      | some a =>
        cases tR : T (ρ (R j)) with
        | none => rw [tL, tR] at ht; cases ht
        | some b =>
          rw [tL, tR] at ht
          cases ht
          exact ⟨⟨h.1 _ _ tL, h.1 _ _ tR⟩, fun q => by omega, fun q => by omega, fun q => by omega, fun _ => ⟨a, b, rfl, rfl, rfl⟩⟩
    · rw [if_neg k3] at ht
      by_cases k1 : K j = 1
      · rw [if_pos k1] at ht
        cases ht
        exact ⟨trivial, fun q => by omega, fun _ => rfl, fun q => by omega, fun q => by omega⟩
      · rw [if_neg k1] at ht
        cases ht
        exact ⟨trivial, fun _ => rfl, fun q => by omega, fun _ => rfl, fun q => by omega⟩
  refine ⟨fun n u hu => ?_, fun n hn hρ u hu => ?_⟩
  · by_cases e : n = j
    · subst e
      simp only [upN, if_true] at hu
      cases hu
      exact tp.1
    · simp only [upN, e, if_false] at hu
      exact h.1 n u hu
  · by_cases e : n = j
    · subst e
      simp only [upN, if_true] at hu
      cases hu
      obtain ⟨-, q1, q2, q3, q4⟩ := tp
      refine ⟨q1, q2, q3, fun k => ?_⟩
      obtain ⟨a, b, e1, e2, e3⟩ := q4 k
      exact ⟨a, b, mono _ _ e1, mono _ _ e2, e3⟩
    · simp only [upN, e, if_false] at hu
      obtain ⟨q1, q2, q3, q4⟩ := h.2 n hn hρ u hu
      refine ⟨q1, q2, q3, fun k => ?_⟩
      obtain ⟨a, b, e1, e2, e3⟩ := q4 k
      exact ⟨a, b, mono _ _ e1, mono _ _ e2, e3⟩
theorem wo_c_set {N j : Nat} {ρ : Nat → Nat} {T : Nat → Option ft} {t : ft} (hj : j < N) (hρ : ρ j = j) (h : T j = none) : wo_c N ρ (upN T j (some t)) < wo_c N ρ T := by
  refine cn_r_lt (x := j) (fun n q => ?_) ?_ ?_ N hj
  · simp only [Bool.and_eq_true, decide_eq_true_eq] at q ⊢
    refine ⟨q.1, ?_⟩
    by_cases e : n = j
    · subst e
      rw [h]
      rfl
    · have := q.2
      simp only [upN, e, if_false] at this
      exact this
  · simp [upN]
  · simp [hρ, h]
def wo_P (N : Nat) (K L R lk ρ : Nat → Nat) (D D' : fx_D) : Prop := ∃ T, wo_I N K L R ρ T ∧ wo_D D' N T ∧ wo_st N K L R ρ T ∧ in_G D' N K L R lk ∧ in_f D D'
theorem dIN_workOut_0 : decode prog_5_method_11_code 0 = .ok (.iconst 0, 1) := by decide +kernel
theorem dIN_workOut_1 : decode prog_5_method_11_code 1 = .ok (.istore_n 1, 1) := by decide +kernel
theorem dIN_workOut_2 : decode prog_5_method_11_code 2 = .ok (.iload_n 1, 1) := by decide +kernel
theorem dIN_workOut_3 : decode prog_5_method_11_code 3 = .ok (.aload_n 0, 1) := by decide +kernel
theorem dIN_workOut_4 : decode prog_5_method_11_code 4 = .ok (.getfield 74, 3) := by decide +kernel
theorem dIN_workOut_7 : decode prog_5_method_11_code 7 = .ok (.if_icmp .ge (16), 3) := by decide +kernel
theorem dIN_workOut_10 : decode prog_5_method_11_code 10 = .ok (.aload_n 0, 1) := by decide +kernel
theorem dIN_workOut_11 : decode prog_5_method_11_code 11 = .ok (.getfield 24, 3) := by decide +kernel
theorem dIN_workOut_14 : decode prog_5_method_11_code 14 = .ok (.iload_n 1, 1) := by decide +kernel
theorem dIN_workOut_15 : decode prog_5_method_11_code 15 = .ok (.iconst 0, 1) := by decide +kernel
theorem dIN_workOut_16 : decode prog_5_method_11_code 16 = .ok (.iastore, 1) := by decide +kernel
theorem dIN_workOut_17 : decode prog_5_method_11_code 17 = .ok (.iinc 1 (1), 3) := by decide +kernel
theorem dIN_workOut_20 : decode prog_5_method_11_code 20 = .ok (.goto (-18), 3) := by decide +kernel
theorem dIN_workOut_23 : decode prog_5_method_11_code 23 = .ok (.iconst 1, 1) := by decide +kernel
theorem dIN_workOut_24 : decode prog_5_method_11_code 24 = .ok (.istore_n 1, 1) := by decide +kernel
theorem dIN_workOut_25 : decode prog_5_method_11_code 25 = .ok (.iconst 0, 1) := by decide +kernel
theorem dIN_workOut_26 : decode prog_5_method_11_code 26 = .ok (.istore_n 2, 1) := by decide +kernel
theorem dIN_workOut_27 : decode prog_5_method_11_code 27 = .ok (.iload_n 2, 1) := by decide +kernel
theorem dIN_workOut_28 : decode prog_5_method_11_code 28 = .ok (.aload_n 0, 1) := by decide +kernel
theorem dIN_workOut_29 : decode prog_5_method_11_code 29 = .ok (.getfield 74, 3) := by decide +kernel
theorem dIN_workOut_32 : decode prog_5_method_11_code 32 = .ok (.if_icmp .ge (72), 3) := by decide +kernel
theorem dIN_workOut_35 : decode prog_5_method_11_code 35 = .ok (.iload_n 1, 1) := by decide +kernel
theorem dIN_workOut_36 : decode prog_5_method_11_code 36 = .ok (.ifCond .eq (68), 3) := by decide +kernel
theorem dIN_workOut_39 : decode prog_5_method_11_code 39 = .ok (.iconst 0, 1) := by decide +kernel
theorem dIN_workOut_40 : decode prog_5_method_11_code 40 = .ok (.istore_n 1, 1) := by decide +kernel
theorem dIN_workOut_41 : decode prog_5_method_11_code 41 = .ok (.iconst 0, 1) := by decide +kernel
theorem dIN_workOut_42 : decode prog_5_method_11_code 42 = .ok (.istore_n 3, 1) := by decide +kernel
theorem dIN_workOut_43 : decode prog_5_method_11_code 43 = .ok (.iload_n 3, 1) := by decide +kernel
theorem dIN_workOut_44 : decode prog_5_method_11_code 44 = .ok (.aload_n 0, 1) := by decide +kernel
theorem dIN_workOut_45 : decode prog_5_method_11_code 45 = .ok (.getfield 74, 3) := by decide +kernel
theorem dIN_workOut_48 : decode prog_5_method_11_code 48 = .ok (.if_icmp .ge (50), 3) := by decide +kernel
theorem dIN_workOut_51 : decode prog_5_method_11_code 51 = .ok (.aload_n 0, 1) := by decide +kernel
theorem dIN_workOut_52 : decode prog_5_method_11_code 52 = .ok (.getfield 11, 3) := by decide +kernel
theorem dIN_workOut_55 : decode prog_5_method_11_code 55 = .ok (.iload_n 3, 1) := by decide +kernel
theorem dIN_workOut_56 : decode prog_5_method_11_code 56 = .ok (.iaload, 1) := by decide +kernel
theorem dIN_workOut_57 : decode prog_5_method_11_code 57 = .ok (.iload_n 3, 1) := by decide +kernel
theorem dIN_workOut_58 : decode prog_5_method_11_code 58 = .ok (.if_icmp .ne (34), 3) := by decide +kernel
theorem dIN_workOut_61 : decode prog_5_method_11_code 61 = .ok (.aload_n 0, 1) := by decide +kernel
theorem dIN_workOut_62 : decode prog_5_method_11_code 62 = .ok (.getfield 24, 3) := by decide +kernel
theorem dIN_workOut_65 : decode prog_5_method_11_code 65 = .ok (.iload_n 3, 1) := by decide +kernel
theorem dIN_workOut_66 : decode prog_5_method_11_code 66 = .ok (.iaload, 1) := by decide +kernel
theorem dIN_workOut_67 : decode prog_5_method_11_code 67 = .ok (.ifCond .ne (25), 3) := by decide +kernel
theorem dIN_workOut_70 : decode prog_5_method_11_code 70 = .ok (.aload_n 0, 1) := by decide +kernel
theorem dIN_workOut_71 : decode prog_5_method_11_code 71 = .ok (.getfield 24, 3) := by decide +kernel
theorem dIN_workOut_74 : decode prog_5_method_11_code 74 = .ok (.iload_n 3, 1) := by decide +kernel
theorem dIN_workOut_75 : decode prog_5_method_11_code 75 = .ok (.aload_n 0, 1) := by decide +kernel
theorem dIN_workOut_76 : decode prog_5_method_11_code 76 = .ok (.iload_n 3, 1) := by decide +kernel
theorem dIN_workOut_77 : decode prog_5_method_11_code 77 = .ok (.invokevirtual 107, 3) := by decide +kernel
theorem dIN_workOut_80 : decode prog_5_method_11_code 80 = .ok (.iastore, 1) := by decide +kernel
theorem dIN_workOut_81 : decode prog_5_method_11_code 81 = .ok (.aload_n 0, 1) := by decide +kernel
theorem dIN_workOut_82 : decode prog_5_method_11_code 82 = .ok (.getfield 24, 3) := by decide +kernel
theorem dIN_workOut_85 : decode prog_5_method_11_code 85 = .ok (.iload_n 3, 1) := by decide +kernel
theorem dIN_workOut_86 : decode prog_5_method_11_code 86 = .ok (.iaload, 1) := by decide +kernel
theorem dIN_workOut_87 : decode prog_5_method_11_code 87 = .ok (.ifCond .eq (5), 3) := by decide +kernel
theorem dIN_workOut_90 : decode prog_5_method_11_code 90 = .ok (.iconst 1, 1) := by decide +kernel
theorem dIN_workOut_91 : decode prog_5_method_11_code 91 = .ok (.istore_n 1, 1) := by decide +kernel
theorem dIN_workOut_92 : decode prog_5_method_11_code 92 = .ok (.iinc 3 (1), 3) := by decide +kernel
theorem dIN_workOut_95 : decode prog_5_method_11_code 95 = .ok (.goto (-52), 3) := by decide +kernel
theorem dIN_workOut_98 : decode prog_5_method_11_code 98 = .ok (.iinc 2 (1), 3) := by decide +kernel
theorem dIN_workOut_101 : decode prog_5_method_11_code 101 = .ok (.goto (-74), 3) := by decide +kernel
theorem dIN_workOut_104 : decode prog_5_method_11_code 104 = .ok (.return_, 1) := by decide +kernel
theorem l_IN_wo2 {G : sd_G} {o : Nat} {D0 : fx_D} {h0 : sd_H} {nx N rd : Nat} {K L R lk ρ : Nat → Nat} {Q : sd_Q} {T0 : Nat → Option ft} (hB : G.2.1 ≤ o) (hb : in_B N K L R lk) (hr : lkr lk ρ) (hrd : rd < 1000) (kk : ∀ (T : Nat → Option ft) (D : fx_D) (c : Nat), wo_I N K L R ρ T → wo_D D N T → in_G D N K L R lk → in_f D0 D → ((c = 0 ∧ wo_st N K L R ρ T) ∨ (c = 1 ∧ wo_c N ρ T < wo_c N ρ T0)) → sd_W G mIN_workOut 3 0 0 Q 27 [(0, .ref (o + 299)), (1, .int (nI c)), (2, .int (nI (rd + 1)))] [] (fx_h G.1.2 dk_S o D h0) nx 0 0) : ∀ (m j c : Nat) (T : Nat → Option ft) (D : fx_D), j + m = N → wo_I N K L R ρ T → wo_D D N T → in_G D N K L R lk → in_f D0 D → ((c = 0 ∧ T = T0 ∧ ∀ i, i < j → ρ i = i → T i = none → ty_o K L R ρ T i = none) ∨ (c = 1 ∧ wo_c N ρ T < wo_c N ρ T0)) → sd_W G mIN_workOut 3 0 0 Q 43 [(0, .ref (o + 299)), (1, .int (nI c)), (2, .int (nI rd)), (3, .int (nI j))] [] (fx_h G.1.2 dk_S o D h0) nx 0 0 := by
  have b2 := hb.2.1
  intro m
  induction m with
  | zero =>
    intro j c T D hj hI hD hG hf hc
    have K' := kk T D c hI hD hG hf (by
      rcases hc with ⟨c0, -, h⟩ | h
      · exact Or.inl ⟨c0, fun n hn => h n (by omega)⟩
      · exact Or.inr h)
    refine sd_iload_n dIN_workOut_43 rfl rfl ?_
    refine sd_aload_n dIN_workOut_44 rfl rfl ?_
    refine fx_getiv (v := (nI (N))) 4 7 dIN_workOut_45 fIN_74 rfl rfl (hG.1) ?_
    refine nn_icmp_ge 98 dIN_workOut_48 (by decide) (by omega) (by omega) (fun c48 => ?_) (fun c48 => ?_)
    ·
      refine nn_iinc 1 dIN_workOut_98 rfl (by decide) ?_
      refine sd_goto 27 dIN_workOut_101 (by decide) ?_
      refine sd_locp (al' := [(0, .ref (o + (299))), (1, .int (nI (c))), (2, .int (nI (rd + 1)))]) [1, 2, 0] rfl ?_
      exact K'
    ·
      exact absurd c48 (by omega)
  | succ m ih =>
    intro j c T D hj hI hD hG hf hc
    have hjN : j < N := by omega
    obtain ⟨lj, -, -⟩ := hG.2 j hjN
    have ljN := (hb.2.2.1 j hjN).1
    have fj := hD j hjN
    by_cases hroot : lk j = j
    · have hρ : ρ j = j := hr.fix.mpr hroot
      rw [hroot] at lj
      cases tj : T j with
      | none =>
        rw [tj] at fj
        have ct := c_IN_typeOf (G := G) (o := o) (h0 := h0) (nx := nx) hG hb hr hjN hD hI.1
        cases ho : ty_o K L R ρ T j with
        | none =>
          rw [ho] at ct
          have same : upN T j none = T := by
            funext n
            unfold upN
            split
            · next e => rw [e, tj]
            · rfl
          have hD' := wo_D_set (j := j) (t := none) hD
          rw [same] at hD'
          have hc' : (c = 0 ∧ T = T0 ∧ ∀ i, i < j + 1 → ρ i = i → T i = none → ty_o K L R ρ T i = none) ∨ (c = 1 ∧ wo_c N ρ T < wo_c N ρ T0) := by
            rcases hc with ⟨c0, e, h⟩ | h
            · exact Or.inl ⟨c0, e, fun i hi h1 h2 => by
                by_cases q : i = j
                · subst q
                  exact ho
                · exact h i (by omega) h1 h2⟩
            · exact Or.inr h
          refine sd_iload_n dIN_workOut_43 rfl rfl ?_
          refine sd_aload_n dIN_workOut_44 rfl rfl ?_
          refine fx_getiv (v := (nI (N))) 4 7 dIN_workOut_45 fIN_74 rfl rfl (hG.1) ?_
          refine nn_icmp_ge 98 dIN_workOut_48 (by decide) (by omega) (by omega) (fun c48 => ?_) (fun c48 => ?_)
          ·
            exact absurd c48 (by omega)
          ·
            refine sd_aload_n dIN_workOut_51 rfl rfl ?_
            refine fx_getr 4 0 (300) dIN_workOut_52 fIN_11 rfl rfl ?_
            refine sd_iload_n dIN_workOut_55 rfl rfl ?_
            refine fx_ialdv (v := (nI (j))) (j) dIN_workOut_56 rfl rfl (by omega) (by decide) (lj) ?_
            refine sd_iload_n dIN_workOut_57 rfl rfl ?_
            refine nn_icmp_ne 92 dIN_workOut_58 (by decide) (by omega) (by omega) (fun c58 => ?_) (fun c58 => ?_)
            ·
              exact absurd rfl c58
            ·
              refine sd_aload_n dIN_workOut_61 rfl rfl ?_
              refine fx_getr 4 4 (304) dIN_workOut_62 fIN_24 rfl rfl ?_
              refine sd_iload_n dIN_workOut_65 rfl rfl ?_
              refine fx_ialdv (v := (nI (0))) (j) dIN_workOut_66 rfl rfl (by omega) (by decide) (fj) ?_
              refine nn_if_ne 92 dIN_workOut_67 (by decide) (by decide) (fun c => absurd c (by decide)) (fun _ => ?_)
              refine sd_aload_n dIN_workOut_70 rfl rfl ?_
              refine fx_getr 4 4 (304) dIN_workOut_71 fIN_24 rfl rfl ?_
              refine sd_iload_n dIN_workOut_74 rfl rfl ?_
              refine sd_aload_n dIN_workOut_75 rfl rfl ?_
              refine sd_iload_n dIN_workOut_76 rfl rfl ?_
              refine fx_cV 4 sR_IN [.int (nI (j))] [.int (nI (j)), .ref (o + (304))] dIN_workOut_77 kIN_107 rfl rfl mIN_typeOf_v (ct) (by decide) (Nat.le_refl _) (Nat.le_refl _) (Nat.le_of_ble_eq_true rfl) rfl ?_
              refine fx_iast (j) dIN_workOut_80 rfl rfl (by omega) (by decide) hB ?_
              refine sd_aload_n dIN_workOut_81 rfl rfl ?_
              refine fx_getr 4 4 (304) dIN_workOut_82 fIN_24 rfl rfl ?_
              refine sd_iload_n dIN_workOut_85 rfl rfl ?_
              refine fx_ialdv (v := (nI (0))) (j) dIN_workOut_86 rfl rfl (by omega) (by decide) ((by simp only [fx_ua, upd, if_true, fd]; rfl)) ?_
              refine nn_if_eq 92 dIN_workOut_87 (by decide) (by decide) (fun _ => ?_) (fun c => absurd c (by decide))
              refine nn_iinc 1 dIN_workOut_92 rfl (by decide) ?_
              refine sd_goto 43 dIN_workOut_95 (by decide) ?_
              refine sd_locp (al' := [(0, .ref (o + (299))), (1, .int (nI (c))), (2, .int (nI (rd))), (3, .int (nI (j + 1)))]) [1, 2, 3, 0] rfl ?_
              exact ih (j + 1) c T _ (by omega) hI hD' (in_G_304 hG) (hf.tr f_304) hc'
        | some t =>
          rw [ho] at ct
          have hI' := wo_I_set hI tj ho
          have hD' := wo_D_set (j := j) (t := some t) hD
          have nz := fd_ne (hI'.1 j t (by simp [upN]))
          have clt := wo_c_set (t := t) hjN hρ tj
          have clt' : wo_c N ρ (upN T j (some t)) < wo_c N ρ T0 := by
            rcases hc with ⟨-, e, -⟩ | ⟨-, h⟩
            · rw [← e]
              exact clt
            · omega
          refine sd_iload_n dIN_workOut_43 rfl rfl ?_
          refine sd_aload_n dIN_workOut_44 rfl rfl ?_
          refine fx_getiv (v := (nI (N))) 4 7 dIN_workOut_45 fIN_74 rfl rfl (hG.1) ?_
          refine nn_icmp_ge 98 dIN_workOut_48 (by decide) (by omega) (by omega) (fun c48 => ?_) (fun c48 => ?_)
          ·
            exact absurd c48 (by omega)
          ·
            refine sd_aload_n dIN_workOut_51 rfl rfl ?_
            refine fx_getr 4 0 (300) dIN_workOut_52 fIN_11 rfl rfl ?_
            refine sd_iload_n dIN_workOut_55 rfl rfl ?_
            refine fx_ialdv (v := (nI (j))) (j) dIN_workOut_56 rfl rfl (by omega) (by decide) (lj) ?_
            refine sd_iload_n dIN_workOut_57 rfl rfl ?_
            refine nn_icmp_ne 92 dIN_workOut_58 (by decide) (by omega) (by omega) (fun c58 => ?_) (fun c58 => ?_)
            ·
              exact absurd rfl c58
            ·
              refine sd_aload_n dIN_workOut_61 rfl rfl ?_
              refine fx_getr 4 4 (304) dIN_workOut_62 fIN_24 rfl rfl ?_
              refine sd_iload_n dIN_workOut_65 rfl rfl ?_
              refine fx_ialdv (v := (nI (0))) (j) dIN_workOut_66 rfl rfl (by omega) (by decide) (fj) ?_
              refine nn_if_ne 92 dIN_workOut_67 (by decide) (by decide) (fun c => absurd c (by decide)) (fun _ => ?_)
              refine sd_aload_n dIN_workOut_70 rfl rfl ?_
              refine fx_getr 4 4 (304) dIN_workOut_71 fIN_24 rfl rfl ?_
              refine sd_iload_n dIN_workOut_74 rfl rfl ?_
              refine sd_aload_n dIN_workOut_75 rfl rfl ?_
              refine sd_iload_n dIN_workOut_76 rfl rfl ?_
              refine fx_cV 4 sR_IN [.int (nI (j))] [.int (nI (j)), .ref (o + (304))] dIN_workOut_77 kIN_107 rfl rfl mIN_typeOf_v (ct) (by decide) (Nat.le_refl _) (Nat.le_refl _) (Nat.le_of_ble_eq_true rfl) rfl ?_
              refine fx_iast (j) dIN_workOut_80 rfl rfl (by omega) (by decide) hB ?_
              refine sd_aload_n dIN_workOut_81 rfl rfl ?_
              refine fx_getr 4 4 (304) dIN_workOut_82 fIN_24 rfl rfl ?_
              refine sd_iload_n dIN_workOut_85 rfl rfl ?_
              refine fx_ialdv (v := (fd (some t))) (j) dIN_workOut_86 rfl rfl (by omega) (by decide) ((by simp [fx_ua, upd])) ?_
              refine sd_if_eq 92 dIN_workOut_87 (by decide) (fun c87 => ?_) (fun c87 => ?_)
              ·
                exact absurd c87 nz
              ·
                refine sd_iconst (v := nI 1) dIN_workOut_90 (by decide) ?_
                refine sd_istore_n dIN_workOut_91 rfl (by decide) ?_
                refine nn_iinc 1 dIN_workOut_92 rfl (by decide) ?_
                refine sd_goto 43 dIN_workOut_95 (by decide) ?_
                refine sd_locp (al' := [(0, .ref (o + (299))), (1, .int (nI (1))), (2, .int (nI (rd))), (3, .int (nI (j + 1)))]) [2, 1, 3, 0] rfl ?_
                exact ih (j + 1) 1 _ _ (by omega) hI' hD' (in_G_304 hG) (hf.tr f_304) (Or.inr ⟨rfl, clt'⟩)
      | some t =>
        rw [tj] at fj
        have nz := fd_ne (hI.1 j t tj)
        have hc' : (c = 0 ∧ T = T0 ∧ ∀ i, i < j + 1 → ρ i = i → T i = none → ty_o K L R ρ T i = none) ∨ (c = 1 ∧ wo_c N ρ T < wo_c N ρ T0) := by
          rcases hc with ⟨c0, e, h⟩ | h
          · exact Or.inl ⟨c0, e, fun i hi h1 h2 => by
              by_cases q : i = j
              · subst q
                rw [tj] at h2
                cases h2
              · exact h i (by omega) h1 h2⟩
          · exact Or.inr h
        refine sd_iload_n dIN_workOut_43 rfl rfl ?_
        refine sd_aload_n dIN_workOut_44 rfl rfl ?_
        refine fx_getiv (v := (nI (N))) 4 7 dIN_workOut_45 fIN_74 rfl rfl (hG.1) ?_
        refine nn_icmp_ge 98 dIN_workOut_48 (by decide) (by omega) (by omega) (fun c48 => ?_) (fun c48 => ?_)
        ·
          exact absurd c48 (by omega)
        ·
          refine sd_aload_n dIN_workOut_51 rfl rfl ?_
          refine fx_getr 4 0 (300) dIN_workOut_52 fIN_11 rfl rfl ?_
          refine sd_iload_n dIN_workOut_55 rfl rfl ?_
          refine fx_ialdv (v := (nI (j))) (j) dIN_workOut_56 rfl rfl (by omega) (by decide) (lj) ?_
          refine sd_iload_n dIN_workOut_57 rfl rfl ?_
          refine nn_icmp_ne 92 dIN_workOut_58 (by decide) (by omega) (by omega) (fun c58 => ?_) (fun c58 => ?_)
          ·
            exact absurd rfl c58
          ·
            refine sd_aload_n dIN_workOut_61 rfl rfl ?_
            refine fx_getr 4 4 (304) dIN_workOut_62 fIN_24 rfl rfl ?_
            refine sd_iload_n dIN_workOut_65 rfl rfl ?_
            refine fx_ialdv (v := (fd (some t))) (j) dIN_workOut_66 rfl rfl (by omega) (by decide) (fj) ?_
            refine sd_if_ne 92 dIN_workOut_67 (by decide) (fun c67 => ?_) (fun c67 => ?_)
            ·
              refine nn_iinc 1 dIN_workOut_92 rfl (by decide) ?_
              refine sd_goto 43 dIN_workOut_95 (by decide) ?_
              refine sd_locp (al' := [(0, .ref (o + (299))), (1, .int (nI (c))), (2, .int (nI (rd))), (3, .int (nI (j + 1)))]) [1, 2, 3, 0] rfl ?_
              exact ih (j + 1) c T D (by omega) hI hD hG hf hc'
            ·
              exact absurd c67 nz
    · have hc' : (c = 0 ∧ T = T0 ∧ ∀ i, i < j + 1 → ρ i = i → T i = none → ty_o K L R ρ T i = none) ∨ (c = 1 ∧ wo_c N ρ T < wo_c N ρ T0) := by
        rcases hc with ⟨c0, e, h⟩ | h
        · exact Or.inl ⟨c0, e, fun i hi h1 h2 => by
            by_cases q : i = j
            · subst q
              exact absurd (hr.fix.mp h1) hroot
            · exact h i (by omega) h1 h2⟩
        · exact Or.inr h
      refine sd_iload_n dIN_workOut_43 rfl rfl ?_
      refine sd_aload_n dIN_workOut_44 rfl rfl ?_
      refine fx_getiv (v := (nI (N))) 4 7 dIN_workOut_45 fIN_74 rfl rfl (hG.1) ?_
      refine nn_icmp_ge 98 dIN_workOut_48 (by decide) (by omega) (by omega) (fun c48 => ?_) (fun c48 => ?_)
      ·
        exact absurd c48 (by omega)
      ·
        refine sd_aload_n dIN_workOut_51 rfl rfl ?_
        refine fx_getr 4 0 (300) dIN_workOut_52 fIN_11 rfl rfl ?_
        refine sd_iload_n dIN_workOut_55 rfl rfl ?_
        refine fx_ialdv (v := (nI (lk j))) (j) dIN_workOut_56 rfl rfl (by omega) (by decide) (lj) ?_
        refine sd_iload_n dIN_workOut_57 rfl rfl ?_
        refine nn_icmp_ne 92 dIN_workOut_58 (by decide) (by omega) (by omega) (fun c58 => ?_) (fun c58 => ?_)
        ·
          refine nn_iinc 1 dIN_workOut_92 rfl (by decide) ?_
          refine sd_goto 43 dIN_workOut_95 (by decide) ?_
          refine sd_locp (al' := [(0, .ref (o + (299))), (1, .int (nI (c))), (2, .int (nI (rd))), (3, .int (nI (j + 1)))]) [1, 2, 3, 0] rfl ?_
          exact ih (j + 1) c T D (by omega) hI hD hG hf hc'
        ·
          exact absurd c58 hroot
theorem l_IN_wo1 {G : sd_G} {o : Nat} {D0 : fx_D} {h0 : sd_H} {nx N : Nat} {K L R lk ρ : Nat → Nat} (hB : G.2.1 ≤ o) (hb : in_B N K L R lk) (hr : lkr lk ρ) : ∀ (m rd c : Nat) (T : Nat → Option ft) (D : fx_D), rd + m = N → wo_I N K L R ρ T → wo_D D N T → in_G D N K L R lk → in_f D0 D → ((c = 0 ∧ wo_st N K L R ρ T) ∨ (c = 1 ∧ rd + wo_c N ρ T ≤ N)) → sd_W G mIN_workOut 3 0 0 (fx_is G.1.2 dk_S o h0 nx none (wo_P N K L R lk ρ D0)) 27 [(0, .ref (o + 299)), (1, .int (nI c)), (2, .int (nI rd))] [] (fx_h G.1.2 dk_S o D h0) nx 0 0 := by
  have b2 := hb.2.1
  intro m
  induction m with
  | zero =>
    intro rd c T D hrd hI hD hG hf hc
    have hst : wo_st N K L R ρ T := by
      rcases hc with ⟨-, h⟩ | ⟨-, h⟩
      · exact h
      · intro n hn hρ hT
        have : 0 < wo_c N ρ T := by
          have := cn_r_lt (P := fun _ => false) (Q := fun n => decide (ρ n = n) && (T n).isNone) (x := n) (fun i q => by cases q) rfl (by simp [hρ, hT]) N hn
          unfold wo_c
          omega
        omega
    refine sd_iload_n dIN_workOut_27 rfl rfl ?_
    refine sd_aload_n dIN_workOut_28 rfl rfl ?_
    refine fx_getiv (v := (nI (N))) 4 7 dIN_workOut_29 fIN_74 rfl rfl (hG.1) ?_
    refine nn_icmp_ge 104 dIN_workOut_32 (by decide) (by omega) (by omega) (fun c32 => ?_) (fun c32 => ?_)
    ·
      exact sd_vret dIN_workOut_104 rfl (Nat.le_refl _) (Nat.le_refl _) ⟨rfl, rfl, _, rfl, T, hI, hD, hst, hG, hf⟩
    ·
      exact absurd c32 (by omega)
  | succ m ih =>
    intro rd c T D hrd hI hD hG hf hc
    rcases hc with ⟨rfl, hst⟩ | ⟨rfl, hle⟩
    · skip
      refine sd_iload_n dIN_workOut_27 rfl rfl ?_
      refine sd_aload_n dIN_workOut_28 rfl rfl ?_
      refine fx_getiv (v := (nI (N))) 4 7 dIN_workOut_29 fIN_74 rfl rfl (hG.1) ?_
      refine nn_icmp_ge 104 dIN_workOut_32 (by decide) (by omega) (by omega) (fun c32 => ?_) (fun c32 => ?_)
      ·
        exact absurd c32 (by omega)
      ·
        refine sd_iload_n dIN_workOut_35 rfl rfl ?_
        refine nn_if_eq 104 dIN_workOut_36 (by decide) (by decide) (fun _ => ?_) (fun c => absurd c (by decide))
        exact sd_vret dIN_workOut_104 rfl (Nat.le_refl _) (Nat.le_refl _) ⟨rfl, rfl, _, rfl, T, hI, hD, hst, hG, hf⟩
    · skip
      refine sd_iload_n dIN_workOut_27 rfl rfl ?_
      refine sd_aload_n dIN_workOut_28 rfl rfl ?_
      refine fx_getiv (v := (nI (N))) 4 7 dIN_workOut_29 fIN_74 rfl rfl (hG.1) ?_
      refine nn_icmp_ge 104 dIN_workOut_32 (by decide) (by omega) (by omega) (fun c32 => ?_) (fun c32 => ?_)
      ·
        exact absurd c32 (by omega)
      ·
        refine sd_iload_n dIN_workOut_35 rfl rfl ?_
        refine nn_if_eq 104 dIN_workOut_36 (by decide) (by decide) (fun c => absurd c (by decide)) (fun _ => ?_)
        refine sd_iconst (v := nI 0) dIN_workOut_39 (by decide) ?_
        refine sd_istore_n dIN_workOut_40 rfl (by decide) ?_
        refine sd_iconst (v := nI 0) dIN_workOut_41 (by decide) ?_
        refine sd_istore_n dIN_workOut_42 rfl (by decide) ?_
        refine sd_locp (al' := [(0, .ref (o + (299))), (1, .int (nI (0))), (2, .int (nI (rd))), (3, .int (nI (0)))]) [2, 1, 3, 0] rfl ?_
        exact l_IN_wo2 (T0 := T) hB hb hr (by omega) (fun T' D' c' i1 i2 i3 i4 i5 => ih (rd + 1) c' T' D' (by omega) i1 i2 i3 i4 (i5.imp id (fun z => ⟨z.1, by omega⟩))) N 0 0 T D (by omega) hI hD hG hf (Or.inl ⟨rfl, rfl, fun i hi => by omega⟩)
theorem l_IN_wo0 {G : sd_G} {o : Nat} {D0 : fx_D} {h0 : sd_H} {nx N : Nat} {K L R lk ρ : Nat → Nat} (hB : G.2.1 ≤ o) (hb : in_B N K L R lk) (hr : lkr lk ρ) : ∀ (m j : Nat) (D : fx_D), j + m = N → (∀ i, i < j → D.1 304 i = nI 0) → in_G D N K L R lk → in_f D0 D → sd_W G mIN_workOut 3 0 0 (fx_is G.1.2 dk_S o h0 nx none (wo_P N K L R lk ρ D0)) 2 [(0, .ref (o + 299)), (1, .int (nI j))] [] (fx_h G.1.2 dk_S o D h0) nx 0 0 := by
  have b2 := hb.2.1
  intro m
  induction m with
  | zero =>
    intro j D hj hz hG hf
    refine sd_iload_n dIN_workOut_2 rfl rfl ?_
    refine sd_aload_n dIN_workOut_3 rfl rfl ?_
    refine fx_getiv (v := (nI (N))) 4 7 dIN_workOut_4 fIN_74 rfl rfl (hG.1) ?_
    refine nn_icmp_ge 23 dIN_workOut_7 (by decide) (by omega) (by omega) (fun c7 => ?_) (fun c7 => ?_)
    ·
      refine sd_iconst (v := nI 1) dIN_workOut_23 (by decide) ?_
      refine sd_istore_n dIN_workOut_24 rfl (by decide) ?_
      refine sd_iconst (v := nI 0) dIN_workOut_25 (by decide) ?_
      refine sd_istore_n dIN_workOut_26 rfl (by decide) ?_
      refine sd_locp (al' := [(0, .ref (o + (299))), (1, .int (nI (1))), (2, .int (nI (0)))]) [2, 1, 0] rfl ?_
      exact l_IN_wo1 hB hb hr N 0 1 (fun _ => none) D (by omega) ⟨fun n t h => (by cases h), fun n _ _ t h => (by cases h)⟩ (fun n hn => hz n (by omega)) hG hf (Or.inr ⟨rfl, by have := cn_r_le (fun n => decide (ρ n = n) && ((fun _ => none : Nat → Option ft) n).isNone) N; unfold wo_c; omega⟩)
    ·
      exact absurd c7 (by omega)
  | succ m ih =>
    intro j D hj hz hG hf
    refine sd_iload_n dIN_workOut_2 rfl rfl ?_
    refine sd_aload_n dIN_workOut_3 rfl rfl ?_
    refine fx_getiv (v := (nI (N))) 4 7 dIN_workOut_4 fIN_74 rfl rfl (hG.1) ?_
    refine nn_icmp_ge 23 dIN_workOut_7 (by decide) (by omega) (by omega) (fun c7 => ?_) (fun c7 => ?_)
    ·
      exact absurd c7 (by omega)
    ·
      refine sd_aload_n dIN_workOut_10 rfl rfl ?_
      refine fx_getr 4 4 (304) dIN_workOut_11 fIN_24 rfl rfl ?_
      refine sd_iload_n dIN_workOut_14 rfl rfl ?_
      refine sd_iconst (v := nI 0) dIN_workOut_15 (by decide) ?_
      refine fx_iast (j) dIN_workOut_16 rfl rfl (by omega) (by decide) hB ?_
      refine nn_iinc 1 dIN_workOut_17 rfl (by decide) ?_
      refine sd_goto 2 dIN_workOut_20 (by decide) ?_
      refine sd_locp (al' := [(0, .ref (o + (299))), (1, .int (nI (j + 1)))]) [1, 0] rfl ?_
      exact ih (j + 1) _ (by omega) (fun i hi => by by_cases e : i = j; subst e; simp [fx_ua, upd]; simpa [fx_ua, upd, e] using hz i (by omega)) (in_G_304 hG) (hf.tr f_304)
theorem c_IN_workOut {G : sd_G} {o : Nat} {D : fx_D} {h0 : sd_H} {nx N : Nat} {K L R lk ρ : Nat → Nat} (hB : G.2.1 ≤ o) (hG : in_G D N K L R lk) (hb : in_B N K L R lk) (hr : lkr lk ρ) : sd_Ct G mIN_workOut 3 0 0 [.ref (o + 299)] (fx_h G.1.2 dk_S o D h0) nx (fx_is G.1.2 dk_S o h0 nx none (wo_P N K L R lk ρ D)) := by
  refine sd_Ct_of (by decide) (Nat.le_of_ble_eq_true rfl) ?_
  refine sd_iconst (v := nI 0) dIN_workOut_0 (by decide) ?_
  refine sd_istore_n dIN_workOut_1 rfl (by decide) ?_
  refine sd_locp (al' := [(0, .ref (o + (299))), (1, .int (nI (0)))]) [1, 0] rfl ?_
  exact l_IN_wo0 hB hb hr N 0 D (by omega) (fun i hi => by omega) hG (in_f.rf D)
def fr_A (N : Nat) (ρ : Nat → Nat) (T : Nat → Option ft) : Prop := ∃ n, n < N ∧ ρ n = n ∧ T n = none
def fr_B (N : Nat) (ρ : Nat → Nat) (T : Nat → Option ft) : Prop := ∃ n, n < N ∧ ρ n = n ∧ ∃ t, T n = some t ∧ 24 < tt_len t
theorem fd_m1 {t : ft} (h : tt_ok t) : fd (some t) = -1 ↔ 24 < tt_len t := by
  unfold fd
  simp only
  split
  · next h24 =>
    have := tt_n_lt h h24
    exact ⟨fun e => absurd e (nI_ne_m1 (by omega)), fun e => by omega⟩
  · exact ⟨fun _ => by omega, fun _ => rfl⟩
theorem dIN_firstRefusal_0 : decode prog_5_method_13_code 0 = .ok (.iconst 0, 1) := by decide +kernel
theorem dIN_firstRefusal_1 : decode prog_5_method_13_code 1 = .ok (.istore_n 1, 1) := by decide +kernel
theorem dIN_firstRefusal_2 : decode prog_5_method_13_code 2 = .ok (.iconst 0, 1) := by decide +kernel
theorem dIN_firstRefusal_3 : decode prog_5_method_13_code 3 = .ok (.istore_n 2, 1) := by decide +kernel
theorem dIN_firstRefusal_4 : decode prog_5_method_13_code 4 = .ok (.iload_n 2, 1) := by decide +kernel
theorem dIN_firstRefusal_5 : decode prog_5_method_13_code 5 = .ok (.aload_n 0, 1) := by decide +kernel
theorem dIN_firstRefusal_6 : decode prog_5_method_13_code 6 = .ok (.getfield 74, 3) := by decide +kernel
theorem dIN_firstRefusal_9 : decode prog_5_method_13_code 9 = .ok (.if_icmp .ge (54), 3) := by decide +kernel
theorem dIN_firstRefusal_12 : decode prog_5_method_13_code 12 = .ok (.aload_n 0, 1) := by decide +kernel
theorem dIN_firstRefusal_13 : decode prog_5_method_13_code 13 = .ok (.getfield 11, 3) := by decide +kernel
theorem dIN_firstRefusal_16 : decode prog_5_method_13_code 16 = .ok (.iload_n 2, 1) := by decide +kernel
theorem dIN_firstRefusal_17 : decode prog_5_method_13_code 17 = .ok (.iaload, 1) := by decide +kernel
theorem dIN_firstRefusal_18 : decode prog_5_method_13_code 18 = .ok (.iload_n 2, 1) := by decide +kernel
theorem dIN_firstRefusal_19 : decode prog_5_method_13_code 19 = .ok (.if_icmp .ne (15), 3) := by decide +kernel
theorem dIN_firstRefusal_22 : decode prog_5_method_13_code 22 = .ok (.aload_n 0, 1) := by decide +kernel
theorem dIN_firstRefusal_23 : decode prog_5_method_13_code 23 = .ok (.getfield 24, 3) := by decide +kernel
theorem dIN_firstRefusal_26 : decode prog_5_method_13_code 26 = .ok (.iload_n 2, 1) := by decide +kernel
theorem dIN_firstRefusal_27 : decode prog_5_method_13_code 27 = .ok (.iaload, 1) := by decide +kernel
theorem dIN_firstRefusal_28 : decode prog_5_method_13_code 28 = .ok (.ifCond .ne (6), 3) := by decide +kernel
theorem dIN_firstRefusal_31 : decode prog_5_method_13_code 31 = .ok (.bipush (-3), 2) := by decide +kernel
theorem dIN_firstRefusal_33 : decode prog_5_method_13_code 33 = .ok (.ireturn, 1) := by decide +kernel
theorem dIN_firstRefusal_34 : decode prog_5_method_13_code 34 = .ok (.aload_n 0, 1) := by decide +kernel
theorem dIN_firstRefusal_35 : decode prog_5_method_13_code 35 = .ok (.getfield 11, 3) := by decide +kernel
theorem dIN_firstRefusal_38 : decode prog_5_method_13_code 38 = .ok (.iload_n 2, 1) := by decide +kernel
theorem dIN_firstRefusal_39 : decode prog_5_method_13_code 39 = .ok (.iaload, 1) := by decide +kernel
theorem dIN_firstRefusal_40 : decode prog_5_method_13_code 40 = .ok (.iload_n 2, 1) := by decide +kernel
theorem dIN_firstRefusal_41 : decode prog_5_method_13_code 41 = .ok (.if_icmp .ne (16), 3) := by decide +kernel
theorem dIN_firstRefusal_44 : decode prog_5_method_13_code 44 = .ok (.aload_n 0, 1) := by decide +kernel
theorem dIN_firstRefusal_45 : decode prog_5_method_13_code 45 = .ok (.getfield 24, 3) := by decide +kernel
theorem dIN_firstRefusal_48 : decode prog_5_method_13_code 48 = .ok (.iload_n 2, 1) := by decide +kernel
theorem dIN_firstRefusal_49 : decode prog_5_method_13_code 49 = .ok (.iaload, 1) := by decide +kernel
theorem dIN_firstRefusal_50 : decode prog_5_method_13_code 50 = .ok (.iconst (-1), 1) := by decide +kernel
theorem dIN_firstRefusal_51 : decode prog_5_method_13_code 51 = .ok (.if_icmp .ne (6), 3) := by decide +kernel
theorem dIN_firstRefusal_54 : decode prog_5_method_13_code 54 = .ok (.bipush (-5), 2) := by decide +kernel
theorem dIN_firstRefusal_56 : decode prog_5_method_13_code 56 = .ok (.istore_n 1, 1) := by decide +kernel
theorem dIN_firstRefusal_57 : decode prog_5_method_13_code 57 = .ok (.iinc 2 (1), 3) := by decide +kernel
theorem dIN_firstRefusal_60 : decode prog_5_method_13_code 60 = .ok (.goto (-56), 3) := by decide +kernel
theorem dIN_firstRefusal_63 : decode prog_5_method_13_code 63 = .ok (.iload_n 1, 1) := by decide +kernel
theorem dIN_firstRefusal_64 : decode prog_5_method_13_code 64 = .ok (.ireturn, 1) := by decide +kernel
theorem l_IN_fr {G : sd_G} {o : Nat} {D : fx_D} {h0 : sd_H} {nx N : Nat} {K L R lk ρ : Nat → Nat} {T : Nat → Option ft} {v : Int32} (hG : in_G D N K L R lk) (hb : in_B N K L R lk) (hr : lkr lk ρ) (hD : wo_D D N T) (hok : ∀ n t, T n = some t → tt_ok t) (hv : (v = -3 ∧ fr_A N ρ T) ∨ (v = -5 ∧ ¬ fr_A N ρ T ∧ fr_B N ρ T) ∨ (v = 0 ∧ ¬ fr_A N ρ T ∧ ¬ fr_B N ρ T)) : ∀ (m j : Nat) (x : Int32), j + m = N → (∀ i, i < j → ρ i = i → T i ≠ none) → ((x = -5 ∧ ∃ i, i < j ∧ ρ i = i ∧ ∃ t, T i = some t ∧ 24 < tt_len t) ∨ (x = 0 ∧ ¬ ∃ i, i < j ∧ ρ i = i ∧ ∃ t, T i = some t ∧ 24 < tt_len t)) → sd_W G mIN_firstRefusal 0 0 0 (sd_is (some (.int v)) (fx_h G.1.2 dk_S o D h0) nx) 4 [(0, .ref (o + 299)), (1, .int x), (2, .int (nI j))] [] (fx_h G.1.2 dk_S o D h0) nx 0 0 := by
  have b2 := hb.2.1
  intro m
  induction m with
  | zero =>
    intro j x hj h1 h2
    have e : j = N := by omega
    subst e
    have hx : x = v := by
      have na : ¬ fr_A j ρ T := fun ⟨n, q1, q2, q3⟩ => h1 n q1 q2 q3
      rcases h2 with ⟨rfl, i, q⟩ | ⟨rfl, q⟩
      · rcases hv with ⟨-, z⟩ | ⟨z, -⟩ | ⟨-, -, z⟩
        · exact absurd z na
        · exact z.symm
        · exact absurd ⟨i, q⟩ z
      · rcases hv with ⟨-, z⟩ | ⟨-, -, z⟩ | ⟨z, -⟩
        · exact absurd z na
        · exact absurd z q
        · exact z.symm
    refine sd_iload_n dIN_firstRefusal_4 rfl rfl ?_
    refine sd_aload_n dIN_firstRefusal_5 rfl rfl ?_
    refine fx_getiv (v := (nI (j))) 4 7 dIN_firstRefusal_6 fIN_74 rfl rfl (hG.1) ?_
    refine nn_icmp_ge 63 dIN_firstRefusal_9 (by decide) (by omega) (by omega) (fun c9 => ?_) (fun c9 => ?_)
    ·
      refine sd_iload_n dIN_firstRefusal_63 rfl rfl ?_
      exact sd_iret dIN_firstRefusal_64 rfl (Nat.le_refl _) (Nat.le_refl _) ⟨by rw [hx], rfl, rfl⟩
    ·
      exact absurd c9 (by omega)
  | succ m ih =>
    intro j x hj h1 h2
    have hjN : j < N := by omega
    obtain ⟨lj, -, -⟩ := hG.2 j hjN
    have ljN := (hb.2.2.1 j hjN).1
    have fj := hD j hjN
    by_cases hroot : lk j = j
    · have hρ : ρ j = j := hr.fix.mpr hroot
      rw [hroot] at lj
      cases tj : T j with
      | none =>
        rw [tj] at fj
        have hv3 : v = -3 := by
          rcases hv with ⟨z, -⟩ | ⟨-, z, -⟩ | ⟨-, z, -⟩
          · exact z
          · exact absurd ⟨j, hjN, hρ, tj⟩ z
          · exact absurd ⟨j, hjN, hρ, tj⟩ z
        refine sd_iload_n dIN_firstRefusal_4 rfl rfl ?_
        refine sd_aload_n dIN_firstRefusal_5 rfl rfl ?_
        refine fx_getiv (v := (nI (N))) 4 7 dIN_firstRefusal_6 fIN_74 rfl rfl (hG.1) ?_
        refine nn_icmp_ge 63 dIN_firstRefusal_9 (by decide) (by omega) (by omega) (fun c9 => ?_) (fun c9 => ?_)
        ·
          exact absurd c9 (by omega)
        ·
          refine sd_aload_n dIN_firstRefusal_12 rfl rfl ?_
          refine fx_getr 4 0 (300) dIN_firstRefusal_13 fIN_11 rfl rfl ?_
          refine sd_iload_n dIN_firstRefusal_16 rfl rfl ?_
          refine fx_ialdv (v := (nI (j))) (j) dIN_firstRefusal_17 rfl rfl (by omega) (by decide) (lj) ?_
          refine sd_iload_n dIN_firstRefusal_18 rfl rfl ?_
          refine nn_icmp_ne 34 dIN_firstRefusal_19 (by decide) (by omega) (by omega) (fun c19 => ?_) (fun c19 => ?_)
          ·
            exact absurd rfl c19
          ·
            refine sd_aload_n dIN_firstRefusal_22 rfl rfl ?_
            refine fx_getr 4 4 (304) dIN_firstRefusal_23 fIN_24 rfl rfl ?_
            refine sd_iload_n dIN_firstRefusal_26 rfl rfl ?_
            refine fx_ialdv (v := (nI (0))) (j) dIN_firstRefusal_27 rfl rfl (by omega) (by decide) (fj) ?_
            refine nn_if_ne 34 dIN_firstRefusal_28 (by decide) (by decide) (fun c => absurd c (by decide)) (fun _ => ?_)
            refine sd_bipush (v := (-3)) dIN_firstRefusal_31 (by decide) ?_
            exact sd_iret dIN_firstRefusal_33 rfl (Nat.le_refl _) (Nat.le_refl _) ⟨by rw [hv3], rfl, rfl⟩
      | some t =>
        rw [tj] at fj
        have tok := hok j t tj
        have nz := fd_ne tok
        have h1' : ∀ i, i < j + 1 → ρ i = i → T i ≠ none := fun i hi q => by
          by_cases e : i = j
          · subst e
            rw [tj]
            exact fun z => by cases z
          · exact h1 i (by omega) q
        by_cases hl : 24 < tt_len t
        · have f1 := (fd_m1 tok).mpr hl
          rw [f1] at fj
          refine sd_iload_n dIN_firstRefusal_4 rfl rfl ?_
          refine sd_aload_n dIN_firstRefusal_5 rfl rfl ?_
          refine fx_getiv (v := (nI (N))) 4 7 dIN_firstRefusal_6 fIN_74 rfl rfl (hG.1) ?_
          refine nn_icmp_ge 63 dIN_firstRefusal_9 (by decide) (by omega) (by omega) (fun c9 => ?_) (fun c9 => ?_)
          ·
            exact absurd c9 (by omega)
          ·
            refine sd_aload_n dIN_firstRefusal_12 rfl rfl ?_
            refine fx_getr 4 0 (300) dIN_firstRefusal_13 fIN_11 rfl rfl ?_
            refine sd_iload_n dIN_firstRefusal_16 rfl rfl ?_
            refine fx_ialdv (v := (nI (j))) (j) dIN_firstRefusal_17 rfl rfl (by omega) (by decide) (lj) ?_
            refine sd_iload_n dIN_firstRefusal_18 rfl rfl ?_
            refine nn_icmp_ne 34 dIN_firstRefusal_19 (by decide) (by omega) (by omega) (fun c19 => ?_) (fun c19 => ?_)
            ·
              exact absurd rfl c19
            ·
              refine sd_aload_n dIN_firstRefusal_22 rfl rfl ?_
              refine fx_getr 4 4 (304) dIN_firstRefusal_23 fIN_24 rfl rfl ?_
              refine sd_iload_n dIN_firstRefusal_26 rfl rfl ?_
              refine fx_ialdv (v := ((-1))) (j) dIN_firstRefusal_27 rfl rfl (by omega) (by decide) (fj) ?_
              refine sd_if_ne 34 dIN_firstRefusal_28 (by decide) (fun c28 => ?_) (fun c28 => ?_)
              ·
                refine sd_aload_n dIN_firstRefusal_34 rfl rfl ?_
                refine fx_getr 4 0 (300) dIN_firstRefusal_35 fIN_11 rfl rfl ?_
                refine sd_iload_n dIN_firstRefusal_38 rfl rfl ?_
                refine fx_ialdv (v := (nI (j))) (j) dIN_firstRefusal_39 rfl rfl (by omega) (by decide) (lj) ?_
                refine sd_iload_n dIN_firstRefusal_40 rfl rfl ?_
                refine nn_icmp_ne 57 dIN_firstRefusal_41 (by decide) (by omega) (by omega) (fun c41 => ?_) (fun c41 => ?_)
                ·
                  exact absurd rfl c41
                ·
                  refine sd_aload_n dIN_firstRefusal_44 rfl rfl ?_
                  refine fx_getr 4 4 (304) dIN_firstRefusal_45 fIN_24 rfl rfl ?_
                  refine sd_iload_n dIN_firstRefusal_48 rfl rfl ?_
                  refine fx_ialdv (v := ((-1))) (j) dIN_firstRefusal_49 rfl rfl (by omega) (by decide) (fj) ?_
                  refine sd_iconst (v := (-1)) dIN_firstRefusal_50 (by decide) ?_
                  refine sd_icmp_ne 57 dIN_firstRefusal_51 (by decide) (fun c51 => ?_) (fun c51 => ?_)
                  ·
                    exact absurd rfl c51
                  ·
                    refine sd_bipush (v := (-5)) dIN_firstRefusal_54 (by decide) ?_
                    refine sd_istore_n dIN_firstRefusal_56 rfl (by decide) ?_
                    refine nn_iinc 1 dIN_firstRefusal_57 rfl (by decide) ?_
                    refine sd_goto 4 dIN_firstRefusal_60 (by decide) ?_
                    refine sd_locp (al' := [(0, .ref (o + (299))), (1, .int ((-5))), (2, .int (nI (j + 1)))]) [2, 1, 0] rfl ?_
                    exact ih (j + 1) (-5) (by omega) h1' (Or.inl ⟨rfl, j, by omega, hρ, t, tj, hl⟩)
              ·
                exact absurd c28 (by decide)
        · have f1 : ¬ fd (some t) = -1 := fun z => hl ((fd_m1 tok).mp z)
          have h2' : (x = -5 ∧ ∃ i, i < j + 1 ∧ ρ i = i ∧ ∃ t, T i = some t ∧ 24 < tt_len t) ∨ (x = 0 ∧ ¬ ∃ i, i < j + 1 ∧ ρ i = i ∧ ∃ t, T i = some t ∧ 24 < tt_len t) := by
            rcases h2 with ⟨z, i, q1, q2⟩ | ⟨z, q⟩
            · exact Or.inl ⟨z, i, by omega, q2⟩
            · refine Or.inr ⟨z, fun ⟨i, q1, q2, t', q3, q4⟩ => ?_⟩
              by_cases e : i = j
              · subst e
                rw [tj] at q3
                cases q3
                exact hl q4
              · exact q ⟨i, by omega, q2, t', q3, q4⟩
          refine sd_iload_n dIN_firstRefusal_4 rfl rfl ?_
          refine sd_aload_n dIN_firstRefusal_5 rfl rfl ?_
          refine fx_getiv (v := (nI (N))) 4 7 dIN_firstRefusal_6 fIN_74 rfl rfl (hG.1) ?_
          refine nn_icmp_ge 63 dIN_firstRefusal_9 (by decide) (by omega) (by omega) (fun c9 => ?_) (fun c9 => ?_)
          ·
            exact absurd c9 (by omega)
          ·
            refine sd_aload_n dIN_firstRefusal_12 rfl rfl ?_
            refine fx_getr 4 0 (300) dIN_firstRefusal_13 fIN_11 rfl rfl ?_
            refine sd_iload_n dIN_firstRefusal_16 rfl rfl ?_
            refine fx_ialdv (v := (nI (j))) (j) dIN_firstRefusal_17 rfl rfl (by omega) (by decide) (lj) ?_
            refine sd_iload_n dIN_firstRefusal_18 rfl rfl ?_
            refine nn_icmp_ne 34 dIN_firstRefusal_19 (by decide) (by omega) (by omega) (fun c19 => ?_) (fun c19 => ?_)
            ·
              exact absurd rfl c19
            ·
              refine sd_aload_n dIN_firstRefusal_22 rfl rfl ?_
              refine fx_getr 4 4 (304) dIN_firstRefusal_23 fIN_24 rfl rfl ?_
              refine sd_iload_n dIN_firstRefusal_26 rfl rfl ?_
              refine fx_ialdv (v := (fd (some t))) (j) dIN_firstRefusal_27 rfl rfl (by omega) (by decide) (fj) ?_
              refine sd_if_ne 34 dIN_firstRefusal_28 (by decide) (fun c28 => ?_) (fun c28 => ?_)
              ·
                refine sd_aload_n dIN_firstRefusal_34 rfl rfl ?_
                refine fx_getr 4 0 (300) dIN_firstRefusal_35 fIN_11 rfl rfl ?_
                refine sd_iload_n dIN_firstRefusal_38 rfl rfl ?_
                refine fx_ialdv (v := (nI (j))) (j) dIN_firstRefusal_39 rfl rfl (by omega) (by decide) (lj) ?_
                refine sd_iload_n dIN_firstRefusal_40 rfl rfl ?_
                refine nn_icmp_ne 57 dIN_firstRefusal_41 (by decide) (by omega) (by omega) (fun c41 => ?_) (fun c41 => ?_)
                ·
                  exact absurd rfl c41
                ·
                  refine sd_aload_n dIN_firstRefusal_44 rfl rfl ?_
                  refine fx_getr 4 4 (304) dIN_firstRefusal_45 fIN_24 rfl rfl ?_
                  refine sd_iload_n dIN_firstRefusal_48 rfl rfl ?_
                  refine fx_ialdv (v := (fd (some t))) (j) dIN_firstRefusal_49 rfl rfl (by omega) (by decide) (fj) ?_
                  refine sd_iconst (v := (-1)) dIN_firstRefusal_50 (by decide) ?_
                  refine sd_icmp_ne 57 dIN_firstRefusal_51 (by decide) (fun c51 => ?_) (fun c51 => ?_)
                  ·
                    refine nn_iinc 1 dIN_firstRefusal_57 rfl (by decide) ?_
                    refine sd_goto 4 dIN_firstRefusal_60 (by decide) ?_
                    refine sd_locp (al' := [(0, .ref (o + (299))), (1, .int (x)), (2, .int (nI (j + 1)))]) [1, 2, 0] rfl ?_
                    exact ih (j + 1) x (by omega) h1' h2'
                  ·
                    exact absurd c51 f1
              ·
                exact absurd c28 nz
    · have nρ : ¬ ρ j = j := fun z => hroot (hr.fix.mp z)
      have h1' : ∀ i, i < j + 1 → ρ i = i → T i ≠ none := fun i hi q => by
        by_cases e : i = j
        · subst e
          exact absurd q nρ
        · exact h1 i (by omega) q
      have h2' : (x = -5 ∧ ∃ i, i < j + 1 ∧ ρ i = i ∧ ∃ t, T i = some t ∧ 24 < tt_len t) ∨ (x = 0 ∧ ¬ ∃ i, i < j + 1 ∧ ρ i = i ∧ ∃ t, T i = some t ∧ 24 < tt_len t) := by
        rcases h2 with ⟨z, i, q1, q2⟩ | ⟨z, q⟩
        · exact Or.inl ⟨z, i, by omega, q2⟩
        · refine Or.inr ⟨z, fun ⟨i, q1, q2, t', q3, q4⟩ => ?_⟩
          by_cases e : i = j
          · subst e
            exact absurd q2 nρ
          · exact q ⟨i, by omega, q2, t', q3, q4⟩
      refine sd_iload_n dIN_firstRefusal_4 rfl rfl ?_
      refine sd_aload_n dIN_firstRefusal_5 rfl rfl ?_
      refine fx_getiv (v := (nI (N))) 4 7 dIN_firstRefusal_6 fIN_74 rfl rfl (hG.1) ?_
      refine nn_icmp_ge 63 dIN_firstRefusal_9 (by decide) (by omega) (by omega) (fun c9 => ?_) (fun c9 => ?_)
      ·
        exact absurd c9 (by omega)
      ·
        refine sd_aload_n dIN_firstRefusal_12 rfl rfl ?_
        refine fx_getr 4 0 (300) dIN_firstRefusal_13 fIN_11 rfl rfl ?_
        refine sd_iload_n dIN_firstRefusal_16 rfl rfl ?_
        refine fx_ialdv (v := (nI (lk j))) (j) dIN_firstRefusal_17 rfl rfl (by omega) (by decide) (lj) ?_
        refine sd_iload_n dIN_firstRefusal_18 rfl rfl ?_
        refine nn_icmp_ne 34 dIN_firstRefusal_19 (by decide) (by omega) (by omega) (fun c19 => ?_) (fun c19 => ?_)
        ·
          refine sd_aload_n dIN_firstRefusal_34 rfl rfl ?_
          refine fx_getr 4 0 (300) dIN_firstRefusal_35 fIN_11 rfl rfl ?_
          refine sd_iload_n dIN_firstRefusal_38 rfl rfl ?_
          refine fx_ialdv (v := (nI (lk j))) (j) dIN_firstRefusal_39 rfl rfl (by omega) (by decide) (lj) ?_
          refine sd_iload_n dIN_firstRefusal_40 rfl rfl ?_
          refine nn_icmp_ne 57 dIN_firstRefusal_41 (by decide) (by omega) (by omega) (fun c41 => ?_) (fun c41 => ?_)
          ·
            refine nn_iinc 1 dIN_firstRefusal_57 rfl (by decide) ?_
            refine sd_goto 4 dIN_firstRefusal_60 (by decide) ?_
            refine sd_locp (al' := [(0, .ref (o + (299))), (1, .int (x)), (2, .int (nI (j + 1)))]) [1, 2, 0] rfl ?_
            exact ih (j + 1) x (by omega) h1' h2'
          ·
            exact absurd c41 hroot
        ·
          exact absurd c19 hroot
theorem c_IN_firstRefusal {G : sd_G} {o : Nat} {D : fx_D} {h0 : sd_H} {nx N : Nat} {K L R lk ρ : Nat → Nat} {T : Nat → Option ft} {v : Int32} (hG : in_G D N K L R lk) (hb : in_B N K L R lk) (hr : lkr lk ρ) (hD : wo_D D N T) (hok : ∀ n t, T n = some t → tt_ok t) (hv : (v = -3 ∧ fr_A N ρ T) ∨ (v = -5 ∧ ¬ fr_A N ρ T ∧ fr_B N ρ T) ∨ (v = 0 ∧ ¬ fr_A N ρ T ∧ ¬ fr_B N ρ T)) : sd_Ct G mIN_firstRefusal 0 0 0 [.ref (o + 299)] (fx_h G.1.2 dk_S o D h0) nx (sd_is (some (.int v)) (fx_h G.1.2 dk_S o D h0) nx) := by
  refine sd_Ct_of (by decide) (Nat.le_of_ble_eq_true rfl) ?_
  refine sd_iconst (v := nI 0) dIN_firstRefusal_0 (by decide) ?_
  refine sd_istore_n dIN_firstRefusal_1 rfl (by decide) ?_
  refine sd_iconst (v := nI 0) dIN_firstRefusal_2 (by decide) ?_
  refine sd_istore_n dIN_firstRefusal_3 rfl (by decide) ?_
  refine sd_locp (al' := [(0, .ref (o + (299))), (1, .int (nI (0))), (2, .int (nI (0)))]) [2, 1, 0] rfl ?_
  exact l_IN_fr hG hb hr hD hok hv N 0 0 (by omega) (fun i hi => by omega) (Or.inr ⟨rfl, fun ⟨i, hi, _⟩ => by omega⟩)
