/-! ===== the class's Inference: nodeOf ===== -/
/-- behind nodeOf of a tree -/
def nd2 (τ : ft) (D : fx_D) (N : Nat) (K L R lk : Nat → Nat) (m : Nat) (D' : fx_D) : Prop := ∃ N' K' L' R', in_G D' N' K' L' R' lk ∧ in_B N' K' L' R' lk ∧ (∀ P, in_E D P N → in_E D' P N') ∧ 3 * N' + 2 ≤ 3 * N + tt_len τ ∧ gxx N K L R N' K' L' R' ∧ rep K' L' R' m τ ∧ m < N' ∧ in_f D D' ∧ ∀ n, N ≤ n → n < N' → K' n = 3 ∧ ∀ σ, gsol K' L' R' σ → tt_len (σ n) ≤ tt_len τ
theorem tt_len_5 (l r : ft) : 5 ≤ tt_len (.append l r) := by
  have := tt_len_2 l
  have := tt_len_2 r
  simp only [tt_len]
  omega
theorem tt_n_45 {l r : ft} (h : tt_ok (.append l r)) : tt_n (.append l r) ≠ 4 ∧ tt_n (.append l r) ≠ 5 := by
  have e := (tt_log _ h).1
  have := tt_len_5 l r
  constructor
  · intro q
    rw [q] at e
    have : Nat.log2 4 = 2 := by decide
    omega
  · intro q
    rw [q] at e
    have : Nat.log2 5 = 2 := by decide
    omega
theorem dIN_nodeOf_0 : decode prog_5_method_8_code 0 = .ok (.iload_n 1, 1) := by decide +kernel
theorem dIN_nodeOf_1 : decode prog_5_method_8_code 1 = .ok (.iconst 4, 1) := by decide +kernel
theorem dIN_nodeOf_2 : decode prog_5_method_8_code 2 = .ok (.if_icmp .ne (6), 3) := by decide +kernel
theorem dIN_nodeOf_5 : decode prog_5_method_8_code 5 = .ok (.bipush (48), 2) := by decide +kernel
theorem dIN_nodeOf_7 : decode prog_5_method_8_code 7 = .ok (.ireturn, 1) := by decide +kernel
theorem dIN_nodeOf_8 : decode prog_5_method_8_code 8 = .ok (.iload_n 1, 1) := by decide +kernel
theorem dIN_nodeOf_9 : decode prog_5_method_8_code 9 = .ok (.iconst 5, 1) := by decide +kernel
theorem dIN_nodeOf_10 : decode prog_5_method_8_code 10 = .ok (.if_icmp .eq (9), 3) := by decide +kernel
theorem dIN_nodeOf_13 : decode prog_5_method_8_code 13 = .ok (.iload_n 2, 1) := by decide +kernel
theorem dIN_nodeOf_14 : decode prog_5_method_8_code 14 = .ok (.bipush (24), 2) := by decide +kernel
theorem dIN_nodeOf_16 : decode prog_5_method_8_code 16 = .ok (.if_icmp .le (6), 3) := by decide +kernel
theorem dIN_nodeOf_19 : decode prog_5_method_8_code 19 = .ok (.bipush (49), 2) := by decide +kernel
theorem dIN_nodeOf_21 : decode prog_5_method_8_code 21 = .ok (.ireturn, 1) := by decide +kernel
theorem dIN_nodeOf_22 : decode prog_5_method_8_code 22 = .ok (.aload_n 0, 1) := by decide +kernel
theorem dIN_nodeOf_23 : decode prog_5_method_8_code 23 = .ok (.aload_n 0, 1) := by decide +kernel
theorem dIN_nodeOf_24 : decode prog_5_method_8_code 24 = .ok (.iload_n 1, 1) := by decide +kernel
theorem dIN_nodeOf_25 : decode prog_5_method_8_code 25 = .ok (.invokestatic 99, 3) := by decide +kernel
theorem dIN_nodeOf_28 : decode prog_5_method_8_code 28 = .ok (.iload_n 2, 1) := by decide +kernel
theorem dIN_nodeOf_29 : decode prog_5_method_8_code 29 = .ok (.iconst 1, 1) := by decide +kernel
theorem dIN_nodeOf_30 : decode prog_5_method_8_code 30 = .ok (.iadd, 1) := by decide +kernel
theorem dIN_nodeOf_31 : decode prog_5_method_8_code 31 = .ok (.invokevirtual 91, 3) := by decide +kernel
theorem dIN_nodeOf_34 : decode prog_5_method_8_code 34 = .ok (.aload_n 0, 1) := by decide +kernel
theorem dIN_nodeOf_35 : decode prog_5_method_8_code 35 = .ok (.iload_n 1, 1) := by decide +kernel
theorem dIN_nodeOf_36 : decode prog_5_method_8_code 36 = .ok (.invokestatic 104, 3) := by decide +kernel
theorem dIN_nodeOf_39 : decode prog_5_method_8_code 39 = .ok (.iload_n 2, 1) := by decide +kernel
theorem dIN_nodeOf_40 : decode prog_5_method_8_code 40 = .ok (.iconst 1, 1) := by decide +kernel
theorem dIN_nodeOf_41 : decode prog_5_method_8_code 41 = .ok (.iadd, 1) := by decide +kernel
theorem dIN_nodeOf_42 : decode prog_5_method_8_code 42 = .ok (.invokevirtual 91, 3) := by decide +kernel
theorem dIN_nodeOf_45 : decode prog_5_method_8_code 45 = .ok (.invokevirtual 83, 3) := by decide +kernel
theorem dIN_nodeOf_48 : decode prog_5_method_8_code 48 = .ok (.ireturn, 1) := by decide +kernel
theorem c_IN_nodeOf {G : sd_G} {o : Nat} {h0 : sd_H} {nx : Nat} (hB : G.2.1 ≤ o) : ∀ (τ : ft), tt_ok τ → ∀ (dp N : Nat) (K L R lk : Nat → Nat) (D : fx_D), dp + tt_len τ ≤ 24 → in_G D N K L R lk → in_B N K L R lk → 3 * N + tt_len τ ≤ 3 * 242 + 2 → sd_Ct G mIN_nodeOf (tt_len τ + 2) 0 0 [.ref (o + 299), .int (nI (tt_n τ)), .int (nI dp)] (fx_h G.1.2 dk_S o D h0) nx (fx_ex G.1.2 dk_S o h0 nx (nd2 τ D N K L R lk))
  | .nil, hok, dp, N, K, L, R, lk, D, hd, hG, hb, hN => by
    refine sd_Ct_of (by decide) (Nat.le_of_ble_eq_true rfl) ?_
    have q : nd2 .nil D N K L R lk 48 D := ⟨N, K, L, R, hG, hb, fun P h => h, Nat.le_refl _, gxx.rf _ _ _ _, fun σ hσ => (hσ 48).1 hb.2.2.2.2.2.1, by have := hb.1; omega, in_f.rf D, fun n h1 h2 => by omega⟩
    rw [show tt_n .nil = 4 from rfl]
    refine sd_iload_n dIN_nodeOf_0 rfl rfl ?_
    refine sd_iconst (v := nI 4) dIN_nodeOf_1 (by decide) ?_
    refine nn_icmp_ne 8 dIN_nodeOf_2 (by decide) (by decide) (by decide) (fun c => absurd c (by decide)) (fun _ => ?_)
    refine sd_bipush (v := nI 48) dIN_nodeOf_5 (by decide) ?_
    exact sd_iret dIN_nodeOf_7 rfl (Nat.le_refl _) (Nat.le_refl _) ⟨rfl, 48, D, rfl, rfl, q⟩
  | .line, hok, dp, N, K, L, R, lk, D, hd, hG, hb, hN => by
    refine sd_Ct_of (by decide) (Nat.le_of_ble_eq_true rfl) ?_
    have q : nd2 .line D N K L R lk 49 D := ⟨N, K, L, R, hG, hb, fun P h => h, Nat.le_refl _, gxx.rf _ _ _ _, fun σ hσ => (hσ 49).2.1 hb.2.2.2.2.2.2, by have := hb.1; omega, in_f.rf D, fun n h1 h2 => by omega⟩
    rw [show tt_n .line = 5 from rfl]
    refine sd_iload_n dIN_nodeOf_0 rfl rfl ?_
    refine sd_iconst (v := nI 4) dIN_nodeOf_1 (by decide) ?_
    refine nn_icmp_ne 8 dIN_nodeOf_2 (by decide) (by decide) (by decide) (fun _ => ?_) (fun c => absurd c (by decide))
    refine sd_iload_n dIN_nodeOf_8 rfl rfl ?_
    refine sd_iconst (v := nI 5) dIN_nodeOf_9 (by decide) ?_
    refine nn_icmp_eq 19 dIN_nodeOf_10 (by decide) (by decide) (by decide) (fun _ => ?_) (fun c => absurd c (by decide))
    refine sd_bipush (v := nI 49) dIN_nodeOf_19 (by decide) ?_
    exact sd_iret dIN_nodeOf_21 rfl (Nat.le_refl _) (Nat.le_refl _) ⟨rfl, 49, D, rfl, rfl, q⟩
  | .align _, hok, _, _, _, _, _, _, _, _, _, _, _ => hok.elim
  | .text _, hok, _, _, _, _, _, _, _, _, _, _, _ => hok.elim
  | .nest _ _, hok, _, _, _, _, _, _, _, _, _, _, _ => hok.elim
  | .group _ _, hok, _, _, _, _, _, _, _, _, _, _, _ => hok.elim
  | .tag _ _, hok, _, _, _, _, _, _, _, _, _, _, _ => hok.elim
  | .append l r, hok, dp, N, K, L, R, lk, D, hd, hG, hb, hN => by
    refine sd_Ct_of (by decide) (Nat.le_of_ble_eq_true rfl) ?_
    have hlen : tt_len (.append l r) = 1 + tt_len l + tt_len r := rfl
    have l2 := tt_len_2 l
    have r2 := tt_len_2 r
    obtain ⟨n4, n5⟩ := tt_n_45 hok
    obtain ⟨tok, -⟩ := ty_of_tree hok (by omega)
    obtain ⟨aF, aFr, aTo⟩ := ty_app hok.1 hok.2
    obtain ⟨rr, er⟩ := ty_fun_rem tok aF
    have tlt := tok.1
    have cf := c_TY_from (G := G) (nx := nx) (h := fx_h G.1.2 dk_S o D h0) tok.2.1 (by omega) er
    rw [aFr] at cf
    have ct := fun D1 => c_TY_to (G := G) (nx := nx) (h := fx_h G.1.2 dk_S o D1 h0) tok.2.1 (by omega) er
    rw [aTo] at ct
    have c1 := c_IN_nodeOf (nx := nx) (h0 := h0) hB l hok.1 (dp + 1) N K L R lk D (by omega) hG hb (by omega)
    generalize tt_n (.append l r) = T at *
    refine sd_iload_n dIN_nodeOf_0 rfl rfl ?_
    refine sd_iconst (v := nI 4) dIN_nodeOf_1 (by decide) ?_
    refine nn_icmp_ne 8 dIN_nodeOf_2 (by decide) (by omega) (by omega) (fun c2 => ?_) (fun c2 => ?_)
    ·
      refine sd_iload_n dIN_nodeOf_8 rfl rfl ?_
      refine sd_iconst (v := nI 5) dIN_nodeOf_9 (by decide) ?_
      refine nn_icmp_eq 19 dIN_nodeOf_10 (by decide) (by omega) (by omega) (fun c10 => ?_) (fun c10 => ?_)
      ·
        exact absurd c10 n5
      ·
        refine sd_iload_n dIN_nodeOf_13 rfl rfl ?_
        refine sd_bipush (v := nI 24) dIN_nodeOf_14 (by decide) ?_
        refine nn_icmp_le 22 dIN_nodeOf_16 (by decide) (by omega) (by omega) (fun c16 => ?_) (fun c16 => ?_)
        ·
          refine sd_aload_n dIN_nodeOf_22 rfl rfl ?_
          refine sd_aload_n dIN_nodeOf_23 rfl rfl ?_
          refine sd_iload_n dIN_nodeOf_24 rfl rfl ?_
          refine sd_cS [.int (nI (T))] [.ref (o + (299)), .ref (o + (299))] dIN_nodeOf_25 kIN_99 mTY_from_s (cf) (by omega) (Nat.le_refl _) (Nat.le_refl _) (Nat.le_of_ble_eq_true rfl) rfl ?_
          refine sd_iload_n dIN_nodeOf_28 rfl rfl ?_
          refine sd_iconst (v := nI 1) dIN_nodeOf_29 (by decide) ?_
          refine nn_iadd dIN_nodeOf_30 ?_
          refine fx_cE 4 sR_IN [.int (nI (tt_n l)), .int (nI (dp + 1))] [.ref (o + (299))] dIN_nodeOf_31 kIN_91 rfl rfl mIN_nodeOf_v (c1) (by omega) (Nat.le_refl _) (Nat.le_refl _) (Nat.le_of_ble_eq_true rfl) rfl (fun m1 D1 h1 => ?_)
          obtain ⟨N1, K1, L1, R1, g1, gb1, gE1, gn1, gx1, gr1, gm1, gf1, gc1⟩ := h1
          refine sd_aload_n dIN_nodeOf_34 rfl rfl ?_
          refine sd_iload_n dIN_nodeOf_35 rfl rfl ?_
          refine sd_cS [.int (nI (T))] [.ref (o + (299)), .int (nI (m1)), .ref (o + (299))] dIN_nodeOf_36 kIN_104 mTY_to_s ((ct D1)) (by omega) (Nat.le_refl _) (Nat.le_refl _) (Nat.le_of_ble_eq_true rfl) rfl ?_
          refine sd_iload_n dIN_nodeOf_39 rfl rfl ?_
          refine sd_iconst (v := nI 1) dIN_nodeOf_40 (by decide) ?_
          refine nn_iadd dIN_nodeOf_41 ?_
          refine fx_cE 4 sR_IN [.int (nI (tt_n r)), .int (nI (dp + 1))] [.int (nI (m1)), .ref (o + (299))] dIN_nodeOf_42 kIN_91 rfl rfl mIN_nodeOf_v (c_IN_nodeOf hB r hok.2 (dp + 1) N1 K1 L1 R1 lk D1 (by omega) g1 gb1 (by omega)) (by omega) (Nat.le_refl _) (Nat.le_refl _) (Nat.le_of_ble_eq_true rfl) rfl (fun m2 D2 h2 => ?_)
          obtain ⟨N2, K2, L2, R2, g2, gb2, gE2, gn2, gx2, gr2, gm2, gf2, gc2⟩ := h2
          have hm1 : m1 < N2 := Nat.lt_of_lt_of_le gm1 gx2.1
          have hN2 : N2 < 242 := by omega
          refine fx_cV 4 sR_IN [.int (nI (m1)), .int (nI (m2))] [] dIN_nodeOf_45 kIN_83 rfl rfl mIN_functionNode_v (c_IN_functionNode hB g2.1 hN2 (by omega) (by omega)) (by omega) (Nat.le_refl _) (Nat.le_refl _) (Nat.le_of_ble_eq_true rfl) rfl ?_
          refine sd_iret dIN_nodeOf_48 rfl (Nat.le_refl _) (Nat.le_refl _) ⟨rfl, N2, _, rfl, rfl, N2 + 1, upN K2 N2 3, upN L2 N2 m1, upN R2 N2 m2, fn_G g2 gb2, fn_B gb2 hN2 hm1 gm2, fun P hP => (fn_E (gE2 P (gE1 P hP))).mono (by omega), by omega, (gx1.tr gx2).tr (gxx.fn gb2 hm1 gm2), ?_, by omega, (gf1.tr gf2).tr fn_f, ?_⟩
          · intro σ hσ
            have s2 := (gxx.fn gb2 hm1 gm2).back gb2 hσ
            have s1 := gx2.back gb1 s2
            have e := (hσ N2).2.2 (by simp [upN])
            simp only [upN, if_true] at e
            rw [e, gr1 σ s1, gr2 σ s2]
          · intro n q1 q2
            refine ⟨?_, fun σ hσ => ?_⟩
            · by_cases e1 : n < N1
              · simp only [upN, show ¬ n = N2 by have := gx2.1; omega, if_false]
                rw [(gx2.2.1 n e1).1]
                exact (gc1 n q1 e1).1
              · by_cases e2 : n < N2
                · simp only [upN, show ¬ n = N2 by omega, if_false]
                  exact (gc2 n (by omega) e2).1
                · simp only [upN, show n = N2 by omega, if_true]
            have s2 := (gxx.fn gb2 hm1 gm2).back gb2 hσ
            have s1 := gx2.back gb1 s2
            by_cases e1 : n < N1
            · have := (gc1 n q1 e1).2 σ s1
              omega
            · by_cases e2 : n < N2
              · have := (gc2 n (by omega) e2).2 σ s2
                omega
              · have e3 : n = N2 := by omega
                subst e3
                have e := (hσ n).2.2 (by simp [upN])
                simp only [upN, if_true] at e
                rw [e, gr1 σ s1, gr2 σ s2]
                exact Nat.le_refl _
        ·
          exact absurd c16 (by omega)
    ·
      exact absurd c2 n4
