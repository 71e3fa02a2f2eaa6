/-! ===== the model: suits, where the goal is no EQ; kinds 7 2 0 ===== -/
theorem c_MO_suitsN {G : sd_G} {o : Nat} {D : fx_D} {h0 : sd_H} {nx k g : Nat} {x : Int32} {S : st_S} (hR : mo_R S D) (hG : st_okG S) (hg : g < (st_gl S).length) (hk : k < 8) (hk1 : k ≠ 1) (hk6 : k ≠ 6) (hE : ¬ tl_isE (su_m S g) = true) : sd_Ct G mMO_suits 6 0 0 [.ref (o + 0), .int (nI k), .int x, .int (nI g)] (fx_h G.1.2 mo_S o D h0) nx (sd_is (some (.int (nI 0))) (fx_h G.1.2 mo_S o D h0) nx) := by
  refine sd_Ct_of (by decide) (Nat.le_of_ble_eq_true rfl) ?_
  obtain ⟨g1, g2, g3, g4, g5, g6⟩ := mo_gg hR hG hg
  obtain ⟨-, m1, m2, m3⟩ := mo_tm hR g2
  have p0 := m2.hd
  have cE := c_MO_isEqual (G := G) (o := o) (h0 := h0) (nx := nx) (b := 0) (by omega) m1 p0 (by omega) (by constructor; intro e; cases e; intro e; exact absurd (tl_isE_iff.mpr e) hE)
  refine sd_aload_n dMO_suits_0 rfl rfl ?_
  refine fx_getr 10 17 (13) dMO_suits_1 fMO_46 rfl rfl ?_
  refine sd_iload_n dMO_suits_4 rfl rfl ?_
  refine fx_ialdv (v := (nI (st_gt S g))) (g) dMO_suits_5 rfl rfl (by omega) (by decide) (g1) ?_
  refine sd_istore dMO_suits_6 (by decide) ?_
  refine sd_aload_n dMO_suits_8 rfl rfl ?_
  refine sd_iload dMO_suits_9 rfl ?_
  refine fx_cV 10 sR_MO [.int (nI (st_gt S g))] [] dMO_suits_11 kMO_222 rfl rfl mMO_isEqual_v (cE) (by decide) (Nat.le_refl _) (Nat.le_refl _) (Nat.le_of_ble_eq_true rfl) rfl ?_
  refine nn_if_eq 27 dMO_suits_14 (by decide) (by decide) (fun _ => ?_) (fun c => absurd c (by decide))
  refine sd_iconst (v := nI 0) dMO_suits_27 (by decide) ?_
  refine sd_istore dMO_suits_28 (by decide) ?_
  refine sd_iload_n dMO_suits_30 rfl rfl ?_
  refine sd_iconst (v := nI 1) dMO_suits_31 (by decide) ?_
  refine nn_icmp_eq 58 dMO_suits_32 (by decide) (by omega) (by omega) (fun c32 => ?_) (fun c32 => ?_)
  ·
    exact absurd c32 (by omega)
  ·
    refine sd_iload_n dMO_suits_35 rfl rfl ?_
    refine sd_bipush (v := nI 6) dMO_suits_36 (by decide) ?_
    refine nn_icmp_eq 58 dMO_suits_38 (by decide) (by omega) (by omega) (fun c38 => ?_) (fun c38 => ?_)
    ·
      exact absurd c38 (by omega)
    ·
      refine sd_iload_n dMO_suits_41 rfl rfl ?_
      refine sd_bipush (v := nI 8) dMO_suits_42 (by decide) ?_
      refine nn_icmp_eq 58 dMO_suits_44 (by decide) (by omega) (by omega) (fun c44 => ?_) (fun c44 => ?_)
      ·
        exact absurd c44 (by omega)
      ·
        refine sd_aload_n dMO_suits_47 rfl rfl ?_
        refine sd_iload dMO_suits_48 rfl ?_
        refine fx_cV 10 sR_MO [.int (nI (st_gt S g))] [] dMO_suits_50 kMO_222 rfl rfl mMO_isEqual_v (cE) (by decide) (Nat.le_refl _) (Nat.le_refl _) (Nat.le_of_ble_eq_true rfl) rfl ?_
        refine nn_if_ne 58 dMO_suits_53 (by decide) (by decide) (fun c => absurd c (by decide)) (fun _ => ?_)
        refine sd_iconst (v := nI 0) dMO_suits_56 (by decide) ?_
        exact sd_zret dMO_suits_57 rfl (Or.inl rfl) (Nat.le_refl _) (Nat.le_refl _) ⟨rfl, rfl, rfl⟩
theorem c_MO_suits0 {G : sd_G} {o : Nat} {D : fx_D} {h0 : sd_H} {nx v g y : Nat} {x : Int32} {S : st_S} (hR : mo_R S D) (hG : st_okG S) (hg : g < (st_gl S).length) (hv2 : v < 2) (hv : v = 1 ↔ su_fit S 0 y g = true) : sd_Ct G mMO_suits 6 0 0 [.ref (o + 0), .int (nI 0), .int x, .int (nI g)] (fx_h G.1.2 mo_S o D h0) nx (sd_is (some (.int (nI v))) (fx_h G.1.2 mo_S o D h0) nx) := by
  simp only [su_fit, Bool.and_eq_true, beq_iff_eq] at hv
  by_cases hE : tl_isE (su_m S g) = true
  · refine sd_Ct_of (by decide) (Nat.le_of_ble_eq_true rfl) (h_MO_suits hR hG hg (by omega) (Or.inl hE) ?_)
    obtain ⟨g1, g2, g3, g4, g5, g6⟩ := mo_gg hR hG hg
    obtain ⟨-, m1, m2, m3⟩ := mo_tm hR g2
    obtain ⟨l1, l2, l3⟩ := m2.two (tl_E2 hE)
    have ee : su_e S g = tl_end (st_tm S (st_gt S g)) 1 := by unfold su_e; rw [if_pos hE]; rfl
    rw [ee]
    simp only [hE, true_and] at hv
    refine sd_iload_n dMO_suits_58 rfl rfl ?_
    refine sd_tableIn (off := 45) 104 dMO_suits_59 (by decide) (by decide) (by decide) (by decide) ?_
    refine sd_aload_n dMO_suits_104 rfl rfl ?_
    refine sd_iload dMO_suits_105 rfl ?_
    refine sd_iconst (v := nI 1) dMO_suits_107 (by decide) ?_
    refine sd_iload dMO_suits_108 rfl ?_
    refine sd_iload dMO_suits_110 rfl ?_
    refine fx_cV 10 sR_MO [.int (nI (st_gt S g)), .int (nI (1)), .int (nI (st_gt S g)), .int (nI (tl_end (st_tm S (st_gt S g)) 1))] [] dMO_suits_112 kMO_141 rfl rfl mMO_same_v (c_MO_same (by omega) (by omega) m1 m1 (by omega) (by omega) (tl_ok_drop _ 1 1 m2.1 m2.2.1 l1) (tl_ok_drop _ 1 _ m2.1 m2.2.1 l2) hv2 hv) (by decide) (Nat.le_refl _) (Nat.le_refl _) (Nat.le_of_ble_eq_true rfl) rfl ?_
    exact sd_zret dMO_suits_115 rfl (nn_01 (by omega)) (Nat.le_refl _) (Nat.le_refl _) ⟨rfl, rfl, rfl⟩
  · obtain rfl : v = 0 := by
      have : ¬ v = 1 := fun e => hE (hv.mp e).1
      omega
    exact c_MO_suitsN hR hG hg (by omega) (by omega) (by omega) hE
