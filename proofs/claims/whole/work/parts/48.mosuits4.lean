/-! ===== the model: suits, kinds 7 and 2 ===== -/
theorem c_MO_suits7 {G : sd_G} {o : Nat} {D : fx_D} {h0 : sd_H} {nx v g y : Nat} {x : Int32} {S : st_S} (hR : mo_R S D) (hG : st_okG S) (hg : g < (st_gl S).length) (hv2 : v < 2) (hv : v = 1 ↔ su_fit S 7 y g = true) : sd_Ct G mMO_suits 6 0 0 [.ref (o + 0), .int (nI 7), .int x, .int (nI g)] (fx_h G.1.2 mo_S o D h0) nx (sd_is (some (.int (nI v))) (fx_h G.1.2 mo_S o D h0) nx) := by
  simp only [su_fit, Bool.and_eq_true, beq_iff_eq] at hv
  by_cases hE : tl_isE (su_m S g) = true
  · refine sd_Ct_of (by decide) (Nat.le_of_ble_eq_true rfl) (h_MO_suits hR hG hg (by omega) (Or.inl hE) ?_)
    obtain ⟨g1, g2, g3, g4, g5, g6⟩ := mo_gg hR hG hg
    obtain ⟨-, m1, m2, m3⟩ := mo_tm hR g2
    obtain ⟨l1, l2, l3⟩ := m2.two (tl_E2 hE)
    have hx := tl_at_some l1
    have q4 := (m1.2.2 1 _ hx).2.2.2
    simp only [hE, true_and] at hv
    unfold su_m at hv
    refine sd_iload_n dMO_suits_58 rfl rfl ?_
    refine sd_tableIn (off := 279) 338 dMO_suits_59 (by decide) (by decide) (by decide) (by decide) ?_
    refine sd_aload_n dMO_suits_338 rfl rfl ?_
    refine sd_iload dMO_suits_339 rfl ?_
    refine sd_iconst (v := nI 1) dMO_suits_341 (by decide) ?_
    refine fx_cV 10 sR_MO [.int (nI (st_gt S g)), .int (nI (1))] [] dMO_suits_342 kMO_134 rfl rfl mMO_typeAt_v (c_MO_typ (by omega) m1 hx) (by decide) (Nat.le_refl _) (Nat.le_refl _) (Nat.le_of_ble_eq_true rfl) rfl ?_
    refine sd_iconst (v := nI 4) dMO_suits_345 (by decide) ?_
    refine nn_icmp_ne 353 dMO_suits_346 (by decide) (by omega) (by omega) (fun c346 => ?_) (fun c346 => ?_)
    ·
      refine sd_iconst (v := nI 0) dMO_suits_353 (by decide) ?_
      exact sd_zret dMO_suits_354 rfl (nn_01 (by omega)) (Nat.le_refl _) (Nat.le_refl _) ⟨by rw [show v = (0) by omega], rfl, rfl⟩
    ·
      refine sd_iconst (v := nI 1) dMO_suits_349 (by decide) ?_
      refine sd_goto 354 dMO_suits_350 (by decide) ?_
      exact sd_zret dMO_suits_354 rfl (nn_01 (by omega)) (Nat.le_refl _) (Nat.le_refl _) ⟨by rw [show v = (1) by omega], rfl, rfl⟩
  · obtain rfl : v = 0 := by
      have : ¬ v = 1 := fun e => hE (hv.mp e).1
      omega
    exact c_MO_suitsN hR hG hg (by omega) (by omega) (by omega) hE
theorem c_MO_suits2 {G : sd_G} {o : Nat} {D : fx_D} {h0 : sd_H} {nx v g y : Nat} {S : st_S} (hR : mo_R S D) (hG : st_okG S) (hg : g < (st_gl S).length) (hy : y < (st_T S).length) (hv2 : v < 2) (hv : v = 1 ↔ su_fit S 2 y g = true) : sd_Ct G mMO_suits 6 0 0 [.ref (o + 0), .int (nI 2), .int (nI y), .int (nI g)] (fx_h G.1.2 mo_S o D h0) nx (sd_is (some (.int (nI v))) (fx_h G.1.2 mo_S o D h0) nx) := by
  simp only [su_fit, Bool.and_eq_true, beq_iff_eq] at hv
  by_cases hE : tl_isE (su_m S g) = true
  · refine sd_Ct_of (by decide) (Nat.le_of_ble_eq_true rfl) (h_MO_suits hR hG hg (by omega) (Or.inl hE) ?_)
    obtain ⟨g1, g2, g3, g4, g5, g6⟩ := mo_gg hR hG hg
    obtain ⟨-, m1, m2, m3⟩ := mo_tm hR g2
    obtain ⟨l1, l2, l3⟩ := m2.two (tl_E2 hE)
    have hx := tl_at_some l1
    have q4 := (m1.2.2 1 _ hx).2.2.2
    obtain ⟨-, n1, n2, n3⟩ := mo_tm hR hy
    have p0 := n2.hd
    have r4 := (n1.2.2 0 _ p0).2.2.2
    simp only [hE, true_and] at hv
    unfold su_m at hv
    refine sd_iload_n dMO_suits_58 rfl rfl ?_
    refine sd_tableIn (off := 65) 124 dMO_suits_59 (by decide) (by decide) (by decide) (by decide) ?_
    refine sd_aload_n dMO_suits_124 rfl rfl ?_
    refine sd_iload_n dMO_suits_125 rfl rfl ?_
    refine fx_cV 10 sR_MO [.int (nI (y))] [] dMO_suits_126 kMO_203 rfl rfl mMO_typeOf_v (c_MO_typ0 (by omega) n1 p0) (by decide) (Nat.le_refl _) (Nat.le_refl _) (Nat.le_of_ble_eq_true rfl) rfl ?_
    refine sd_aload_n dMO_suits_129 rfl rfl ?_
    refine sd_iload dMO_suits_130 rfl ?_
    refine sd_iconst (v := nI 1) dMO_suits_132 (by decide) ?_
    refine fx_cV 10 sR_MO [.int (nI (st_gt S g)), .int (nI (1))] [.int (nI ((tl_at (st_tm S y) 0).2))] dMO_suits_133 kMO_134 rfl rfl mMO_typeAt_v (c_MO_typ (by omega) m1 hx) (by decide) (Nat.le_refl _) (Nat.le_refl _) (Nat.le_of_ble_eq_true rfl) rfl ?_
    refine nn_icmp_ne 143 dMO_suits_136 (by decide) (by omega) (by omega) (fun c136 => ?_) (fun c136 => ?_)
    ·
      refine sd_iconst (v := nI 0) dMO_suits_143 (by decide) ?_
      exact sd_zret dMO_suits_144 rfl (nn_01 (by omega)) (Nat.le_refl _) (Nat.le_refl _) ⟨by rw [show v = (0) by omega], rfl, rfl⟩
    ·
      refine sd_iconst (v := nI 1) dMO_suits_139 (by decide) ?_
      refine sd_goto 144 dMO_suits_140 (by decide) ?_
      exact sd_zret dMO_suits_144 rfl (nn_01 (by omega)) (Nat.le_refl _) (Nat.le_refl _) ⟨by rw [show v = (1) by omega], rfl, rfl⟩
  · obtain rfl : v = 0 := by
      have : ¬ v = 1 := fun e => hE (hv.mp e).1
      omega
    exact c_MO_suitsN hR hG hg (by omega) (by omega) (by omega) hE
