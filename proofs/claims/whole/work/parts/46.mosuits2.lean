/-! ===== the model: suits, kinds 0 1 2 6 7 ===== -/
theorem c_MO_suits1 {G : sd_G} {o : Nat} {D : fx_D} {h0 : sd_H} {nx v g y : Nat} {x : Int32} {S : st_S} (hR : mo_R S D) (hG : st_okG S) (hg : g < (st_gl S).length) (hv2 : v < 2) (hv : v = 1 ↔ su_fit S 1 y g = true) : sd_Ct G mMO_suits 6 0 0 [.ref (o + 0), .int (nI 1), .int x, .int (nI g)] (fx_h G.1.2 mo_S o D h0) nx (sd_is (some (.int (nI v))) (fx_h G.1.2 mo_S o D h0) nx) := by
  refine sd_Ct_of (by decide) (Nat.le_of_ble_eq_true rfl) (h_MO_suits hR hG hg (by omega) (by omega) ?_)
  obtain ⟨g1, g2, g3, g4, g5, g6⟩ := mo_gg hR hG hg
  have h64 := hR.2.1.1
  simp only [su_fit, List.contains_iff_mem] at hv
  refine sd_iload_n dMO_suits_58 rfl rfl ?_
  refine sd_tableIn (off := 57) 116 dMO_suits_59 (by decide) (by decide) (by decide) (by decide) ?_
  refine sd_aload_n dMO_suits_116 rfl rfl ?_
  refine sd_iload_n dMO_suits_117 rfl rfl ?_
  refine sd_iload dMO_suits_118 rfl ?_
  refine fx_cV 10 sR_MO [.int (nI (g)), .int (nI (st_gt S g))] [] dMO_suits_120 kMO_278 rfl rfl mMO_assumes_v (c_MO_assumes hR hG hg (by omega) hv2 hv) (by decide) (Nat.le_refl _) (Nat.le_refl _) (Nat.le_of_ble_eq_true rfl) rfl ?_
  exact sd_zret dMO_suits_123 rfl (nn_01 (by omega)) (Nat.le_refl _) (Nat.le_refl _) ⟨rfl, rfl, rfl⟩
theorem c_MO_suits6 {G : sd_G} {o : Nat} {D : fx_D} {h0 : sd_H} {nx v g y : Nat} {S : st_S} (hR : mo_R S D) (hG : st_okG S) (hg : g < (st_gl S).length) (hy : y < (st_T S).length) (hv2 : v < 2) (hv : v = 1 ↔ su_fit S 6 y g = true) : sd_Ct G mMO_suits 6 0 0 [.ref (o + 0), .int (nI 6), .int (nI y), .int (nI g)] (fx_h G.1.2 mo_S o D h0) nx (sd_is (some (.int (nI v))) (fx_h G.1.2 mo_S o D h0) nx) := by
  refine sd_Ct_of (by decide) (Nat.le_of_ble_eq_true rfl) (h_MO_suits hR hG hg (by omega) (by omega) ?_)
  obtain ⟨-, m1, m2, m3⟩ := mo_tm hR hy
  have p0 := m2.hd
  have q4 := (m1.2.2 0 _ p0).2.2.2
  simp only [su_fit, beq_iff_eq] at hv
  refine sd_iload_n dMO_suits_58 rfl rfl ?_
  refine sd_tableIn (off := 264) 323 dMO_suits_59 (by decide) (by decide) (by decide) (by decide) ?_
  refine sd_aload_n dMO_suits_323 rfl rfl ?_
  refine sd_iload_n dMO_suits_324 rfl rfl ?_
  refine fx_cV 10 sR_MO [.int (nI (y))] [] dMO_suits_325 kMO_203 rfl rfl mMO_typeOf_v (c_MO_typ0 (by omega) m1 p0) (by decide) (Nat.le_refl _) (Nat.le_refl _) (Nat.le_of_ble_eq_true rfl) rfl ?_
  refine sd_iconst (v := nI 4) dMO_suits_328 (by decide) ?_
  refine nn_icmp_ne 336 dMO_suits_329 (by decide) (by omega) (by omega) (fun c329 => ?_) (fun c329 => ?_)
  ·
    refine sd_iconst (v := nI 0) dMO_suits_336 (by decide) ?_
    exact sd_zret dMO_suits_337 rfl (nn_01 (by omega)) (Nat.le_refl _) (Nat.le_refl _) ⟨by rw [show v = (0) by omega], rfl, rfl⟩
  ·
    refine sd_iconst (v := nI 1) dMO_suits_332 (by decide) ?_
    refine sd_goto 337 dMO_suits_333 (by decide) ?_
    exact sd_zret dMO_suits_337 rfl (nn_01 (by omega)) (Nat.le_refl _) (Nat.le_refl _) ⟨by rw [show v = (1) by omega], rfl, rfl⟩
