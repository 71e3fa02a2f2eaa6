/-! ===== the model: suits, kind 8 ===== -/
theorem l_MO_suits8 {G : sd_G} {o : Nat} {D : fx_D} {h0 : sd_H} {nx v g y : Nat} {S : st_S} (hR : mo_R S D) (hG : st_okG S) (hH : st_okH S) (hg : g < (st_gl S).length) (hy : y < (st_th S).length) (hv2 : v < 2) : ∀ (n j : Nat), (st_hy S y).length = j + n → (v = 1 ↔ ∀ t ∈ (st_hy S y).drop j, t ∈ st_gh S g) → sd_W G mMO_suits 6 0 0 (sd_is (some (.int (nI v))) (fx_h G.1.2 mo_S o D h0) nx) 371 [(0, .ref (o + 0)), (2, .int (nI y)), (3, .int (nI g)), (6, .int (nI j))] [] (fx_h G.1.2 mo_S o D h0) nx 0 0 := by
  obtain ⟨a1, a2, a3, a4, a5, a6⟩ := mo_cn hR hH hy
  obtain ⟨g1, g2, g3, g4, g5, g6⟩ := mo_gg hR hG hg
  have h64 := hR.2.1.1
  intro n
  induction n with
  | zero =>
    intro j hj hv
    rw [List.drop_eq_nil_of_le (by omega)] at hv
    obtain rfl : v = 1 := hv.mpr (fun t h => by simp at h)
    refine sd_iload dMO_suits_371 rfl ?_
    refine sd_aload_n dMO_suits_373 rfl rfl ?_
    refine fx_getr 10 9 (7) dMO_suits_374 fMO_28 rfl rfl ?_
    refine sd_iload_n dMO_suits_377 rfl rfl ?_
    refine fx_ialdv (v := (nI ((st_hy S y).length))) (y) dMO_suits_378 rfl rfl (by omega) (by decide) (a4) ?_
    refine nn_icmp_ge 410 dMO_suits_379 (by decide) (by omega) (by omega) (fun c379 => ?_) (fun c379 => ?_)
    ·
      refine sd_iconst (v := nI 1) dMO_suits_410 (by decide) ?_
      exact sd_zret dMO_suits_411 rfl (Or.inr rfl) (Nat.le_refl _) (Nat.le_refl _) ⟨rfl, rfl, rfl⟩
    ·
      exact absurd c379 (by omega)
  | succ n ih =>
    intro j hj hv
    have hx : (st_hy S y)[j]? = some (st_hy S y)[j] := List.getElem?_eq_getElem (by omega)
    have hdr : (st_hy S y).drop j = (st_hy S y)[j] :: (st_hy S y).drop (j + 1) := List.drop_eq_getElem_cons (by omega)
    generalize (st_hy S y)[j] = u at hx hdr
    obtain ⟨u1, u2⟩ := a6 j u hx
    rw [hdr, List.forall_mem_cons] at hv
    obtain ⟨w, w2, w1⟩ := bw_b (u ∈ st_gh S g)
    refine sd_iload dMO_suits_371 rfl ?_
    refine sd_aload_n dMO_suits_373 rfl rfl ?_
    refine fx_getr 10 9 (7) dMO_suits_374 fMO_28 rfl rfl ?_
    refine sd_iload_n dMO_suits_377 rfl rfl ?_
    refine fx_ialdv (v := (nI ((st_hy S y).length))) (y) dMO_suits_378 rfl rfl (by omega) (by decide) (a4) ?_
    refine nn_icmp_ge 410 dMO_suits_379 (by decide) (by omega) (by omega) (fun c379 => ?_) (fun c379 => ?_)
    ·
      exact absurd c379 (by omega)
    ·
      refine sd_aload_n dMO_suits_382 rfl rfl ?_
      refine sd_iload_n dMO_suits_383 rfl rfl ?_
      refine sd_aload_n dMO_suits_384 rfl rfl ?_
      refine fx_getr 10 10 (8) dMO_suits_385 fMO_31 rfl rfl ?_
      refine sd_bipush (v := nI 6) dMO_suits_388 (by decide) ?_
      refine sd_iload_n dMO_suits_390 rfl rfl ?_
      refine nn_imul dMO_suits_391 ?_
      refine sd_iload dMO_suits_392 rfl ?_
      refine nn_iadd dMO_suits_394 ?_
      refine fx_ialdv (v := (nI (u))) ((6 * y) + j) dMO_suits_395 rfl rfl (by omega) (by decide) (u1) ?_
      refine fx_cV 10 sR_MO [.int (nI (g)), .int (nI (u))] [] dMO_suits_396 kMO_278 rfl rfl mMO_assumes_v (c_MO_assumes hR hG hg (by omega) w2 w1) (by decide) (Nat.le_refl _) (Nat.le_refl _) (Nat.le_of_ble_eq_true rfl) rfl ?_
      refine nn_if_ne 404 dMO_suits_399 (by decide) (by omega) (fun c399 => ?_) (fun c399 => ?_)
      ·
        refine nn_iinc 1 dMO_suits_404 rfl (by decide) ?_
        refine sd_goto 371 dMO_suits_407 (by decide) ?_
        refine sd_locp (al' := [(0, .ref (o + (0))), (2, .int (nI (y))), (3, .int (nI (g))), (6, .int (nI (j + 1)))]) [1, 2, 3, 0] rfl ?_
        exact ih (j + 1) (by omega) (by rw [hv]; exact and_iff_right (w1.mp (by omega)))
      ·
        refine sd_iconst (v := nI 0) dMO_suits_402 (by decide) ?_
        have hne : ¬ v = 1 := fun e => absurd (w1.mpr (hv.mp e).1) (by omega)
        obtain rfl : v = 0 := by omega
        exact sd_zret dMO_suits_403 rfl (Or.inl rfl) (Nat.le_refl _) (Nat.le_refl _) ⟨rfl, rfl, rfl⟩
theorem c_MO_suits8 {G : sd_G} {o : Nat} {D : fx_D} {h0 : sd_H} {nx v g y : Nat} {S : st_S} (hR : mo_R S D) (hG : st_okG S) (hH : st_okH S) (hg : g < (st_gl S).length) (hy : y < (st_th S).length) (hv2 : v < 2) (hv : v = 1 ↔ su_fit S 8 y g = true) : sd_Ct G mMO_suits 6 0 0 [.ref (o + 0), .int (nI 8), .int (nI y), .int (nI g)] (fx_h G.1.2 mo_S o D h0) nx (sd_is (some (.int (nI v))) (fx_h G.1.2 mo_S o D h0) nx) := by
  refine sd_Ct_of (by decide) (Nat.le_of_ble_eq_true rfl) (h_MO_suits hR hG hg (by omega) (by omega) ?_)
  obtain ⟨a1, a2, a3, a4, a5, a6⟩ := mo_cn hR hH hy
  obtain ⟨g1, g2, g3, g4, g5, g6⟩ := mo_gg hR hG hg
  have h64 := hR.2.1.1
  simp only [su_fit, Bool.and_eq_true, beq_iff_eq, List.all_eq_true, List.contains_iff_mem] at hv
  refine sd_iload_n dMO_suits_58 rfl rfl ?_
  refine sd_tableOut 355 dMO_suits_59 (Or.inr (by decide)) (by decide) ?_
  refine sd_aload_n dMO_suits_355 rfl rfl ?_
  refine fx_getr 10 8 (6) dMO_suits_356 fMO_25 rfl rfl ?_
  refine sd_iload_n dMO_suits_359 rfl rfl ?_
  refine fx_ialdv (v := (nI (st_cn S y))) (y) dMO_suits_360 rfl rfl (by omega) (by decide) (a1) ?_
  refine sd_iload dMO_suits_361 rfl ?_
  refine nn_icmp_eq 368 dMO_suits_363 (by decide) (by omega) (by omega) (fun c363 => ?_) (fun c363 => ?_)
  ·
    refine sd_iconst (v := nI 0) dMO_suits_368 (by decide) ?_
    refine sd_istore dMO_suits_369 (by decide) ?_
    refine sd_locp (al' := [(0, .ref (o + (0))), (2, .int (nI (y))), (3, .int (nI (g))), (6, .int (nI (0)))]) [1, 3, 4, 0] rfl ?_
    exact l_MO_suits8 hR hG hH hg hy hv2 (st_hy S y).length 0 (by omega) (by rw [List.drop_zero, hv]; exact and_iff_right (by omega))
  ·
    refine sd_iconst (v := nI 0) dMO_suits_366 (by decide) ?_
    obtain rfl : v = 0 := by
      have : ¬ v = 1 := fun e => absurd (hv.mp e).1 (by omega)
      omega
    exact sd_zret dMO_suits_367 rfl (Or.inl rfl) (Nat.le_refl _) (Nat.le_refl _) ⟨rfl, rfl, rfl⟩
