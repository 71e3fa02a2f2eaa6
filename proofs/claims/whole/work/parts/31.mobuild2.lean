/-! ===== the model: build, the other kinds ===== -/
theorem t_MO_build2 {G : sd_G} {o : Nat} {E : fx_D} {h0 : sd_H} {nx a b : Nat} {S : st_S} {L : tl_T} (hB : G.2.1 ≤ o) (hH : st_okH S) (ha : a < (st_th S).length) (hb : b < (st_th S).length) (hq : bd_Q S L [] E) : sd_W G mMO_build 6 0 0 (fx_is G.1.2 mo_S o h0 nx none (bd_Q S L (ru_hyp S 2 a b))) 463 [(0, .ref (o + 0)), (1, .int (nI 2)), (2, .int (nI a)), (3, .int (nI b))] [] (fx_h G.1.2 mo_S o E h0) nx 0 0 := by
  obtain ⟨-, -, a3, e4, e5, e6⟩ := mo_cn hq.1 hH ha
  have h64 := hq.1.2.1.1
  refine sd_iload_n dMO_build_463 rfl rfl ?_
  refine sd_bipush (v := nI 7) dMO_build_464 (by decide) ?_
  refine nn_icmp_ne 486 dMO_build_466 (by decide) (by decide) (by decide) (fun _ => ?_) (fun c => absurd c (by decide))
  refine sd_iload_n dMO_build_486 rfl rfl ?_
  refine sd_iconst (v := nI 1) dMO_build_487 (by decide) ?_
  refine nn_icmp_le 519 dMO_build_488 (by decide) (by decide) (by decide) (fun c => absurd c (by decide)) (fun _ => ?_)
  refine sd_iload_n dMO_build_491 rfl rfl ?_
  refine sd_iconst (v := nI 5) dMO_build_492 (by decide) ?_
  refine nn_icmp_eq 519 dMO_build_493 (by decide) (by decide) (by decide) (fun c => absurd c (by decide)) (fun _ => ?_)
  refine sd_iload_n dMO_build_496 rfl rfl ?_
  refine sd_bipush (v := nI 8) dMO_build_497 (by decide) ?_
  refine nn_icmp_ge 519 dMO_build_499 (by decide) (by decide) (by decide) (fun c => absurd c (by decide)) (fun _ => ?_)
  refine sd_aload_n dMO_build_502 rfl rfl ?_
  refine sd_iload_n dMO_build_503 rfl rfl ?_
  refine sd_iconst (v := (-1)) dMO_build_504 (by decide) ?_
  refine fx_cP 10 sR_MO [.int (nI (a)), .int ((-1))] [] dMO_build_505 kMO_249 rfl rfl mMO_gather_v (c_MO_gather hB a3 e5 e4 (fun k t ht ↦ ⟨(e6 k t ht).1, by have := (e6 k t ht).2; omega⟩) hq.2.1 (by show 0 + _ ≤ 12; omega)) (by decide) (Nat.le_refl _) (Nat.le_refl _) (Nat.le_of_ble_eq_true rfl) rfl (fun D1 hD1 => ?_)
  have hq1 := bd_fw hq hD1.1 hD1.2
  obtain ⟨-, -, b3, g4, g5, g6⟩ := mo_cn hq1.1 hH hb
  refine sd_iload_n dMO_build_508 rfl rfl ?_
  refine sd_iconst (v := nI 4) dMO_build_509 (by decide) ?_
  refine nn_icmp_eq 519 dMO_build_510 (by decide) (by decide) (by decide) (fun c => absurd c (by decide)) (fun _ => ?_)
  refine sd_aload_n dMO_build_513 rfl rfl ?_
  refine sd_iload_n dMO_build_514 rfl rfl ?_
  refine sd_iconst (v := (-1)) dMO_build_515 (by decide) ?_
  refine fx_cP 10 sR_MO [.int (nI (b)), .int ((-1))] [] dMO_build_516 kMO_249 rfl rfl mMO_gather_v (c_MO_gather hB b3 g5 g4 (fun k t ht ↦ ⟨(g6 k t ht).1, by have := (g6 k t ht).2; omega⟩) hD1.1 (by have := ls_g_len (st_hy S a) [] (-1); simp at this; omega)) (by decide) (Nat.le_refl _) (Nat.le_refl _) (Nat.le_of_ble_eq_true rfl) rfl (fun D2 hD2 => ?_)
  exact sd_vret dMO_build_519 rfl (Nat.le_refl _) (Nat.le_refl _) ⟨rfl, rfl, _, rfl, bd_fw hq1 hD2.1 hD2.2⟩
theorem t_MO_build3 {G : sd_G} {o : Nat} {E : fx_D} {h0 : sd_H} {nx a b : Nat} {S : st_S} {L : tl_T} (hB : G.2.1 ≤ o) (hH : st_okH S) (ha : a < (st_th S).length) (hb : b < (st_th S).length) (hq : bd_Q S L [] E) : sd_W G mMO_build 6 0 0 (fx_is G.1.2 mo_S o h0 nx none (bd_Q S L (ru_hyp S 3 a b))) 463 [(0, .ref (o + 0)), (1, .int (nI 3)), (2, .int (nI a)), (3, .int (nI b))] [] (fx_h G.1.2 mo_S o E h0) nx 0 0 := by
  obtain ⟨-, -, a3, e4, e5, e6⟩ := mo_cn hq.1 hH ha
  have h64 := hq.1.2.1.1
  refine sd_iload_n dMO_build_463 rfl rfl ?_
  refine sd_bipush (v := nI 7) dMO_build_464 (by decide) ?_
  refine nn_icmp_ne 486 dMO_build_466 (by decide) (by decide) (by decide) (fun _ => ?_) (fun c => absurd c (by decide))
  refine sd_iload_n dMO_build_486 rfl rfl ?_
  refine sd_iconst (v := nI 1) dMO_build_487 (by decide) ?_
  refine nn_icmp_le 519 dMO_build_488 (by decide) (by decide) (by decide) (fun c => absurd c (by decide)) (fun _ => ?_)
  refine sd_iload_n dMO_build_491 rfl rfl ?_
  refine sd_iconst (v := nI 5) dMO_build_492 (by decide) ?_
  refine nn_icmp_eq 519 dMO_build_493 (by decide) (by decide) (by decide) (fun c => absurd c (by decide)) (fun _ => ?_)
  refine sd_iload_n dMO_build_496 rfl rfl ?_
  refine sd_bipush (v := nI 8) dMO_build_497 (by decide) ?_
  refine nn_icmp_ge 519 dMO_build_499 (by decide) (by decide) (by decide) (fun c => absurd c (by decide)) (fun _ => ?_)
  refine sd_aload_n dMO_build_502 rfl rfl ?_
  refine sd_iload_n dMO_build_503 rfl rfl ?_
  refine sd_iconst (v := (-1)) dMO_build_504 (by decide) ?_
  refine fx_cP 10 sR_MO [.int (nI (a)), .int ((-1))] [] dMO_build_505 kMO_249 rfl rfl mMO_gather_v (c_MO_gather hB a3 e5 e4 (fun k t ht ↦ ⟨(e6 k t ht).1, by have := (e6 k t ht).2; omega⟩) hq.2.1 (by show 0 + _ ≤ 12; omega)) (by decide) (Nat.le_refl _) (Nat.le_refl _) (Nat.le_of_ble_eq_true rfl) rfl (fun D1 hD1 => ?_)
  have hq1 := bd_fw hq hD1.1 hD1.2
  obtain ⟨-, -, b3, g4, g5, g6⟩ := mo_cn hq1.1 hH hb
  refine sd_iload_n dMO_build_508 rfl rfl ?_
  refine sd_iconst (v := nI 4) dMO_build_509 (by decide) ?_
  refine nn_icmp_eq 519 dMO_build_510 (by decide) (by decide) (by decide) (fun c => absurd c (by decide)) (fun _ => ?_)
  refine sd_aload_n dMO_build_513 rfl rfl ?_
  refine sd_iload_n dMO_build_514 rfl rfl ?_
  refine sd_iconst (v := (-1)) dMO_build_515 (by decide) ?_
  refine fx_cP 10 sR_MO [.int (nI (b)), .int ((-1))] [] dMO_build_516 kMO_249 rfl rfl mMO_gather_v (c_MO_gather hB b3 g5 g4 (fun k t ht ↦ ⟨(g6 k t ht).1, by have := (g6 k t ht).2; omega⟩) hD1.1 (by have := ls_g_len (st_hy S a) [] (-1); simp at this; omega)) (by decide) (Nat.le_refl _) (Nat.le_refl _) (Nat.le_of_ble_eq_true rfl) rfl (fun D2 hD2 => ?_)
  exact sd_vret dMO_build_519 rfl (Nat.le_refl _) (Nat.le_refl _) ⟨rfl, rfl, _, rfl, bd_fw hq1 hD2.1 hD2.2⟩
theorem t_MO_build6 {G : sd_G} {o : Nat} {E : fx_D} {h0 : sd_H} {nx a b : Nat} {S : st_S} {L : tl_T} (hB : G.2.1 ≤ o) (hH : st_okH S) (ha : a < (st_th S).length) (hb : b < (st_th S).length) (hq : bd_Q S L [] E) : sd_W G mMO_build 6 0 0 (fx_is G.1.2 mo_S o h0 nx none (bd_Q S L (ru_hyp S 6 a b))) 463 [(0, .ref (o + 0)), (1, .int (nI 6)), (2, .int (nI a)), (3, .int (nI b))] [] (fx_h G.1.2 mo_S o E h0) nx 0 0 := by
  obtain ⟨-, -, a3, e4, e5, e6⟩ := mo_cn hq.1 hH ha
  have h64 := hq.1.2.1.1
  refine sd_iload_n dMO_build_463 rfl rfl ?_
  refine sd_bipush (v := nI 7) dMO_build_464 (by decide) ?_
  refine nn_icmp_ne 486 dMO_build_466 (by decide) (by decide) (by decide) (fun _ => ?_) (fun c => absurd c (by decide))
  refine sd_iload_n dMO_build_486 rfl rfl ?_
  refine sd_iconst (v := nI 1) dMO_build_487 (by decide) ?_
  refine nn_icmp_le 519 dMO_build_488 (by decide) (by decide) (by decide) (fun c => absurd c (by decide)) (fun _ => ?_)
  refine sd_iload_n dMO_build_491 rfl rfl ?_
  refine sd_iconst (v := nI 5) dMO_build_492 (by decide) ?_
  refine nn_icmp_eq 519 dMO_build_493 (by decide) (by decide) (by decide) (fun c => absurd c (by decide)) (fun _ => ?_)
  refine sd_iload_n dMO_build_496 rfl rfl ?_
  refine sd_bipush (v := nI 8) dMO_build_497 (by decide) ?_
  refine nn_icmp_ge 519 dMO_build_499 (by decide) (by decide) (by decide) (fun c => absurd c (by decide)) (fun _ => ?_)
  refine sd_aload_n dMO_build_502 rfl rfl ?_
  refine sd_iload_n dMO_build_503 rfl rfl ?_
  refine sd_iconst (v := (-1)) dMO_build_504 (by decide) ?_
  refine fx_cP 10 sR_MO [.int (nI (a)), .int ((-1))] [] dMO_build_505 kMO_249 rfl rfl mMO_gather_v (c_MO_gather hB a3 e5 e4 (fun k t ht ↦ ⟨(e6 k t ht).1, by have := (e6 k t ht).2; omega⟩) hq.2.1 (by show 0 + _ ≤ 12; omega)) (by decide) (Nat.le_refl _) (Nat.le_refl _) (Nat.le_of_ble_eq_true rfl) rfl (fun D1 hD1 => ?_)
  have hq1 := bd_fw hq hD1.1 hD1.2
  obtain ⟨-, -, b3, g4, g5, g6⟩ := mo_cn hq1.1 hH hb
  refine sd_iload_n dMO_build_508 rfl rfl ?_
  refine sd_iconst (v := nI 4) dMO_build_509 (by decide) ?_
  refine nn_icmp_eq 519 dMO_build_510 (by decide) (by decide) (by decide) (fun c => absurd c (by decide)) (fun _ => ?_)
  refine sd_aload_n dMO_build_513 rfl rfl ?_
  refine sd_iload_n dMO_build_514 rfl rfl ?_
  refine sd_iconst (v := (-1)) dMO_build_515 (by decide) ?_
  refine fx_cP 10 sR_MO [.int (nI (b)), .int ((-1))] [] dMO_build_516 kMO_249 rfl rfl mMO_gather_v (c_MO_gather hB b3 g5 g4 (fun k t ht ↦ ⟨(g6 k t ht).1, by have := (g6 k t ht).2; omega⟩) hD1.1 (by have := ls_g_len (st_hy S a) [] (-1); simp at this; omega)) (by decide) (Nat.le_refl _) (Nat.le_refl _) (Nat.le_of_ble_eq_true rfl) rfl (fun D2 hD2 => ?_)
  exact sd_vret dMO_build_519 rfl (Nat.le_refl _) (Nat.le_refl _) ⟨rfl, rfl, _, rfl, bd_fw hq1 hD2.1 hD2.2⟩
theorem t_MO_build4 {G : sd_G} {o : Nat} {E : fx_D} {h0 : sd_H} {nx a b : Nat} {S : st_S} {L : tl_T} {Pq : fx_D → Prop} (hB : G.2.1 ≤ o) (hH : st_okH S) (ha : a < (st_th S).length) (hR : mo_R S E) (hrw : mo_rw E []) (hq : ∀ D', mo_fw E D' → mo_rw D' (ru_hyp S 4 a b) → Pq D') : sd_W G mMO_build 6 0 0 (fx_is G.1.2 mo_S o h0 nx none Pq) 463 [(0, .ref (o + 0)), (1, .int (nI 4)), (2, .int (nI a)), (3, .int (nI b))] [] (fx_h G.1.2 mo_S o E h0) nx 0 0 := by
  obtain ⟨-, -, a3, e4, e5, e6⟩ := mo_cn hR hH ha
  have h64 := hR.2.1.1
  refine sd_iload_n dMO_build_463 rfl rfl ?_
  refine sd_bipush (v := nI 7) dMO_build_464 (by decide) ?_
  refine nn_icmp_ne 486 dMO_build_466 (by decide) (by decide) (by decide) (fun _ => ?_) (fun c => absurd c (by decide))
  refine sd_iload_n dMO_build_486 rfl rfl ?_
  refine sd_iconst (v := nI 1) dMO_build_487 (by decide) ?_
  refine nn_icmp_le 519 dMO_build_488 (by decide) (by decide) (by decide) (fun c => absurd c (by decide)) (fun _ => ?_)
  refine sd_iload_n dMO_build_491 rfl rfl ?_
  refine sd_iconst (v := nI 5) dMO_build_492 (by decide) ?_
  refine nn_icmp_eq 519 dMO_build_493 (by decide) (by decide) (by decide) (fun c => absurd c (by decide)) (fun _ => ?_)
  refine sd_iload_n dMO_build_496 rfl rfl ?_
  refine sd_bipush (v := nI 8) dMO_build_497 (by decide) ?_
  refine nn_icmp_ge 519 dMO_build_499 (by decide) (by decide) (by decide) (fun c => absurd c (by decide)) (fun _ => ?_)
  refine sd_aload_n dMO_build_502 rfl rfl ?_
  refine sd_iload_n dMO_build_503 rfl rfl ?_
  refine sd_iconst (v := (-1)) dMO_build_504 (by decide) ?_
  refine fx_cP 10 sR_MO [.int (nI (a)), .int ((-1))] [] dMO_build_505 kMO_249 rfl rfl mMO_gather_v (c_MO_gather hB a3 e5 e4 (fun k t ht ↦ ⟨(e6 k t ht).1, by have := (e6 k t ht).2; omega⟩) hrw (by show 0 + _ ≤ 12; omega)) (by decide) (Nat.le_refl _) (Nat.le_refl _) (Nat.le_of_ble_eq_true rfl) rfl (fun D1 hD1 => ?_)
  refine sd_iload_n dMO_build_508 rfl rfl ?_
  refine sd_iconst (v := nI 4) dMO_build_509 (by decide) ?_
  refine nn_icmp_eq 519 dMO_build_510 (by decide) (by decide) (by decide) (fun _ => ?_) (fun c => absurd c (by decide))
  exact sd_vret dMO_build_519 rfl (Nat.le_refl _) (Nat.le_refl _) ⟨rfl, rfl, _, rfl, hq D1 hD1.2 hD1.1⟩
theorem c_MO_build1 {G : sd_G} {o : Nat} {D : fx_D} {h0 : sd_H} {nx a : Nat} {S : st_S} {z w : Int32} (hB : G.2.1 ≤ o) (hR : mo_R S D) (hrw : mo_rw D []) (hov : D.2.1 0 7 = nI 0) (ha : a < (st_T S).length) (hg : ∀ x ∈ st_tm S a, tl_g1 x) : sd_Ct G mMO_build 6 0 0 [.ref (o + 0), .int (nI 1), .int (nI a), .int z, .int w] (fx_h G.1.2 mo_S o D h0) nx (fx_is G.1.2 mo_S o h0 nx none (bd_Q S (st_tm S a) (ru_hyp S 1 a 0))) := by
  refine sd_Ct_of (by decide) (Nat.le_of_ble_eq_true rfl) ?_
  obtain ⟨-, m1, m2, m3⟩ := mo_tm hR ha
  have n1 := mo_begin_other (r := 71) m1 (by omega)
  have hc := c_MO_copy (G := G) (o := o) (h0 := h0) (nx := nx) (r := 71) (i := 0) hB (by omega) (show a < 72 by omega) (by omega) n1 mo_begin_row.okl (Nat.zero_le _) m2.1
  rw [m2.part] at hc
  have hq := bd_w hR hrw hov mo_begin_fa mo_begin_row hov hg
  generalize hE : mo_adds (fx_ua D 3 71 (nI 0)) 71 (st_tm S a) = E at hc hq
  refine sd_bipush (v := nI 71) dMO_build_0 (by decide) ?_
  refine sd_istore dMO_build_2 (by decide) ?_
  refine sd_iload_n dMO_build_4 rfl rfl ?_
  refine nn_if_eq 18 dMO_build_5 (by decide) (by decide) (fun c => absurd c (by decide)) (fun _ => ?_)
  refine sd_iload_n dMO_build_8 rfl rfl ?_
  refine sd_iconst (v := nI 1) dMO_build_9 (by decide) ?_
  refine nn_icmp_eq 18 dMO_build_10 (by decide) (by decide) (by decide) (fun _ => ?_) (fun c => absurd c (by decide))
  refine sd_iload_n dMO_build_18 rfl rfl ?_
  refine sd_goto 28 dMO_build_19 (by decide) ?_
  refine sd_istore dMO_build_28 (by decide) ?_
  refine sd_iload_n dMO_build_30 rfl rfl ?_
  refine sd_iconst (v := nI 2) dMO_build_31 (by decide) ?_
  refine nn_icmp_eq 52 dMO_build_32 (by decide) (by decide) (by decide) (fun c => absurd c (by decide)) (fun _ => ?_)
  refine sd_iload_n dMO_build_35 rfl rfl ?_
  refine sd_iconst (v := nI 3) dMO_build_36 (by decide) ?_
  refine nn_icmp_eq 52 dMO_build_37 (by decide) (by decide) (by decide) (fun c => absurd c (by decide)) (fun _ => ?_)
  refine sd_iload_n dMO_build_40 rfl rfl ?_
  refine sd_bipush (v := nI 6) dMO_build_41 (by decide) ?_
  refine nn_icmp_eq 52 dMO_build_43 (by decide) (by decide) (by decide) (fun c => absurd c (by decide)) (fun _ => ?_)
  refine sd_iload_n dMO_build_46 rfl rfl ?_
  refine sd_bipush (v := nI 7) dMO_build_47 (by decide) ?_
  refine nn_icmp_ne 61 dMO_build_49 (by decide) (by decide) (by decide) (fun _ => ?_) (fun c => absurd c (by decide))
  refine sd_iconst (v := nI 0) dMO_build_61 (by decide) ?_
  refine sd_istore dMO_build_62 (by decide) ?_
  refine sd_aload_n dMO_build_64 rfl rfl ?_
  refine sd_iload dMO_build_65 rfl ?_
  refine fx_cV 10 sR_MO [.int (nI (71))] [] dMO_build_67 kMO_151 rfl rfl mMO_begin_v (c_MO_begin hB (by omega)) (by decide) (Nat.le_refl _) (Nat.le_refl _) (Nat.le_of_ble_eq_true rfl) rfl ?_
  refine sd_iload_n dMO_build_70 rfl rfl ?_
  refine sd_tableIn (off := 58) 129 dMO_build_71 (by decide) (by decide) (by decide) (by decide) ?_
  refine sd_aload_n dMO_build_129 rfl rfl ?_
  refine sd_iload_n dMO_build_130 rfl rfl ?_
  refine sd_iconst (v := nI 0) dMO_build_131 (by decide) ?_
  refine sd_iload dMO_build_132 rfl ?_
  refine fx_cV 10 sR_MO [.int (nI (a)), .int (nI (0)), .int (nI (71))] [] dMO_build_134 kMO_155 rfl rfl mMO_copy_v (hc) (by decide) (Nat.le_refl _) (Nat.le_refl _) (Nat.le_of_ble_eq_true rfl) rfl ?_
  refine sd_aload_n dMO_build_137 rfl rfl ?_
  refine sd_iload_n dMO_build_138 rfl rfl ?_
  refine fx_cP 10 sR_MO [.int (nI (a))] [] dMO_build_139 kMO_216 rfl rfl mMO_hold_v (c_MO_hold hB hq.2.1 (by show 0 < 12; omega) (by omega)) (by decide) (Nat.le_refl _) (Nat.le_refl _) (Nat.le_of_ble_eq_true rfl) rfl (fun D1 hD1 => ?_)
  refine sd_goto 463 dMO_build_142 (by decide) ?_
  refine sd_iload_n dMO_build_463 rfl rfl ?_
  refine sd_bipush (v := nI 7) dMO_build_464 (by decide) ?_
  refine nn_icmp_ne 486 dMO_build_466 (by decide) (by decide) (by decide) (fun _ => ?_) (fun c => absurd c (by decide))
  refine sd_iload_n dMO_build_486 rfl rfl ?_
  refine sd_iconst (v := nI 1) dMO_build_487 (by decide) ?_
  refine nn_icmp_le 519 dMO_build_488 (by decide) (by decide) (by decide) (fun _ => ?_) (fun c => absurd c (by decide))
  exact sd_vret dMO_build_519 rfl (Nat.le_refl _) (Nat.le_refl _) ⟨rfl, rfl, _, rfl, bd_fw hq hD1.1 hD1.2⟩
theorem c_MO_build2 {G : sd_G} {o : Nat} {D : fx_D} {h0 : sd_H} {nx a b : Nat} {S : st_S} {w : Int32} (hB : G.2.1 ≤ o) (hR : mo_R S D) (hH : st_okH S) (hrw : mo_rw D []) (hov : D.2.1 0 7 = nI 0) (ha : a < (st_th S).length) (hb : b < (st_th S).length) (hEa : tl_isE (st_tm S (st_cn S a)) = true) (hEb : tl_isE (st_tm S (st_cn S b)) = true) (hg : ∀ x ∈ ((9, 4) :: (tl_part (st_tm S (st_cn S a)) 1 ++ tl_part (st_tm S (st_cn S b)) (tl_end (st_tm S (st_cn S b)) 1)) : tl_T), tl_g1 x) : sd_Ct G mMO_build 6 0 0 [.ref (o + 0), .int (nI 2), .int (nI a), .int (nI b), .int w] (fx_h G.1.2 mo_S o D h0) nx (fx_is G.1.2 mo_S o h0 nx none (bd_Q S ((9, 4) :: (tl_part (st_tm S (st_cn S a)) 1 ++ tl_part (st_tm S (st_cn S b)) (tl_end (st_tm S (st_cn S b)) 1))) (ru_hyp S 2 a b))) := by
  refine sd_Ct_of (by decide) (Nat.le_of_ble_eq_true rfl) ?_
  obtain ⟨a1, a2, a3, a4, a5, a6⟩ := mo_cn hR hH ha
  obtain ⟨b1, b2, b3, b4, b5, b6⟩ := mo_cn hR hH hb
  obtain ⟨-, m1, m2, m3⟩ := mo_tm hR a2
  obtain ⟨-, k1, k2, k3⟩ := mo_tm hR b2
  obtain ⟨l1, l2, l3⟩ := m2.two (tl_E2 hEa)
  obtain ⟨r1, r2, r3⟩ := k2.two (tl_E2 hEb)
  have m1 := mo_begin_other (r := 71) m1 (by omega)
  have k1 := mo_begin_other (r := 71) k1 (by omega)
  have hc := c_MO_equal (G := G) (o := o) (h0 := h0) (nx := nx) (r := 71) (i := 1) (j := tl_end (st_tm S (st_cn S b)) 1) hB (by omega) (show st_cn S a < 72 by omega) (show st_cn S b < 72 by omega) (by omega) (by omega) m1 k1 (by omega) (by omega) (tl_ok_drop _ 1 1 m2.1 m2.2.1 l1) (tl_ok_drop _ 1 _ k2.1 k2.2.1 r2)
  rw [List.cons_append] at hc
  have hq := bd_w hR hrw hov (mo_begin_fa.tr mo_begin_fa) mo_begin_row hov hg
  generalize hE : mo_adds (fx_ua (fx_ua D 3 71 (nI 0)) 3 71 (nI 0)) 71 ((9, 4) :: (tl_part (st_tm S (st_cn S a)) 1 ++ tl_part (st_tm S (st_cn S b)) (tl_end (st_tm S (st_cn S b)) 1))) = E at hc hq
  refine sd_bipush (v := nI 71) dMO_build_0 (by decide) ?_
  refine sd_istore dMO_build_2 (by decide) ?_
  refine sd_iload_n dMO_build_4 rfl rfl ?_
  refine nn_if_eq 18 dMO_build_5 (by decide) (by decide) (fun c => absurd c (by decide)) (fun _ => ?_)
  refine sd_iload_n dMO_build_8 rfl rfl ?_
  refine sd_iconst (v := nI 1) dMO_build_9 (by decide) ?_
  refine nn_icmp_eq 18 dMO_build_10 (by decide) (by decide) (by decide) (fun c => absurd c (by decide)) (fun _ => ?_)
  refine sd_iload_n dMO_build_13 rfl rfl ?_
  refine sd_iconst (v := nI 5) dMO_build_14 (by decide) ?_
  refine nn_icmp_ne 22 dMO_build_15 (by decide) (by decide) (by decide) (fun _ => ?_) (fun c => absurd c (by decide))
  refine sd_aload_n dMO_build_22 rfl rfl ?_
  refine fx_getr 10 8 (6) dMO_build_23 fMO_25 rfl rfl ?_
  refine sd_iload_n dMO_build_26 rfl rfl ?_
  refine fx_ialdv (v := (nI (st_cn S a))) (a) dMO_build_27 rfl rfl (by omega) (by decide) (a1) ?_
  refine sd_istore dMO_build_28 (by decide) ?_
  refine sd_iload_n dMO_build_30 rfl rfl ?_
  refine sd_iconst (v := nI 2) dMO_build_31 (by decide) ?_
  refine nn_icmp_eq 52 dMO_build_32 (by decide) (by decide) (by decide) (fun _ => ?_) (fun c => absurd c (by decide))
  refine sd_aload_n dMO_build_52 rfl rfl ?_
  refine fx_getr 10 8 (6) dMO_build_53 fMO_25 rfl rfl ?_
  refine sd_iload_n dMO_build_56 rfl rfl ?_
  refine fx_ialdv (v := (nI (st_cn S b))) (b) dMO_build_57 rfl rfl (by omega) (by decide) (b1) ?_
  refine sd_goto 62 dMO_build_58 (by decide) ?_
  refine sd_istore dMO_build_62 (by decide) ?_
  refine sd_aload_n dMO_build_64 rfl rfl ?_
  refine sd_iload dMO_build_65 rfl ?_
  refine fx_cV 10 sR_MO [.int (nI (71))] [] dMO_build_67 kMO_151 rfl rfl mMO_begin_v (c_MO_begin hB (by omega)) (by decide) (Nat.le_refl _) (Nat.le_refl _) (Nat.le_of_ble_eq_true rfl) rfl ?_
  refine sd_iload_n dMO_build_70 rfl rfl ?_
  refine sd_tableIn (off := 74) 145 dMO_build_71 (by decide) (by decide) (by decide) (by decide) ?_
  refine sd_aload_n dMO_build_145 rfl rfl ?_
  refine sd_iload dMO_build_146 rfl ?_
  refine sd_iload dMO_build_148 rfl ?_
  refine sd_iconst (v := nI 1) dMO_build_150 (by decide) ?_
  refine sd_iload dMO_build_151 rfl ?_
  refine sd_aload_n dMO_build_153 rfl rfl ?_
  refine sd_iload dMO_build_154 rfl ?_
  refine sd_iconst (v := nI 1) dMO_build_156 (by decide) ?_
  refine fx_cV 10 sR_MO [.int (nI (st_cn S b)), .int (nI (1))] [.int (nI (st_cn S b)), .int (nI (1)), .int (nI (st_cn S a)), .int (nI (71)), .ref (o + (0))] dMO_build_157 kMO_128 rfl rfl mMO_end_v (c_MO_end (by omega) k1 (by omega) (tl_ok_drop _ 1 1 k2.1 k2.2.1 r1)) (by decide) (Nat.le_refl _) (Nat.le_refl _) (Nat.le_of_ble_eq_true rfl) rfl ?_
  refine fx_cV 10 sR_MO [.int (nI (71)), .int (nI (st_cn S a)), .int (nI (1)), .int (nI (st_cn S b)), .int (nI (tl_end (st_tm S (st_cn S b)) 1))] [] dMO_build_160 kMO_237 rfl rfl mMO_equal_v (hc) (by decide) (Nat.le_refl _) (Nat.le_refl _) (Nat.le_of_ble_eq_true rfl) rfl ?_
  refine sd_goto 463 dMO_build_163 (by decide) ?_
  refine sd_locp (al' := [(0, .ref (o + (0))), (1, .int (nI (2))), (2, .int (nI (a))), (3, .int (nI (b)))]) [3, 4, 5, 6] rfl ?_
  exact t_MO_build2 hB hH ha hb hq
theorem c_MO_build6 {G : sd_G} {o : Nat} {D : fx_D} {h0 : sd_H} {nx a b : Nat} {S : st_S} {w : Int32} (hB : G.2.1 ≤ o) (hR : mo_R S D) (hH : st_okH S) (hrw : mo_rw D []) (hov : D.2.1 0 7 = nI 0) (ha : a < (st_th S).length) (hb : b < (st_th S).length) (hEa : tl_isE (st_tm S (st_cn S a)) = true) (hg : ∀ x ∈ tl_part (st_tm S (st_cn S a)) (tl_end (st_tm S (st_cn S a)) 1), tl_g1 x) : sd_Ct G mMO_build 6 0 0 [.ref (o + 0), .int (nI 6), .int (nI a), .int (nI b), .int w] (fx_h G.1.2 mo_S o D h0) nx (fx_is G.1.2 mo_S o h0 nx none (bd_Q S (tl_part (st_tm S (st_cn S a)) (tl_end (st_tm S (st_cn S a)) 1)) (ru_hyp S 6 a b))) := by
  refine sd_Ct_of (by decide) (Nat.le_of_ble_eq_true rfl) ?_
  obtain ⟨a1, a2, a3, a4, a5, a6⟩ := mo_cn hR hH ha
  obtain ⟨b1, b2, b3, b4, b5, b6⟩ := mo_cn hR hH hb
  obtain ⟨-, m1, m2, m3⟩ := mo_tm hR a2
  obtain ⟨-, k1, k2, k3⟩ := mo_tm hR b2
  obtain ⟨l1, l2, l3⟩ := m2.two (tl_E2 hEa)
  have m1 := mo_begin_other (r := 71) m1 (by omega)
  have hc := c_MO_copy (G := G) (o := o) (h0 := h0) (nx := nx) (r := 71) (i := tl_end (st_tm S (st_cn S a)) 1) hB (by omega) (show st_cn S a < 72 by omega) (by omega) m1 mo_begin_row.okl (by omega) (tl_ok_drop _ 1 _ m2.1 m2.2.1 l2)
  have hq := bd_w hR hrw hov mo_begin_fa mo_begin_row hov hg
  generalize hE : mo_adds (fx_ua D 3 71 (nI 0)) 71 (tl_part (st_tm S (st_cn S a)) (tl_end (st_tm S (st_cn S a)) 1)) = E at hc hq
  refine sd_bipush (v := nI 71) dMO_build_0 (by decide) ?_
  refine sd_istore dMO_build_2 (by decide) ?_
  refine sd_iload_n dMO_build_4 rfl rfl ?_
  refine nn_if_eq 18 dMO_build_5 (by decide) (by decide) (fun c => absurd c (by decide)) (fun _ => ?_)
  refine sd_iload_n dMO_build_8 rfl rfl ?_
  refine sd_iconst (v := nI 1) dMO_build_9 (by decide) ?_
  refine nn_icmp_eq 18 dMO_build_10 (by decide) (by decide) (by decide) (fun c => absurd c (by decide)) (fun _ => ?_)
  refine sd_iload_n dMO_build_13 rfl rfl ?_
  refine sd_iconst (v := nI 5) dMO_build_14 (by decide) ?_
  refine nn_icmp_ne 22 dMO_build_15 (by decide) (by decide) (by decide) (fun _ => ?_) (fun c => absurd c (by decide))
  refine sd_aload_n dMO_build_22 rfl rfl ?_
  refine fx_getr 10 8 (6) dMO_build_23 fMO_25 rfl rfl ?_
  refine sd_iload_n dMO_build_26 rfl rfl ?_
  refine fx_ialdv (v := (nI (st_cn S a))) (a) dMO_build_27 rfl rfl (by omega) (by decide) (a1) ?_
  refine sd_istore dMO_build_28 (by decide) ?_
  refine sd_iload_n dMO_build_30 rfl rfl ?_
  refine sd_iconst (v := nI 2) dMO_build_31 (by decide) ?_
  refine nn_icmp_eq 52 dMO_build_32 (by decide) (by decide) (by decide) (fun c => absurd c (by decide)) (fun _ => ?_)
  refine sd_iload_n dMO_build_35 rfl rfl ?_
  refine sd_iconst (v := nI 3) dMO_build_36 (by decide) ?_
  refine nn_icmp_eq 52 dMO_build_37 (by decide) (by decide) (by decide) (fun c => absurd c (by decide)) (fun _ => ?_)
  refine sd_iload_n dMO_build_40 rfl rfl ?_
  refine sd_bipush (v := nI 6) dMO_build_41 (by decide) ?_
  refine nn_icmp_eq 52 dMO_build_43 (by decide) (by decide) (by decide) (fun _ => ?_) (fun c => absurd c (by decide))
  refine sd_aload_n dMO_build_52 rfl rfl ?_
  refine fx_getr 10 8 (6) dMO_build_53 fMO_25 rfl rfl ?_
  refine sd_iload_n dMO_build_56 rfl rfl ?_
  refine fx_ialdv (v := (nI (st_cn S b))) (b) dMO_build_57 rfl rfl (by omega) (by decide) (b1) ?_
  refine sd_goto 62 dMO_build_58 (by decide) ?_
  refine sd_istore dMO_build_62 (by decide) ?_
  refine sd_aload_n dMO_build_64 rfl rfl ?_
  refine sd_iload dMO_build_65 rfl ?_
  refine fx_cV 10 sR_MO [.int (nI (71))] [] dMO_build_67 kMO_151 rfl rfl mMO_begin_v (c_MO_begin hB (by omega)) (by decide) (Nat.le_refl _) (Nat.le_refl _) (Nat.le_of_ble_eq_true rfl) rfl ?_
  refine sd_iload_n dMO_build_70 rfl rfl ?_
  refine sd_tableIn (off := 293) 364 dMO_build_71 (by decide) (by decide) (by decide) (by decide) ?_
  refine sd_aload_n dMO_build_364 rfl rfl ?_
  refine sd_iload dMO_build_365 rfl ?_
  refine sd_aload_n dMO_build_367 rfl rfl ?_
  refine sd_iload dMO_build_368 rfl ?_
  refine sd_iconst (v := nI 1) dMO_build_370 (by decide) ?_
  refine fx_cV 10 sR_MO [.int (nI (st_cn S a)), .int (nI (1))] [.int (nI (st_cn S a)), .ref (o + (0))] dMO_build_371 kMO_128 rfl rfl mMO_end_v (c_MO_end (by omega) m1 (by omega) (tl_ok_drop _ 1 1 m2.1 m2.2.1 l1)) (by decide) (Nat.le_refl _) (Nat.le_refl _) (Nat.le_of_ble_eq_true rfl) rfl ?_
  refine sd_iload dMO_build_374 rfl ?_
  refine fx_cV 10 sR_MO [.int (nI (st_cn S a)), .int (nI (tl_end (st_tm S (st_cn S a)) 1)), .int (nI (71))] [] dMO_build_376 kMO_155 rfl rfl mMO_copy_v (hc) (by decide) (Nat.le_refl _) (Nat.le_refl _) (Nat.le_of_ble_eq_true rfl) rfl ?_
  refine sd_goto 463 dMO_build_379 (by decide) ?_
  refine sd_locp (al' := [(0, .ref (o + (0))), (1, .int (nI (6))), (2, .int (nI (a))), (3, .int (nI (b)))]) [3, 4, 5, 6] rfl ?_
  exact t_MO_build6 hB hH ha hb hq
theorem c_MO_build5 {G : sd_G} {o : Nat} {D : fx_D} {h0 : sd_H} {nx a : Nat} {S : st_S} {z w : Int32} (hB : G.2.1 ≤ o) (hR : mo_R S D) (hrw : mo_rw D []) (hov : D.2.1 0 7 = nI 0) (ha : a < (st_T S).length) (hBt : tl_isB (st_tm S a) 0 = true) (hg : ∀ x ∈ ((9, 4) :: (st_tm S a ++ tl_beta (st_tm S a) 0) : tl_T), tl_g1 x) : sd_Ct G mMO_build 6 0 0 [.ref (o + 0), .int (nI 5), .int (nI a), .int z, .int w] (fx_h G.1.2 mo_S o D h0) nx (fx_is G.1.2 mo_S o h0 nx none (bd_Q S ((9, 4) :: (st_tm S a ++ tl_beta (st_tm S a) 0)) [])) := by
  refine sd_Ct_of (by decide) (Nat.le_of_ble_eq_true rfl) ?_
  obtain ⟨-, m1, m2, m3⟩ := mo_tm hR ha
  obtain ⟨l1, l2, l3⟩ := m2.two (by rw [(tl_isB_iff.mp hBt).1]; rfl)
  have z0 := mo_begin_row (D := D) (r := 71)
  have z1 := mo_begin_other (r := 71) m1 (by omega)
  have y0 := mo_add_okl (s := nI 9) (t := nI 4) z0.okl z0.okl
  have y1 := mo_add_other (s := nI 9) (t := nI 4) z1 (show a ≠ 71 by omega) z0.okl.ln.1
  have hc := c_MO_copy (G := G) (o := o) (h0 := h0) (nx := nx) (r := 71) (i := 0) hB (by omega) (show a < 72 by omega) (by omega) y1 y0 (Nat.zero_le _) m2.1
  rw [m2.part] at hc
  obtain ⟨x1, x0⟩ := mo_adds_other (show a ≠ 71 by omega) (st_tm S a) _ y1 y0
  have hd := c_MO_beta (G := G) (o := o) (h0 := h0) (nx := nx) (r := 71) (i := 0) hB (by omega) (show a < 72 by omega) (by omega) m2 x1 x0 l1 l2
  have hq := bd_w hR hrw hov mo_begin_fa z0 hov hg
  rw [mo_adds, mo_adds_app] at hq
  refine sd_bipush (v := nI 71) dMO_build_0 (by decide) ?_
  refine sd_istore dMO_build_2 (by decide) ?_
  refine sd_iload_n dMO_build_4 rfl rfl ?_
  refine nn_if_eq 18 dMO_build_5 (by decide) (by decide) (fun c => absurd c (by decide)) (fun _ => ?_)
  refine sd_iload_n dMO_build_8 rfl rfl ?_
  refine sd_iconst (v := nI 1) dMO_build_9 (by decide) ?_
  refine nn_icmp_eq 18 dMO_build_10 (by decide) (by decide) (by decide) (fun c => absurd c (by decide)) (fun _ => ?_)
  refine sd_iload_n dMO_build_13 rfl rfl ?_
  refine sd_iconst (v := nI 5) dMO_build_14 (by decide) ?_
  refine nn_icmp_ne 22 dMO_build_15 (by decide) (by decide) (by decide) (fun c => absurd c (by decide)) (fun _ => ?_)
  refine sd_iload_n dMO_build_18 rfl rfl ?_
  refine sd_goto 28 dMO_build_19 (by decide) ?_
  refine sd_istore dMO_build_28 (by decide) ?_
  refine sd_iload_n dMO_build_30 rfl rfl ?_
  refine sd_iconst (v := nI 2) dMO_build_31 (by decide) ?_
  refine nn_icmp_eq 52 dMO_build_32 (by decide) (by decide) (by decide) (fun c => absurd c (by decide)) (fun _ => ?_)
  refine sd_iload_n dMO_build_35 rfl rfl ?_
  refine sd_iconst (v := nI 3) dMO_build_36 (by decide) ?_
  refine nn_icmp_eq 52 dMO_build_37 (by decide) (by decide) (by decide) (fun c => absurd c (by decide)) (fun _ => ?_)
  refine sd_iload_n dMO_build_40 rfl rfl ?_
  refine sd_bipush (v := nI 6) dMO_build_41 (by decide) ?_
  refine nn_icmp_eq 52 dMO_build_43 (by decide) (by decide) (by decide) (fun c => absurd c (by decide)) (fun _ => ?_)
  refine sd_iload_n dMO_build_46 rfl rfl ?_
  refine sd_bipush (v := nI 7) dMO_build_47 (by decide) ?_
  refine nn_icmp_ne 61 dMO_build_49 (by decide) (by decide) (by decide) (fun _ => ?_) (fun c => absurd c (by decide))
  refine sd_iconst (v := nI 0) dMO_build_61 (by decide) ?_
  refine sd_istore dMO_build_62 (by decide) ?_
  refine sd_aload_n dMO_build_64 rfl rfl ?_
  refine sd_iload dMO_build_65 rfl ?_
  refine fx_cV 10 sR_MO [.int (nI (71))] [] dMO_build_67 kMO_151 rfl rfl mMO_begin_v (c_MO_begin hB (by omega)) (by decide) (Nat.le_refl _) (Nat.le_refl _) (Nat.le_of_ble_eq_true rfl) rfl ?_
  refine sd_iload_n dMO_build_70 rfl rfl ?_
  refine sd_tableIn (off := 265) 336 dMO_build_71 (by decide) (by decide) (by decide) (by decide) ?_
  refine sd_aload_n dMO_build_336 rfl rfl ?_
  refine sd_iload dMO_build_337 rfl ?_
  refine sd_bipush (v := nI 9) dMO_build_339 (by decide) ?_
  refine sd_iconst (v := nI 4) dMO_build_341 (by decide) ?_
  refine fx_cV 10 sR_MO [.int (nI (71)), .int (nI (9)), .int (nI (4))] [] dMO_build_342 kMO_137 rfl rfl mMO_add_v (c_MO_add hB (by omega) z0.okl.ln.1 z0.okl.ln.2) (by decide) (Nat.le_refl _) (Nat.le_refl _) (Nat.le_of_ble_eq_true rfl) rfl ?_
  refine sd_aload_n dMO_build_345 rfl rfl ?_
  refine sd_iload_n dMO_build_346 rfl rfl ?_
  refine sd_iconst (v := nI 0) dMO_build_347 (by decide) ?_
  refine sd_iload dMO_build_348 rfl ?_
  refine fx_cV 10 sR_MO [.int (nI (a)), .int (nI (0)), .int (nI (71))] [] dMO_build_350 kMO_155 rfl rfl mMO_copy_v (hc) (by decide) (Nat.le_refl _) (Nat.le_refl _) (Nat.le_of_ble_eq_true rfl) rfl ?_
  refine sd_aload_n dMO_build_353 rfl rfl ?_
  refine sd_iload_n dMO_build_354 rfl rfl ?_
  refine sd_iconst (v := nI 0) dMO_build_355 (by decide) ?_
  refine sd_iload dMO_build_356 rfl ?_
  refine fx_cV 10 sR_MO [.int (nI (a)), .int (nI (0)), .int (nI (71))] [] dMO_build_358 kMO_246 rfl rfl mMO_beta_v (hd) (by decide) (Nat.le_refl _) (Nat.le_refl _) (Nat.le_of_ble_eq_true rfl) rfl ?_
  refine sd_goto 463 dMO_build_361 (by decide) ?_
  refine sd_iload_n dMO_build_463 rfl rfl ?_
  refine sd_bipush (v := nI 7) dMO_build_464 (by decide) ?_
  refine nn_icmp_ne 486 dMO_build_466 (by decide) (by decide) (by decide) (fun _ => ?_) (fun c => absurd c (by decide))
  refine sd_iload_n dMO_build_486 rfl rfl ?_
  refine sd_iconst (v := nI 1) dMO_build_487 (by decide) ?_
  refine nn_icmp_le 519 dMO_build_488 (by decide) (by decide) (by decide) (fun c => absurd c (by decide)) (fun _ => ?_)
  refine sd_iload_n dMO_build_491 rfl rfl ?_
  refine sd_iconst (v := nI 5) dMO_build_492 (by decide) ?_
  refine nn_icmp_eq 519 dMO_build_493 (by decide) (by decide) (by decide) (fun _ => ?_) (fun c => absurd c (by decide))
  exact sd_vret dMO_build_519 rfl (Nat.le_refl _) (Nat.le_refl _) ⟨rfl, rfl, _, rfl, hq⟩
