/-! ===== the model: fits, a kind at a time ===== -/
theorem ty_from_lt {t : Nat} (h : t < 2 ^ 25) (h0 : t ≠ 0) : ty_from t < 2 ^ 31 := by
  have hl := tp_lg h h0
  unfold ty_from
  have h1 := Nat.mod_lt (t / 2 ^ ty_rem t) (Nat.two_pow_pos (Nat.log2 t - 1 - ty_rem t))
  have h2 := tp_31 (k := Nat.log2 t - 1 - ty_rem t + 1) (by omega)
  rw [Nat.pow_succ] at h2
  omega
theorem c_MO_fits0 {G : sd_G} {o : Nat} {D : fx_D} {h0 : sd_H} {nx v : Nat} {S : st_S} {a b c : Nat} {z w : Int32} (hR : mo_R S D) (hv2 : v < 2) (hv : v = 1 ↔ ru_fit S 0 a b c = true) : sd_Ct G mMO_fits 3 0 0 [.ref (o + 0), .int (nI 0), .int (nI a), .int z, .int w] (fx_h G.1.2 mo_S o D h0) nx (sd_is (some (.int (nI v))) (fx_h G.1.2 mo_S o D h0) nx) := by
  refine sd_Ct_of (by decide) (Nat.le_of_ble_eq_true rfl) ?_
  obtain rfl : v = 1 := hv.mpr rfl
  refine sd_iload_n dMO_fits_0 rfl rfl ?_
  refine nn_if_eq 14 dMO_fits_1 (by decide) (by decide) (fun _ => ?_) (fun c => absurd c (by decide))
  refine sd_iload_n dMO_fits_14 rfl rfl ?_
  refine sd_goto 24 dMO_fits_15 (by decide) ?_
  refine sd_istore dMO_fits_24 (by decide) ?_
  refine sd_iload_n dMO_fits_26 rfl rfl ?_
  refine sd_iconst (v := nI 2) dMO_fits_27 (by decide) ?_
  refine nn_icmp_eq 48 dMO_fits_28 (by decide) (by decide) (by decide) (fun c => absurd c (by decide)) (fun _ => ?_)
  refine sd_iload_n dMO_fits_31 rfl rfl ?_
  refine sd_iconst (v := nI 3) dMO_fits_32 (by decide) ?_
  refine nn_icmp_eq 48 dMO_fits_33 (by decide) (by decide) (by decide) (fun c => absurd c (by decide)) (fun _ => ?_)
  refine sd_iload_n dMO_fits_36 rfl rfl ?_
  refine sd_bipush (v := nI 6) dMO_fits_37 (by decide) ?_
  refine nn_icmp_eq 48 dMO_fits_39 (by decide) (by decide) (by decide) (fun c => absurd c (by decide)) (fun _ => ?_)
  refine sd_iload_n dMO_fits_42 rfl rfl ?_
  refine sd_bipush (v := nI 7) dMO_fits_43 (by decide) ?_
  refine nn_icmp_ne 57 dMO_fits_45 (by decide) (by decide) (by decide) (fun _ => ?_) (fun c => absurd c (by decide))
  refine sd_iconst (v := nI 0) dMO_fits_57 (by decide) ?_
  refine sd_istore dMO_fits_58 (by decide) ?_
  refine sd_iload_n dMO_fits_60 rfl rfl ?_
  refine sd_iconst (v := nI 2) dMO_fits_61 (by decide) ?_
  refine nn_icmp_eq 81 dMO_fits_62 (by decide) (by decide) (by decide) (fun c => absurd c (by decide)) (fun _ => ?_)
  refine sd_iload_n dMO_fits_65 rfl rfl ?_
  refine sd_iconst (v := nI 3) dMO_fits_66 (by decide) ?_
  refine nn_icmp_eq 81 dMO_fits_67 (by decide) (by decide) (by decide) (fun c => absurd c (by decide)) (fun _ => ?_)
  refine sd_iload_n dMO_fits_70 rfl rfl ?_
  refine sd_iconst (v := nI 4) dMO_fits_71 (by decide) ?_
  refine nn_icmp_eq 81 dMO_fits_72 (by decide) (by decide) (by decide) (fun c => absurd c (by decide)) (fun _ => ?_)
  refine sd_iload_n dMO_fits_75 rfl rfl ?_
  refine sd_bipush (v := nI 6) dMO_fits_76 (by decide) ?_
  refine nn_icmp_ne 92 dMO_fits_78 (by decide) (by decide) (by decide) (fun _ => ?_) (fun c => absurd c (by decide))
  refine sd_iload_n dMO_fits_92 rfl rfl ?_
  refine sd_tableOut 320 dMO_fits_93 (Or.inl (by decide)) (by decide) ?_
  refine sd_iconst (v := nI 1) dMO_fits_320 (by decide) ?_
  exact sd_zret dMO_fits_321 rfl (Or.inr rfl) (Nat.le_refl _) (Nat.le_refl _) ⟨rfl, rfl, rfl⟩
theorem c_MO_fits1 {G : sd_G} {o : Nat} {D : fx_D} {h0 : sd_H} {nx v : Nat} {S : st_S} {a b c : Nat} {z w : Int32} (hR : mo_R S D) (ha : a < (st_T S).length) (hv2 : v < 2) (hv : v = 1 ↔ ru_fit S 1 a b c = true) : sd_Ct G mMO_fits 3 0 0 [.ref (o + 0), .int (nI 1), .int (nI a), .int z, .int w] (fx_h G.1.2 mo_S o D h0) nx (sd_is (some (.int (nI v))) (fx_h G.1.2 mo_S o D h0) nx) := by
  refine sd_Ct_of (by decide) (Nat.le_of_ble_eq_true rfl) ?_
  obtain ⟨-, m1, m2, m3⟩ := mo_tm hR ha
  have h0 := m2.hd
  have q4 := (m1.2.2 0 _ h0).2.2.2
  simp only [ru_fit, beq_iff_eq] at hv
  refine sd_iload_n dMO_fits_0 rfl rfl ?_
  refine nn_if_eq 14 dMO_fits_1 (by decide) (by decide) (fun c => absurd c (by decide)) (fun _ => ?_)
  refine sd_iload_n dMO_fits_4 rfl rfl ?_
  refine sd_iconst (v := nI 1) dMO_fits_5 (by decide) ?_
  refine nn_icmp_eq 14 dMO_fits_6 (by decide) (by decide) (by decide) (fun _ => ?_) (fun c => absurd c (by decide))
  refine sd_iload_n dMO_fits_14 rfl rfl ?_
  refine sd_goto 24 dMO_fits_15 (by decide) ?_
  refine sd_istore dMO_fits_24 (by decide) ?_
  refine sd_iload_n dMO_fits_26 rfl rfl ?_
  refine sd_iconst (v := nI 2) dMO_fits_27 (by decide) ?_
  refine nn_icmp_eq 48 dMO_fits_28 (by decide) (by decide) (by decide) (fun c => absurd c (by decide)) (fun _ => ?_)
  refine sd_iload_n dMO_fits_31 rfl rfl ?_
  refine sd_iconst (v := nI 3) dMO_fits_32 (by decide) ?_
  refine nn_icmp_eq 48 dMO_fits_33 (by decide) (by decide) (by decide) (fun c => absurd c (by decide)) (fun _ => ?_)
  refine sd_iload_n dMO_fits_36 rfl rfl ?_
  refine sd_bipush (v := nI 6) dMO_fits_37 (by decide) ?_
  refine nn_icmp_eq 48 dMO_fits_39 (by decide) (by decide) (by decide) (fun c => absurd c (by decide)) (fun _ => ?_)
  refine sd_iload_n dMO_fits_42 rfl rfl ?_
  refine sd_bipush (v := nI 7) dMO_fits_43 (by decide) ?_
  refine nn_icmp_ne 57 dMO_fits_45 (by decide) (by decide) (by decide) (fun _ => ?_) (fun c => absurd c (by decide))
  refine sd_iconst (v := nI 0) dMO_fits_57 (by decide) ?_
  refine sd_istore dMO_fits_58 (by decide) ?_
  refine sd_iload_n dMO_fits_60 rfl rfl ?_
  refine sd_iconst (v := nI 2) dMO_fits_61 (by decide) ?_
  refine nn_icmp_eq 81 dMO_fits_62 (by decide) (by decide) (by decide) (fun c => absurd c (by decide)) (fun _ => ?_)
  refine sd_iload_n dMO_fits_65 rfl rfl ?_
  refine sd_iconst (v := nI 3) dMO_fits_66 (by decide) ?_
  refine nn_icmp_eq 81 dMO_fits_67 (by decide) (by decide) (by decide) (fun c => absurd c (by decide)) (fun _ => ?_)
  refine sd_iload_n dMO_fits_70 rfl rfl ?_
  refine sd_iconst (v := nI 4) dMO_fits_71 (by decide) ?_
  refine nn_icmp_eq 81 dMO_fits_72 (by decide) (by decide) (by decide) (fun c => absurd c (by decide)) (fun _ => ?_)
  refine sd_iload_n dMO_fits_75 rfl rfl ?_
  refine sd_bipush (v := nI 6) dMO_fits_76 (by decide) ?_
  refine nn_icmp_ne 92 dMO_fits_78 (by decide) (by decide) (by decide) (fun _ => ?_) (fun c => absurd c (by decide))
  refine sd_iload_n dMO_fits_92 rfl rfl ?_
  refine sd_tableIn (off := 47) 140 dMO_fits_93 (by decide) (by decide) (by decide) (by decide) ?_
  refine sd_aload_n dMO_fits_140 rfl rfl ?_
  refine sd_iload_n dMO_fits_141 rfl rfl ?_
  refine fx_cV 10 sR_MO [.int (nI (a))] [] dMO_fits_142 kMO_203 rfl rfl mMO_typeOf_v (c_MO_typ0 (by omega) m1 h0) (by decide) (Nat.le_refl _) (Nat.le_refl _) (Nat.le_of_ble_eq_true rfl) rfl ?_
  refine sd_iconst (v := nI 4) dMO_fits_145 (by decide) ?_
  refine nn_icmp_ne 153 dMO_fits_146 (by decide) (by omega) (by omega) (fun c146 => ?_) (fun c146 => ?_)
  ·
    refine sd_iconst (v := nI 0) dMO_fits_153 (by decide) ?_
    exact sd_zret dMO_fits_154 rfl (nn_01 (by omega)) (Nat.le_refl _) (Nat.le_refl _) ⟨by rw [show v = (0) by omega], rfl, rfl⟩
  ·
    refine sd_iconst (v := nI 1) dMO_fits_149 (by decide) ?_
    refine sd_goto 154 dMO_fits_150 (by decide) ?_
    exact sd_zret dMO_fits_154 rfl (nn_01 (by omega)) (Nat.le_refl _) (Nat.le_refl _) ⟨by rw [show v = (1) by omega], rfl, rfl⟩
theorem c_MO_fits2 {G : sd_G} {o : Nat} {D : fx_D} {h0 : sd_H} {nx v : Nat} {S : st_S} {a b c : Nat} {w : Int32} (hR : mo_R S D) (hH : st_okH S) (ha : a < (st_th S).length) (hb : b < (st_th S).length) (hv2 : v < 2) (hv : v = 1 ↔ ru_fit S 2 a b c = true) : sd_Ct G mMO_fits 3 0 0 [.ref (o + 0), .int (nI 2), .int (nI a), .int (nI b), .int w] (fx_h G.1.2 mo_S o D h0) nx (sd_is (some (.int (nI v))) (fx_h G.1.2 mo_S o D h0) nx) := by
  refine sd_Ct_of (by decide) (Nat.le_of_ble_eq_true rfl) ?_
  obtain ⟨a1, a2, a3, a4, a5, a6⟩ := mo_cn hR hH ha
  obtain ⟨-, m1, m2, m3⟩ := mo_tm hR a2
  have p0 := m2.hd
  obtain ⟨u, u1, u2⟩ := bo_b (tl_isE (st_tm S (st_cn S a)))
  have cE := c_MO_isEqual (G := G) (o := o) (h0 := h0) (nx := nx) (by omega) m1 p0 u1 (by rw [u2, tl_isE_iff])
  obtain ⟨b1, b2, b3, b4, b5, b6⟩ := mo_cn hR hH hb
  obtain ⟨-, n1, n2, n3⟩ := mo_tm hR b2
  have q0 := n2.hd
  obtain ⟨u', u1', u2'⟩ := bo_b (tl_isE (st_tm S (st_cn S b)))
  have cE' := c_MO_isEqual (G := G) (o := o) (h0 := h0) (nx := nx) (by omega) n1 q0 u1' (by rw [u2', tl_isE_iff])
  simp only [ru_fit, Bool.and_eq_true, beq_iff_eq, and_assoc] at hv
  refine sd_iload_n dMO_fits_0 rfl rfl ?_
  refine nn_if_eq 14 dMO_fits_1 (by decide) (by decide) (fun c => absurd c (by decide)) (fun _ => ?_)
  refine sd_iload_n dMO_fits_4 rfl rfl ?_
  refine sd_iconst (v := nI 1) dMO_fits_5 (by decide) ?_
  refine nn_icmp_eq 14 dMO_fits_6 (by decide) (by decide) (by decide) (fun c => absurd c (by decide)) (fun _ => ?_)
  refine sd_iload_n dMO_fits_9 rfl rfl ?_
  refine sd_iconst (v := nI 5) dMO_fits_10 (by decide) ?_
  refine nn_icmp_ne 18 dMO_fits_11 (by decide) (by decide) (by decide) (fun _ => ?_) (fun c => absurd c (by decide))
  refine sd_aload_n dMO_fits_18 rfl rfl ?_
  refine fx_getr 10 8 (6) dMO_fits_19 fMO_25 rfl rfl ?_
  refine sd_iload_n dMO_fits_22 rfl rfl ?_
  refine fx_ialdv (v := (nI (st_cn S a))) (a) dMO_fits_23 rfl rfl (by omega) (by decide) (a1) ?_
  refine sd_istore dMO_fits_24 (by decide) ?_
  refine sd_iload_n dMO_fits_26 rfl rfl ?_
  refine sd_iconst (v := nI 2) dMO_fits_27 (by decide) ?_
  refine nn_icmp_eq 48 dMO_fits_28 (by decide) (by decide) (by decide) (fun _ => ?_) (fun c => absurd c (by decide))
  refine sd_aload_n dMO_fits_48 rfl rfl ?_
  refine fx_getr 10 8 (6) dMO_fits_49 fMO_25 rfl rfl ?_
  refine sd_iload_n dMO_fits_52 rfl rfl ?_
  refine fx_ialdv (v := (nI (st_cn S b))) (b) dMO_fits_53 rfl rfl (by omega) (by decide) (b1) ?_
  refine sd_goto 58 dMO_fits_54 (by decide) ?_
  refine sd_istore dMO_fits_58 (by decide) ?_
  refine sd_iload_n dMO_fits_60 rfl rfl ?_
  refine sd_iconst (v := nI 2) dMO_fits_61 (by decide) ?_
  refine nn_icmp_eq 81 dMO_fits_62 (by decide) (by decide) (by decide) (fun _ => ?_) (fun c => absurd c (by decide))
  refine sd_aload_n dMO_fits_81 rfl rfl ?_
  refine sd_iload dMO_fits_82 rfl ?_
  refine fx_cV 10 sR_MO [.int (nI (st_cn S a))] [] dMO_fits_84 kMO_222 rfl rfl mMO_isEqual_v (cE) (by decide) (Nat.le_refl _) (Nat.le_refl _) (Nat.le_of_ble_eq_true rfl) rfl ?_
  refine nn_if_ne 92 dMO_fits_87 (by decide) (by omega) (fun c87 => ?_) (fun c87 => ?_)
  ·
    have hE := u2.mp (show u = 1 by omega)
    obtain ⟨l1, l2, l3⟩ := m2.two (tl_E2 hE)
    refine sd_iload_n dMO_fits_92 rfl rfl ?_
    refine sd_tableIn (off := 62) 155 dMO_fits_93 (by decide) (by decide) (by decide) (by decide) ?_
    refine sd_aload_n dMO_fits_155 rfl rfl ?_
    refine sd_iload dMO_fits_156 rfl ?_
    refine fx_cV 10 sR_MO [.int (nI (st_cn S b))] [] dMO_fits_158 kMO_222 rfl rfl mMO_isEqual_v (cE') (by decide) (Nat.le_refl _) (Nat.le_refl _) (Nat.le_of_ble_eq_true rfl) rfl ?_
    refine nn_if_eq 187 dMO_fits_161 (by decide) (by omega) (fun c161 => ?_) (fun c161 => ?_)
    ·
      have hne : ¬ v = 1 := fun e ↦ absurd (u2'.mpr (hv.mp e).2.1) (by omega)
      have hv0 : v = 0 := by omega
      refine sd_iconst (v := nI 0) dMO_fits_187 (by decide) ?_
      exact sd_zret dMO_fits_188 rfl (nn_01 (by omega)) (Nat.le_refl _) (Nat.le_refl _) ⟨by rw [show v = (0) by omega], rfl, rfl⟩
    ·
      have hE' := u2'.mp (show u' = 1 by omega)
      obtain ⟨k1, k2, k3⟩ := n2.two (tl_E2 hE')
      simp only [hE, hE', true_and] at hv
      refine sd_aload_n dMO_fits_164 rfl rfl ?_
      refine sd_iload dMO_fits_165 rfl ?_
      refine sd_aload_n dMO_fits_167 rfl rfl ?_
      refine sd_iload dMO_fits_168 rfl ?_
      refine sd_iconst (v := nI 1) dMO_fits_170 (by decide) ?_
      refine fx_cV 10 sR_MO [.int (nI (st_cn S a)), .int (nI (1))] [.int (nI (st_cn S a)), .ref (o + (0))] dMO_fits_171 kMO_128 rfl rfl mMO_end_v (c_MO_end (by omega) m1 (by omega) (tl_ok_drop _ 1 1 m2.1 m2.2.1 l1)) (by decide) (Nat.le_refl _) (Nat.le_refl _) (Nat.le_of_ble_eq_true rfl) rfl ?_
      refine sd_iload dMO_fits_174 rfl ?_
      refine sd_iconst (v := nI 1) dMO_fits_176 (by decide) ?_
      refine fx_cV 10 sR_MO [.int (nI (st_cn S a)), .int (nI (tl_end (st_tm S (st_cn S a)) 1)), .int (nI (st_cn S b)), .int (nI (1))] [] dMO_fits_177 kMO_141 rfl rfl mMO_same_v (c_MO_same (by omega) (by omega) m1 n1 (by omega) (by omega) (tl_ok_drop _ 1 _ m2.1 m2.2.1 l2) (tl_ok_drop _ 1 1 n2.1 n2.2.1 k1) hv2 hv) (by decide) (Nat.le_refl _) (Nat.le_refl _) (Nat.le_of_ble_eq_true rfl) rfl ?_
      refine nn_if_eq 187 dMO_fits_180 (by decide) (by omega) (fun c180 => ?_) (fun c180 => ?_)
      ·
        refine sd_iconst (v := nI 0) dMO_fits_187 (by decide) ?_
        exact sd_zret dMO_fits_188 rfl (nn_01 (by omega)) (Nat.le_refl _) (Nat.le_refl _) ⟨by rw [show v = (0) by omega], rfl, rfl⟩
      ·
        refine sd_iconst (v := nI 1) dMO_fits_183 (by decide) ?_
        refine sd_goto 188 dMO_fits_184 (by decide) ?_
        exact sd_zret dMO_fits_188 rfl (nn_01 (by omega)) (Nat.le_refl _) (Nat.le_refl _) ⟨by rw [show v = (1) by omega], rfl, rfl⟩
  ·
    have hne : ¬ v = 1 := fun e ↦ absurd (u2.mpr (by simpa using (hv.mp e).1)) (by omega)
    have hv0 : v = 0 := by omega
    refine sd_iconst (v := nI 0) dMO_fits_90 (by decide) ?_
    exact sd_zret dMO_fits_91 rfl (Or.inl rfl) (Nat.le_refl _) (Nat.le_refl _) ⟨by rw [hv0], rfl, rfl⟩
theorem c_MO_fits3 {G : sd_G} {o : Nat} {D : fx_D} {h0 : sd_H} {nx v : Nat} {S : st_S} {a b c : Nat} {w : Int32} (hR : mo_R S D) (hT : st_okT S) (hH : st_okH S) (ha : a < (st_th S).length) (hb : b < (st_th S).length) (hv2 : v < 2) (hv : v = 1 ↔ ru_fit S 3 a b c = true) : sd_Ct G mMO_fits 3 0 0 [.ref (o + 0), .int (nI 3), .int (nI a), .int (nI b), .int w] (fx_h G.1.2 mo_S o D h0) nx (sd_is (some (.int (nI v))) (fx_h G.1.2 mo_S o D h0) nx) := by
  refine sd_Ct_of (by decide) (Nat.le_of_ble_eq_true rfl) ?_
  obtain ⟨a1, a2, a3, a4, a5, a6⟩ := mo_cn hR hH ha
  obtain ⟨-, m1, m2, m3⟩ := mo_tm hR a2
  have p0 := m2.hd
  obtain ⟨u, u1, u2⟩ := bo_b (tl_isE (st_tm S (st_cn S a)))
  have cE := c_MO_isEqual (G := G) (o := o) (h0 := h0) (nx := nx) (by omega) m1 p0 u1 (by rw [u2, tl_isE_iff])
  obtain ⟨b1, b2, b3, b4, b5, b6⟩ := mo_cn hR hH hb
  obtain ⟨-, n1, n2, n3⟩ := mo_tm hR b2
  have q0 := n2.hd
  obtain ⟨u', u1', u2'⟩ := bo_b (tl_isE (st_tm S (st_cn S b)))
  have cE' := c_MO_isEqual (G := G) (o := o) (h0 := h0) (nx := nx) (by omega) n1 q0 u1' (by rw [u2', tl_isE_iff])
  have tP := (mo_tm hR a2).1
  simp only [ru_fit, Bool.and_eq_true, beq_iff_eq, and_assoc] at hv
  refine sd_iload_n dMO_fits_0 rfl rfl ?_
  refine nn_if_eq 14 dMO_fits_1 (by decide) (by decide) (fun c => absurd c (by decide)) (fun _ => ?_)
  refine sd_iload_n dMO_fits_4 rfl rfl ?_
  refine sd_iconst (v := nI 1) dMO_fits_5 (by decide) ?_
  refine nn_icmp_eq 14 dMO_fits_6 (by decide) (by decide) (by decide) (fun c => absurd c (by decide)) (fun _ => ?_)
  refine sd_iload_n dMO_fits_9 rfl rfl ?_
  refine sd_iconst (v := nI 5) dMO_fits_10 (by decide) ?_
  refine nn_icmp_ne 18 dMO_fits_11 (by decide) (by decide) (by decide) (fun _ => ?_) (fun c => absurd c (by decide))
  refine sd_aload_n dMO_fits_18 rfl rfl ?_
  refine fx_getr 10 8 (6) dMO_fits_19 fMO_25 rfl rfl ?_
  refine sd_iload_n dMO_fits_22 rfl rfl ?_
  refine fx_ialdv (v := (nI (st_cn S a))) (a) dMO_fits_23 rfl rfl (by omega) (by decide) (a1) ?_
  refine sd_istore dMO_fits_24 (by decide) ?_
  refine sd_iload_n dMO_fits_26 rfl rfl ?_
  refine sd_iconst (v := nI 2) dMO_fits_27 (by decide) ?_
  refine nn_icmp_eq 48 dMO_fits_28 (by decide) (by decide) (by decide) (fun c => absurd c (by decide)) (fun _ => ?_)
  refine sd_iload_n dMO_fits_31 rfl rfl ?_
  refine sd_iconst (v := nI 3) dMO_fits_32 (by decide) ?_
  refine nn_icmp_eq 48 dMO_fits_33 (by decide) (by decide) (by decide) (fun _ => ?_) (fun c => absurd c (by decide))
  refine sd_aload_n dMO_fits_48 rfl rfl ?_
  refine fx_getr 10 8 (6) dMO_fits_49 fMO_25 rfl rfl ?_
  refine sd_iload_n dMO_fits_52 rfl rfl ?_
  refine fx_ialdv (v := (nI (st_cn S b))) (b) dMO_fits_53 rfl rfl (by omega) (by decide) (b1) ?_
  refine sd_goto 58 dMO_fits_54 (by decide) ?_
  refine sd_istore dMO_fits_58 (by decide) ?_
  refine sd_iload_n dMO_fits_60 rfl rfl ?_
  refine sd_iconst (v := nI 2) dMO_fits_61 (by decide) ?_
  refine nn_icmp_eq 81 dMO_fits_62 (by decide) (by decide) (by decide) (fun c => absurd c (by decide)) (fun _ => ?_)
  refine sd_iload_n dMO_fits_65 rfl rfl ?_
  refine sd_iconst (v := nI 3) dMO_fits_66 (by decide) ?_
  refine nn_icmp_eq 81 dMO_fits_67 (by decide) (by decide) (by decide) (fun _ => ?_) (fun c => absurd c (by decide))
  refine sd_aload_n dMO_fits_81 rfl rfl ?_
  refine sd_iload dMO_fits_82 rfl ?_
  refine fx_cV 10 sR_MO [.int (nI (st_cn S a))] [] dMO_fits_84 kMO_222 rfl rfl mMO_isEqual_v (cE) (by decide) (Nat.le_refl _) (Nat.le_refl _) (Nat.le_of_ble_eq_true rfl) rfl ?_
  refine nn_if_ne 92 dMO_fits_87 (by decide) (by omega) (fun c87 => ?_) (fun c87 => ?_)
  ·
    have hE := u2.mp (show u = 1 by omega)
    obtain ⟨l1, l2, l3⟩ := m2.two (tl_E2 hE)
    have hx := tl_at_some l1
    have tok := (hT _ (List.mem_of_getElem? tP) _ (List.mem_of_getElem? hx)).1
    have t25 := tok.1
    have t4 := tok.2.1
    obtain ⟨f, f1, f2⟩ := bo_b (ty_isF (tl_at (st_tm S (st_cn S a)) 1).2)
    have cF := c_MO_isFunction (G := G) (h := fx_h G.1.2 mo_S o D h0) (nx := nx) (b := f) t4 (by omega) f1 (by rw [f2]; simp [ty_isF])
    refine sd_iload_n dMO_fits_92 rfl rfl ?_
    refine sd_tableIn (off := 96) 189 dMO_fits_93 (by decide) (by decide) (by decide) (by decide) ?_
    refine sd_aload_n dMO_fits_189 rfl rfl ?_
    refine sd_iload dMO_fits_190 rfl ?_
    refine fx_cV 10 sR_MO [.int (nI (st_cn S b))] [] dMO_fits_192 kMO_222 rfl rfl mMO_isEqual_v (cE') (by decide) (Nat.le_refl _) (Nat.le_refl _) (Nat.le_of_ble_eq_true rfl) rfl ?_
    refine nn_if_eq 235 dMO_fits_195 (by decide) (by omega) (fun c195 => ?_) (fun c195 => ?_)
    ·
      have hne : ¬ v = 1 := fun e ↦ absurd (u2'.mpr (hv.mp e).2.1) (by omega)
      have hv0 : v = 0 := by omega
      refine sd_iconst (v := nI 0) dMO_fits_235 (by decide) ?_
      exact sd_zret dMO_fits_236 rfl (nn_01 (by omega)) (Nat.le_refl _) (Nat.le_refl _) ⟨by rw [show v = (0) by omega], rfl, rfl⟩
    ·
      have hE' := u2'.mp (show u' = 1 by omega)
      obtain ⟨k1, k2, k3⟩ := n2.two (tl_E2 hE')
      have hy := tl_at_some k1
      have y25 := (n1.2.2 1 _ hy).2.2.2
      refine sd_aload_n dMO_fits_198 rfl rfl ?_
      refine sd_iload dMO_fits_199 rfl ?_
      refine sd_iconst (v := nI 1) dMO_fits_201 (by decide) ?_
      refine fx_cV 10 sR_MO [.int (nI (st_cn S a)), .int (nI (1))] [] dMO_fits_202 kMO_134 rfl rfl mMO_typeAt_v (c_MO_typ (by omega) m1 hx) (by decide) (Nat.le_refl _) (Nat.le_refl _) (Nat.le_of_ble_eq_true rfl) rfl ?_
      refine sd_cS [.int (nI ((tl_at (st_tm S (st_cn S a)) 1).2))] [] dMO_fits_205 kMO_225 mMO_isFunction_s (cF) (by decide) (Nat.le_refl _) (Nat.le_refl _) (Nat.le_of_ble_eq_true rfl) rfl ?_
      refine nn_if_eq 235 dMO_fits_208 (by decide) (by omega) (fun c208 => ?_) (fun c208 => ?_)
      ·
        have hne : ¬ v = 1 := fun e ↦ absurd (f2.mpr (hv.mp e).2.2.1) (by omega)
        have hv0 : v = 0 := by omega
        refine sd_iconst (v := nI 0) dMO_fits_235 (by decide) ?_
        exact sd_zret dMO_fits_236 rfl (nn_01 (by omega)) (Nat.le_refl _) (Nat.le_refl _) ⟨by rw [show v = (0) by omega], rfl, rfl⟩
      ·
        have hF := f2.mp (show f = 1 by omega)
        obtain ⟨r, hr⟩ := ty_fun_rem tok hF
        have cFr := c_MO_from (G := G) (h := fx_h G.1.2 mo_S o D h0) (nx := nx) t4 (by omega) hr
        have fle : ty_from (tl_at (st_tm S (st_cn S a)) 1).2 < 2 ^ 31 := ty_from_lt t25 (by omega)
        simp only [hE, hE', hF, true_and] at hv
        refine sd_aload_n dMO_fits_211 rfl rfl ?_
        refine sd_iload dMO_fits_212 rfl ?_
        refine sd_iconst (v := nI 1) dMO_fits_214 (by decide) ?_
        refine fx_cV 10 sR_MO [.int (nI (st_cn S a)), .int (nI (1))] [] dMO_fits_215 kMO_134 rfl rfl mMO_typeAt_v (c_MO_typ (by omega) m1 hx) (by decide) (Nat.le_refl _) (Nat.le_refl _) (Nat.le_of_ble_eq_true rfl) rfl ?_
        refine sd_cS [.int (nI ((tl_at (st_tm S (st_cn S a)) 1).2))] [] dMO_fits_218 kMO_228 mMO_from_s (cFr) (by decide) (Nat.le_refl _) (Nat.le_refl _) (Nat.le_of_ble_eq_true rfl) rfl ?_
        refine sd_aload_n dMO_fits_221 rfl rfl ?_
        refine sd_iload dMO_fits_222 rfl ?_
        refine sd_iconst (v := nI 1) dMO_fits_224 (by decide) ?_
        refine fx_cV 10 sR_MO [.int (nI (st_cn S b)), .int (nI (1))] [.int (nI (ty_from (tl_at (st_tm S (st_cn S a)) 1).2))] dMO_fits_225 kMO_134 rfl rfl mMO_typeAt_v (c_MO_typ (by omega) n1 hy) (by decide) (Nat.le_refl _) (Nat.le_refl _) (Nat.le_of_ble_eq_true rfl) rfl ?_
        refine nn_icmp_ne 235 dMO_fits_228 (by decide) (by omega) (by omega) (fun c228 => ?_) (fun c228 => ?_)
        ·
          refine sd_iconst (v := nI 0) dMO_fits_235 (by decide) ?_
          exact sd_zret dMO_fits_236 rfl (nn_01 (by omega)) (Nat.le_refl _) (Nat.le_refl _) ⟨by rw [show v = (0) by omega], rfl, rfl⟩
        ·
          refine sd_iconst (v := nI 1) dMO_fits_231 (by decide) ?_
          refine sd_goto 236 dMO_fits_232 (by decide) ?_
          exact sd_zret dMO_fits_236 rfl (nn_01 (by omega)) (Nat.le_refl _) (Nat.le_refl _) ⟨by rw [show v = (1) by omega], rfl, rfl⟩
  ·
    have hne : ¬ v = 1 := fun e ↦ absurd (u2.mpr (by simpa using (hv.mp e).1)) (by omega)
    have hv0 : v = 0 := by omega
    refine sd_iconst (v := nI 0) dMO_fits_90 (by decide) ?_
    exact sd_zret dMO_fits_91 rfl (Or.inl rfl) (Nat.le_refl _) (Nat.le_refl _) ⟨by rw [hv0], rfl, rfl⟩
theorem c_MO_fits4 {G : sd_G} {o : Nat} {D : fx_D} {h0 : sd_H} {nx v : Nat} {S : st_S} {a b c : Nat} {w : Int32} (hR : mo_R S D) (hH : st_okH S) (ha : a < (st_th S).length) (hb : b < 8) (hv2 : v < 2) (hv : v = 1 ↔ ru_fit S 4 a b c = true) : sd_Ct G mMO_fits 3 0 0 [.ref (o + 0), .int (nI 4), .int (nI a), .int (nI b), .int w] (fx_h G.1.2 mo_S o D h0) nx (sd_is (some (.int (nI v))) (fx_h G.1.2 mo_S o D h0) nx) := by
  refine sd_Ct_of (by decide) (Nat.le_of_ble_eq_true rfl) ?_
  obtain ⟨a1, a2, a3, a4, a5, a6⟩ := mo_cn hR hH ha
  obtain ⟨-, m1, m2, m3⟩ := mo_tm hR a2
  have p0 := m2.hd
  obtain ⟨u, u1, u2⟩ := bo_b (tl_isE (st_tm S (st_cn S a)))
  have cE := c_MO_isEqual (G := G) (o := o) (h0 := h0) (nx := nx) (by omega) m1 p0 u1 (by rw [u2, tl_isE_iff])
  rw [show ru_fit S 4 a b c = (tl_isE (st_tm S (st_cn S a)) && (st_hy S a).all (fun t => !tl_nm (st_tm S t) b)) from rfl, Bool.and_eq_true] at hv
  refine sd_iload_n dMO_fits_0 rfl rfl ?_
  refine nn_if_eq 14 dMO_fits_1 (by decide) (by decide) (fun c => absurd c (by decide)) (fun _ => ?_)
  refine sd_iload_n dMO_fits_4 rfl rfl ?_
  refine sd_iconst (v := nI 1) dMO_fits_5 (by decide) ?_
  refine nn_icmp_eq 14 dMO_fits_6 (by decide) (by decide) (by decide) (fun c => absurd c (by decide)) (fun _ => ?_)
  refine sd_iload_n dMO_fits_9 rfl rfl ?_
  refine sd_iconst (v := nI 5) dMO_fits_10 (by decide) ?_
  refine nn_icmp_ne 18 dMO_fits_11 (by decide) (by decide) (by decide) (fun _ => ?_) (fun c => absurd c (by decide))
  refine sd_aload_n dMO_fits_18 rfl rfl ?_
  refine fx_getr 10 8 (6) dMO_fits_19 fMO_25 rfl rfl ?_
  refine sd_iload_n dMO_fits_22 rfl rfl ?_
  refine fx_ialdv (v := (nI (st_cn S a))) (a) dMO_fits_23 rfl rfl (by omega) (by decide) (a1) ?_
  refine sd_istore dMO_fits_24 (by decide) ?_
  refine sd_iload_n dMO_fits_26 rfl rfl ?_
  refine sd_iconst (v := nI 2) dMO_fits_27 (by decide) ?_
  refine nn_icmp_eq 48 dMO_fits_28 (by decide) (by decide) (by decide) (fun c => absurd c (by decide)) (fun _ => ?_)
  refine sd_iload_n dMO_fits_31 rfl rfl ?_
  refine sd_iconst (v := nI 3) dMO_fits_32 (by decide) ?_
  refine nn_icmp_eq 48 dMO_fits_33 (by decide) (by decide) (by decide) (fun c => absurd c (by decide)) (fun _ => ?_)
  refine sd_iload_n dMO_fits_36 rfl rfl ?_
  refine sd_bipush (v := nI 6) dMO_fits_37 (by decide) ?_
  refine nn_icmp_eq 48 dMO_fits_39 (by decide) (by decide) (by decide) (fun c => absurd c (by decide)) (fun _ => ?_)
  refine sd_iload_n dMO_fits_42 rfl rfl ?_
  refine sd_bipush (v := nI 7) dMO_fits_43 (by decide) ?_
  refine nn_icmp_ne 57 dMO_fits_45 (by decide) (by decide) (by decide) (fun _ => ?_) (fun c => absurd c (by decide))
  refine sd_iconst (v := nI 0) dMO_fits_57 (by decide) ?_
  refine sd_istore dMO_fits_58 (by decide) ?_
  refine sd_iload_n dMO_fits_60 rfl rfl ?_
  refine sd_iconst (v := nI 2) dMO_fits_61 (by decide) ?_
  refine nn_icmp_eq 81 dMO_fits_62 (by decide) (by decide) (by decide) (fun c => absurd c (by decide)) (fun _ => ?_)
  refine sd_iload_n dMO_fits_65 rfl rfl ?_
  refine sd_iconst (v := nI 3) dMO_fits_66 (by decide) ?_
  refine nn_icmp_eq 81 dMO_fits_67 (by decide) (by decide) (by decide) (fun c => absurd c (by decide)) (fun _ => ?_)
  refine sd_iload_n dMO_fits_70 rfl rfl ?_
  refine sd_iconst (v := nI 4) dMO_fits_71 (by decide) ?_
  refine nn_icmp_eq 81 dMO_fits_72 (by decide) (by decide) (by decide) (fun _ => ?_) (fun c => absurd c (by decide))
  refine sd_aload_n dMO_fits_81 rfl rfl ?_
  refine sd_iload dMO_fits_82 rfl ?_
  refine fx_cV 10 sR_MO [.int (nI (st_cn S a))] [] dMO_fits_84 kMO_222 rfl rfl mMO_isEqual_v (cE) (by decide) (Nat.le_refl _) (Nat.le_refl _) (Nat.le_of_ble_eq_true rfl) rfl ?_
  refine nn_if_ne 92 dMO_fits_87 (by decide) (by omega) (fun c87 => ?_) (fun c87 => ?_)
  ·
    have hE := u2.mp (show u = 1 by omega)
    simp only [hE, true_and] at hv
    refine sd_iload_n dMO_fits_92 rfl rfl ?_
    refine sd_tableIn (off := 144) 237 dMO_fits_93 (by decide) (by decide) (by decide) (by decide) ?_
    refine sd_iconst (v := nI 0) dMO_fits_237 (by decide) ?_
    refine sd_istore dMO_fits_238 (by decide) ?_
    refine sd_locp (al' := [(0, .ref (o + (0))), (2, .int (nI (a))), (3, .int (nI (b))), (7, .int (nI (0)))]) [3, 5, 6, 0] rfl ?_
    exact l_MO_fits4 hR hH ha hb hv2 hv (st_hy S a).length 0 (by omega) (fun _ _ h ↦ absurd h (by omega))
  ·
    have hne : ¬ v = 1 := fun e ↦ absurd (u2.mpr (by simpa using (hv.mp e).1)) (by omega)
    have hv0 : v = 0 := by omega
    refine sd_iconst (v := nI 0) dMO_fits_90 (by decide) ?_
    exact sd_zret dMO_fits_91 rfl (Or.inl rfl) (Nat.le_refl _) (Nat.le_refl _) ⟨by rw [hv0], rfl, rfl⟩
theorem c_MO_fits5 {G : sd_G} {o : Nat} {D : fx_D} {h0 : sd_H} {nx v : Nat} {S : st_S} {a b c : Nat} {z w : Int32} (hR : mo_R S D) (ha : a < (st_T S).length) (hv2 : v < 2) (hv : v = 1 ↔ ru_fit S 5 a b c = true) : sd_Ct G mMO_fits 3 0 0 [.ref (o + 0), .int (nI 5), .int (nI a), .int z, .int w] (fx_h G.1.2 mo_S o D h0) nx (sd_is (some (.int (nI v))) (fx_h G.1.2 mo_S o D h0) nx) := by
  refine sd_Ct_of (by decide) (Nat.le_of_ble_eq_true rfl) ?_
  obtain ⟨-, m1, m2, m3⟩ := mo_tm hR ha
  have hx0 := m2.hd
  have hB' : v = 1 ↔ (tl_at (st_tm S a) 0).1 = 8 ∧ ∃ y, (st_tm S a)[0 + 1]? = some y ∧ y.1 = 10 := by
    rw [hv, show ru_fit S 5 a b c = tl_isB (st_tm S a) 0 from rfl, tl_isB_iff]
    constructor
    · rintro ⟨h1, h2⟩
      obtain ⟨l1, -, -⟩ := m2.two (by rw [h1]; rfl)
      exact ⟨h1, _, tl_at_some l1, h2⟩
    · rintro ⟨h1, y, h2, h3⟩
      refine ⟨h1, ?_⟩
      unfold tl_at
      rw [h2]
      exact h3
  refine sd_iload_n dMO_fits_0 rfl rfl ?_
  refine nn_if_eq 14 dMO_fits_1 (by decide) (by decide) (fun c => absurd c (by decide)) (fun _ => ?_)
  refine sd_iload_n dMO_fits_4 rfl rfl ?_
  refine sd_iconst (v := nI 1) dMO_fits_5 (by decide) ?_
  refine nn_icmp_eq 14 dMO_fits_6 (by decide) (by decide) (by decide) (fun c => absurd c (by decide)) (fun _ => ?_)
  refine sd_iload_n dMO_fits_9 rfl rfl ?_
  refine sd_iconst (v := nI 5) dMO_fits_10 (by decide) ?_
  refine nn_icmp_ne 18 dMO_fits_11 (by decide) (by decide) (by decide) (fun c => absurd c (by decide)) (fun _ => ?_)
  refine sd_iload_n dMO_fits_14 rfl rfl ?_
  refine sd_goto 24 dMO_fits_15 (by decide) ?_
  refine sd_istore dMO_fits_24 (by decide) ?_
  refine sd_iload_n dMO_fits_26 rfl rfl ?_
  refine sd_iconst (v := nI 2) dMO_fits_27 (by decide) ?_
  refine nn_icmp_eq 48 dMO_fits_28 (by decide) (by decide) (by decide) (fun c => absurd c (by decide)) (fun _ => ?_)
  refine sd_iload_n dMO_fits_31 rfl rfl ?_
  refine sd_iconst (v := nI 3) dMO_fits_32 (by decide) ?_
  refine nn_icmp_eq 48 dMO_fits_33 (by decide) (by decide) (by decide) (fun c => absurd c (by decide)) (fun _ => ?_)
  refine sd_iload_n dMO_fits_36 rfl rfl ?_
  refine sd_bipush (v := nI 6) dMO_fits_37 (by decide) ?_
  refine nn_icmp_eq 48 dMO_fits_39 (by decide) (by decide) (by decide) (fun c => absurd c (by decide)) (fun _ => ?_)
  refine sd_iload_n dMO_fits_42 rfl rfl ?_
  refine sd_bipush (v := nI 7) dMO_fits_43 (by decide) ?_
  refine nn_icmp_ne 57 dMO_fits_45 (by decide) (by decide) (by decide) (fun _ => ?_) (fun c => absurd c (by decide))
  refine sd_iconst (v := nI 0) dMO_fits_57 (by decide) ?_
  refine sd_istore dMO_fits_58 (by decide) ?_
  refine sd_iload_n dMO_fits_60 rfl rfl ?_
  refine sd_iconst (v := nI 2) dMO_fits_61 (by decide) ?_
  refine nn_icmp_eq 81 dMO_fits_62 (by decide) (by decide) (by decide) (fun c => absurd c (by decide)) (fun _ => ?_)
  refine sd_iload_n dMO_fits_65 rfl rfl ?_
  refine sd_iconst (v := nI 3) dMO_fits_66 (by decide) ?_
  refine nn_icmp_eq 81 dMO_fits_67 (by decide) (by decide) (by decide) (fun c => absurd c (by decide)) (fun _ => ?_)
  refine sd_iload_n dMO_fits_70 rfl rfl ?_
  refine sd_iconst (v := nI 4) dMO_fits_71 (by decide) ?_
  refine nn_icmp_eq 81 dMO_fits_72 (by decide) (by decide) (by decide) (fun c => absurd c (by decide)) (fun _ => ?_)
  refine sd_iload_n dMO_fits_75 rfl rfl ?_
  refine sd_bipush (v := nI 6) dMO_fits_76 (by decide) ?_
  refine nn_icmp_ne 92 dMO_fits_78 (by decide) (by decide) (by decide) (fun _ => ?_) (fun c => absurd c (by decide))
  refine sd_iload_n dMO_fits_92 rfl rfl ?_
  refine sd_tableIn (off := 188) 281 dMO_fits_93 (by decide) (by decide) (by decide) (by decide) ?_
  refine sd_aload_n dMO_fits_281 rfl rfl ?_
  refine sd_iload_n dMO_fits_282 rfl rfl ?_
  refine sd_iconst (v := nI 0) dMO_fits_283 (by decide) ?_
  refine fx_cV 10 sR_MO [.int (nI (a)), .int (nI (0))] [] dMO_fits_284 kMO_234 rfl rfl mMO_isBeta_v (c_MO_isBeta (by omega) m1 m2 hx0 hv2 hB') (by decide) (Nat.le_refl _) (Nat.le_refl _) (Nat.le_of_ble_eq_true rfl) rfl ?_
  exact sd_zret dMO_fits_287 rfl (nn_01 (by omega)) (Nat.le_refl _) (Nat.le_refl _) ⟨by rw [show v = (v) by omega], rfl, rfl⟩
theorem c_MO_fits6 {G : sd_G} {o : Nat} {D : fx_D} {h0 : sd_H} {nx v : Nat} {S : st_S} {a b c : Nat} {w : Int32} (hR : mo_R S D) (hH : st_okH S) (ha : a < (st_th S).length) (hb : b < (st_th S).length) (hv2 : v < 2) (hv : v = 1 ↔ ru_fit S 6 a b c = true) : sd_Ct G mMO_fits 3 0 0 [.ref (o + 0), .int (nI 6), .int (nI a), .int (nI b), .int w] (fx_h G.1.2 mo_S o D h0) nx (sd_is (some (.int (nI v))) (fx_h G.1.2 mo_S o D h0) nx) := by
  refine sd_Ct_of (by decide) (Nat.le_of_ble_eq_true rfl) ?_
  obtain ⟨a1, a2, a3, a4, a5, a6⟩ := mo_cn hR hH ha
  obtain ⟨-, m1, m2, m3⟩ := mo_tm hR a2
  have p0 := m2.hd
  obtain ⟨u, u1, u2⟩ := bo_b (tl_isE (st_tm S (st_cn S a)))
  have cE := c_MO_isEqual (G := G) (o := o) (h0 := h0) (nx := nx) (by omega) m1 p0 u1 (by rw [u2, tl_isE_iff])
  obtain ⟨b1, b2, b3, b4, b5, b6⟩ := mo_cn hR hH hb
  obtain ⟨-, n1, n2, n3⟩ := mo_tm hR b2
  have q0 := n2.hd
  simp only [ru_fit, Bool.and_eq_true, beq_iff_eq, and_assoc] at hv
  refine sd_iload_n dMO_fits_0 rfl rfl ?_
  refine nn_if_eq 14 dMO_fits_1 (by decide) (by decide) (fun c => absurd c (by decide)) (fun _ => ?_)
  refine sd_iload_n dMO_fits_4 rfl rfl ?_
  refine sd_iconst (v := nI 1) dMO_fits_5 (by decide) ?_
  refine nn_icmp_eq 14 dMO_fits_6 (by decide) (by decide) (by decide) (fun c => absurd c (by decide)) (fun _ => ?_)
  refine sd_iload_n dMO_fits_9 rfl rfl ?_
  refine sd_iconst (v := nI 5) dMO_fits_10 (by decide) ?_
  refine nn_icmp_ne 18 dMO_fits_11 (by decide) (by decide) (by decide) (fun _ => ?_) (fun c => absurd c (by decide))
  refine sd_aload_n dMO_fits_18 rfl rfl ?_
  refine fx_getr 10 8 (6) dMO_fits_19 fMO_25 rfl rfl ?_
  refine sd_iload_n dMO_fits_22 rfl rfl ?_
  refine fx_ialdv (v := (nI (st_cn S a))) (a) dMO_fits_23 rfl rfl (by omega) (by decide) (a1) ?_
  refine sd_istore dMO_fits_24 (by decide) ?_
  refine sd_iload_n dMO_fits_26 rfl rfl ?_
  refine sd_iconst (v := nI 2) dMO_fits_27 (by decide) ?_
  refine nn_icmp_eq 48 dMO_fits_28 (by decide) (by decide) (by decide) (fun c => absurd c (by decide)) (fun _ => ?_)
  refine sd_iload_n dMO_fits_31 rfl rfl ?_
  refine sd_iconst (v := nI 3) dMO_fits_32 (by decide) ?_
  refine nn_icmp_eq 48 dMO_fits_33 (by decide) (by decide) (by decide) (fun c => absurd c (by decide)) (fun _ => ?_)
  refine sd_iload_n dMO_fits_36 rfl rfl ?_
  refine sd_bipush (v := nI 6) dMO_fits_37 (by decide) ?_
  refine nn_icmp_eq 48 dMO_fits_39 (by decide) (by decide) (by decide) (fun _ => ?_) (fun c => absurd c (by decide))
  refine sd_aload_n dMO_fits_48 rfl rfl ?_
  refine fx_getr 10 8 (6) dMO_fits_49 fMO_25 rfl rfl ?_
  refine sd_iload_n dMO_fits_52 rfl rfl ?_
  refine fx_ialdv (v := (nI (st_cn S b))) (b) dMO_fits_53 rfl rfl (by omega) (by decide) (b1) ?_
  refine sd_goto 58 dMO_fits_54 (by decide) ?_
  refine sd_istore dMO_fits_58 (by decide) ?_
  refine sd_iload_n dMO_fits_60 rfl rfl ?_
  refine sd_iconst (v := nI 2) dMO_fits_61 (by decide) ?_
  refine nn_icmp_eq 81 dMO_fits_62 (by decide) (by decide) (by decide) (fun c => absurd c (by decide)) (fun _ => ?_)
  refine sd_iload_n dMO_fits_65 rfl rfl ?_
  refine sd_iconst (v := nI 3) dMO_fits_66 (by decide) ?_
  refine nn_icmp_eq 81 dMO_fits_67 (by decide) (by decide) (by decide) (fun c => absurd c (by decide)) (fun _ => ?_)
  refine sd_iload_n dMO_fits_70 rfl rfl ?_
  refine sd_iconst (v := nI 4) dMO_fits_71 (by decide) ?_
  refine nn_icmp_eq 81 dMO_fits_72 (by decide) (by decide) (by decide) (fun c => absurd c (by decide)) (fun _ => ?_)
  refine sd_iload_n dMO_fits_75 rfl rfl ?_
  refine sd_bipush (v := nI 6) dMO_fits_76 (by decide) ?_
  refine nn_icmp_ne 92 dMO_fits_78 (by decide) (by decide) (by decide) (fun c => absurd c (by decide)) (fun _ => ?_)
  refine sd_aload_n dMO_fits_81 rfl rfl ?_
  refine sd_iload dMO_fits_82 rfl ?_
  refine fx_cV 10 sR_MO [.int (nI (st_cn S a))] [] dMO_fits_84 kMO_222 rfl rfl mMO_isEqual_v (cE) (by decide) (Nat.le_refl _) (Nat.le_refl _) (Nat.le_of_ble_eq_true rfl) rfl ?_
  refine nn_if_ne 92 dMO_fits_87 (by decide) (by omega) (fun c87 => ?_) (fun c87 => ?_)
  ·
    have hE := u2.mp (show u = 1 by omega)
    obtain ⟨l1, l2, l3⟩ := m2.two (tl_E2 hE)
    simp only [hE, true_and] at hv
    refine sd_iload_n dMO_fits_92 rfl rfl ?_
    refine sd_tableIn (off := 195) 288 dMO_fits_93 (by decide) (by decide) (by decide) (by decide) ?_
    refine sd_aload_n dMO_fits_288 rfl rfl ?_
    refine sd_iload dMO_fits_289 rfl ?_
    refine sd_iconst (v := nI 1) dMO_fits_291 (by decide) ?_
    refine sd_iload dMO_fits_292 rfl ?_
    refine sd_iconst (v := nI 0) dMO_fits_294 (by decide) ?_
    refine fx_cV 10 sR_MO [.int (nI (st_cn S a)), .int (nI (1)), .int (nI (st_cn S b)), .int (nI (0))] [] dMO_fits_295 kMO_141 rfl rfl mMO_same_v (c_MO_same (by omega) (by omega) m1 n1 (by omega) (by omega) (tl_ok_drop _ 1 1 m2.1 m2.2.1 l1) n2.1 hv2 (by rw [n2.part]; exact hv)) (by decide) (Nat.le_refl _) (Nat.le_refl _) (Nat.le_of_ble_eq_true rfl) rfl ?_
    exact sd_zret dMO_fits_298 rfl (nn_01 (by omega)) (Nat.le_refl _) (Nat.le_refl _) ⟨by rw [show v = (v) by omega], rfl, rfl⟩
  ·
    have hne : ¬ v = 1 := fun e ↦ absurd (u2.mpr (by simpa using (hv.mp e).1)) (by omega)
    have hv0 : v = 0 := by omega
    refine sd_iconst (v := nI 0) dMO_fits_90 (by decide) ?_
    exact sd_zret dMO_fits_91 rfl (Or.inl rfl) (Nat.le_refl _) (Nat.le_refl _) ⟨by rw [hv0], rfl, rfl⟩
theorem c_MO_fits7 {G : sd_G} {o : Nat} {D : fx_D} {h0 : sd_H} {nx v : Nat} {S : st_S} {a b c : Nat} {w : Int32} (hR : mo_R S D) (hH : st_okH S) (ha : a < (st_th S).length) (hb : b < (st_th S).length) (hv2 : v < 2) (hv : v = 1 ↔ ru_fit S 7 a b c = true) : sd_Ct G mMO_fits 3 0 0 [.ref (o + 0), .int (nI 7), .int (nI a), .int (nI b), .int w] (fx_h G.1.2 mo_S o D h0) nx (sd_is (some (.int (nI v))) (fx_h G.1.2 mo_S o D h0) nx) := by
  refine sd_Ct_of (by decide) (Nat.le_of_ble_eq_true rfl) ?_
  obtain rfl : v = 1 := hv.mpr rfl
  obtain ⟨a1, a2, a3, a4, a5, a6⟩ := mo_cn hR hH ha
  obtain ⟨b1, b2, b3, b4, b5, b6⟩ := mo_cn hR hH hb
  refine sd_iload_n dMO_fits_0 rfl rfl ?_
  refine nn_if_eq 14 dMO_fits_1 (by decide) (by decide) (fun c => absurd c (by decide)) (fun _ => ?_)
  refine sd_iload_n dMO_fits_4 rfl rfl ?_
  refine sd_iconst (v := nI 1) dMO_fits_5 (by decide) ?_
  refine nn_icmp_eq 14 dMO_fits_6 (by decide) (by decide) (by decide) (fun c => absurd c (by decide)) (fun _ => ?_)
  refine sd_iload_n dMO_fits_9 rfl rfl ?_
  refine sd_iconst (v := nI 5) dMO_fits_10 (by decide) ?_
  refine nn_icmp_ne 18 dMO_fits_11 (by decide) (by decide) (by decide) (fun _ => ?_) (fun c => absurd c (by decide))
  refine sd_aload_n dMO_fits_18 rfl rfl ?_
  refine fx_getr 10 8 (6) dMO_fits_19 fMO_25 rfl rfl ?_
  refine sd_iload_n dMO_fits_22 rfl rfl ?_
  refine fx_ialdv (v := (nI (st_cn S a))) (a) dMO_fits_23 rfl rfl (by omega) (by decide) (a1) ?_
  refine sd_istore dMO_fits_24 (by decide) ?_
  refine sd_iload_n dMO_fits_26 rfl rfl ?_
  refine sd_iconst (v := nI 2) dMO_fits_27 (by decide) ?_
  refine nn_icmp_eq 48 dMO_fits_28 (by decide) (by decide) (by decide) (fun c => absurd c (by decide)) (fun _ => ?_)
  refine sd_iload_n dMO_fits_31 rfl rfl ?_
  refine sd_iconst (v := nI 3) dMO_fits_32 (by decide) ?_
  refine nn_icmp_eq 48 dMO_fits_33 (by decide) (by decide) (by decide) (fun c => absurd c (by decide)) (fun _ => ?_)
  refine sd_iload_n dMO_fits_36 rfl rfl ?_
  refine sd_bipush (v := nI 6) dMO_fits_37 (by decide) ?_
  refine nn_icmp_eq 48 dMO_fits_39 (by decide) (by decide) (by decide) (fun c => absurd c (by decide)) (fun _ => ?_)
  refine sd_iload_n dMO_fits_42 rfl rfl ?_
  refine sd_bipush (v := nI 7) dMO_fits_43 (by decide) ?_
  refine nn_icmp_ne 57 dMO_fits_45 (by decide) (by decide) (by decide) (fun c => absurd c (by decide)) (fun _ => ?_)
  refine sd_aload_n dMO_fits_48 rfl rfl ?_
  refine fx_getr 10 8 (6) dMO_fits_49 fMO_25 rfl rfl ?_
  refine sd_iload_n dMO_fits_52 rfl rfl ?_
  refine fx_ialdv (v := (nI (st_cn S b))) (b) dMO_fits_53 rfl rfl (by omega) (by decide) (b1) ?_
  refine sd_goto 58 dMO_fits_54 (by decide) ?_
  refine sd_istore dMO_fits_58 (by decide) ?_
  refine sd_iload_n dMO_fits_60 rfl rfl ?_
  refine sd_iconst (v := nI 2) dMO_fits_61 (by decide) ?_
  refine nn_icmp_eq 81 dMO_fits_62 (by decide) (by decide) (by decide) (fun c => absurd c (by decide)) (fun _ => ?_)
  refine sd_iload_n dMO_fits_65 rfl rfl ?_
  refine sd_iconst (v := nI 3) dMO_fits_66 (by decide) ?_
  refine nn_icmp_eq 81 dMO_fits_67 (by decide) (by decide) (by decide) (fun c => absurd c (by decide)) (fun _ => ?_)
  refine sd_iload_n dMO_fits_70 rfl rfl ?_
  refine sd_iconst (v := nI 4) dMO_fits_71 (by decide) ?_
  refine nn_icmp_eq 81 dMO_fits_72 (by decide) (by decide) (by decide) (fun c => absurd c (by decide)) (fun _ => ?_)
  refine sd_iload_n dMO_fits_75 rfl rfl ?_
  refine sd_bipush (v := nI 6) dMO_fits_76 (by decide) ?_
  refine nn_icmp_ne 92 dMO_fits_78 (by decide) (by decide) (by decide) (fun _ => ?_) (fun c => absurd c (by decide))
  refine sd_iload_n dMO_fits_92 rfl rfl ?_
  refine sd_tableIn (off := 227) 320 dMO_fits_93 (by decide) (by decide) (by decide) (by decide) ?_
  refine sd_iconst (v := nI 1) dMO_fits_320 (by decide) ?_
  exact sd_zret dMO_fits_321 rfl (Or.inr rfl) (Nat.le_refl _) (Nat.le_refl _) ⟨rfl, rfl, rfl⟩
theorem c_MO_fits8 {G : sd_G} {o : Nat} {D : fx_D} {h0 : sd_H} {nx v : Nat} {S : st_S} {a b c : Nat} (hR : mo_R S D) (hH : st_okH S) (ha : a < (st_th S).length) (hb : b < 8) (hc : c < (st_T S).length) (hv2 : v < 2) (hv : v = 1 ↔ ru_fit S 8 a b c = true) : sd_Ct G mMO_fits 3 0 0 [.ref (o + 0), .int (nI 8), .int (nI a), .int (nI b), .int (nI c)] (fx_h G.1.2 mo_S o D h0) nx (sd_is (some (.int (nI v))) (fx_h G.1.2 mo_S o D h0) nx) := by
  refine sd_Ct_of (by decide) (Nat.le_of_ble_eq_true rfl) ?_
  obtain ⟨a1, a2, a3, a4, a5, a6⟩ := mo_cn hR hH ha
  obtain ⟨-, m1, m2, m3⟩ := mo_tm hR hc
  have hx0 := m2.hd
  have q4 := (m1.2.2 0 _ hx0).2.2.2
  have nb := hR.1 b hb
  have n25 := nb.2.1
  simp only [ru_fit, beq_iff_eq] at hv
  refine sd_iload_n dMO_fits_0 rfl rfl ?_
  refine nn_if_eq 14 dMO_fits_1 (by decide) (by decide) (fun c => absurd c (by decide)) (fun _ => ?_)
  refine sd_iload_n dMO_fits_4 rfl rfl ?_
  refine sd_iconst (v := nI 1) dMO_fits_5 (by decide) ?_
  refine nn_icmp_eq 14 dMO_fits_6 (by decide) (by decide) (by decide) (fun c => absurd c (by decide)) (fun _ => ?_)
  refine sd_iload_n dMO_fits_9 rfl rfl ?_
  refine sd_iconst (v := nI 5) dMO_fits_10 (by decide) ?_
  refine nn_icmp_ne 18 dMO_fits_11 (by decide) (by decide) (by decide) (fun _ => ?_) (fun c => absurd c (by decide))
  refine sd_aload_n dMO_fits_18 rfl rfl ?_
  refine fx_getr 10 8 (6) dMO_fits_19 fMO_25 rfl rfl ?_
  refine sd_iload_n dMO_fits_22 rfl rfl ?_
  refine fx_ialdv (v := (nI (st_cn S a))) (a) dMO_fits_23 rfl rfl (by omega) (by decide) (a1) ?_
  refine sd_istore dMO_fits_24 (by decide) ?_
  refine sd_iload_n dMO_fits_26 rfl rfl ?_
  refine sd_iconst (v := nI 2) dMO_fits_27 (by decide) ?_
  refine nn_icmp_eq 48 dMO_fits_28 (by decide) (by decide) (by decide) (fun c => absurd c (by decide)) (fun _ => ?_)
  refine sd_iload_n dMO_fits_31 rfl rfl ?_
  refine sd_iconst (v := nI 3) dMO_fits_32 (by decide) ?_
  refine nn_icmp_eq 48 dMO_fits_33 (by decide) (by decide) (by decide) (fun c => absurd c (by decide)) (fun _ => ?_)
  refine sd_iload_n dMO_fits_36 rfl rfl ?_
  refine sd_bipush (v := nI 6) dMO_fits_37 (by decide) ?_
  refine nn_icmp_eq 48 dMO_fits_39 (by decide) (by decide) (by decide) (fun c => absurd c (by decide)) (fun _ => ?_)
  refine sd_iload_n dMO_fits_42 rfl rfl ?_
  refine sd_bipush (v := nI 7) dMO_fits_43 (by decide) ?_
  refine nn_icmp_ne 57 dMO_fits_45 (by decide) (by decide) (by decide) (fun _ => ?_) (fun c => absurd c (by decide))
  refine sd_iconst (v := nI 0) dMO_fits_57 (by decide) ?_
  refine sd_istore dMO_fits_58 (by decide) ?_
  refine sd_iload_n dMO_fits_60 rfl rfl ?_
  refine sd_iconst (v := nI 2) dMO_fits_61 (by decide) ?_
  refine nn_icmp_eq 81 dMO_fits_62 (by decide) (by decide) (by decide) (fun c => absurd c (by decide)) (fun _ => ?_)
  refine sd_iload_n dMO_fits_65 rfl rfl ?_
  refine sd_iconst (v := nI 3) dMO_fits_66 (by decide) ?_
  refine nn_icmp_eq 81 dMO_fits_67 (by decide) (by decide) (by decide) (fun c => absurd c (by decide)) (fun _ => ?_)
  refine sd_iload_n dMO_fits_70 rfl rfl ?_
  refine sd_iconst (v := nI 4) dMO_fits_71 (by decide) ?_
  refine nn_icmp_eq 81 dMO_fits_72 (by decide) (by decide) (by decide) (fun c => absurd c (by decide)) (fun _ => ?_)
  refine sd_iload_n dMO_fits_75 rfl rfl ?_
  refine sd_bipush (v := nI 6) dMO_fits_76 (by decide) ?_
  refine nn_icmp_ne 92 dMO_fits_78 (by decide) (by decide) (by decide) (fun _ => ?_) (fun c => absurd c (by decide))
  refine sd_iload_n dMO_fits_92 rfl rfl ?_
  refine sd_tableIn (off := 206) 299 dMO_fits_93 (by decide) (by decide) (by decide) (by decide) ?_
  refine sd_aload_n dMO_fits_299 rfl rfl ?_
  refine fx_getr 10 3 (4) dMO_fits_300 fMO_19 rfl rfl ?_
  refine sd_iload_n dMO_fits_303 rfl rfl ?_
  refine fx_ialdv (v := (nI (st_nt S b))) (b) dMO_fits_304 rfl rfl (by omega) (by decide) (nb.1) ?_
  refine sd_aload_n dMO_fits_305 rfl rfl ?_
  refine sd_iload dMO_fits_306 rfl ?_
  refine fx_cV 10 sR_MO [.int (nI (c))] [.int (nI (st_nt S b))] dMO_fits_308 kMO_203 rfl rfl mMO_typeOf_v (c_MO_typ0 (by omega) m1 hx0) (by decide) (Nat.le_refl _) (Nat.le_refl _) (Nat.le_of_ble_eq_true rfl) rfl ?_
  refine nn_icmp_ne 318 dMO_fits_311 (by decide) (by omega) (by omega) (fun c311 => ?_) (fun c311 => ?_)
  ·
    refine sd_iconst (v := nI 0) dMO_fits_318 (by decide) ?_
    exact sd_zret dMO_fits_319 rfl (nn_01 (by omega)) (Nat.le_refl _) (Nat.le_refl _) ⟨by rw [show v = (0) by omega], rfl, rfl⟩
  ·
    refine sd_iconst (v := nI 1) dMO_fits_314 (by decide) ?_
    refine sd_goto 319 dMO_fits_315 (by decide) ?_
    exact sd_zret dMO_fits_319 rfl (nn_01 (by omega)) (Nat.le_refl _) (Nat.le_refl _) ⟨by rw [show v = (1) by omega], rfl, rfl⟩
