/-! ===== the model: measure, its loops ===== -/
theorem dgt_pos (t : ft) : 0 < dgt t ∧ dgt t ≤ 25 := by
  have := tt_len_2 t
  unfold dgt
  split <;> omega
theorem tt_len_app (a b : ft) : tt_len (.append a b) = 1 + tt_len a + tt_len b := rfl
theorem dgt_app {a b : ft} : dgt (.append a b) = if 1 + dgt a + dgt b ≤ 24 then 1 + dgt a + dgt b else 25 := by
  have ha := tt_len_2 a
  have hb := tt_len_2 b
  have e := tt_len_app a b
  have d0 : ∀ t : ft, tt_len t ≤ 24 → dgt t = tt_len t := fun t h => by unfold dgt; rw [if_pos h]
  have d1 : ∀ t : ft, ¬ tt_len t ≤ 24 → dgt t = 25 := fun t h => by unfold dgt; rw [if_neg h]
  by_cases h : 1 + tt_len a + tt_len b ≤ 24
  · rw [d0 _ (by omega), d0 a (by omega), d0 b (by omega), if_pos h, e]
  · rw [d1 _ (by omega)]
    by_cases h1 : tt_len a ≤ 24
    · rw [d0 a h1]
      by_cases h2 : tt_len b ≤ 24
      · rw [d0 b h2, if_neg h]
      · rw [d1 b h2, if_neg (by omega)]
    · rw [d1 a h1, if_neg (by omega)]
theorem dgt_small {a b : ft} (h : 1 + dgt a + dgt b ≤ 24) : tt_len a ≤ 24 ∧ tt_len b ≤ 24 ∧ tt_len a + tt_len b ≤ 23 := by
  unfold dgt at h
  by_cases h1 : tt_len a ≤ 24
  · by_cases h2 : tt_len b ≤ 24
    · rw [if_pos h1, if_pos h2] at h
      omega
    · rw [if_neg h2] at h
      omega
  · rw [if_neg h1] at h
    omega
theorem nmb_app {a b : ft} : nmb (.append a b) = if 1 + dgt a + dgt b ≤ 24 then ty_jn (nmb a) (nmb b) else 0 := by
  have e := tt_len_app a b
  have n0 : ∀ t : ft, tt_len t ≤ 24 → nmb t = tt_n t := fun t h => by unfold nmb; rw [if_pos h]
  have n1 : ∀ t : ft, ¬ tt_len t ≤ 24 → nmb t = 0 := fun t h => by unfold nmb; rw [if_neg h]
  by_cases h : 1 + dgt a + dgt b ≤ 24
  · obtain ⟨h1, h2, h3⟩ := dgt_small h
    rw [if_pos h, n0 _ (by omega), n0 a h1, n0 b h2]
    rfl
  · rw [if_neg h]
    apply n1
    intro z
    apply h
    have d0 : ∀ t : ft, tt_len t ≤ 24 → dgt t = tt_len t := fun t h => by unfold dgt; rw [if_pos h]
    rw [d0 a (by omega), d0 b (by omega)]
    omega
theorem y_MO_meas {G : sd_G} {o : Nat} {D : fx_D} {h0 : sd_H} {nx j mr : Nat} {Q : sd_Q} (kk : sd_W G mMO_measure 2 0 0 Q 67 [(0, .ref (o + 0)), (1, .int (nI mr)), (2, .int (nI (j + 1)))] [] (fx_h G.1.2 mo_S o D h0) nx 0 0) : sd_W G mMO_measure 2 0 0 Q 215 [(0, .ref (o + 0)), (1, .int (nI mr)), (2, .int (nI j))] [] (fx_h G.1.2 mo_S o D h0) nx 0 0 := by
  refine nn_iinc 1 dMO_measure_215 rfl (by decide) ?_
  refine sd_goto 67 dMO_measure_218 (by decide) ?_
  refine sd_locp (al' := [(0, .ref (o + (0))), (1, .int (nI (mr))), (2, .int (nI (j + 1)))]) [1, 2, 0] rfl ?_
  exact kk
theorem l_MO_meas2 {G : sd_G} {o : Nat} {D0 : fx_D} {h0 : sd_H} {nx N : Nat} {K L R lk ρ : Nat → Nat} {Q : sd_Q} (hB : G.2.1 ≤ o) (hg0 : gst D0 N K L R lk ρ) : ∀ (m j : Nat) (D : fx_D) (T : Nat → Option ft) (mr : Nat), N = j + m → mo_fm D0 D → mb D N K L R ρ T → mr < 2 →
    (∀ (D' : fx_D) (T' : Nat → Option ft) (mr' : Nat), mo_fm D0 D' → mb D' N K L R ρ T' → mr' < 2 → mb_c N T' ≤ mb_c N T → (mr' = 0 → mr = 0 ∧ T' = T ∧ ∀ i, j ≤ i → i < N → ρ i = i → T i = none → T (ρ (L i)) = none ∨ T (ρ (R i)) = none) → (mr' = 1 → mr = 1 ∨ mb_c N T' < mb_c N T) → sd_W G mMO_measure 2 0 0 Q 221 [(0, .ref (o + 0)), (1, .int (nI mr'))] [] (fx_h G.1.2 mo_S o D' h0) nx 0 0) →
    sd_W G mMO_measure 2 0 0 Q 67 [(0, .ref (o + 0)), (1, .int (nI mr)), (2, .int (nI j))] [] (fx_h G.1.2 mo_S o D h0) nx 0 0 := by
  have hN := hg0.2.1.1
  intro m
  induction m with
  | zero =>
    intro j D T mr hj hf h hmr KK
    have hg := gst_fm hg0 hf
    have k := KK D T mr hf h hmr (Nat.le_refl _) (fun e => ⟨e, rfl, fun i a b => absurd a (by omega)⟩) (fun e => Or.inl e)
    refine sd_iload_n dMO_measure_67 rfl rfl ?_
    refine sd_aload_n dMO_measure_68 rfl rfl ?_
    refine fx_getiv (v := (nI (N))) 10 37 dMO_measure_69 fMO_161 rfl rfl (hg.2.2.2.2.1) ?_
    refine nn_icmp_ge 221 dMO_measure_72 (by decide) (by omega) (by omega) (fun c72 => ?_) (fun c72 => ?_)
    ·
      refine sd_locp (al' := [(0, .ref (o + (0))), (1, .int (nI (mr)))]) [0, 1] rfl ?_
      exact k
    ·
      exact absurd c72 (by omega)
  | succ m ih =>
    intro j D T mr hj hf h hmr KK
    have hg := gst_fm hg0 hf
    have aj : ac N j := Or.inl (by omega)
    obtain ⟨u1, u2, u3, u4⟩ := hg.1 j aj
    have bl := hg.2.1.lt (hg.2.1.2.2.1 j aj).2.2
    have aL := (hg.2.1.2.2.1 j aj).1
    have aR := (hg.2.1.2.2.1 j aj).2.1
    have cL := c_MO_root (G := G) (o := o) (h0 := h0) (nx := nx) hg.1 hg.2.1 hg.2.2.1 aL
    have cR := c_MO_root (G := G) (o := o) (h0 := h0) (nx := nx) hg.1 hg.2.1 hg.2.2.1 aR
    have aρL := hg.2.2.1.ac hg.2.1 aL
    have aρR := hg.2.2.1.ac hg.2.1 aR
    have lρL := hg.2.1.lt aρL
    have lρR := hg.2.1.lt aρR
    have lL := hg.2.1.lt aL
    have lR := hg.2.1.lt aR
    have d37 := hg.2.2.2.2.1
    have fix : ρ j = j ↔ lk j = j := hg.2.2.1.fix
    -- nothing is found here
    have skip : (ρ j = j → T j = none → T (ρ (L j)) = none ∨ T (ρ (R j)) = none) → sd_W G mMO_measure 2 0 0 Q 215 [(0, .ref (o + 0)), (1, .int (nI mr)), (2, .int (nI j))] [] (fx_h G.1.2 mo_S o D h0) nx 0 0 := fun hs => y_MO_meas (ih (j + 1) D T mr (by omega) hf h hmr (fun D' T' mr' a1 a2 a3 a4 a5 a6 => KK D' T' mr' a1 a2 a3 a4 (fun e => ⟨(a5 e).1, (a5 e).2.1, fun i b1 b2 b3 b4 => by
      by_cases z : i = j
      · rw [z] at b3 b4 ⊢
        exact hs b3 b4
      · exact (a5 e).2.2 i (by omega) b2 b3 b4⟩) a6))
    by_cases hroot : lk j = j
    · cases hT : T j with
      | some t =>
        obtain ⟨-, t1, -⟩ := (h.1 j aj).1 t hT
        have hp := dgt_pos t
        have sk := skip (fun _ z => by rw [hT] at z; cases z)
        refine sd_iload_n dMO_measure_67 rfl rfl ?_
        refine sd_aload_n dMO_measure_68 rfl rfl ?_
        refine fx_getiv (v := (nI (N))) 10 37 dMO_measure_69 fMO_161 rfl rfl (d37) ?_
        refine nn_icmp_ge 221 dMO_measure_72 (by decide) (by omega) (by omega) (fun c72 => ?_) (fun c72 => ?_)
        ·
          exact absurd c72 (by omega)
        ·
          refine sd_aload_n dMO_measure_75 rfl rfl ?_
          refine fx_getr 10 33 (26) dMO_measure_76 fMO_85 rfl rfl ?_
          refine sd_iload_n dMO_measure_79 rfl rfl ?_
          refine fx_ialdv (v := (nI (lk j))) (j) dMO_measure_80 rfl rfl (by omega) (by decide) (u4) ?_
          refine sd_iload_n dMO_measure_81 rfl rfl ?_
          refine nn_icmp_ne 215 dMO_measure_82 (by decide) (by omega) (by omega) (fun c82 => ?_) (fun c82 => ?_)
          ·
            exact absurd hroot c82
          ·
            refine sd_aload_n dMO_measure_85 rfl rfl ?_
            refine fx_getr 10 34 (27) dMO_measure_86 fMO_88 rfl rfl ?_
            refine sd_iload_n dMO_measure_89 rfl rfl ?_
            refine fx_ialdv (v := (nI (dgt t))) (j) dMO_measure_90 rfl rfl (by omega) (by decide) (t1) ?_
            refine nn_if_le 97 dMO_measure_91 (by decide) (by omega) (fun c91 => ?_) (fun c91 => ?_)
            ·
              exact absurd c91 (by omega)
            ·
              refine sd_goto 215 dMO_measure_94 (by decide) ?_
              refine sd_locp (al' := [(0, .ref (o + (0))), (1, .int (nI (mr))), (2, .int (nI (j)))]) [0, 1, 2] rfl ?_
              exact sk
      | none =>
        obtain ⟨k3, t0⟩ := (h.1 j aj).2 hT
        cases hL : T (ρ (L j)) with
        | none =>
          obtain ⟨-, l0⟩ := (h.1 _ aρL).2 hL
          have sk := skip (fun _ _ => Or.inl hL)
          refine sd_iload_n dMO_measure_67 rfl rfl ?_
          refine sd_aload_n dMO_measure_68 rfl rfl ?_
          refine fx_getiv (v := (nI (N))) 10 37 dMO_measure_69 fMO_161 rfl rfl (d37) ?_
          refine nn_icmp_ge 221 dMO_measure_72 (by decide) (by omega) (by omega) (fun c72 => ?_) (fun c72 => ?_)
          ·
            exact absurd c72 (by omega)
          ·
            refine sd_aload_n dMO_measure_75 rfl rfl ?_
            refine fx_getr 10 33 (26) dMO_measure_76 fMO_85 rfl rfl ?_
            refine sd_iload_n dMO_measure_79 rfl rfl ?_
            refine fx_ialdv (v := (nI (lk j))) (j) dMO_measure_80 rfl rfl (by omega) (by decide) (u4) ?_
            refine sd_iload_n dMO_measure_81 rfl rfl ?_
            refine nn_icmp_ne 215 dMO_measure_82 (by decide) (by omega) (by omega) (fun c82 => ?_) (fun c82 => ?_)
            ·
              exact absurd hroot c82
            ·
              refine sd_aload_n dMO_measure_85 rfl rfl ?_
              refine fx_getr 10 34 (27) dMO_measure_86 fMO_88 rfl rfl ?_
              refine sd_iload_n dMO_measure_89 rfl rfl ?_
              refine fx_ialdv (v := (nI (0))) (j) dMO_measure_90 rfl rfl (by omega) (by decide) (t0) ?_
              refine nn_if_le 97 dMO_measure_91 (by decide) (by decide) (fun _ => ?_) (fun c => absurd c (by decide))
              refine sd_aload_n dMO_measure_97 rfl rfl ?_
              refine sd_aload_n dMO_measure_98 rfl rfl ?_
              refine fx_getr 10 31 (24) dMO_measure_99 fMO_79 rfl rfl ?_
              refine sd_iload_n dMO_measure_102 rfl rfl ?_
              refine fx_ialdv (v := (nI (L j))) (j) dMO_measure_103 rfl rfl (by omega) (by decide) (u2) ?_
              refine fx_cV 10 sR_MO [.int (nI (L j))] [] dMO_measure_104 kMO_168 rfl rfl mMO_root_v (cL) (by decide) (Nat.le_refl _) (Nat.le_refl _) (Nat.le_of_ble_eq_true rfl) rfl ?_
              refine sd_istore_n dMO_measure_107 rfl (by decide) ?_
              refine sd_aload_n dMO_measure_108 rfl rfl ?_
              refine sd_aload_n dMO_measure_109 rfl rfl ?_
              refine fx_getr 10 32 (25) dMO_measure_110 fMO_82 rfl rfl ?_
              refine sd_iload_n dMO_measure_113 rfl rfl ?_
              refine fx_ialdv (v := (nI (R j))) (j) dMO_measure_114 rfl rfl (by omega) (by decide) (u3) ?_
              refine fx_cV 10 sR_MO [.int (nI (R j))] [] dMO_measure_115 kMO_168 rfl rfl mMO_root_v (cR) (by decide) (Nat.le_refl _) (Nat.le_refl _) (Nat.le_of_ble_eq_true rfl) rfl ?_
              refine sd_istore dMO_measure_118 (by decide) ?_
              refine sd_aload_n dMO_measure_120 rfl rfl ?_
              refine fx_getr 10 34 (27) dMO_measure_121 fMO_88 rfl rfl ?_
              refine sd_iload_n dMO_measure_124 rfl rfl ?_
              refine fx_ialdv (v := (nI (0))) (ρ (L j)) dMO_measure_125 rfl rfl (by omega) (by decide) (l0) ?_
              refine nn_if_eq 215 dMO_measure_126 (by decide) (by decide) (fun _ => ?_) (fun c => absurd c (by decide))
              refine sd_locp (al' := [(0, .ref (o + (0))), (1, .int (nI (mr))), (2, .int (nI (j)))]) [2, 3, 4] rfl ?_
              exact sk
        | some a =>
          obtain ⟨oa, l1, l2⟩ := (h.1 _ aρL).1 a hL
          have pa := dgt_pos a
          cases hR : T (ρ (R j)) with
          | none =>
            obtain ⟨-, r0⟩ := (h.1 _ aρR).2 hR
            have sk := skip (fun _ _ => Or.inr hR)
            refine sd_iload_n dMO_measure_67 rfl rfl ?_
            refine sd_aload_n dMO_measure_68 rfl rfl ?_
            refine fx_getiv (v := (nI (N))) 10 37 dMO_measure_69 fMO_161 rfl rfl (d37) ?_
            refine nn_icmp_ge 221 dMO_measure_72 (by decide) (by omega) (by omega) (fun c72 => ?_) (fun c72 => ?_)
            ·
              exact absurd c72 (by omega)
            ·
              refine sd_aload_n dMO_measure_75 rfl rfl ?_
              refine fx_getr 10 33 (26) dMO_measure_76 fMO_85 rfl rfl ?_
              refine sd_iload_n dMO_measure_79 rfl rfl ?_
              refine fx_ialdv (v := (nI (lk j))) (j) dMO_measure_80 rfl rfl (by omega) (by decide) (u4) ?_
              refine sd_iload_n dMO_measure_81 rfl rfl ?_
              refine nn_icmp_ne 215 dMO_measure_82 (by decide) (by omega) (by omega) (fun c82 => ?_) (fun c82 => ?_)
              ·
                exact absurd hroot c82
              ·
                refine sd_aload_n dMO_measure_85 rfl rfl ?_
                refine fx_getr 10 34 (27) dMO_measure_86 fMO_88 rfl rfl ?_
                refine sd_iload_n dMO_measure_89 rfl rfl ?_
                refine fx_ialdv (v := (nI (0))) (j) dMO_measure_90 rfl rfl (by omega) (by decide) (t0) ?_
                refine nn_if_le 97 dMO_measure_91 (by decide) (by decide) (fun _ => ?_) (fun c => absurd c (by decide))
                refine sd_aload_n dMO_measure_97 rfl rfl ?_
                refine sd_aload_n dMO_measure_98 rfl rfl ?_
                refine fx_getr 10 31 (24) dMO_measure_99 fMO_79 rfl rfl ?_
                refine sd_iload_n dMO_measure_102 rfl rfl ?_
                refine fx_ialdv (v := (nI (L j))) (j) dMO_measure_103 rfl rfl (by omega) (by decide) (u2) ?_
                refine fx_cV 10 sR_MO [.int (nI (L j))] [] dMO_measure_104 kMO_168 rfl rfl mMO_root_v (cL) (by decide) (Nat.le_refl _) (Nat.le_refl _) (Nat.le_of_ble_eq_true rfl) rfl ?_
                refine sd_istore_n dMO_measure_107 rfl (by decide) ?_
                refine sd_aload_n dMO_measure_108 rfl rfl ?_
                refine sd_aload_n dMO_measure_109 rfl rfl ?_
                refine fx_getr 10 32 (25) dMO_measure_110 fMO_82 rfl rfl ?_
                refine sd_iload_n dMO_measure_113 rfl rfl ?_
                refine fx_ialdv (v := (nI (R j))) (j) dMO_measure_114 rfl rfl (by omega) (by decide) (u3) ?_
                refine fx_cV 10 sR_MO [.int (nI (R j))] [] dMO_measure_115 kMO_168 rfl rfl mMO_root_v (cR) (by decide) (Nat.le_refl _) (Nat.le_refl _) (Nat.le_of_ble_eq_true rfl) rfl ?_
                refine sd_istore dMO_measure_118 (by decide) ?_
                refine sd_aload_n dMO_measure_120 rfl rfl ?_
                refine fx_getr 10 34 (27) dMO_measure_121 fMO_88 rfl rfl ?_
                refine sd_iload_n dMO_measure_124 rfl rfl ?_
                refine fx_ialdv (v := (nI (dgt a))) (ρ (L j)) dMO_measure_125 rfl rfl (by omega) (by decide) (l1) ?_
                refine nn_if_eq 215 dMO_measure_126 (by decide) (by omega) (fun c126 => ?_) (fun c126 => ?_)
                ·
                  exact absurd c126 (by omega)
                ·
                  refine sd_aload_n dMO_measure_129 rfl rfl ?_
                  refine fx_getr 10 34 (27) dMO_measure_130 fMO_88 rfl rfl ?_
                  refine sd_iload dMO_measure_133 rfl ?_
                  refine fx_ialdv (v := (nI (0))) (ρ (R j)) dMO_measure_135 rfl rfl (by omega) (by decide) (r0) ?_
                  refine nn_if_ne 142 dMO_measure_136 (by decide) (by decide) (fun c => absurd c (by decide)) (fun _ => ?_)
                  refine sd_goto 215 dMO_measure_139 (by decide) ?_
                  refine sd_locp (al' := [(0, .ref (o + (0))), (1, .int (nI (mr))), (2, .int (nI (j)))]) [2, 3, 4] rfl ?_
                  exact sk
          | some b =>
            obtain ⟨ob, r1, r2⟩ := (h.1 _ aρR).1 b hR
            have pb := dgt_pos b
            have hnew := mb_new hg h aj hT hL hR
            have hcn := mb_c_new (t := .append a b) (show j < N by omega) hT
            have fnew : mo_fm D0 (fx_ua (fx_ua D 27 j (nI (dgt (.append a b)))) 28 j (nI (nmb (.append a b)))) := (hf.tr (mo_fm.ua D (Or.inl rfl))).tr (mo_fm.ua _ (Or.inr rfl))
            have nxt := y_MO_meas (j := j) (ih (j + 1) _ _ 1 (by omega) fnew hnew (by omega) (fun D' T' mr' a1 a2 a3 a4 a5 a6 => KK D' T' mr' a1 a2 a3 (by omega) (fun e => absurd (a5 e).1 (by omega)) (fun _ => Or.inr (by omega))))
            rw [dgt_app, nmb_app] at nxt
            have nja : ¬ ρ (L j) = j := fun e => by rw [e, hT] at hL; cases hL
            have njb : ¬ ρ (R j) = j := fun e => by rw [e, hT] at hR; cases hR
            by_cases hd : 1 + dgt a + dgt b ≤ 24
            · rw [if_pos hd, if_pos hd] at nxt
              obtain ⟨s1, s2, s3⟩ := dgt_small hd
              have na : nmb a = tt_n a := by unfold nmb; rw [if_pos s1]
              have nb : nmb b = tt_n b := by unfold nmb; rw [if_pos s2]
              obtain ⟨g1, g2⟩ := tt_log a oa
              obtain ⟨g3, g4⟩ := tt_log b ob
              have cJ := c_MO_join (G := G) (h := fx_h G.1.2 mo_S o (fx_ua D 27 j (nI (1 + dgt a + dgt b))) h0) (nx := nx) (a := nmb a) (b := nmb b) (by rw [na]; omega) (by rw [nb]; omega) (by rw [na]; exact tt_n_lt oa s1) (by rw [nb]; exact tt_n_lt ob s2)
              rw [if_pos (by rw [na, nb, g1, g3]; omega)] at cJ
              refine sd_iload_n dMO_measure_67 rfl rfl ?_
              refine sd_aload_n dMO_measure_68 rfl rfl ?_
              refine fx_getiv (v := (nI (N))) 10 37 dMO_measure_69 fMO_161 rfl rfl (d37) ?_
              refine nn_icmp_ge 221 dMO_measure_72 (by decide) (by omega) (by omega) (fun c72 => ?_) (fun c72 => ?_)
              ·
                exact absurd c72 (by omega)
              ·
                refine sd_aload_n dMO_measure_75 rfl rfl ?_
                refine fx_getr 10 33 (26) dMO_measure_76 fMO_85 rfl rfl ?_
                refine sd_iload_n dMO_measure_79 rfl rfl ?_
                refine fx_ialdv (v := (nI (lk j))) (j) dMO_measure_80 rfl rfl (by omega) (by decide) (u4) ?_
                refine sd_iload_n dMO_measure_81 rfl rfl ?_
                refine nn_icmp_ne 215 dMO_measure_82 (by decide) (by omega) (by omega) (fun c82 => ?_) (fun c82 => ?_)
                ·
                  exact absurd hroot c82
                ·
                  refine sd_aload_n dMO_measure_85 rfl rfl ?_
                  refine fx_getr 10 34 (27) dMO_measure_86 fMO_88 rfl rfl ?_
                  refine sd_iload_n dMO_measure_89 rfl rfl ?_
                  refine fx_ialdv (v := (nI (0))) (j) dMO_measure_90 rfl rfl (by omega) (by decide) (t0) ?_
                  refine nn_if_le 97 dMO_measure_91 (by decide) (by decide) (fun _ => ?_) (fun c => absurd c (by decide))
                  refine sd_aload_n dMO_measure_97 rfl rfl ?_
                  refine sd_aload_n dMO_measure_98 rfl rfl ?_
                  refine fx_getr 10 31 (24) dMO_measure_99 fMO_79 rfl rfl ?_
                  refine sd_iload_n dMO_measure_102 rfl rfl ?_
                  refine fx_ialdv (v := (nI (L j))) (j) dMO_measure_103 rfl rfl (by omega) (by decide) (u2) ?_
                  refine fx_cV 10 sR_MO [.int (nI (L j))] [] dMO_measure_104 kMO_168 rfl rfl mMO_root_v (cL) (by decide) (Nat.le_refl _) (Nat.le_refl _) (Nat.le_of_ble_eq_true rfl) rfl ?_
                  refine sd_istore_n dMO_measure_107 rfl (by decide) ?_
                  refine sd_aload_n dMO_measure_108 rfl rfl ?_
                  refine sd_aload_n dMO_measure_109 rfl rfl ?_
                  refine fx_getr 10 32 (25) dMO_measure_110 fMO_82 rfl rfl ?_
                  refine sd_iload_n dMO_measure_113 rfl rfl ?_
                  refine fx_ialdv (v := (nI (R j))) (j) dMO_measure_114 rfl rfl (by omega) (by decide) (u3) ?_
                  refine fx_cV 10 sR_MO [.int (nI (R j))] [] dMO_measure_115 kMO_168 rfl rfl mMO_root_v (cR) (by decide) (Nat.le_refl _) (Nat.le_refl _) (Nat.le_of_ble_eq_true rfl) rfl ?_
                  refine sd_istore dMO_measure_118 (by decide) ?_
                  refine sd_aload_n dMO_measure_120 rfl rfl ?_
                  refine fx_getr 10 34 (27) dMO_measure_121 fMO_88 rfl rfl ?_
                  refine sd_iload_n dMO_measure_124 rfl rfl ?_
                  refine fx_ialdv (v := (nI (dgt a))) (ρ (L j)) dMO_measure_125 rfl rfl (by omega) (by decide) (l1) ?_
                  refine nn_if_eq 215 dMO_measure_126 (by decide) (by omega) (fun c126 => ?_) (fun c126 => ?_)
                  ·
                    exact absurd c126 (by omega)
                  ·
                    refine sd_aload_n dMO_measure_129 rfl rfl ?_
                    refine fx_getr 10 34 (27) dMO_measure_130 fMO_88 rfl rfl ?_
                    refine sd_iload dMO_measure_133 rfl ?_
                    refine fx_ialdv (v := (nI (dgt b))) (ρ (R j)) dMO_measure_135 rfl rfl (by omega) (by decide) (r1) ?_
                    refine nn_if_ne 142 dMO_measure_136 (by decide) (by omega) (fun c136 => ?_) (fun c136 => ?_)
                    ·
                      refine sd_iconst (v := nI 1) dMO_measure_142 (by decide) ?_
                      refine sd_aload_n dMO_measure_143 rfl rfl ?_
                      refine fx_getr 10 34 (27) dMO_measure_144 fMO_88 rfl rfl ?_
                      refine sd_iload_n dMO_measure_147 rfl rfl ?_
                      refine fx_ialdv (v := (nI (dgt a))) (ρ (L j)) dMO_measure_148 rfl rfl (by omega) (by decide) (l1) ?_
                      refine nn_iadd dMO_measure_149 ?_
                      refine sd_aload_n dMO_measure_150 rfl rfl ?_
                      refine fx_getr 10 34 (27) dMO_measure_151 fMO_88 rfl rfl ?_
                      refine sd_iload dMO_measure_154 rfl ?_
                      refine fx_ialdv (v := (nI (dgt b))) (ρ (R j)) dMO_measure_156 rfl rfl (by omega) (by decide) (r1) ?_
                      refine nn_iadd dMO_measure_157 ?_
                      refine sd_istore dMO_measure_158 (by decide) ?_
                      refine sd_aload_n dMO_measure_160 rfl rfl ?_
                      refine fx_getr 10 34 (27) dMO_measure_161 fMO_88 rfl rfl ?_
                      refine sd_iload_n dMO_measure_164 rfl rfl ?_
                      refine sd_iload dMO_measure_165 rfl ?_
                      refine sd_bipush (v := nI 24) dMO_measure_167 (by decide) ?_
                      refine nn_icmp_le 177 dMO_measure_169 (by decide) (by omega) (by omega) (fun c169 => ?_) (fun c169 => ?_)
                      ·
                        refine sd_iload dMO_measure_177 rfl ?_
                        refine fx_iast (j) dMO_measure_179 rfl rfl (by omega) (by decide) hB ?_
                        refine sd_aload_n dMO_measure_180 rfl rfl ?_
                        refine fx_getr 10 35 (28) dMO_measure_181 fMO_91 rfl rfl ?_
                        refine sd_iload_n dMO_measure_184 rfl rfl ?_
                        refine sd_iload dMO_measure_185 rfl ?_
                        refine sd_bipush (v := nI 24) dMO_measure_187 (by decide) ?_
                        refine nn_icmp_le 196 dMO_measure_189 (by decide) (by omega) (by omega) (fun c189 => ?_) (fun c189 => ?_)
                        ·
                          refine sd_aload_n dMO_measure_196 rfl rfl ?_
                          refine fx_getr 10 35 (28) dMO_measure_197 fMO_91 rfl rfl ?_
                          refine sd_iload_n dMO_measure_200 rfl rfl ?_
                          refine fx_ialdv (v := (nI (nmb a))) (ρ (L j)) dMO_measure_201 rfl rfl (by omega) (by decide) ((by simpa [fx_ua] using l2)) ?_
                          refine sd_aload_n dMO_measure_202 rfl rfl ?_
                          refine fx_getr 10 35 (28) dMO_measure_203 fMO_91 rfl rfl ?_
                          refine sd_iload dMO_measure_206 rfl ?_
                          refine fx_ialdv (v := (nI (nmb b))) (ρ (R j)) dMO_measure_208 rfl rfl (by omega) (by decide) ((by simpa [fx_ua] using r2)) ?_
                          refine sd_cS [.int (nI (nmb a)), .int (nI (nmb b))] [.int (nI (j)), .ref (o + (28))] dMO_measure_209 kMO_114 mMO_join_s (cJ) (by decide) (Nat.le_refl _) (Nat.le_refl _) (Nat.le_of_ble_eq_true rfl) rfl ?_
                          refine fx_iast (j) dMO_measure_212 rfl rfl (by omega) (by decide) hB ?_
                          refine sd_iconst (v := nI 1) dMO_measure_213 (by decide) ?_
                          refine sd_istore_n dMO_measure_214 rfl (by decide) ?_
                          refine sd_locp (al' := [(0, .ref (o + (0))), (1, .int (nI (1))), (2, .int (nI (j)))]) [4, 0, 5] rfl ?_
                          exact nxt
                        ·
                          exact absurd c189 (by omega)
                      ·
                        exact absurd c169 (by omega)
                    ·
                      exact absurd c136 (by omega)
            · rw [if_neg hd, if_neg hd] at nxt
              refine sd_iload_n dMO_measure_67 rfl rfl ?_
              refine sd_aload_n dMO_measure_68 rfl rfl ?_
              refine fx_getiv (v := (nI (N))) 10 37 dMO_measure_69 fMO_161 rfl rfl (d37) ?_
              refine nn_icmp_ge 221 dMO_measure_72 (by decide) (by omega) (by omega) (fun c72 => ?_) (fun c72 => ?_)
              ·
                exact absurd c72 (by omega)
              ·
                refine sd_aload_n dMO_measure_75 rfl rfl ?_
                refine fx_getr 10 33 (26) dMO_measure_76 fMO_85 rfl rfl ?_
                refine sd_iload_n dMO_measure_79 rfl rfl ?_
                refine fx_ialdv (v := (nI (lk j))) (j) dMO_measure_80 rfl rfl (by omega) (by decide) (u4) ?_
                refine sd_iload_n dMO_measure_81 rfl rfl ?_
                refine nn_icmp_ne 215 dMO_measure_82 (by decide) (by omega) (by omega) (fun c82 => ?_) (fun c82 => ?_)
                ·
                  exact absurd hroot c82
                ·
                  refine sd_aload_n dMO_measure_85 rfl rfl ?_
                  refine fx_getr 10 34 (27) dMO_measure_86 fMO_88 rfl rfl ?_
                  refine sd_iload_n dMO_measure_89 rfl rfl ?_
                  refine fx_ialdv (v := (nI (0))) (j) dMO_measure_90 rfl rfl (by omega) (by decide) (t0) ?_
                  refine nn_if_le 97 dMO_measure_91 (by decide) (by decide) (fun _ => ?_) (fun c => absurd c (by decide))
                  refine sd_aload_n dMO_measure_97 rfl rfl ?_
                  refine sd_aload_n dMO_measure_98 rfl rfl ?_
                  refine fx_getr 10 31 (24) dMO_measure_99 fMO_79 rfl rfl ?_
                  refine sd_iload_n dMO_measure_102 rfl rfl ?_
                  refine fx_ialdv (v := (nI (L j))) (j) dMO_measure_103 rfl rfl (by omega) (by decide) (u2) ?_
                  refine fx_cV 10 sR_MO [.int (nI (L j))] [] dMO_measure_104 kMO_168 rfl rfl mMO_root_v (cL) (by decide) (Nat.le_refl _) (Nat.le_refl _) (Nat.le_of_ble_eq_true rfl) rfl ?_
                  refine sd_istore_n dMO_measure_107 rfl (by decide) ?_
                  refine sd_aload_n dMO_measure_108 rfl rfl ?_
                  refine sd_aload_n dMO_measure_109 rfl rfl ?_
                  refine fx_getr 10 32 (25) dMO_measure_110 fMO_82 rfl rfl ?_
                  refine sd_iload_n dMO_measure_113 rfl rfl ?_
                  refine fx_ialdv (v := (nI (R j))) (j) dMO_measure_114 rfl rfl (by omega) (by decide) (u3) ?_
                  refine fx_cV 10 sR_MO [.int (nI (R j))] [] dMO_measure_115 kMO_168 rfl rfl mMO_root_v (cR) (by decide) (Nat.le_refl _) (Nat.le_refl _) (Nat.le_of_ble_eq_true rfl) rfl ?_
                  refine sd_istore dMO_measure_118 (by decide) ?_
                  refine sd_aload_n dMO_measure_120 rfl rfl ?_
                  refine fx_getr 10 34 (27) dMO_measure_121 fMO_88 rfl rfl ?_
                  refine sd_iload_n dMO_measure_124 rfl rfl ?_
                  refine fx_ialdv (v := (nI (dgt a))) (ρ (L j)) dMO_measure_125 rfl rfl (by omega) (by decide) (l1) ?_
                  refine nn_if_eq 215 dMO_measure_126 (by decide) (by omega) (fun c126 => ?_) (fun c126 => ?_)
                  ·
                    exact absurd c126 (by omega)
                  ·
                    refine sd_aload_n dMO_measure_129 rfl rfl ?_
                    refine fx_getr 10 34 (27) dMO_measure_130 fMO_88 rfl rfl ?_
                    refine sd_iload dMO_measure_133 rfl ?_
                    refine fx_ialdv (v := (nI (dgt b))) (ρ (R j)) dMO_measure_135 rfl rfl (by omega) (by decide) (r1) ?_
                    refine nn_if_ne 142 dMO_measure_136 (by decide) (by omega) (fun c136 => ?_) (fun c136 => ?_)
                    ·
                      refine sd_iconst (v := nI 1) dMO_measure_142 (by decide) ?_
                      refine sd_aload_n dMO_measure_143 rfl rfl ?_
                      refine fx_getr 10 34 (27) dMO_measure_144 fMO_88 rfl rfl ?_
                      refine sd_iload_n dMO_measure_147 rfl rfl ?_
                      refine fx_ialdv (v := (nI (dgt a))) (ρ (L j)) dMO_measure_148 rfl rfl (by omega) (by decide) (l1) ?_
                      refine nn_iadd dMO_measure_149 ?_
                      refine sd_aload_n dMO_measure_150 rfl rfl ?_
                      refine fx_getr 10 34 (27) dMO_measure_151 fMO_88 rfl rfl ?_
                      refine sd_iload dMO_measure_154 rfl ?_
                      refine fx_ialdv (v := (nI (dgt b))) (ρ (R j)) dMO_measure_156 rfl rfl (by omega) (by decide) (r1) ?_
                      refine nn_iadd dMO_measure_157 ?_
                      refine sd_istore dMO_measure_158 (by decide) ?_
                      refine sd_aload_n dMO_measure_160 rfl rfl ?_
                      refine fx_getr 10 34 (27) dMO_measure_161 fMO_88 rfl rfl ?_
                      refine sd_iload_n dMO_measure_164 rfl rfl ?_
                      refine sd_iload dMO_measure_165 rfl ?_
                      refine sd_bipush (v := nI 24) dMO_measure_167 (by decide) ?_
                      refine nn_icmp_le 177 dMO_measure_169 (by decide) (by omega) (by omega) (fun c169 => ?_) (fun c169 => ?_)
                      ·
                        exact absurd c169 (by omega)
                      ·
                        refine sd_bipush (v := nI 25) dMO_measure_172 (by decide) ?_
                        refine sd_goto 179 dMO_measure_174 (by decide) ?_
                        refine fx_iast (j) dMO_measure_179 rfl rfl (by omega) (by decide) hB ?_
                        refine sd_aload_n dMO_measure_180 rfl rfl ?_
                        refine fx_getr 10 35 (28) dMO_measure_181 fMO_91 rfl rfl ?_
                        refine sd_iload_n dMO_measure_184 rfl rfl ?_
                        refine sd_iload dMO_measure_185 rfl ?_
                        refine sd_bipush (v := nI 24) dMO_measure_187 (by decide) ?_
                        refine nn_icmp_le 196 dMO_measure_189 (by decide) (by omega) (by omega) (fun c189 => ?_) (fun c189 => ?_)
                        ·
                          exact absurd c189 (by omega)
                        ·
                          refine sd_iconst (v := nI 0) dMO_measure_192 (by decide) ?_
                          refine sd_goto 212 dMO_measure_193 (by decide) ?_
                          refine fx_iast (j) dMO_measure_212 rfl rfl (by omega) (by decide) hB ?_
                          refine sd_iconst (v := nI 1) dMO_measure_213 (by decide) ?_
                          refine sd_istore_n dMO_measure_214 rfl (by decide) ?_
                          refine sd_locp (al' := [(0, .ref (o + (0))), (1, .int (nI (1))), (2, .int (nI (j)))]) [4, 0, 5] rfl ?_
                          exact nxt
                    ·
                      exact absurd c136 (by omega)
    · have sk := skip (fun z => absurd (fix.mp z) hroot)
      refine sd_iload_n dMO_measure_67 rfl rfl ?_
      refine sd_aload_n dMO_measure_68 rfl rfl ?_
      refine fx_getiv (v := (nI (N))) 10 37 dMO_measure_69 fMO_161 rfl rfl (d37) ?_
      refine nn_icmp_ge 221 dMO_measure_72 (by decide) (by omega) (by omega) (fun c72 => ?_) (fun c72 => ?_)
      ·
        exact absurd c72 (by omega)
      ·
        refine sd_aload_n dMO_measure_75 rfl rfl ?_
        refine fx_getr 10 33 (26) dMO_measure_76 fMO_85 rfl rfl ?_
        refine sd_iload_n dMO_measure_79 rfl rfl ?_
        refine fx_ialdv (v := (nI (lk j))) (j) dMO_measure_80 rfl rfl (by omega) (by decide) (u4) ?_
        refine sd_iload_n dMO_measure_81 rfl rfl ?_
        refine nn_icmp_ne 215 dMO_measure_82 (by decide) (by omega) (by omega) (fun c82 => ?_) (fun c82 => ?_)
        ·
          refine sd_locp (al' := [(0, .ref (o + (0))), (1, .int (nI (mr))), (2, .int (nI (j)))]) [0, 1, 2] rfl ?_
          exact sk
        ·
          exact absurd c82 hroot
theorem x_MO_meas0 {G : sd_G} {o : Nat} {D : fx_D} {h0 : sd_H} {nx : Nat} {Q : sd_Q} (kk : sd_W G mMO_measure 2 0 0 Q 224 [(0, .ref (o + 0))] [] (fx_h G.1.2 mo_S o D h0) nx 0 0) : sd_W G mMO_measure 2 0 0 Q 221 [(0, .ref (o + 0)), (1, .int (nI 0))] [] (fx_h G.1.2 mo_S o D h0) nx 0 0 := by
  refine sd_goto 59 dMO_measure_221 (by decide) ?_
  refine sd_iload_n dMO_measure_59 rfl rfl ?_
  refine nn_if_eq 224 dMO_measure_60 (by decide) (by decide) (fun _ => ?_) (fun c => absurd c (by decide))
  refine sd_locp (al' := [(0, .ref (o + (0)))]) [0] rfl ?_
  exact kk
theorem x_MO_meas1 {G : sd_G} {o : Nat} {D : fx_D} {h0 : sd_H} {nx : Nat} {Q : sd_Q} (kk : sd_W G mMO_measure 2 0 0 Q 59 [(0, .ref (o + 0)), (1, .int (nI 1))] [] (fx_h G.1.2 mo_S o D h0) nx 0 0) : sd_W G mMO_measure 2 0 0 Q 221 [(0, .ref (o + 0)), (1, .int (nI 1))] [] (fx_h G.1.2 mo_S o D h0) nx 0 0 := by
  refine sd_goto 59 dMO_measure_221 (by decide) ?_
  refine sd_locp (al' := [(0, .ref (o + (0))), (1, .int (nI (1)))]) [0, 1] rfl ?_
  exact kk
theorem x_MO_meas2 {G : sd_G} {o : Nat} {D : fx_D} {h0 : sd_H} {nx : Nat} {Q : sd_Q} (kk : sd_W G mMO_measure 2 0 0 Q 59 [(0, .ref (o + 0)), (1, .int (nI 1))] [] (fx_h G.1.2 mo_S o D h0) nx 0 0) : sd_W G mMO_measure 2 0 0 Q 57 [(0, .ref (o + 0))] [] (fx_h G.1.2 mo_S o D h0) nx 0 0 := by
  refine sd_iconst (v := nI 1) dMO_measure_57 (by decide) ?_
  refine sd_istore_n dMO_measure_58 rfl (by decide) ?_
  refine sd_locp (al' := [(0, .ref (o + (0))), (1, .int (nI (1)))]) [1, 0] rfl ?_
  exact kk
theorem x_MO_meas3 {G : sd_G} {o : Nat} {D : fx_D} {h0 : sd_H} {nx : Nat} {Q : sd_Q} (kk : sd_W G mMO_measure 2 0 0 Q 226 [(0, .ref (o + 0)), (2, .int (nI 0))] [] (fx_h G.1.2 mo_S o D h0) nx 0 0) : sd_W G mMO_measure 2 0 0 Q 224 [(0, .ref (o + 0))] [] (fx_h G.1.2 mo_S o D h0) nx 0 0 := by
  refine sd_iconst (v := nI 0) dMO_measure_224 (by decide) ?_
  refine sd_istore_n dMO_measure_225 rfl (by decide) ?_
  refine sd_locp (al' := [(0, .ref (o + (0))), (2, .int (nI (0)))]) [1, 0] rfl ?_
  exact kk
theorem l_MO_meas3 {G : sd_G} {o : Nat} {D0 : fx_D} {h0 : sd_H} {nx N : Nat} {K L R lk ρ : Nat → Nat} {Q : sd_Q} (hB : G.2.1 ≤ o) (hg0 : gst D0 N K L R lk ρ) (KK : ∀ (D' : fx_D) (T' : Nat → Option ft), mo_fm D0 D' → mb D' N K L R ρ T' → (∀ i, i < N → ρ i = i → T' i = none → T' (ρ (L i)) = none ∨ T' (ρ (R i)) = none) → sd_W G mMO_measure 2 0 0 Q 224 [(0, .ref (o + 0))] [] (fx_h G.1.2 mo_S o D' h0) nx 0 0) : ∀ (c : Nat) (D : fx_D) (T : Nat → Option ft), mb_c N T < c → mo_fm D0 D → mb D N K L R ρ T → sd_W G mMO_measure 2 0 0 Q 59 [(0, .ref (o + 0)), (1, .int (nI 1))] [] (fx_h G.1.2 mo_S o D h0) nx 0 0 := by
  intro c
  induction c with
  | zero => intro D T hc; omega
  | succ c ih =>
    intro D T hc hf h
    have nxt := l_MO_meas2 (G := G) (o := o) (h0 := h0) (nx := nx) (Q := Q) hB hg0 N 0 D T 0 (by omega) hf h (by omega) (fun D' T' mr' a1 a2 a3 a4 a5 a6 => by
      rcases (show mr' = 0 ∨ mr' = 1 by omega) with rfl | rfl
      · obtain ⟨-, rfl, b⟩ := a5 rfl
        have k := KK D' T' a1 a2 (fun i hi => b i (by omega) hi)
        exact x_MO_meas0 k
      · have k := ih D' T' (by have := a6 rfl; omega) a1 a2
        exact x_MO_meas1 k)
    refine sd_iload_n dMO_measure_59 rfl rfl ?_
    refine nn_if_eq 224 dMO_measure_60 (by decide) (by decide) (fun c => absurd c (by decide)) (fun _ => ?_)
    refine sd_iconst (v := nI 0) dMO_measure_63 (by decide) ?_
    refine sd_istore_n dMO_measure_64 rfl (by decide) ?_
    refine sd_iconst (v := nI 0) dMO_measure_65 (by decide) ?_
    refine sd_istore_n dMO_measure_66 rfl (by decide) ?_
    refine sd_locp (al' := [(0, .ref (o + (0))), (1, .int (nI (0))), (2, .int (nI (0)))]) [2, 1, 0] rfl ?_
    exact nxt
/-- behind measure -/
def me_yes (N : Nat) (K L R ρ : Nat → Nat) (D D' : fx_D) : Prop := ∃ T, mb D' N K L R ρ T ∧ (∀ n, ac N n → ρ n = n → T n ≠ none) ∧ mo_fm D D'
def me_no (K L R ρ : Nat → Nat) (D D' : fx_D) : Prop := (∀ τ, gsol K L R τ → rsp τ ρ → False) ∧ mo_fm D D'
theorem l_MO_meas4 {G : sd_G} {o : Nat} {D0 D : fx_D} {h0 : sd_H} {nx N : Nat} {K L R lk ρ : Nat → Nat} {T : Nat → Option ft} (hg0 : gst D0 N K L R lk ρ) (hf : mo_fm D0 D) (h : mb D N K L R ρ T) (hcl : ∀ i, i < N → ρ i = i → T i = none → T (ρ (L i)) = none ∨ T (ρ (R i)) = none) : ∀ (m j : Nat), N = j + m → (∀ i, i < j → ρ i = i → T i ≠ none) → sd_W G mMO_measure 2 0 0 (fx_b2 G.1.2 mo_S o h0 nx (me_yes N K L R ρ D0) (me_no K L R ρ D0)) 226 [(0, .ref (o + 0)), (2, .int (nI j))] [] (fx_h G.1.2 mo_S o D h0) nx 0 0 := by
  have hg := gst_fm hg0 hf
  have hN := hg0.2.1.1
  have d37 := hg.2.2.2.2.1
  intro m
  induction m with
  | zero =>
    intro j hj hd
    have fin : fx_b2 G.1.2 mo_S o h0 nx (me_yes N K L R ρ D0) (me_no K L R ρ D0) (some (.int (nI 1))) (fx_h G.1.2 mo_S o D h0) nx := ⟨rfl, D, rfl, Or.inl ⟨rfl, T, h, fun n hn hr => by
      rcases hn with hn | rfl | rfl
      · exact hd n (by omega) hr
      · rw [(h.2 192 (Or.inr (Or.inl rfl))).2.1 hg0.2.2.2.2.2.1]
        simp
      · rw [(h.2 193 (Or.inr (Or.inr rfl))).2.2.1 hg0.2.2.2.2.2.2]
        simp, hf⟩⟩
    refine sd_iload_n dMO_measure_226 rfl rfl ?_
    refine sd_aload_n dMO_measure_227 rfl rfl ?_
    refine fx_getiv (v := (nI (N))) 10 37 dMO_measure_228 fMO_161 rfl rfl (d37) ?_
    refine nn_icmp_ge 261 dMO_measure_231 (by decide) (by omega) (by omega) (fun c231 => ?_) (fun c231 => ?_)
    ·
      refine sd_iconst (v := nI 1) dMO_measure_261 (by decide) ?_
      exact sd_zret dMO_measure_262 rfl (Or.inr rfl) (Nat.le_refl _) (Nat.le_refl _) fin
    ·
      exact absurd c231 (by omega)
  | succ m ih =>
    intro j hj hd
    have aj : ac N j := Or.inl (by omega)
    obtain ⟨u1, u2, u3, u4⟩ := hg.1 j aj
    have bl := hg.2.1.lt (hg.2.1.2.2.1 j aj).2.2
    have fix : ρ j = j ↔ lk j = j := hg.2.2.1.fix
    by_cases hroot : lk j = j
    · cases hT : T j with
      | some t =>
        obtain ⟨-, t1, -⟩ := (h.1 j aj).1 t hT
        have hp := dgt_pos t
        have nxt := ih (j + 1) (by omega) (fun i hi hr => by
          by_cases z : i = j
          · rw [z, hT]; simp
          · exact hd i (by omega) hr)
        refine sd_iload_n dMO_measure_226 rfl rfl ?_
        refine sd_aload_n dMO_measure_227 rfl rfl ?_
        refine fx_getiv (v := (nI (N))) 10 37 dMO_measure_228 fMO_161 rfl rfl (d37) ?_
        refine nn_icmp_ge 261 dMO_measure_231 (by decide) (by omega) (by omega) (fun c231 => ?_) (fun c231 => ?_)
        ·
          exact absurd c231 (by omega)
        ·
          refine sd_aload_n dMO_measure_234 rfl rfl ?_
          refine fx_getr 10 33 (26) dMO_measure_235 fMO_85 rfl rfl ?_
          refine sd_iload_n dMO_measure_238 rfl rfl ?_
          refine fx_ialdv (v := (nI (lk j))) (j) dMO_measure_239 rfl rfl (by omega) (by decide) (u4) ?_
          refine sd_iload_n dMO_measure_240 rfl rfl ?_
          refine nn_icmp_ne 255 dMO_measure_241 (by decide) (by omega) (by omega) (fun c241 => ?_) (fun c241 => ?_)
          ·
            exact absurd hroot c241
          ·
            refine sd_aload_n dMO_measure_244 rfl rfl ?_
            refine fx_getr 10 34 (27) dMO_measure_245 fMO_88 rfl rfl ?_
            refine sd_iload_n dMO_measure_248 rfl rfl ?_
            refine fx_ialdv (v := (nI (dgt t))) (j) dMO_measure_249 rfl rfl (by omega) (by decide) (t1) ?_
            refine nn_if_ne 255 dMO_measure_250 (by decide) (by omega) (fun c250 => ?_) (fun c250 => ?_)
            ·
              refine nn_iinc 1 dMO_measure_255 rfl (by decide) ?_
              refine sd_goto 226 dMO_measure_258 (by decide) ?_
              refine sd_locp (al' := [(0, .ref (o + (0))), (2, .int (nI (j + 1)))]) [1, 0] rfl ?_
              exact nxt
            ·
              exact absurd c250 (by omega)
      | none =>
        obtain ⟨-, t0⟩ := (h.1 j aj).2 hT
        have fin : fx_b2 G.1.2 mo_S o h0 nx (me_yes N K L R ρ D0) (me_no K L R ρ D0) (some (.int (nI 0))) (fx_h G.1.2 mo_S o D h0) nx := ⟨rfl, D, rfl, Or.inr ⟨rfl, fun τ t1 t2 => gsol_cyc t1 t2 (U := fun n => ac N n ∧ ρ n = n ∧ T n = none) (fun n hn => by
          obtain ⟨a, b, c⟩ := hn
          have k3 := ((h.1 n a).2 c).1
          have lt : n < N := by
            rcases a with a | rfl | rfl
            · exact a
            · have := hg0.2.2.2.2.2.1; omega
            · have := hg0.2.2.2.2.2.2; omega
          refine ⟨k3, ?_⟩
          have aL := hg0.2.2.1.ac hg0.2.1 (hg0.2.1.2.2.1 n a).1
          have aR := hg0.2.2.1.ac hg0.2.1 (hg0.2.1.2.2.1 n a).2.1
          rcases hcl n lt b c with z | z
          · exact Or.inl ⟨aL, hg0.2.2.1.idem _, z⟩
          · exact Or.inr ⟨aR, hg0.2.2.1.idem _, z⟩) (tt_len (τ j) + 1) j (Nat.lt_succ_self _) ⟨aj, fix.mpr hroot, hT⟩, hf⟩⟩
        refine sd_iload_n dMO_measure_226 rfl rfl ?_
        refine sd_aload_n dMO_measure_227 rfl rfl ?_
        refine fx_getiv (v := (nI (N))) 10 37 dMO_measure_228 fMO_161 rfl rfl (d37) ?_
        refine nn_icmp_ge 261 dMO_measure_231 (by decide) (by omega) (by omega) (fun c231 => ?_) (fun c231 => ?_)
        ·
          exact absurd c231 (by omega)
        ·
          refine sd_aload_n dMO_measure_234 rfl rfl ?_
          refine fx_getr 10 33 (26) dMO_measure_235 fMO_85 rfl rfl ?_
          refine sd_iload_n dMO_measure_238 rfl rfl ?_
          refine fx_ialdv (v := (nI (lk j))) (j) dMO_measure_239 rfl rfl (by omega) (by decide) (u4) ?_
          refine sd_iload_n dMO_measure_240 rfl rfl ?_
          refine nn_icmp_ne 255 dMO_measure_241 (by decide) (by omega) (by omega) (fun c241 => ?_) (fun c241 => ?_)
          ·
            exact absurd hroot c241
          ·
            refine sd_aload_n dMO_measure_244 rfl rfl ?_
            refine fx_getr 10 34 (27) dMO_measure_245 fMO_88 rfl rfl ?_
            refine sd_iload_n dMO_measure_248 rfl rfl ?_
            refine fx_ialdv (v := (nI (0))) (j) dMO_measure_249 rfl rfl (by omega) (by decide) (t0) ?_
            refine nn_if_ne 255 dMO_measure_250 (by decide) (by decide) (fun c => absurd c (by decide)) (fun _ => ?_)
            refine sd_iconst (v := nI 0) dMO_measure_253 (by decide) ?_
            exact sd_zret dMO_measure_254 rfl (Or.inl rfl) (Nat.le_refl _) (Nat.le_refl _) fin
    · have nxt := ih (j + 1) (by omega) (fun i hi hr => by
        by_cases z : i = j
        · rw [z] at hr
          exact absurd (fix.mp hr) hroot
        · exact hd i (by omega) hr)
      refine sd_iload_n dMO_measure_226 rfl rfl ?_
      refine sd_aload_n dMO_measure_227 rfl rfl ?_
      refine fx_getiv (v := (nI (N))) 10 37 dMO_measure_228 fMO_161 rfl rfl (d37) ?_
      refine nn_icmp_ge 261 dMO_measure_231 (by decide) (by omega) (by omega) (fun c231 => ?_) (fun c231 => ?_)
      ·
        exact absurd c231 (by omega)
      ·
        refine sd_aload_n dMO_measure_234 rfl rfl ?_
        refine fx_getr 10 33 (26) dMO_measure_235 fMO_85 rfl rfl ?_
        refine sd_iload_n dMO_measure_238 rfl rfl ?_
        refine fx_ialdv (v := (nI (lk j))) (j) dMO_measure_239 rfl rfl (by omega) (by decide) (u4) ?_
        refine sd_iload_n dMO_measure_240 rfl rfl ?_
        refine nn_icmp_ne 255 dMO_measure_241 (by decide) (by omega) (by omega) (fun c241 => ?_) (fun c241 => ?_)
        ·
          refine nn_iinc 1 dMO_measure_255 rfl (by decide) ?_
          refine sd_goto 226 dMO_measure_258 (by decide) ?_
          refine sd_locp (al' := [(0, .ref (o + (0))), (2, .int (nI (j + 1)))]) [1, 0] rfl ?_
          exact nxt
        ·
          exact absurd c241 hroot
theorem c_MO_measure {G : sd_G} {o : Nat} {D : fx_D} {h0 : sd_H} {nx N : Nat} {K L R lk ρ : Nat → Nat} (hB : G.2.1 ≤ o) (hg : gst D N K L R lk ρ) : sd_Ct G mMO_measure 2 0 0 [.ref (o + 0)] (fx_h G.1.2 mo_S o D h0) nx (fx_b2 G.1.2 mo_S o h0 nx (me_yes N K L R ρ D) (me_no K L R ρ D)) := by
  refine sd_Ct_of (by decide) (Nat.le_of_ble_eq_true rfl) ?_
  have body := l_MO_meas1 (G := G) (o := o) (h0 := h0) (nx := nx) (D0 := D) (Q := fx_b2 G.1.2 mo_S o h0 nx (me_yes N K L R ρ D) (me_no K L R ρ D)) hB (fun D1 a1 a2 => x_MO_meas2 (l_MO_meas3 hB hg (fun D2 T2 b1 b2 b3 => x_MO_meas3 (l_MO_meas4 hg b1 b2 b3 N 0 (by omega) (fun i hi => absurd hi (by omega)))) (mb_c N (T0_ K) + 1) D1 (T0_ K) (Nat.lt_succ_self _) a1 (mb_0 hg a2))) 194 0 D (by omega) (mo_fm.rf D) (fun n hn => absurd hn (by omega))
  refine sd_iconst (v := nI 0) dMO_measure_0 (by decide) ?_
  refine sd_istore_n dMO_measure_1 rfl (by decide) ?_
  refine sd_locp (al' := [(0, .ref (o + (0))), (1, .int (nI (0)))]) [1, 0] rfl ?_
  exact body
