/-! ===== the model: rule, INST's hypotheses; rule ===== -/
theorem l_MO_rule {G : sd_G} {o : Nat} {h0 : sd_H} {nx : Nat} {S : st_S} {a A : Nat} {z : Int32} {L : tl_T} {Q : sd_Q} (hB : G.2.1 ≤ o) (ha : a < (st_th S).length) (ha40 : a < 40) (hy6 : (st_hy S a).length ≤ 6) : ∀ (ls : List tl_T) (j : Nat) (T' : List tl_T) (rs : List Nat) (f : Nat) (D : fx_D), (st_hy S a).length = j + ls.length → rs.length ≤ j → f < 2 → D.2.1 0 7 = nI f → mo_R (S.1, T', S.2.2) D → mo_rw D rs → mo_row D 71 L → (∀ i l, ls[i]? = some l → tl_wf l ∧ mo_row D (64 + (j + i)) l) →
    (∀ D' f', f' < 2 → D'.2.1 0 7 = nI f' → (f' = 1 ↔ f = 1 ∨ tl_full T' ls = true) → mo_R (S.1, (tl_keeps T' rs ls).1, S.2.2) D' → mo_rw D' (tl_keeps T' rs ls).2 → (tl_keeps T' rs ls).2.length ≤ 6 → mo_row D' 71 L → sd_W G mMO_rule 7 0 0 Q 143 [(0, .ref (o + 0)), (1, .int (nI 8)), (2, .int (nI a)), (3, .int z), (5, .int (nI A))] [] (fx_h G.1.2 mo_S o D' h0) nx 0 0) →
    sd_W G mMO_rule 7 0 0 Q 94 [(0, .ref (o + 0)), (1, .int (nI 8)), (2, .int (nI a)), (3, .int z), (5, .int (nI A)), (6, .int (nI j))] [] (fx_h G.1.2 mo_S o D h0) nx 0 0 := by
  intro ls
  induction ls with
  | nil =>
    intro j T' rs f D hj hrs hf2 hf hR hrw hrow hls K
    have hj' : (st_hy S a).length = j := hj
    have q1 : D.1 7 a = nI (st_hy S a).length := mo_hn (S := (S.1, T', S.2.2)) hR ha
    refine sd_iload dMO_rule_94 rfl ?_
    refine sd_aload_n dMO_rule_96 rfl rfl ?_
    refine fx_getr 10 9 (7) dMO_rule_97 fMO_28 rfl rfl ?_
    refine sd_iload_n dMO_rule_100 rfl rfl ?_
    refine fx_ialdv (v := (nI ((st_hy S a).length))) (a) dMO_rule_101 rfl rfl (by omega) (by decide) (q1) ?_
    refine nn_icmp_ge 143 dMO_rule_102 (by decide) (by omega) (by omega) (fun c102 => ?_) (fun c102 => ?_)
    ·
      refine sd_locp (al' := [(0, .ref (o + (0))), (1, .int (nI (8))), (2, .int (nI (a))), (3, .int (z)), (5, .int (nI (A)))]) [0, 1, 2, 3, 4] rfl ?_
      exact K D f hf2 hf (by simp [tl_full]) hR hrw (by show rs.length ≤ 6; omega) hrow
    ·
      exact absurd c102 (by omega)
  | cons l ls ih =>
    intro j T' rs f D hj hrs hf2 hf hR hrw hrow hls K
    have hj' : (st_hy S a).length = j + (ls.length + 1) := hj
    have q1 : D.1 7 a = nI (st_hy S a).length := mo_hn (S := (S.1, T', S.2.2)) hR ha
    obtain ⟨w1, w2⟩ := hls 0 l rfl
    have hls' : ∀ i m, ls[i]? = some m → tl_wf m ∧ mo_row D (64 + (j + 1 + i)) m := fun i m hm => by
      have h := hls (i + 1) m hm
      rwa [show 64 + (j + (i + 1)) = 64 + (j + 1 + i) by omega] at h
    have k64 : tl_kp T' l ≤ 64 := Nat.le_trans tl_kp_le hR.2.1.1
    have kr : ∀ {D1 : fx_D}, (mo_terms D1 (tl_kt T' l) ∧ mo_fr D D1) → mo_R (S.1, tl_kt T' l, S.2.2) D1 := fun h => mo_R_keep (S := (S.1, T', S.2.2)) hR h.1 h.2
    by_cases h64 : tl_kp T' l < 64
    · have eK : tl_keeps T' rs (l :: ls) = tl_keeps (tl_kt T' l) (ls_h rs (tl_kp T' l)) ls := by rw [tl_keeps, if_pos h64]
      have eF : tl_full T' (l :: ls) = tl_full (tl_kt T' l) ls := by rw [tl_full]; simp [h64]
      rw [eK, eF] at K
      have hlh := ls_h_len rs (tl_kp T' l)
      refine sd_iload dMO_rule_94 rfl ?_
      refine sd_aload_n dMO_rule_96 rfl rfl ?_
      refine fx_getr 10 9 (7) dMO_rule_97 fMO_28 rfl rfl ?_
      refine sd_iload_n dMO_rule_100 rfl rfl ?_
      refine fx_ialdv (v := (nI ((st_hy S a).length))) (a) dMO_rule_101 rfl rfl (by omega) (by decide) (q1) ?_
      refine nn_icmp_ge 143 dMO_rule_102 (by decide) (by omega) (by omega) (fun c102 => ?_) (fun c102 => ?_)
      ·
        exact absurd c102 (by omega)
      ·
        refine sd_aload_n dMO_rule_105 rfl rfl ?_
        refine sd_bipush (v := nI 64) dMO_rule_106 (by decide) ?_
        refine sd_iload dMO_rule_108 rfl ?_
        refine nn_iadd dMO_rule_110 ?_
        refine fx_cP 10 sR_MO [.int (nI (64 + j))] [] dMO_rule_111 kMO_197 rfl rfl mMO_keep_v (c_MO_keep (r := 64 + j) (T := T') (l := l) hB hR.2.1 (by omega) (by omega) w2 w1) (by decide) (Nat.le_refl _) (Nat.le_refl _) (Nat.le_of_ble_eq_true rfl) rfl (fun D1 hD1 => ?_)
        refine sd_istore dMO_rule_114 (by decide) ?_
        refine sd_iload dMO_rule_116 rfl ?_
        refine sd_bipush (v := nI 64) dMO_rule_118 (by decide) ?_
        refine nn_icmp_ge 132 dMO_rule_120 (by decide) (by omega) (by omega) (fun c120 => ?_) (fun c120 => ?_)
        ·
          exact absurd c120 (by omega)
        ·
          refine sd_aload_n dMO_rule_123 rfl rfl ?_
          refine sd_iload dMO_rule_124 rfl ?_
          refine fx_cP 10 sR_MO [.int (nI (tl_kp T' l))] [] dMO_rule_126 kMO_216 rfl rfl mMO_hold_v (c_MO_hold (t := tl_kp T' l) hB (mo_rw_fr hrw hD1.2) (by omega) (by omega)) (by decide) (Nat.le_refl _) (Nat.le_refl _) (Nat.le_of_ble_eq_true rfl) rfl (fun D2 hD2 => ?_)
          refine sd_goto 137 dMO_rule_129 (by decide) ?_
          refine nn_iinc 1 dMO_rule_137 rfl (by decide) ?_
          refine sd_goto 94 dMO_rule_140 (by decide) ?_
          refine sd_locp (al' := [(0, .ref (o + (0))), (1, .int (nI (8))), (2, .int (nI (a))), (3, .int (z)), (5, .int (nI (A))), (6, .int (nI (j + 1)))]) [2, 3, 4, 5, 6, 0] rfl ?_
          exact ih (j + 1) (tl_kt T' l) (ls_h rs (tl_kp T' l)) f D2 (by omega) (by omega) hf2 (by rw [hD2.2.2.1 0 7 (by omega), hD1.2.2.1 0 7 (by omega)]; exact hf) (mo_R_fw (kr hD1) hD2.2) hD2.1 (mo_row_fw hD2.2 (hD1.2.2.2.2.1 71 L (by omega) hrow)) (fun i m hm => ⟨(hls' i m hm).1, mo_row_fw hD2.2 (hD1.2.2.2.2.1 (64 + (j + 1 + i)) m (by omega) (hls' i m hm).2)⟩) K
    · have eK : tl_keeps T' rs (l :: ls) = tl_keeps (tl_kt T' l) rs ls := by rw [tl_keeps, if_neg h64]
      have eF : tl_full T' (l :: ls) = true := by rw [tl_full]; simp [h64]
      rw [eK, eF] at K
      refine sd_iload dMO_rule_94 rfl ?_
      refine sd_aload_n dMO_rule_96 rfl rfl ?_
      refine fx_getr 10 9 (7) dMO_rule_97 fMO_28 rfl rfl ?_
      refine sd_iload_n dMO_rule_100 rfl rfl ?_
      refine fx_ialdv (v := (nI ((st_hy S a).length))) (a) dMO_rule_101 rfl rfl (by omega) (by decide) (q1) ?_
      refine nn_icmp_ge 143 dMO_rule_102 (by decide) (by omega) (by omega) (fun c102 => ?_) (fun c102 => ?_)
      ·
        exact absurd c102 (by omega)
      ·
        refine sd_aload_n dMO_rule_105 rfl rfl ?_
        refine sd_bipush (v := nI 64) dMO_rule_106 (by decide) ?_
        refine sd_iload dMO_rule_108 rfl ?_
        refine nn_iadd dMO_rule_110 ?_
        refine fx_cP 10 sR_MO [.int (nI (64 + j))] [] dMO_rule_111 kMO_197 rfl rfl mMO_keep_v (c_MO_keep (r := 64 + j) (T := T') (l := l) hB hR.2.1 (by omega) (by omega) w2 w1) (by decide) (Nat.le_refl _) (Nat.le_refl _) (Nat.le_of_ble_eq_true rfl) rfl (fun D1 hD1 => ?_)
        refine sd_istore dMO_rule_114 (by decide) ?_
        refine sd_iload dMO_rule_116 rfl ?_
        refine sd_bipush (v := nI 64) dMO_rule_118 (by decide) ?_
        refine nn_icmp_ge 132 dMO_rule_120 (by decide) (by omega) (by omega) (fun c120 => ?_) (fun c120 => ?_)
        ·
          refine sd_aload_n dMO_rule_132 rfl rfl ?_
          refine sd_iconst (v := nI 1) dMO_rule_133 (by decide) ?_
          refine fx_putz 10 7 dMO_rule_134 fMO_124 rfl rfl (Or.inr rfl) rfl rfl hB ?_
          refine nn_iinc 1 dMO_rule_137 rfl (by decide) ?_
          refine sd_goto 94 dMO_rule_140 (by decide) ?_
          refine sd_locp (al' := [(0, .ref (o + (0))), (1, .int (nI (8))), (2, .int (nI (a))), (3, .int (z)), (5, .int (nI (A))), (6, .int (nI (j + 1)))]) [2, 3, 4, 5, 6, 0] rfl ?_
          exact ih (j + 1) (tl_kt T' l) rs 1 _ (by omega) (by omega) (by omega) (by simp [fx_uf, upd]) (mo_R_f (kr hD1) (Or.inl rfl)) ⟨hrw.1, (mo_rw_fr hrw hD1.2).2.1, (mo_rw_fr hrw hD1.2).2.2⟩ (hD1.2.2.2.2.1 71 L (by omega) hrow) (fun i m hm => ⟨(hls' i m hm).1, hD1.2.2.2.2.1 (64 + (j + 1 + i)) m (by omega) (hls' i m hm).2⟩) (fun D' f' a1 a2 a3 => K D' f' a1 a2 (by rw [a3]; simp))
        ·
          exact absurd c120 (by omega)
