/-! ===== the model: note ===== -/
/-- D' differs from D in theorems -/
def mo_fn (D D' : fx_D) : Prop := (∀ x, (x < 6 ∨ 11 < x) → D'.1 x = D.1 x) ∧ (∀ x j, ¬ (x = 0 ∧ j = 14) → D'.2.1 x j = D.2.1 x j) ∧ D'.2.2 = D.2.2
theorem mo_nx {L : List st_Th} {D D' : fx_D} {h : st_Th} (hL : mo_th D L) (h40 : L.length < 40) (hf : D'.2.1 0 14 = nI (L.length + 1)) (h6 : h.2.1.length ≤ 6) (e6 : ∀ p, p < L.length → D'.1 6 p = D.1 6 p ∧ D'.1 7 p = D.1 7 p ∧ D'.1 9 p = D.1 9 p ∧ D'.1 10 p = D.1 10 p ∧ D'.1 11 p = D.1 11 p) (e8 : ∀ i, i < 6 * L.length → D'.1 8 i = D.1 8 i)
    (n6 : D'.1 6 L.length = nI h.1 ∧ D'.1 7 L.length = nI h.2.1.length ∧ (∀ (k t : Nat), h.2.1[k]? = some t → D'.1 8 (6 * L.length + k) = nI t) ∧ D'.1 9 L.length = nI h.2.2.1 ∧ D'.1 10 L.length = oi_I h.2.2.2.1 ∧ D'.1 11 L.length = oi_I h.2.2.2.2) : mo_th D' (L ++ [h]) := by
  refine ⟨by simp; omega, by rw [hf]; simp, fun p q hq => ?_⟩
  by_cases hp : p < L.length
  · rw [List.getElem?_append_left hp] at hq
    obtain ⟨a1, a2, a3, a4, a5, a6, a7⟩ := hL.2.2 p q hq
    obtain ⟨b1, b2, b3, b4, b5⟩ := e6 p hp
    refine ⟨by rw [b1, a1], by rw [b2, a2], a3, fun k t ht => ?_, by rw [b3, a5], by rw [b4, a6], by rw [b5, a7]⟩
    rw [e8 _ (by have := getE_lt ht; omega)]
    exact a4 k t ht
  · rw [List.getElem?_append_right (by omega)] at hq
    have hk2 : p - L.length < 1 := getE_lt hq
    obtain rfl : p = L.length := by omega
    simp at hq
    subst hq
    exact ⟨n6.1, n6.2.1, h6, n6.2.2.1, n6.2.2.2.1, n6.2.2.2.2.1, n6.2.2.2.2.2⟩
theorem dMO_note_0 : decode prog_13_method_54_code 0 = .ok (.aload_n 0, 1) := by decide +kernel
theorem dMO_note_1 : decode prog_13_method_54_code 1 = .ok (.getfield 25, 3) := by decide +kernel
theorem dMO_note_4 : decode prog_13_method_54_code 4 = .ok (.aload_n 0, 1) := by decide +kernel
theorem dMO_note_5 : decode prog_13_method_54_code 5 = .ok (.getfield 148, 3) := by decide +kernel
theorem dMO_note_8 : decode prog_13_method_54_code 8 = .ok (.iload_n 2, 1) := by decide +kernel
theorem dMO_note_9 : decode prog_13_method_54_code 9 = .ok (.iastore, 1) := by decide +kernel
theorem dMO_note_10 : decode prog_13_method_54_code 10 = .ok (.aload_n 0, 1) := by decide +kernel
theorem dMO_note_11 : decode prog_13_method_54_code 11 = .ok (.getfield 34, 3) := by decide +kernel
theorem dMO_note_14 : decode prog_13_method_54_code 14 = .ok (.aload_n 0, 1) := by decide +kernel
theorem dMO_note_15 : decode prog_13_method_54_code 15 = .ok (.getfield 148, 3) := by decide +kernel
theorem dMO_note_18 : decode prog_13_method_54_code 18 = .ok (.iload_n 1, 1) := by decide +kernel
theorem dMO_note_19 : decode prog_13_method_54_code 19 = .ok (.iastore, 1) := by decide +kernel
theorem dMO_note_20 : decode prog_13_method_54_code 20 = .ok (.aload_n 0, 1) := by decide +kernel
theorem dMO_note_21 : decode prog_13_method_54_code 21 = .ok (.getfield 37, 3) := by decide +kernel
theorem dMO_note_24 : decode prog_13_method_54_code 24 = .ok (.aload_n 0, 1) := by decide +kernel
theorem dMO_note_25 : decode prog_13_method_54_code 25 = .ok (.getfield 148, 3) := by decide +kernel
theorem dMO_note_28 : decode prog_13_method_54_code 28 = .ok (.iload_n 3, 1) := by decide +kernel
theorem dMO_note_29 : decode prog_13_method_54_code 29 = .ok (.iastore, 1) := by decide +kernel
theorem dMO_note_30 : decode prog_13_method_54_code 30 = .ok (.aload_n 0, 1) := by decide +kernel
theorem dMO_note_31 : decode prog_13_method_54_code 31 = .ok (.getfield 40, 3) := by decide +kernel
theorem dMO_note_34 : decode prog_13_method_54_code 34 = .ok (.aload_n 0, 1) := by decide +kernel
theorem dMO_note_35 : decode prog_13_method_54_code 35 = .ok (.getfield 148, 3) := by decide +kernel
theorem dMO_note_38 : decode prog_13_method_54_code 38 = .ok (.iload 4, 2) := by decide +kernel
theorem dMO_note_40 : decode prog_13_method_54_code 40 = .ok (.iastore, 1) := by decide +kernel
theorem dMO_note_41 : decode prog_13_method_54_code 41 = .ok (.aload_n 0, 1) := by decide +kernel
theorem dMO_note_42 : decode prog_13_method_54_code 42 = .ok (.getfield 28, 3) := by decide +kernel
theorem dMO_note_45 : decode prog_13_method_54_code 45 = .ok (.aload_n 0, 1) := by decide +kernel
theorem dMO_note_46 : decode prog_13_method_54_code 46 = .ok (.getfield 148, 3) := by decide +kernel
theorem dMO_note_49 : decode prog_13_method_54_code 49 = .ok (.aload_n 0, 1) := by decide +kernel
theorem dMO_note_50 : decode prog_13_method_54_code 50 = .ok (.getfield 213, 3) := by decide +kernel
theorem dMO_note_53 : decode prog_13_method_54_code 53 = .ok (.iastore, 1) := by decide +kernel
theorem dMO_note_54 : decode prog_13_method_54_code 54 = .ok (.iconst 0, 1) := by decide +kernel
theorem dMO_note_55 : decode prog_13_method_54_code 55 = .ok (.istore 5, 2) := by decide +kernel
theorem dMO_note_57 : decode prog_13_method_54_code 57 = .ok (.iload 5, 2) := by decide +kernel
theorem dMO_note_59 : decode prog_13_method_54_code 59 = .ok (.aload_n 0, 1) := by decide +kernel
theorem dMO_note_60 : decode prog_13_method_54_code 60 = .ok (.getfield 213, 3) := by decide +kernel
theorem dMO_note_63 : decode prog_13_method_54_code 63 = .ok (.if_icmp .ge (31), 3) := by decide +kernel
theorem dMO_note_66 : decode prog_13_method_54_code 66 = .ok (.aload_n 0, 1) := by decide +kernel
theorem dMO_note_67 : decode prog_13_method_54_code 67 = .ok (.getfield 31, 3) := by decide +kernel
theorem dMO_note_70 : decode prog_13_method_54_code 70 = .ok (.bipush (6), 2) := by decide +kernel
theorem dMO_note_72 : decode prog_13_method_54_code 72 = .ok (.aload_n 0, 1) := by decide +kernel
theorem dMO_note_73 : decode prog_13_method_54_code 73 = .ok (.getfield 148, 3) := by decide +kernel
theorem dMO_note_76 : decode prog_13_method_54_code 76 = .ok (.imul, 1) := by decide +kernel
theorem dMO_note_77 : decode prog_13_method_54_code 77 = .ok (.iload 5, 2) := by decide +kernel
theorem dMO_note_79 : decode prog_13_method_54_code 79 = .ok (.iadd, 1) := by decide +kernel
theorem dMO_note_80 : decode prog_13_method_54_code 80 = .ok (.aload_n 0, 1) := by decide +kernel
theorem dMO_note_81 : decode prog_13_method_54_code 81 = .ok (.getfield 43, 3) := by decide +kernel
theorem dMO_note_84 : decode prog_13_method_54_code 84 = .ok (.iload 5, 2) := by decide +kernel
theorem dMO_note_86 : decode prog_13_method_54_code 86 = .ok (.iaload, 1) := by decide +kernel
theorem dMO_note_87 : decode prog_13_method_54_code 87 = .ok (.iastore, 1) := by decide +kernel
theorem dMO_note_88 : decode prog_13_method_54_code 88 = .ok (.iinc 5 (1), 3) := by decide +kernel
theorem dMO_note_91 : decode prog_13_method_54_code 91 = .ok (.goto (-34), 3) := by decide +kernel
theorem dMO_note_94 : decode prog_13_method_54_code 94 = .ok (.aload_n 0, 1) := by decide +kernel
theorem dMO_note_95 : decode prog_13_method_54_code 95 = .ok (.dup, 1) := by decide +kernel
theorem dMO_note_96 : decode prog_13_method_54_code 96 = .ok (.getfield 148, 3) := by decide +kernel
theorem dMO_note_99 : decode prog_13_method_54_code 99 = .ok (.dup_x1, 1) := by decide +kernel
theorem dMO_note_100 : decode prog_13_method_54_code 100 = .ok (.iconst 1, 1) := by decide +kernel
theorem dMO_note_101 : decode prog_13_method_54_code 101 = .ok (.iadd, 1) := by decide +kernel
theorem dMO_note_102 : decode prog_13_method_54_code 102 = .ok (.putfield 148, 3) := by decide +kernel
theorem dMO_note_105 : decode prog_13_method_54_code 105 = .ok (.ireturn, 1) := by decide +kernel
theorem l_MO_note {G : sd_G} {o : Nat} {D0 D1 : fx_D} {h0 : sd_H} {nx k t : Nat} {fa fb : Option Nat} {L : List st_Th} {rs : List Nat} (hB : G.2.1 ≤ o) (hL : mo_th D0 L) (h40 : L.length < 40) (h6 : rs.length ≤ 6) (hrw : mo_rw D0 rs)
    (hD1 : D1 = fx_ua (fx_ua (fx_ua (fx_ua (fx_ua D0 6 L.length (nI t)) 9 L.length (nI k)) 10 L.length (oi_I fa)) 11 L.length (oi_I fb)) 7 L.length (nI rs.length)) :
    ∀ (n j : Nat) (D : fx_D), rs.length = j + n → (∀ x, x ≠ 8 → D.1 x = D1.1 x) → D.2 = D1.2 → (∀ i, i < 6 * L.length → D.1 8 i = D1.1 8 i) → (∀ i x, i < j → rs[i]? = some x → D.1 8 (6 * L.length + i) = nI x) → sd_W G mMO_note 0 0 0 (fx_is G.1.2 mo_S o h0 nx (some (.int (nI L.length))) (fun D' => mo_th D' (L ++ [(t, rs, k, fa, fb)]) ∧ mo_fn D0 D')) 57 [(0, .ref (o + 0)), (5, .int (nI j))] [] (fx_h G.1.2 mo_S o D h0) nx 0 0 := by
  intro n
  have f2 : D1.2 = D0.2 := by rw [hD1]; rfl
  have fr : D1.1 12 = D0.1 12 := by rw [hD1]; simp [fx_ua]
  induction n with
  | zero =>
    intro j D hj e1 e2 e3 e4
    have hr0 : D.2.1 0 16 = nI rs.length := by rw [e2, f2]; exact hrw.2.1
    have ht0 : D.2.1 0 14 = nI L.length := by rw [e2, f2]; exact hL.2.1
    refine sd_iload dMO_note_57 rfl ?_
    refine sd_aload_n dMO_note_59 rfl rfl ?_
    refine fx_getiv (v := (nI (rs.length))) 10 16 dMO_note_60 fMO_213 rfl rfl (hr0) ?_
    refine nn_icmp_ge 94 dMO_note_63 (by decide) (by omega) (by omega) (fun c63 => ?_) (fun c63 => ?_)
    ·
      refine sd_aload_n dMO_note_94 rfl rfl ?_
      refine sd_dup dMO_note_95 rfl ?_
      refine fx_getiv (v := (nI (L.length))) 10 14 dMO_note_96 fMO_148 rfl rfl (ht0) ?_
      refine sd_dup_x1 dMO_note_99 rfl rfl ?_
      refine sd_iconst (v := nI 1) dMO_note_100 (by decide) ?_
      refine nn_iadd dMO_note_101 ?_
      refine fx_puti 10 14 dMO_note_102 fMO_148 rfl rfl rfl rfl hB ?_
      refine sd_iret dMO_note_105 rfl (Nat.le_refl _) (Nat.le_refl _) ⟨rfl, rfl, _, rfl, ?_, ?_⟩
      · refine mo_nx hL h40 (by simp [fx_uf, upd]) h6 (fun p hp => ?_) (fun i hi => ?_) ⟨?_, ?_, fun a x hx => ?_, ?_, ?_, ?_⟩
        · simp [fx_uf, e1, hD1, fx_ua, upd, show ¬ p = L.length by omega]
        · simp [fx_uf, e3 i hi, hD1, fx_ua]
        · simp [fx_uf, e1, hD1, fx_ua, upd]
        · simp [fx_uf, e1, hD1, fx_ua, upd]
        · exact e4 a x (by have := getE_lt hx; simp at this; omega) hx
        · simp [fx_uf, e1, hD1, fx_ua, upd]
        · simp [fx_uf, e1, hD1, fx_ua, upd]
        · simp [fx_uf, e1, hD1, fx_ua, upd]
      · refine ⟨fun x hx => ?_, fun x i hi => ?_, by simp [fx_uf, e2, f2]⟩
        · show D.1 x = _
          rw [e1 x (by omega), hD1]
          simp [fx_ua, show ¬ x = 6 by omega, show ¬ x = 7 by omega, show ¬ x = 9 by omega, show ¬ x = 10 by omega, show ¬ x = 11 by omega]
        · by_cases hx : x = 0
          · subst hx
            have : ¬ i = 14 := fun z => hi ⟨rfl, z⟩
            simp [fx_uf, upd, this, e2, f2]
          · simp [fx_uf, hx, e2, f2]
    ·
      exact absurd c63 (by omega)
  | succ n ih =>
    intro j D hj e1 e2 e3 e4
    have hr0 : D.2.1 0 16 = nI rs.length := by rw [e2, f2]; exact hrw.2.1
    have ht0 : D.2.1 0 14 = nI L.length := by rw [e2, f2]; exact hL.2.1
    obtain ⟨x, hx⟩ : ∃ x, rs[j]? = some x := ⟨rs[j], List.getElem?_eq_getElem (by omega)⟩
    have q1 : D.1 12 j = nI x := by rw [e1 12 (by decide), fr]; exact (hrw.2.2 j x hx).1
    refine sd_iload dMO_note_57 rfl ?_
    refine sd_aload_n dMO_note_59 rfl rfl ?_
    refine fx_getiv (v := (nI (rs.length))) 10 16 dMO_note_60 fMO_213 rfl rfl (hr0) ?_
    refine nn_icmp_ge 94 dMO_note_63 (by decide) (by omega) (by omega) (fun c63 => ?_) (fun c63 => ?_)
    ·
      exact absurd c63 (by omega)
    ·
      refine sd_aload_n dMO_note_66 rfl rfl ?_
      refine fx_getr 10 10 (8) dMO_note_67 fMO_31 rfl rfl ?_
      refine sd_bipush (v := nI 6) dMO_note_70 (by decide) ?_
      refine sd_aload_n dMO_note_72 rfl rfl ?_
      refine fx_getiv (v := (nI (L.length))) 10 14 dMO_note_73 fMO_148 rfl rfl (ht0) ?_
      refine nn_imul dMO_note_76 ?_
      refine sd_iload dMO_note_77 rfl ?_
      refine nn_iadd dMO_note_79 ?_
      refine sd_aload_n dMO_note_80 rfl rfl ?_
      refine fx_getr 10 15 (12) dMO_note_81 fMO_43 rfl rfl ?_
      refine sd_iload dMO_note_84 rfl ?_
      refine fx_ialdv (v := (nI (x))) (j) dMO_note_86 rfl rfl (by omega) (by decide) (q1) ?_
      refine fx_iast ((6 * L.length) + j) dMO_note_87 rfl rfl (by omega) (by decide) hB ?_
      refine nn_iinc 1 dMO_note_88 rfl (by decide) ?_
      refine sd_goto 57 dMO_note_91 (by decide) ?_
      refine sd_locp (al' := [(0, .ref (o + (0))), (5, .int (nI (j + 1)))]) [1, 0] rfl ?_
      refine ih (j + 1) _ (by omega) (fun y hy => by simp [fx_ua, hy, e1 y hy]) (by simp [fx_ua, e2]) (fun i hi => by simp [fx_ua, upd, show ¬ i = 6 * L.length + j by omega, e3 i hi]) (fun i y hi hy => ?_)
      rcases Nat.lt_or_ge i j with z | z
      · simp [fx_ua, upd, show ¬ i = j by omega, e4 i y z hy]
      · obtain rfl : i = j := by omega
        rw [hx] at hy
        cases hy
        simp [fx_ua, upd]
theorem c_MO_note {G : sd_G} {o : Nat} {D : fx_D} {h0 : sd_H} {nx k t : Nat} {fa fb : Option Nat} {L : List st_Th} {rs : List Nat} (hB : G.2.1 ≤ o) (hL : mo_th D L) (h40 : L.length < 40) (h6 : rs.length ≤ 6) (hrw : mo_rw D rs) : sd_Ct G mMO_note 0 0 0 [.ref (o + 0), .int (nI k), .int (nI t), .int (oi_I fa), .int (oi_I fb)] (fx_h G.1.2 mo_S o D h0) nx (fx_is G.1.2 mo_S o h0 nx (some (.int (nI L.length))) (fun D' => mo_th D' (L ++ [(t, rs, k, fa, fb)]) ∧ mo_fn D D')) := by
  refine sd_Ct_of (by decide) (Nat.le_of_ble_eq_true rfl) ?_
  refine sd_aload_n dMO_note_0 rfl rfl ?_
  refine fx_getr 10 8 (6) dMO_note_1 fMO_25 rfl rfl ?_
  refine sd_aload_n dMO_note_4 rfl rfl ?_
  refine fx_getiv (v := (nI (L.length))) 10 14 dMO_note_5 fMO_148 rfl rfl (hL.2.1) ?_
  refine sd_iload_n dMO_note_8 rfl rfl ?_
  refine fx_iast (L.length) dMO_note_9 rfl rfl (by omega) (by decide) hB ?_
  refine sd_aload_n dMO_note_10 rfl rfl ?_
  refine fx_getr 10 11 (9) dMO_note_11 fMO_34 rfl rfl ?_
  refine sd_aload_n dMO_note_14 rfl rfl ?_
  refine fx_getiv (v := (nI (L.length))) 10 14 dMO_note_15 fMO_148 rfl rfl (hL.2.1) ?_
  refine sd_iload_n dMO_note_18 rfl rfl ?_
  refine fx_iast (L.length) dMO_note_19 rfl rfl (by omega) (by decide) hB ?_
  refine sd_aload_n dMO_note_20 rfl rfl ?_
  refine fx_getr 10 12 (10) dMO_note_21 fMO_37 rfl rfl ?_
  refine sd_aload_n dMO_note_24 rfl rfl ?_
  refine fx_getiv (v := (nI (L.length))) 10 14 dMO_note_25 fMO_148 rfl rfl (hL.2.1) ?_
  refine sd_iload_n dMO_note_28 rfl rfl ?_
  refine fx_iast (L.length) dMO_note_29 rfl rfl (by omega) (by decide) hB ?_
  refine sd_aload_n dMO_note_30 rfl rfl ?_
  refine fx_getr 10 13 (11) dMO_note_31 fMO_40 rfl rfl ?_
  refine sd_aload_n dMO_note_34 rfl rfl ?_
  refine fx_getiv (v := (nI (L.length))) 10 14 dMO_note_35 fMO_148 rfl rfl (hL.2.1) ?_
  refine sd_iload dMO_note_38 rfl ?_
  refine fx_iast (L.length) dMO_note_40 rfl rfl (by omega) (by decide) hB ?_
  refine sd_aload_n dMO_note_41 rfl rfl ?_
  refine fx_getr 10 9 (7) dMO_note_42 fMO_28 rfl rfl ?_
  refine sd_aload_n dMO_note_45 rfl rfl ?_
  refine fx_getiv (v := (nI (L.length))) 10 14 dMO_note_46 fMO_148 rfl rfl (hL.2.1) ?_
  refine sd_aload_n dMO_note_49 rfl rfl ?_
  refine fx_getiv (v := (nI (rs.length))) 10 16 dMO_note_50 fMO_213 rfl rfl (hrw.2.1) ?_
  refine fx_iast (L.length) dMO_note_53 rfl rfl (by omega) (by decide) hB ?_
  refine sd_iconst (v := nI 0) dMO_note_54 (by decide) ?_
  refine sd_istore dMO_note_55 (by decide) ?_
  refine sd_locp (al' := [(0, .ref (o + (0))), (5, .int (nI (0)))]) [1, 0] rfl ?_
  exact l_MO_note hB hL h40 h6 hrw rfl rs.length 0 _ (by omega) (fun _ _ => rfl) rfl (fun _ _ => rfl) (fun i x h => absurd h (by omega))
