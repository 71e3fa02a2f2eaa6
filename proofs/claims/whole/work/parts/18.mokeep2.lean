/-! ===== the model: keep ===== -/
/-- the number that a term gets, and the terms behind it -/
def tl_kp (T : List tl_T) (l : tl_T) : Nat := match T.idxOf? l with
  | some k => k
  | none => T.length
def tl_kt (T : List tl_T) (l : tl_T) : List tl_T := match T.idxOf? l with
  | some _ => T
  | none => if T.length = 64 then T else T ++ [l]
/-- D' differs from D in rows below 64, and in how many terms there are -/
def mo_fr (D D' : fx_D) : Prop := (∀ x, x ≠ 1 → x ≠ 2 → x ≠ 3 → D'.1 x = D.1 x) ∧ (∀ x j, ¬ (x = 0 ∧ j = 5) → D'.2.1 x j = D.2.1 x j) ∧ D'.2.2 = D.2.2 ∧ (∀ q l, 64 ≤ q → mo_row D q l → mo_row D' q l) ∧ ∀ q, 64 ≤ q → D'.1 3 q = D.1 3 q
theorem mo_fr.rf (D : fx_D) : mo_fr D D := ⟨fun _ _ _ _ => rfl, fun _ _ _ => rfl, rfl, fun _ _ _ h => h, fun _ _ => rfl⟩
theorem mo_fr.tr {D D' D2 : fx_D} (h : mo_fr D D') (h2 : mo_fr D' D2) : mo_fr D D2 := ⟨fun x a b c => (h2.1 x a b c).trans (h.1 x a b c), fun x j a => (h2.2.1 x j a).trans (h.2.1 x j a), h2.2.2.1.trans h.2.2.1, fun q l a b => h2.2.2.2.1 q l a (h.2.2.2.1 q l a b), fun q a => (h2.2.2.2.2 q a).trans (h.2.2.2.2 q a)⟩
theorem mo_row_w {D : fx_D} {q N k : Nat} {m : tl_T} {s t : Int32} (hk : k < 24) (hn : q ≠ N) (h : mo_row D q m) : mo_row (fx_ua (fx_ua D 1 (24 * N + k) s) 2 (24 * N + k) t) q m := by
  refine ⟨h.1, by simp [fx_ua, h.2.1], fun j x hx => ?_⟩
  obtain ⟨q1, q2, q3, q4⟩ := h.2.2 j x hx
  have hj : j < m.length := (List.getElem?_eq_some_iff.mp hx).1
  have h24 := h.1
  have e : ¬ (24 * q + j = 24 * N + k) := by omega
  exact ⟨by simp [fx_ua, upd, e, q1], by simp [fx_ua, upd, e, q2], q3, q4⟩
/-- while a row is copied to place N -/
def mo_J (D0 D : fx_D) (N : Nat) (l : tl_T) (k : Nat) : Prop := (∀ q m, q ≠ N → mo_row D0 q m → mo_row D q m) ∧ (∀ j x, j < k → l[j]? = some x → D.1 1 (24 * N + j) = nI x.1 ∧ D.1 2 (24 * N + j) = nI x.2) ∧ (∀ x, x ≠ 1 → x ≠ 2 → D.1 x = D0.1 x) ∧ D.2 = D0.2
theorem dMO_keep_0 : decode prog_13_method_22_code 0 = .ok (.aload_n 0, 1) := by decide +kernel
theorem dMO_keep_1 : decode prog_13_method_22_code 1 = .ok (.iload_n 1, 1) := by decide +kernel
theorem dMO_keep_2 : decode prog_13_method_22_code 2 = .ok (.iconst 0, 1) := by decide +kernel
theorem dMO_keep_3 : decode prog_13_method_22_code 3 = .ok (.invokevirtual 145, 3) := by decide +kernel
theorem dMO_keep_6 : decode prog_13_method_22_code 6 = .ok (.istore_n 2, 1) := by decide +kernel
theorem dMO_keep_7 : decode prog_13_method_22_code 7 = .ok (.iload_n 2, 1) := by decide +kernel
theorem dMO_keep_8 : decode prog_13_method_22_code 8 = .ok (.ifCond .ge (12), 3) := by decide +kernel
theorem dMO_keep_11 : decode prog_13_method_22_code 11 = .ok (.aload_n 0, 1) := by decide +kernel
theorem dMO_keep_12 : decode prog_13_method_22_code 12 = .ok (.getfield 117, 3) := by decide +kernel
theorem dMO_keep_15 : decode prog_13_method_22_code 15 = .ok (.bipush (64), 2) := by decide +kernel
theorem dMO_keep_17 : decode prog_13_method_22_code 17 = .ok (.if_icmp .ne (14), 3) := by decide +kernel
theorem dMO_keep_20 : decode prog_13_method_22_code 20 = .ok (.iload_n 2, 1) := by decide +kernel
theorem dMO_keep_21 : decode prog_13_method_22_code 21 = .ok (.ifCond .ge (8), 3) := by decide +kernel
theorem dMO_keep_24 : decode prog_13_method_22_code 24 = .ok (.bipush (64), 2) := by decide +kernel
theorem dMO_keep_26 : decode prog_13_method_22_code 26 = .ok (.goto (4), 3) := by decide +kernel
theorem dMO_keep_29 : decode prog_13_method_22_code 29 = .ok (.iload_n 2, 1) := by decide +kernel
theorem dMO_keep_30 : decode prog_13_method_22_code 30 = .ok (.ireturn, 1) := by decide +kernel
theorem dMO_keep_31 : decode prog_13_method_22_code 31 = .ok (.iconst 0, 1) := by decide +kernel
theorem dMO_keep_32 : decode prog_13_method_22_code 32 = .ok (.istore_n 3, 1) := by decide +kernel
theorem dMO_keep_33 : decode prog_13_method_22_code 33 = .ok (.iload_n 3, 1) := by decide +kernel
theorem dMO_keep_34 : decode prog_13_method_22_code 34 = .ok (.aload_n 0, 1) := by decide +kernel
theorem dMO_keep_35 : decode prog_13_method_22_code 35 = .ok (.getfield 16, 3) := by decide +kernel
theorem dMO_keep_38 : decode prog_13_method_22_code 38 = .ok (.iload_n 1, 1) := by decide +kernel
theorem dMO_keep_39 : decode prog_13_method_22_code 39 = .ok (.iaload, 1) := by decide +kernel
theorem dMO_keep_40 : decode prog_13_method_22_code 40 = .ok (.if_icmp .ge (49), 3) := by decide +kernel
theorem dMO_keep_43 : decode prog_13_method_22_code 43 = .ok (.aload_n 0, 1) := by decide +kernel
theorem dMO_keep_44 : decode prog_13_method_22_code 44 = .ok (.getfield 7, 3) := by decide +kernel
theorem dMO_keep_47 : decode prog_13_method_22_code 47 = .ok (.bipush (24), 2) := by decide +kernel
theorem dMO_keep_49 : decode prog_13_method_22_code 49 = .ok (.aload_n 0, 1) := by decide +kernel
theorem dMO_keep_50 : decode prog_13_method_22_code 50 = .ok (.getfield 117, 3) := by decide +kernel
theorem dMO_keep_53 : decode prog_13_method_22_code 53 = .ok (.imul, 1) := by decide +kernel
theorem dMO_keep_54 : decode prog_13_method_22_code 54 = .ok (.iload_n 3, 1) := by decide +kernel
theorem dMO_keep_55 : decode prog_13_method_22_code 55 = .ok (.iadd, 1) := by decide +kernel
theorem dMO_keep_56 : decode prog_13_method_22_code 56 = .ok (.aload_n 0, 1) := by decide +kernel
theorem dMO_keep_57 : decode prog_13_method_22_code 57 = .ok (.iload_n 1, 1) := by decide +kernel
theorem dMO_keep_58 : decode prog_13_method_22_code 58 = .ok (.iload_n 3, 1) := by decide +kernel
theorem dMO_keep_59 : decode prog_13_method_22_code 59 = .ok (.invokevirtual 131, 3) := by decide +kernel
theorem dMO_keep_62 : decode prog_13_method_22_code 62 = .ok (.iastore, 1) := by decide +kernel
theorem dMO_keep_63 : decode prog_13_method_22_code 63 = .ok (.aload_n 0, 1) := by decide +kernel
theorem dMO_keep_64 : decode prog_13_method_22_code 64 = .ok (.getfield 13, 3) := by decide +kernel
theorem dMO_keep_67 : decode prog_13_method_22_code 67 = .ok (.bipush (24), 2) := by decide +kernel
theorem dMO_keep_69 : decode prog_13_method_22_code 69 = .ok (.aload_n 0, 1) := by decide +kernel
theorem dMO_keep_70 : decode prog_13_method_22_code 70 = .ok (.getfield 117, 3) := by decide +kernel
theorem dMO_keep_73 : decode prog_13_method_22_code 73 = .ok (.imul, 1) := by decide +kernel
theorem dMO_keep_74 : decode prog_13_method_22_code 74 = .ok (.iload_n 3, 1) := by decide +kernel
theorem dMO_keep_75 : decode prog_13_method_22_code 75 = .ok (.iadd, 1) := by decide +kernel
theorem dMO_keep_76 : decode prog_13_method_22_code 76 = .ok (.aload_n 0, 1) := by decide +kernel
theorem dMO_keep_77 : decode prog_13_method_22_code 77 = .ok (.iload_n 1, 1) := by decide +kernel
theorem dMO_keep_78 : decode prog_13_method_22_code 78 = .ok (.iload_n 3, 1) := by decide +kernel
theorem dMO_keep_79 : decode prog_13_method_22_code 79 = .ok (.invokevirtual 134, 3) := by decide +kernel
theorem dMO_keep_82 : decode prog_13_method_22_code 82 = .ok (.iastore, 1) := by decide +kernel
theorem dMO_keep_83 : decode prog_13_method_22_code 83 = .ok (.iinc 3 (1), 3) := by decide +kernel
theorem dMO_keep_86 : decode prog_13_method_22_code 86 = .ok (.goto (-53), 3) := by decide +kernel
theorem dMO_keep_89 : decode prog_13_method_22_code 89 = .ok (.aload_n 0, 1) := by decide +kernel
theorem dMO_keep_90 : decode prog_13_method_22_code 90 = .ok (.getfield 16, 3) := by decide +kernel
theorem dMO_keep_93 : decode prog_13_method_22_code 93 = .ok (.aload_n 0, 1) := by decide +kernel
theorem dMO_keep_94 : decode prog_13_method_22_code 94 = .ok (.getfield 117, 3) := by decide +kernel
theorem dMO_keep_97 : decode prog_13_method_22_code 97 = .ok (.aload_n 0, 1) := by decide +kernel
theorem dMO_keep_98 : decode prog_13_method_22_code 98 = .ok (.getfield 16, 3) := by decide +kernel
theorem dMO_keep_101 : decode prog_13_method_22_code 101 = .ok (.iload_n 1, 1) := by decide +kernel
theorem dMO_keep_102 : decode prog_13_method_22_code 102 = .ok (.iaload, 1) := by decide +kernel
theorem dMO_keep_103 : decode prog_13_method_22_code 103 = .ok (.iastore, 1) := by decide +kernel
theorem dMO_keep_104 : decode prog_13_method_22_code 104 = .ok (.aload_n 0, 1) := by decide +kernel
theorem dMO_keep_105 : decode prog_13_method_22_code 105 = .ok (.dup, 1) := by decide +kernel
theorem dMO_keep_106 : decode prog_13_method_22_code 106 = .ok (.getfield 117, 3) := by decide +kernel
theorem dMO_keep_109 : decode prog_13_method_22_code 109 = .ok (.dup_x1, 1) := by decide +kernel
theorem dMO_keep_110 : decode prog_13_method_22_code 110 = .ok (.iconst 1, 1) := by decide +kernel
theorem dMO_keep_111 : decode prog_13_method_22_code 111 = .ok (.iadd, 1) := by decide +kernel
theorem dMO_keep_112 : decode prog_13_method_22_code 112 = .ok (.putfield 117, 3) := by decide +kernel
theorem dMO_keep_115 : decode prog_13_method_22_code 115 = .ok (.ireturn, 1) := by decide +kernel
theorem l_MO_keep {G : sd_G} {o : Nat} {D0 : fx_D} {h0 : sd_H} {nx r : Nat} {T : List tl_T} {l : tl_T} (hB : G.2.1 ≤ o) (hT : mo_terms D0 T) (hN : T.length < 64) (hr : r < 72) (hr2 : 64 ≤ r) (hl : mo_row D0 r l) (hw : tl_wf l) (hno : T.idxOf? l = none) : ∀ (n k : Nat) (D : fx_D), l.length = k + n → mo_J D0 D T.length l k → sd_W G mMO_keep 4 0 0 (fx_is G.1.2 mo_S o h0 nx (some (.int (nI (tl_kp T l)))) (fun D' => mo_terms D' (tl_kt T l) ∧ mo_fr D0 D')) 33 [(0, .ref (o + 0)), (1, .int (nI r)), (3, .int (nI k))] [] (fx_h G.1.2 mo_S o D h0) nx 0 0 := by
  have l24 := hl.1
  have ekp : tl_kp T l = T.length := by unfold tl_kp; rw [hno]
  have ekt : tl_kt T l = T ++ [l] := by unfold tl_kt; rw [hno]; exact if_neg (by omega)
  intro n
  induction n with
  | zero =>
    intro k D hk hJ
    obtain ⟨j1, j2, j3, j4⟩ := hJ
    have hl2 := j1 r l (by omega) hl
    have ht2 : D.2.1 0 5 = nI T.length := by rw [j4]; exact hT.2.1
    refine sd_iload_n dMO_keep_33 rfl rfl ?_
    refine sd_aload_n dMO_keep_34 rfl rfl ?_
    refine fx_getr 10 2 (3) dMO_keep_35 fMO_16 rfl rfl ?_
    refine sd_iload_n dMO_keep_38 rfl rfl ?_
    refine fx_ialdv (v := (nI (l.length))) (r) dMO_keep_39 rfl rfl (by omega) (by decide) (hl2.2.1) ?_
    refine nn_icmp_ge 89 dMO_keep_40 (by decide) (by omega) (by omega) (fun c40 => ?_) (fun c40 => ?_)
    ·
      refine sd_aload_n dMO_keep_89 rfl rfl ?_
      refine fx_getr 10 2 (3) dMO_keep_90 fMO_16 rfl rfl ?_
      refine sd_aload_n dMO_keep_93 rfl rfl ?_
      refine fx_getiv (v := (nI (T.length))) 10 5 dMO_keep_94 fMO_117 rfl rfl (ht2) ?_
      refine sd_aload_n dMO_keep_97 rfl rfl ?_
      refine fx_getr 10 2 (3) dMO_keep_98 fMO_16 rfl rfl ?_
      refine sd_iload_n dMO_keep_101 rfl rfl ?_
      refine fx_ialdv (v := (nI (l.length))) (r) dMO_keep_102 rfl rfl (by omega) (by decide) (hl2.2.1) ?_
      refine fx_iast (T.length) dMO_keep_103 rfl rfl (by omega) (by decide) hB ?_
      refine sd_aload_n dMO_keep_104 rfl rfl ?_
      refine sd_dup dMO_keep_105 rfl ?_
      refine fx_getiv (v := (nI (T.length))) 10 5 dMO_keep_106 fMO_117 rfl rfl ((by exact ht2)) ?_
      refine sd_dup_x1 dMO_keep_109 rfl rfl ?_
      refine sd_iconst (v := nI 1) dMO_keep_110 (by decide) ?_
      refine nn_iadd dMO_keep_111 ?_
      refine fx_puti 10 5 dMO_keep_112 fMO_117 rfl rfl rfl rfl hB ?_
      refine sd_iret dMO_keep_115 rfl (Nat.le_refl _) (Nat.le_refl _) ⟨by rw [ekp], rfl, _, rfl, ?_, ?_⟩
      · rw [ekt]
        refine ⟨by simp; omega, by simp [fx_uf, upd], fun t x hx => ?_⟩
        by_cases ht : t < T.length
        · rw [List.getElem?_append_left ht] at hx
          obtain ⟨z1, z2⟩ := hT.2.2 t x hx
          have z3 := j1 t x (by omega) z1
          exact ⟨⟨z3.1, by simpa [fx_uf, fx_ua, upd, show ¬ t = T.length by omega] using z3.2.1, fun a b c => by simpa [fx_uf, fx_ua] using z3.2.2 a b c⟩, z2⟩
        · rw [List.getElem?_append_right (by omega)] at hx
          have hk2 : t - T.length < 1 := (List.getElem?_eq_some_iff.mp hx).1
          obtain rfl : t = T.length := by omega
          simp at hx
          subst hx
          refine ⟨⟨l24, by simp [fx_uf, fx_ua, upd], fun a b c => ?_⟩, hw⟩
          obtain ⟨z1, z2⟩ := j2 a b (by have := (List.getElem?_eq_some_iff.mp c).1; omega) c
          obtain ⟨-, -, z3, z4⟩ := hl.2.2 a b c
          exact ⟨by simpa [fx_uf, fx_ua] using z1, by simpa [fx_uf, fx_ua] using z2, z3, z4⟩
      · refine ⟨fun x a b c => by simp [fx_uf, fx_ua, c, j3 x a b], fun x j a => ?_, by simp [fx_uf, fx_ua, j4], fun q m a b => ?_, fun q a => by simp [fx_uf, fx_ua, upd, show ¬ q = T.length by omega, j3 3 (by decide) (by decide)]⟩
        · by_cases hx : x = 0
          · subst hx
            have : ¬ j = 5 := fun z => a ⟨rfl, z⟩
            simp [fx_uf, fx_ua, upd, this, j4]
          · simp [fx_uf, fx_ua, hx, j4]
        · have z3 := j1 q m (by omega) b
          exact ⟨z3.1, by simpa [fx_uf, fx_ua, upd, show ¬ q = T.length by omega] using z3.2.1, fun a b c => by simpa [fx_uf, fx_ua] using z3.2.2 a b c⟩
    ·
      exact absurd c40 (by omega)
  | succ n ih =>
    intro k D hk hJ
    obtain ⟨j1, j2, j3, j4⟩ := id hJ
    have hl2 := j1 r l (by omega) hl
    have ht2 : D.2.1 0 5 = nI T.length := by rw [j4]; exact hT.2.1
    obtain ⟨x, hx⟩ : ∃ x, l[k]? = some x := ⟨l[k], List.getElem?_eq_getElem (by omega)⟩
    obtain ⟨x1, x2, x3, x4⟩ := hl2.2.2 _ x hx
    have s1 := c_MO_symbolAt (G := G) (o := o) (D := D) (h0 := h0) (nx := nx) (r := r) (i := k) (by omega)
    rw [x1] at s1
    have t1 := c_MO_typeAt (G := G) (o := o) (D := fx_ua D 1 (24 * T.length + k) (nI x.1)) (h0 := h0) (nx := nx) (r := r) (i := k) (by omega)
    rw [show (fx_ua D 1 (24 * T.length + k) (nI x.1)).1 2 (24 * r + k) = nI x.2 by simp [fx_ua, x2]] at t1
    refine sd_iload_n dMO_keep_33 rfl rfl ?_
    refine sd_aload_n dMO_keep_34 rfl rfl ?_
    refine fx_getr 10 2 (3) dMO_keep_35 fMO_16 rfl rfl ?_
    refine sd_iload_n dMO_keep_38 rfl rfl ?_
    refine fx_ialdv (v := (nI (l.length))) (r) dMO_keep_39 rfl rfl (by omega) (by decide) (hl2.2.1) ?_
    refine nn_icmp_ge 89 dMO_keep_40 (by decide) (by omega) (by omega) (fun c40 => ?_) (fun c40 => ?_)
    ·
      exact absurd c40 (by omega)
    ·
      refine sd_aload_n dMO_keep_43 rfl rfl ?_
      refine fx_getr 10 0 (1) dMO_keep_44 fMO_7 rfl rfl ?_
      refine sd_bipush (v := nI 24) dMO_keep_47 (by decide) ?_
      refine sd_aload_n dMO_keep_49 rfl rfl ?_
      refine fx_getiv (v := (nI (T.length))) 10 5 dMO_keep_50 fMO_117 rfl rfl (ht2) ?_
      refine nn_imul dMO_keep_53 ?_
      refine sd_iload_n dMO_keep_54 rfl rfl ?_
      refine nn_iadd dMO_keep_55 ?_
      refine sd_aload_n dMO_keep_56 rfl rfl ?_
      refine sd_iload_n dMO_keep_57 rfl rfl ?_
      refine sd_iload_n dMO_keep_58 rfl rfl ?_
      refine fx_cV 10 sR_MO [.int (nI (r)), .int (nI (k))] [.int (nI ((24 * T.length) + k)), .ref (o + (1))] dMO_keep_59 kMO_131 rfl rfl mMO_symbolAt_v (s1) (by decide) (Nat.le_refl _) (Nat.le_refl _) (Nat.le_of_ble_eq_true rfl) rfl ?_
      refine fx_iast ((24 * T.length) + k) dMO_keep_62 rfl rfl (by omega) (by decide) hB ?_
      refine sd_aload_n dMO_keep_63 rfl rfl ?_
      refine fx_getr 10 1 (2) dMO_keep_64 fMO_13 rfl rfl ?_
      refine sd_bipush (v := nI 24) dMO_keep_67 (by decide) ?_
      refine sd_aload_n dMO_keep_69 rfl rfl ?_
      refine fx_getiv (v := (nI (T.length))) 10 5 dMO_keep_70 fMO_117 rfl rfl (ht2) ?_
      refine nn_imul dMO_keep_73 ?_
      refine sd_iload_n dMO_keep_74 rfl rfl ?_
      refine nn_iadd dMO_keep_75 ?_
      refine sd_aload_n dMO_keep_76 rfl rfl ?_
      refine sd_iload_n dMO_keep_77 rfl rfl ?_
      refine sd_iload_n dMO_keep_78 rfl rfl ?_
      refine fx_cV 10 sR_MO [.int (nI (r)), .int (nI (k))] [.int (nI ((24 * T.length) + k)), .ref (o + (2))] dMO_keep_79 kMO_134 rfl rfl mMO_typeAt_v (t1) (by decide) (Nat.le_refl _) (Nat.le_refl _) (Nat.le_of_ble_eq_true rfl) rfl ?_
      refine fx_iast ((24 * T.length) + k) dMO_keep_82 rfl rfl (by omega) (by decide) hB ?_
      refine nn_iinc 1 dMO_keep_83 rfl (by decide) ?_
      refine sd_goto 33 dMO_keep_86 (by decide) ?_
      refine sd_locp (al' := [(0, .ref (o + (0))), (1, .int (nI (r))), (3, .int (nI (k + 1)))]) [1, 2, 0] rfl ?_
      refine ih (k + 1) _ (by omega) ⟨fun q m a b => mo_row_w (by omega) a (j1 q m a b), fun j y hj hy => ?_, fun y a b => by simp [fx_ua, a, b, j3 y a b], by simp [fx_ua, j4]⟩
      rcases Nat.lt_or_ge j k with z | z
      · obtain ⟨z1, z2⟩ := j2 j y z hy
        have e : ¬ j = k := by omega
        exact ⟨by simp [fx_ua, upd, e, z1], by simp [fx_ua, upd, e, z2]⟩
      · obtain rfl : j = k := by omega
        rw [hx] at hy
        cases hy
        exact ⟨by simp [fx_ua, upd], by simp [fx_ua, upd]⟩
theorem c_MO_keep {G : sd_G} {o : Nat} {D : fx_D} {h0 : sd_H} {nx r : Nat} {T : List tl_T} {l : tl_T} (hB : G.2.1 ≤ o) (hT : mo_terms D T) (hr : r < 72) (hr2 : 64 ≤ r) (hl : mo_row D r l) (hw : tl_wf l) : sd_Ct G mMO_keep 4 0 0 [.ref (o + 0), .int (nI r)] (fx_h G.1.2 mo_S o D h0) nx (fx_is G.1.2 mo_S o h0 nx (some (.int (nI (tl_kp T l)))) (fun D' => mo_terms D' (tl_kt T l) ∧ mo_fr D D')) := by
  refine sd_Ct_of (by decide) (Nat.le_of_ble_eq_true rfl) ?_
  have h64 := hT.1
  have hf := c_MO_find (G := G) (o := o) (h0 := h0) (nx := nx) (i := 0) hT hr hl (Nat.zero_le _) hw.1
  rw [hw.part] at hf
  unfold tl_find at hf
  cases hx : T.idxOf? l with
  | some t =>
    have ht : t < T.length := by
      obtain ⟨h, -⟩ := List.idxOf?_eq_some_iff.mp hx
      exact h
    rw [hx] at hf
    simp only at hf
    refine sd_aload_n dMO_keep_0 rfl rfl ?_
    refine sd_iload_n dMO_keep_1 rfl rfl ?_
    refine sd_iconst (v := nI 0) dMO_keep_2 (by decide) ?_
    refine fx_cV 10 sR_MO [.int (nI (r)), .int (nI (0))] [] dMO_keep_3 kMO_145 rfl rfl mMO_find_v (hf) (by decide) (Nat.le_refl _) (Nat.le_refl _) (Nat.le_of_ble_eq_true rfl) rfl ?_
    refine sd_istore_n dMO_keep_6 rfl (by decide) ?_
    refine sd_iload_n dMO_keep_7 rfl rfl ?_
    refine nn_if_ge dMO_keep_8 20 (by decide) (by omega) ?_
    refine sd_iload_n dMO_keep_20 rfl rfl ?_
    refine nn_if_ge dMO_keep_21 29 (by decide) (by omega) ?_
    refine sd_iload_n dMO_keep_29 rfl rfl ?_
    exact sd_iret dMO_keep_30 rfl (Nat.le_refl _) (Nat.le_refl _) ⟨by unfold tl_kp; rw [hx], rfl, D, rfl, by unfold tl_kt; rw [hx]; exact hT, mo_fr.rf D⟩
  | none =>
    rw [hx] at hf
    simp only at hf
    by_cases h6 : T.length = 64
    ·
      refine sd_aload_n dMO_keep_0 rfl rfl ?_
      refine sd_iload_n dMO_keep_1 rfl rfl ?_
      refine sd_iconst (v := nI 0) dMO_keep_2 (by decide) ?_
      refine fx_cV 10 sR_MO [.int (nI (r)), .int (nI (0))] [] dMO_keep_3 kMO_145 rfl rfl mMO_find_v (hf) (by decide) (Nat.le_refl _) (Nat.le_refl _) (Nat.le_of_ble_eq_true rfl) rfl ?_
      refine sd_istore_n dMO_keep_6 rfl (by decide) ?_
      refine sd_iload_n dMO_keep_7 rfl rfl ?_
      refine sd_if_ge 20 dMO_keep_8 (by decide) (fun c8 => ?_) (fun c8 => ?_)
      ·
        exact absurd c8 (by decide)
      ·
        refine sd_aload_n dMO_keep_11 rfl rfl ?_
        refine fx_getiv (v := (nI (T.length))) 10 5 dMO_keep_12 fMO_117 rfl rfl (hT.2.1) ?_
        refine sd_bipush (v := nI 64) dMO_keep_15 (by decide) ?_
        refine nn_icmp_ne 31 dMO_keep_17 (by decide) (by omega) (by omega) (fun c17 => ?_) (fun c17 => ?_)
        ·
          exact absurd c17 (by omega)
        ·
          refine sd_iload_n dMO_keep_20 rfl rfl ?_
          refine sd_if_ge 29 dMO_keep_21 (by decide) (fun c21 => ?_) (fun c21 => ?_)
          ·
            exact absurd c21 (by decide)
          ·
            refine sd_bipush (v := nI 64) dMO_keep_24 (by decide) ?_
            refine sd_goto 30 dMO_keep_26 (by decide) ?_
            exact sd_iret dMO_keep_30 rfl (Nat.le_refl _) (Nat.le_refl _) ⟨by unfold tl_kp; rw [hx]; simp only; rw [h6], rfl, D, rfl, by unfold tl_kt; rw [hx]; simp only; rw [if_pos h6]; exact hT, mo_fr.rf D⟩
    ·
      refine sd_aload_n dMO_keep_0 rfl rfl ?_
      refine sd_iload_n dMO_keep_1 rfl rfl ?_
      refine sd_iconst (v := nI 0) dMO_keep_2 (by decide) ?_
      refine fx_cV 10 sR_MO [.int (nI (r)), .int (nI (0))] [] dMO_keep_3 kMO_145 rfl rfl mMO_find_v (hf) (by decide) (Nat.le_refl _) (Nat.le_refl _) (Nat.le_of_ble_eq_true rfl) rfl ?_
      refine sd_istore_n dMO_keep_6 rfl (by decide) ?_
      refine sd_iload_n dMO_keep_7 rfl rfl ?_
      refine sd_if_ge 20 dMO_keep_8 (by decide) (fun c8 => ?_) (fun c8 => ?_)
      ·
        exact absurd c8 (by decide)
      ·
        refine sd_aload_n dMO_keep_11 rfl rfl ?_
        refine fx_getiv (v := (nI (T.length))) 10 5 dMO_keep_12 fMO_117 rfl rfl (hT.2.1) ?_
        refine sd_bipush (v := nI 64) dMO_keep_15 (by decide) ?_
        refine nn_icmp_ne 31 dMO_keep_17 (by decide) (by omega) (by omega) (fun c17 => ?_) (fun c17 => ?_)
        ·
          refine sd_iconst (v := nI 0) dMO_keep_31 (by decide) ?_
          refine sd_istore_n dMO_keep_32 rfl (by decide) ?_
          refine sd_locp (al' := [(0, .ref (o + (0))), (1, .int (nI (r))), (3, .int (nI (0)))]) [2, 3, 0] rfl ?_
          exact l_MO_keep hB hT (by omega) hr hr2 hl hw hx l.length 0 D (by omega) ⟨fun q m _ z => z, fun j x z => absurd z (by omega), fun _ _ _ => rfl, rfl⟩
        ·
          exact absurd c17 h6
