/-! ===== the model: child ===== -/
theorem l_MO_assumesL {G : sd_G} {o : Nat} {D : fx_D} {h0 : sd_H} {nx v g t : Nat} {hs : List Nat} (g3 : g < 30) (g4 : D.1 14 g = nI hs.length) (g5 : hs.length ≤ 6) (g6 : ∀ (k u : Nat), hs[k]? = some u → D.1 15 (6 * g + k) = nI u ∧ u < 2 ^ 30) (ht : t < 2 ^ 30) (hv2 : v < 2) : ∀ (n j : Nat), hs.length = j + n → (v = 1 ↔ t ∈ hs.drop j) → sd_W G mMO_assumes 0 0 0 (sd_is (some (.int (nI v))) (fx_h G.1.2 mo_S o D h0) nx) 2 [(0, .ref (o + 0)), (1, .int (nI g)), (2, .int (nI t)), (3, .int (nI j))] [] (fx_h G.1.2 mo_S o D h0) nx 0 0 := by
  intro n
  induction n with
  | zero =>
    intro j hj hv
    rw [List.drop_eq_nil_of_le (by omega)] at hv
    obtain rfl : v = 0 := by simp at hv; omega
    refine sd_iload_n dMO_assumes_2 rfl rfl ?_
    refine sd_aload_n dMO_assumes_3 rfl rfl ?_
    refine fx_getr 10 18 (14) dMO_assumes_4 fMO_49 rfl rfl ?_
    refine sd_iload_n dMO_assumes_7 rfl rfl ?_
    refine fx_ialdv (v := (nI (hs.length))) (g) dMO_assumes_8 rfl rfl (by omega) (by decide) (g4) ?_
    refine nn_icmp_ge 35 dMO_assumes_9 (by decide) (by omega) (by omega) (fun c9 => ?_) (fun c9 => ?_)
    ·
      refine sd_iconst (v := nI 0) dMO_assumes_35 (by decide) ?_
      exact sd_zret dMO_assumes_36 rfl (Or.inl rfl) (Nat.le_refl _) (Nat.le_refl _) ⟨rfl, rfl, rfl⟩
    ·
      exact absurd c9 (by omega)
  | succ n ih =>
    intro j hj hv
    have hx : hs[j]? = some hs[j] := List.getElem?_eq_getElem (by omega)
    have hdr : hs.drop j = hs[j] :: hs.drop (j + 1) := List.drop_eq_getElem_cons (by omega)
    generalize hs[j] = u at hx hdr
    obtain ⟨u1, u2⟩ := g6 j u hx
    rw [hdr, List.mem_cons] at hv
    refine sd_iload_n dMO_assumes_2 rfl rfl ?_
    refine sd_aload_n dMO_assumes_3 rfl rfl ?_
    refine fx_getr 10 18 (14) dMO_assumes_4 fMO_49 rfl rfl ?_
    refine sd_iload_n dMO_assumes_7 rfl rfl ?_
    refine fx_ialdv (v := (nI (hs.length))) (g) dMO_assumes_8 rfl rfl (by omega) (by decide) (g4) ?_
    refine nn_icmp_ge 35 dMO_assumes_9 (by decide) (by omega) (by omega) (fun c9 => ?_) (fun c9 => ?_)
    ·
      exact absurd c9 (by omega)
    ·
      refine sd_aload_n dMO_assumes_12 rfl rfl ?_
      refine fx_getr 10 19 (15) dMO_assumes_13 fMO_52 rfl rfl ?_
      refine sd_bipush (v := nI 6) dMO_assumes_16 (by decide) ?_
      refine sd_iload_n dMO_assumes_18 rfl rfl ?_
      refine nn_imul dMO_assumes_19 ?_
      refine sd_iload_n dMO_assumes_20 rfl rfl ?_
      refine nn_iadd dMO_assumes_21 ?_
      refine fx_ialdv (v := (nI (u))) ((6 * g) + j) dMO_assumes_22 rfl rfl (by omega) (by decide) (u1) ?_
      refine sd_iload_n dMO_assumes_23 rfl rfl ?_
      refine nn_icmp_ne 29 dMO_assumes_24 (by decide) (by omega) (by omega) (fun c24 => ?_) (fun c24 => ?_)
      ·
        refine nn_iinc 1 dMO_assumes_29 rfl (by decide) ?_
        refine sd_goto 2 dMO_assumes_32 (by decide) ?_
        refine sd_locp (al' := [(0, .ref (o + (0))), (1, .int (nI (g))), (2, .int (nI (t))), (3, .int (nI (j + 1)))]) [1, 2, 3, 0] rfl ?_
        exact ih (j + 1) (by omega) (by rw [hv]; constructor; intro h; exact h.resolve_left (by omega); intro h; exact Or.inr h)
      ·
        refine sd_iconst (v := nI 1) dMO_assumes_27 (by decide) ?_
        obtain rfl : v = 1 := hv.mpr (Or.inl (by omega))
        exact sd_zret dMO_assumes_28 rfl (Or.inr rfl) (Nat.le_refl _) (Nat.le_refl _) ⟨rfl, rfl, rfl⟩
theorem c_MO_assumesL {G : sd_G} {o : Nat} {D : fx_D} {h0 : sd_H} {nx v g t : Nat} {hs : List Nat} (g3 : g < 30) (g4 : D.1 14 g = nI hs.length) (g5 : hs.length ≤ 6) (g6 : ∀ (k u : Nat), hs[k]? = some u → D.1 15 (6 * g + k) = nI u ∧ u < 2 ^ 30) (ht : t < 2 ^ 30) (hv2 : v < 2) (hv : v = 1 ↔ t ∈ hs) : sd_Ct G mMO_assumes 0 0 0 [.ref (o + 0), .int (nI g), .int (nI t)] (fx_h G.1.2 mo_S o D h0) nx (sd_is (some (.int (nI v))) (fx_h G.1.2 mo_S o D h0) nx) := by
  refine sd_Ct_of (by decide) (Nat.le_of_ble_eq_true rfl) ?_
  refine sd_iconst (v := nI 0) dMO_assumes_0 (by decide) ?_
  refine sd_istore_n dMO_assumes_1 rfl (by decide) ?_
  refine sd_locp (al' := [(0, .ref (o + (0))), (1, .int (nI (g))), (2, .int (nI (t))), (3, .int (nI (0)))]) [1, 2, 3, 0] rfl ?_
  exact l_MO_assumesL g3 g4 g5 g6 ht hv2 hs.length 0 (by omega) (by rw [List.drop_zero]; exact hv)
/-- D' differs from D where child writes -/
def mo_fk (D D' : fx_D) : Prop := (∀ x, x ≠ 13 → x ≠ 14 → x ≠ 15 → x ≠ 16 → x ≠ 20 → D'.1 x = D.1 x) ∧ (∀ x j, ¬ (x = 0 ∧ j = 27) → D'.2.1 x j = D.2.1 x j) ∧ D'.2.2 = D.2.2
theorem mo_fk.fg {D D' : fx_D} (h : mo_fk D D') : mo_fg D D' := ⟨fun x hx => h.1 x (by omega) (by omega) (by omega) (by omega) (by omega), fun x j hj => h.2.1 x j (fun z => by obtain ⟨rfl, rfl⟩ := z; exact hj ⟨rfl, by omega, by omega⟩), h.2.2⟩
theorem ch_gl {D D' : fx_D} {L : List st_Gl} {q : st_Gl} (hL : mo_gl D L) (h30 : L.length < 30) (e27 : D'.2.1 0 27 = nI (L.length + 1)) (same : ∀ i, i < L.length → D'.1 13 i = D.1 13 i ∧ D'.1 14 i = D.1 14 i ∧ D'.1 16 i = D.1 16 i ∧ D'.1 17 i = D.1 17 i ∧ D'.1 18 i = D.1 18 i ∧ D'.1 19 i = D.1 19 i) (s15 : ∀ i, i < 6 * L.length → D'.1 15 i = D.1 15 i) (q1 : D'.1 13 L.length = nI q.1) (q2 : D'.1 14 L.length = nI q.2.1.length) (q3 : q.2.1.length ≤ 6) (q4 : ∀ (k u : Nat), q.2.1[k]? = some u → D'.1 15 (6 * L.length + k) = nI u) (q5 : D'.1 16 L.length = -1) (q6 : q.2.2 = none) : mo_gl D' (L ++ [q]) := by
  refine ⟨by simp; omega, by rw [e27, List.length_append]; rfl, fun g p hg => ?_⟩
  by_cases hlt : g < L.length
  · rw [List.getElem?_append_left hlt] at hg
    obtain ⟨s1, s2, s3, s4, s5, s6⟩ := same g hlt
    obtain ⟨a1, a2, a3, a4, a5⟩ := hL.2.2 g p hg
    refine ⟨by rw [s1]; exact a1, by rw [s2]; exact a2, a3, fun k t hk => ?_, ?_⟩
    · have := getE_lt hk
      rw [s15 _ (by omega)]
      exact a4 k t hk
    · rw [s3, s4, s5, s6]
      exact a5
  · have hgl := getE_lt hg
    rw [List.length_append, List.length_singleton] at hgl
    obtain rfl : g = L.length := by omega
    rw [List.getElem?_append_right (Nat.le_refl _), Nat.sub_self] at hg
    cases hg
    refine ⟨q1, q2, q3, q4, ?_⟩
    rw [q6]
    exact q5
theorem dMO_child_0 : decode prog_13_method_63_code 0 = .ok (.aload_n 0, 1) := by decide +kernel
theorem dMO_child_1 : decode prog_13_method_63_code 1 = .ok (.dup, 1) := by decide +kernel
theorem dMO_child_2 : decode prog_13_method_63_code 2 = .ok (.getfield 270, 3) := by decide +kernel
theorem dMO_child_5 : decode prog_13_method_63_code 5 = .ok (.dup_x1, 1) := by decide +kernel
theorem dMO_child_6 : decode prog_13_method_63_code 6 = .ok (.iconst 1, 1) := by decide +kernel
theorem dMO_child_7 : decode prog_13_method_63_code 7 = .ok (.iadd, 1) := by decide +kernel
theorem dMO_child_8 : decode prog_13_method_63_code 8 = .ok (.putfield 270, 3) := by decide +kernel
theorem dMO_child_11 : decode prog_13_method_63_code 11 = .ok (.istore 5, 2) := by decide +kernel
theorem dMO_child_13 : decode prog_13_method_63_code 13 = .ok (.aload_n 0, 1) := by decide +kernel
theorem dMO_child_14 : decode prog_13_method_63_code 14 = .ok (.getfield 46, 3) := by decide +kernel
theorem dMO_child_17 : decode prog_13_method_63_code 17 = .ok (.iload 5, 2) := by decide +kernel
theorem dMO_child_19 : decode prog_13_method_63_code 19 = .ok (.iload_n 3, 1) := by decide +kernel
theorem dMO_child_20 : decode prog_13_method_63_code 20 = .ok (.iastore, 1) := by decide +kernel
theorem dMO_child_21 : decode prog_13_method_63_code 21 = .ok (.aload_n 0, 1) := by decide +kernel
theorem dMO_child_22 : decode prog_13_method_63_code 22 = .ok (.getfield 55, 3) := by decide +kernel
theorem dMO_child_25 : decode prog_13_method_63_code 25 = .ok (.iload 5, 2) := by decide +kernel
theorem dMO_child_27 : decode prog_13_method_63_code 27 = .ok (.iconst (-1), 1) := by decide +kernel
theorem dMO_child_28 : decode prog_13_method_63_code 28 = .ok (.iastore, 1) := by decide +kernel
theorem dMO_child_29 : decode prog_13_method_63_code 29 = .ok (.aload_n 0, 1) := by decide +kernel
theorem dMO_child_30 : decode prog_13_method_63_code 30 = .ok (.getfield 49, 3) := by decide +kernel
theorem dMO_child_33 : decode prog_13_method_63_code 33 = .ok (.iload 5, 2) := by decide +kernel
theorem dMO_child_35 : decode prog_13_method_63_code 35 = .ok (.aload_n 0, 1) := by decide +kernel
theorem dMO_child_36 : decode prog_13_method_63_code 36 = .ok (.getfield 49, 3) := by decide +kernel
theorem dMO_child_39 : decode prog_13_method_63_code 39 = .ok (.iload_n 1, 1) := by decide +kernel
theorem dMO_child_40 : decode prog_13_method_63_code 40 = .ok (.iaload, 1) := by decide +kernel
theorem dMO_child_41 : decode prog_13_method_63_code 41 = .ok (.iastore, 1) := by decide +kernel
theorem dMO_child_42 : decode prog_13_method_63_code 42 = .ok (.iconst 0, 1) := by decide +kernel
theorem dMO_child_43 : decode prog_13_method_63_code 43 = .ok (.istore 6, 2) := by decide +kernel
theorem dMO_child_45 : decode prog_13_method_63_code 45 = .ok (.iload 6, 2) := by decide +kernel
theorem dMO_child_47 : decode prog_13_method_63_code 47 = .ok (.aload_n 0, 1) := by decide +kernel
theorem dMO_child_48 : decode prog_13_method_63_code 48 = .ok (.getfield 49, 3) := by decide +kernel
theorem dMO_child_51 : decode prog_13_method_63_code 51 = .ok (.iload_n 1, 1) := by decide +kernel
theorem dMO_child_52 : decode prog_13_method_63_code 52 = .ok (.iaload, 1) := by decide +kernel
theorem dMO_child_53 : decode prog_13_method_63_code 53 = .ok (.if_icmp .ge (34), 3) := by decide +kernel
theorem dMO_child_56 : decode prog_13_method_63_code 56 = .ok (.aload_n 0, 1) := by decide +kernel
theorem dMO_child_57 : decode prog_13_method_63_code 57 = .ok (.getfield 52, 3) := by decide +kernel
theorem dMO_child_60 : decode prog_13_method_63_code 60 = .ok (.bipush (6), 2) := by decide +kernel
theorem dMO_child_62 : decode prog_13_method_63_code 62 = .ok (.iload 5, 2) := by decide +kernel
theorem dMO_child_64 : decode prog_13_method_63_code 64 = .ok (.imul, 1) := by decide +kernel
theorem dMO_child_65 : decode prog_13_method_63_code 65 = .ok (.iload 6, 2) := by decide +kernel
theorem dMO_child_67 : decode prog_13_method_63_code 67 = .ok (.iadd, 1) := by decide +kernel
theorem dMO_child_68 : decode prog_13_method_63_code 68 = .ok (.aload_n 0, 1) := by decide +kernel
theorem dMO_child_69 : decode prog_13_method_63_code 69 = .ok (.getfield 52, 3) := by decide +kernel
theorem dMO_child_72 : decode prog_13_method_63_code 72 = .ok (.bipush (6), 2) := by decide +kernel
theorem dMO_child_74 : decode prog_13_method_63_code 74 = .ok (.iload_n 1, 1) := by decide +kernel
theorem dMO_child_75 : decode prog_13_method_63_code 75 = .ok (.imul, 1) := by decide +kernel
theorem dMO_child_76 : decode prog_13_method_63_code 76 = .ok (.iload 6, 2) := by decide +kernel
theorem dMO_child_78 : decode prog_13_method_63_code 78 = .ok (.iadd, 1) := by decide +kernel
theorem dMO_child_79 : decode prog_13_method_63_code 79 = .ok (.iaload, 1) := by decide +kernel
theorem dMO_child_80 : decode prog_13_method_63_code 80 = .ok (.iastore, 1) := by decide +kernel
theorem dMO_child_81 : decode prog_13_method_63_code 81 = .ok (.iinc 6 (1), 3) := by decide +kernel
theorem dMO_child_84 : decode prog_13_method_63_code 84 = .ok (.goto (-39), 3) := by decide +kernel
theorem dMO_child_87 : decode prog_13_method_63_code 87 = .ok (.iload 4, 2) := by decide +kernel
theorem dMO_child_89 : decode prog_13_method_63_code 89 = .ok (.ifCond .lt (38), 3) := by decide +kernel
theorem dMO_child_92 : decode prog_13_method_63_code 92 = .ok (.aload_n 0, 1) := by decide +kernel
theorem dMO_child_93 : decode prog_13_method_63_code 93 = .ok (.iload_n 1, 1) := by decide +kernel
theorem dMO_child_94 : decode prog_13_method_63_code 94 = .ok (.iload 4, 2) := by decide +kernel
theorem dMO_child_96 : decode prog_13_method_63_code 96 = .ok (.invokevirtual 278, 3) := by decide +kernel
theorem dMO_child_99 : decode prog_13_method_63_code 99 = .ok (.ifCond .ne (28), 3) := by decide +kernel
theorem dMO_child_102 : decode prog_13_method_63_code 102 = .ok (.aload_n 0, 1) := by decide +kernel
theorem dMO_child_103 : decode prog_13_method_63_code 103 = .ok (.getfield 52, 3) := by decide +kernel
theorem dMO_child_106 : decode prog_13_method_63_code 106 = .ok (.bipush (6), 2) := by decide +kernel
theorem dMO_child_108 : decode prog_13_method_63_code 108 = .ok (.iload 5, 2) := by decide +kernel
theorem dMO_child_110 : decode prog_13_method_63_code 110 = .ok (.imul, 1) := by decide +kernel
theorem dMO_child_111 : decode prog_13_method_63_code 111 = .ok (.aload_n 0, 1) := by decide +kernel
theorem dMO_child_112 : decode prog_13_method_63_code 112 = .ok (.getfield 49, 3) := by decide +kernel
theorem dMO_child_115 : decode prog_13_method_63_code 115 = .ok (.iload 5, 2) := by decide +kernel
theorem dMO_child_117 : decode prog_13_method_63_code 117 = .ok (.dup2, 1) := by decide +kernel
theorem dMO_child_118 : decode prog_13_method_63_code 118 = .ok (.iaload, 1) := by decide +kernel
theorem dMO_child_119 : decode prog_13_method_63_code 119 = .ok (.dup_x2, 1) := by decide +kernel
theorem dMO_child_120 : decode prog_13_method_63_code 120 = .ok (.iconst 1, 1) := by decide +kernel
theorem dMO_child_121 : decode prog_13_method_63_code 121 = .ok (.iadd, 1) := by decide +kernel
theorem dMO_child_122 : decode prog_13_method_63_code 122 = .ok (.iastore, 1) := by decide +kernel
theorem dMO_child_123 : decode prog_13_method_63_code 123 = .ok (.iadd, 1) := by decide +kernel
theorem dMO_child_124 : decode prog_13_method_63_code 124 = .ok (.iload 4, 2) := by decide +kernel
theorem dMO_child_126 : decode prog_13_method_63_code 126 = .ok (.iastore, 1) := by decide +kernel
theorem dMO_child_127 : decode prog_13_method_63_code 127 = .ok (.aload_n 0, 1) := by decide +kernel
theorem dMO_child_128 : decode prog_13_method_63_code 128 = .ok (.getfield 67, 3) := by decide +kernel
theorem dMO_child_131 : decode prog_13_method_63_code 131 = .ok (.iload_n 2, 1) := by decide +kernel
theorem dMO_child_132 : decode prog_13_method_63_code 132 = .ok (.iload 5, 2) := by decide +kernel
theorem dMO_child_134 : decode prog_13_method_63_code 134 = .ok (.iastore, 1) := by decide +kernel
theorem dMO_child_135 : decode prog_13_method_63_code 135 = .ok (.return_, 1) := by decide +kernel
theorem l_MO_child {G : sd_G} {o : Nat} {h0 : sd_H} {nx g N place : Nat} {hs : List Nat} {mr : Int32} {Q : sd_Q} (hB : G.2.1 ≤ o) (hgN : g < N) (hN : N < 30) (h6 : hs.length ≤ 6) : ∀ (n j : Nat) (D : fx_D), hs.length = j + n → D.1 14 g = nI hs.length → (∀ (k u : Nat), hs[k]? = some u → D.1 15 (6 * g + k) = nI u) → (∀ (k u : Nat), k < j → hs[k]? = some u → D.1 15 (6 * N + k) = nI u) →
    (∀ D' : fx_D, (∀ x, x ≠ 15 → D'.1 x = D.1 x) → D'.2 = D.2 → (∀ i, i < 6 * N → D'.1 15 i = D.1 15 i) → (∀ (k u : Nat), hs[k]? = some u → D'.1 15 (6 * N + k) = nI u) → sd_W G mMO_child 1 0 0 Q 87 [(0, .ref (o + 0)), (1, .int (nI g)), (2, .int (nI place)), (4, .int mr), (5, .int (nI N))] [] (fx_h G.1.2 mo_S o D' h0) nx 0 0) →
    sd_W G mMO_child 1 0 0 Q 45 [(0, .ref (o + 0)), (1, .int (nI g)), (2, .int (nI place)), (4, .int mr), (5, .int (nI N)), (6, .int (nI j))] [] (fx_h G.1.2 mo_S o D h0) nx 0 0 := by
  intro n
  induction n with
  | zero =>
    intro j D hj a1 a2 a3 K
    refine sd_iload dMO_child_45 rfl ?_
    refine sd_aload_n dMO_child_47 rfl rfl ?_
    refine fx_getr 10 18 (14) dMO_child_48 fMO_49 rfl rfl ?_
    refine sd_iload_n dMO_child_51 rfl rfl ?_
    refine fx_ialdv (v := (nI (hs.length))) (g) dMO_child_52 rfl rfl (by omega) (by decide) (a1) ?_
    refine nn_icmp_ge 87 dMO_child_53 (by decide) (by omega) (by omega) (fun c53 => ?_) (fun c53 => ?_)
    ·
      refine sd_locp (al' := [(0, .ref (o + (0))), (1, .int (nI (g))), (2, .int (nI (place))), (4, .int (mr)), (5, .int (nI (N)))]) [0, 1, 2, 3, 4] rfl ?_
      exact K D (fun _ _ ↦ rfl) rfl (fun _ _ ↦ rfl) (fun k u h ↦ a3 k u (by have := getE_lt h; omega) h)
    ·
      exact absurd c53 (by omega)
  | succ n ih =>
    intro j D hj a1 a2 a3 K
    have hx : hs[j]? = some hs[j] := List.getElem?_eq_getElem (by omega)
    generalize hs[j] = u at hx
    refine sd_iload dMO_child_45 rfl ?_
    refine sd_aload_n dMO_child_47 rfl rfl ?_
    refine fx_getr 10 18 (14) dMO_child_48 fMO_49 rfl rfl ?_
    refine sd_iload_n dMO_child_51 rfl rfl ?_
    refine fx_ialdv (v := (nI (hs.length))) (g) dMO_child_52 rfl rfl (by omega) (by decide) (a1) ?_
    refine nn_icmp_ge 87 dMO_child_53 (by decide) (by omega) (by omega) (fun c53 => ?_) (fun c53 => ?_)
    ·
      exact absurd c53 (by omega)
    ·
      refine sd_aload_n dMO_child_56 rfl rfl ?_
      refine fx_getr 10 19 (15) dMO_child_57 fMO_52 rfl rfl ?_
      refine sd_bipush (v := nI 6) dMO_child_60 (by decide) ?_
      refine sd_iload dMO_child_62 rfl ?_
      refine nn_imul dMO_child_64 ?_
      refine sd_iload dMO_child_65 rfl ?_
      refine nn_iadd dMO_child_67 ?_
      refine sd_aload_n dMO_child_68 rfl rfl ?_
      refine fx_getr 10 19 (15) dMO_child_69 fMO_52 rfl rfl ?_
      refine sd_bipush (v := nI 6) dMO_child_72 (by decide) ?_
      refine sd_iload_n dMO_child_74 rfl rfl ?_
      refine nn_imul dMO_child_75 ?_
      refine sd_iload dMO_child_76 rfl ?_
      refine nn_iadd dMO_child_78 ?_
      refine fx_ialdv (v := (nI (u))) ((6 * g) + j) dMO_child_79 rfl rfl (by omega) (by decide) (a2 j u hx) ?_
      refine fx_iast ((6 * N) + j) dMO_child_80 rfl rfl (by omega) (by decide) hB ?_
      refine nn_iinc 1 dMO_child_81 rfl (by decide) ?_
      refine sd_goto 45 dMO_child_84 (by decide) ?_
      refine sd_locp (al' := [(0, .ref (o + (0))), (1, .int (nI (g))), (2, .int (nI (place))), (4, .int (mr)), (5, .int (nI (N))), (6, .int (nI (j + 1)))]) [1, 2, 3, 4, 5, 0] rfl ?_
      refine ih (j + 1) _ (by omega) (by simpa [fx_ua] using a1) (fun k w hw ↦ ?_) (fun k w hk hw ↦ ?_) (fun D' b1 b2 b3 b4 ↦ K D' (fun x hx ↦ (b1 x hx).trans (by simp [fx_ua, hx])) (b2.trans rfl) (fun i hi ↦ (b3 i hi).trans (by simp [fx_ua, upd, show ¬ i = 6 * N + j by omega])) b4)
      · have hk := getE_lt hw
        simp only [fx_ua, if_true, upd, show ¬ (6 * g + k = 6 * N + j) by omega, if_false]
        exact a2 k w hw
      · by_cases e : k = j
        · subst e
          rw [hx] at hw
          cases hw
          simp [fx_ua, upd]
        · simp only [fx_ua, if_true, upd, show ¬ (6 * N + k = 6 * N + j) by omega, if_false]
          exact a3 k w (by omega) hw
/-- behind child's beginning -/
def ch_Q (D : fx_D) (N t : Nat) (hs : List Nat) (D' : fx_D) : Prop := (∀ x, x ≠ 13 → x ≠ 14 → x ≠ 15 → x ≠ 16 → D'.1 x = D.1 x) ∧ (∀ x j, ¬ (x = 0 ∧ j = 27) → D'.2.1 x j = D.2.1 x j) ∧ D'.2.2 = D.2.2 ∧ D'.2.1 0 27 = nI (N + 1) ∧ (∀ i, i ≠ N → D'.1 13 i = D.1 13 i ∧ D'.1 14 i = D.1 14 i ∧ D'.1 16 i = D.1 16 i) ∧ D'.1 13 N = nI t ∧ D'.1 14 N = nI hs.length ∧ D'.1 16 N = -1 ∧ (∀ i, i < 6 * N → D'.1 15 i = D.1 15 i) ∧ (∀ (k u : Nat), hs[k]? = some u → D'.1 15 (6 * N + k) = nI u)
theorem h_MO_child {G : sd_G} {o : Nat} {D : fx_D} {h0 : sd_H} {nx g t place N : Nat} {hs : List Nat} {mr : Int32} {Q : sd_Q} (hB : G.2.1 ≤ o) (hgN : g < N) (hN : N < 30) (h6 : hs.length ≤ 6) (d27 : D.2.1 0 27 = nI N) (d14 : D.1 14 g = nI hs.length) (d15 : ∀ (k u : Nat), hs[k]? = some u → D.1 15 (6 * g + k) = nI u)
    (K : ∀ D' : fx_D, ch_Q D N t hs D' → sd_W G mMO_child 1 0 0 Q 87 [(0, .ref (o + 0)), (1, .int (nI g)), (2, .int (nI place)), (4, .int mr), (5, .int (nI N))] [] (fx_h G.1.2 mo_S o D' h0) nx 0 0) :
    sd_W G mMO_child 1 0 0 Q 0 [(0, .ref (o + 0)), (1, .int (nI g)), (2, .int (nI place)), (3, .int (nI t)), (4, .int mr)] [] (fx_h G.1.2 mo_S o D h0) nx 0 0 := by
  refine sd_aload_n dMO_child_0 rfl rfl ?_
  refine sd_dup dMO_child_1 rfl ?_
  refine fx_getiv (v := (nI (N))) 10 27 dMO_child_2 fMO_270 rfl rfl (d27) ?_
  refine sd_dup_x1 dMO_child_5 rfl rfl ?_
  refine sd_iconst (v := nI 1) dMO_child_6 (by decide) ?_
  refine nn_iadd dMO_child_7 ?_
  refine fx_puti 10 27 dMO_child_8 fMO_270 rfl rfl rfl rfl hB ?_
  refine sd_istore dMO_child_11 (by decide) ?_
  refine sd_aload_n dMO_child_13 rfl rfl ?_
  refine fx_getr 10 17 (13) dMO_child_14 fMO_46 rfl rfl ?_
  refine sd_iload dMO_child_17 rfl ?_
  refine sd_iload_n dMO_child_19 rfl rfl ?_
  refine fx_iast (N) dMO_child_20 rfl rfl (by omega) (by decide) hB ?_
  refine sd_aload_n dMO_child_21 rfl rfl ?_
  refine fx_getr 10 20 (16) dMO_child_22 fMO_55 rfl rfl ?_
  refine sd_iload dMO_child_25 rfl ?_
  refine sd_iconst (v := (-1)) dMO_child_27 (by decide) ?_
  refine fx_iast (N) dMO_child_28 rfl rfl (by omega) (by decide) hB ?_
  refine sd_aload_n dMO_child_29 rfl rfl ?_
  refine fx_getr 10 18 (14) dMO_child_30 fMO_49 rfl rfl ?_
  refine sd_iload dMO_child_33 rfl ?_
  refine sd_aload_n dMO_child_35 rfl rfl ?_
  refine fx_getr 10 18 (14) dMO_child_36 fMO_49 rfl rfl ?_
  refine sd_iload_n dMO_child_39 rfl rfl ?_
  refine fx_ialdv (v := (nI (hs.length))) (g) dMO_child_40 rfl rfl (by omega) (by decide) ((by simpa [fx_ua, fx_uf] using d14)) ?_
  refine fx_iast (N) dMO_child_41 rfl rfl (by omega) (by decide) hB ?_
  refine sd_iconst (v := nI 0) dMO_child_42 (by decide) ?_
  refine sd_istore dMO_child_43 (by decide) ?_
  refine sd_locp (al' := [(0, .ref (o + (0))), (1, .int (nI (g))), (2, .int (nI (place))), (4, .int (mr)), (5, .int (nI (N))), (6, .int (nI (0)))]) [2, 3, 4, 6, 1, 0] rfl ?_
  refine l_MO_child hB hgN hN h6 hs.length 0 _ (by omega) (by simp [fx_ua, fx_uf, upd, show ¬ g = N by omega, d14]) (fun k u h ↦ by simpa [fx_ua, fx_uf] using d15 k u h) (fun k u h ↦ absurd h (by omega)) (fun D' b1 b2 b3 b4 ↦ K D' ⟨fun x e1 e2 e3 e4 ↦ (b1 x e3).trans (by simp [fx_ua, fx_uf, e1, e2, e4]), fun x j hj ↦ ?_, ?_, ?_, fun i hi ↦ ⟨?_, ?_, ?_⟩, ?_, ?_, ?_, fun i hi ↦ (b3 i hi).trans (by simp [fx_ua, fx_uf]), b4⟩)
  · rw [b2]
    by_cases hx0 : x = 0
    · subst hx0
      have hj2 : ¬ j = 27 := fun e => hj ⟨rfl, e⟩
      simp [fx_ua, fx_uf, upd, hj2]
    · simp [fx_ua, fx_uf, hx0]
  · rw [b2]
    rfl
  · rw [b2]
    simp [fx_ua, fx_uf, upd]
  · rw [b1 13 (by decide)]
    simp [fx_ua, fx_uf, upd, hi]
  · rw [b1 14 (by decide)]
    simp [fx_ua, fx_uf, upd, hi]
  · rw [b1 16 (by decide)]
    simp [fx_ua, fx_uf, upd, hi]
  · rw [b1 13 (by decide)]
    simp [fx_ua, fx_uf, upd]
  · rw [b1 14 (by decide)]
    simp [fx_ua, fx_uf, upd]
  · rw [b1 16 (by decide)]
    simp [fx_ua, fx_uf, upd]
/-- behind child -/
def ch_P (D : fx_D) (L : List st_Gl) (q : st_Gl) (place : Nat) (D' : fx_D) : Prop := mo_gl D' (L ++ [q]) ∧ (∀ i, D'.1 20 i = if i = place then nI L.length else D.1 20 i) ∧ mo_fk D D'
theorem ch_Q.P {D D' : fx_D} {L : List st_Gl} {t place : Nat} {hs : List Nat} (hL : mo_gl D L) (h30 : L.length < 30) (h6 : hs.length ≤ 6) (h : ch_Q D L.length t hs D') : ch_P D L (t, hs, none) place (fx_ua D' 20 place (nI L.length)) := by
  obtain ⟨h1, h2, h3, h4, h5, e6, e7, e8, e9, e10⟩ := h
  refine ⟨ch_gl hL h30 h4 (fun i hi => ?_) e9 e6 e7 h6 e10 e8 rfl, fun i => ?_, fun x a b c d e => ?_, h2, h3⟩
  · obtain ⟨i1, i2, i3⟩ := h5 i (by omega)
    exact ⟨i1, i2, i3, congrFun (h1 17 (by decide) (by decide) (by decide) (by decide)) i, congrFun (h1 18 (by decide) (by decide) (by decide) (by decide)) i, congrFun (h1 19 (by decide) (by decide) (by decide) (by decide)) i⟩
  · simp only [fx_ua, if_true, upd, h1 20 (by decide) (by decide) (by decide) (by decide)]
  · simp only [fx_ua, e, if_false]
    exact h1 x a b c d
theorem ch_Q.P2 {D D' : fx_D} {L : List st_Gl} {t place m : Nat} {hs : List Nat} (hL : mo_gl D L) (h30 : L.length < 30) (h6 : hs.length < 6) (h : ch_Q D L.length t hs D') : ch_P D L (t, hs ++ [m], none) place (fx_ua (fx_ua (fx_ua D' 14 L.length (nI (hs.length + 1))) 15 (6 * L.length + hs.length) (nI m)) 20 place (nI L.length)) := by
  obtain ⟨h1, h2, h3, h4, h5, e6, e7, e8, e9, e10⟩ := h
  refine ⟨ch_gl hL h30 h4 (fun i hi => ?_) (fun i hi => ?_) ?_ ?_ (by simp; omega) (fun k u hk => ?_) ?_ rfl, fun i => ?_, fun x a b c d e => ?_, h2, h3⟩
  · obtain ⟨i1, i2, i3⟩ := h5 i (by omega)
    have hne : ¬ i = L.length := by omega
    simp only [fx_ua, upd, hne, if_true, if_false, show ¬ (13 : Nat) = 20 by decide, show ¬ (13 : Nat) = 15 by decide, show ¬ (13 : Nat) = 14 by decide, show ¬ (14 : Nat) = 20 by decide, show ¬ (14 : Nat) = 15 by decide, show ¬ (16 : Nat) = 20 by decide, show ¬ (16 : Nat) = 15 by decide, show ¬ (16 : Nat) = 14 by decide, show ¬ (17 : Nat) = 20 by decide, show ¬ (17 : Nat) = 15 by decide, show ¬ (17 : Nat) = 14 by decide, show ¬ (18 : Nat) = 20 by decide, show ¬ (18 : Nat) = 15 by decide, show ¬ (18 : Nat) = 14 by decide, show ¬ (19 : Nat) = 20 by decide, show ¬ (19 : Nat) = 15 by decide, show ¬ (19 : Nat) = 14 by decide]
    exact ⟨i1, i2, i3, congrFun (h1 17 (by decide) (by decide) (by decide) (by decide)) i, congrFun (h1 18 (by decide) (by decide) (by decide) (by decide)) i, congrFun (h1 19 (by decide) (by decide) (by decide) (by decide)) i⟩
  · simp only [fx_ua, upd, if_true, if_false, show ¬ (15 : Nat) = 20 by decide, show ¬ (15 : Nat) = 14 by decide, show ¬ i = 6 * L.length + hs.length by omega]
    exact e9 i hi
  · simpa [fx_ua] using e6
  · simp [fx_ua, upd]
  · simp only [fx_ua, upd, if_true, if_false, show ¬ (15 : Nat) = 20 by decide, show ¬ (15 : Nat) = 14 by decide]
    by_cases hlt : k < hs.length
    · rw [if_neg (by omega)]
      rw [List.getElem?_append_left hlt] at hk
      exact e10 k u hk
    · have hkl := getE_lt hk
      rw [List.length_append, List.length_singleton] at hkl
      obtain rfl : k = hs.length := by omega
      rw [List.getElem?_append_right (Nat.le_refl _), Nat.sub_self] at hk
      cases hk
      rw [if_pos rfl]
  · simpa [fx_ua] using e8
  · simp only [fx_ua, upd, if_true, if_false, show ¬ (20 : Nat) = 15 by decide, show ¬ (20 : Nat) = 14 by decide, h1 20 (by decide) (by decide) (by decide) (by decide)]
  · simp only [fx_ua, b, c, e, if_false]
    exact h1 x a b c d
theorem c_MO_childN {G : sd_G} {o : Nat} {D : fx_D} {h0 : sd_H} {nx g t place : Nat} {L : List st_Gl} {q : st_Gl} (hB : G.2.1 ≤ o) (hL : mo_gl D L) (h30 : L.length < 30) (hq : L[g]? = some q) (hp : place < 30) : sd_Ct G mMO_child 1 0 0 [.ref (o + 0), .int (nI g), .int (nI place), .int (nI t), .int (-1)] (fx_h G.1.2 mo_S o D h0) nx (fx_is G.1.2 mo_S o h0 nx none (ch_P D L (t, q.2.1, none) place)) := by
  obtain ⟨a1, a2, a3, a4, -⟩ := hL.2.2 g q hq
  have hg := getE_lt hq
  refine sd_Ct_of (by decide) (Nat.le_of_ble_eq_true rfl) (h_MO_child hB hg h30 a3 hL.2.1 a2 a4 (fun D' hD' => ?_))
  refine sd_iload dMO_child_87 rfl ?_
  refine sd_if_lt 127 dMO_child_89 (by decide) (fun c89 => ?_) (fun c89 => ?_)
  ·
    refine sd_aload_n dMO_child_127 rfl rfl ?_
    refine fx_getr 10 24 (20) dMO_child_128 fMO_67 rfl rfl ?_
    refine sd_iload_n dMO_child_131 rfl rfl ?_
    refine sd_iload dMO_child_132 rfl ?_
    refine fx_iast (place) dMO_child_134 rfl rfl (by omega) (by decide) hB ?_
    exact sd_vret dMO_child_135 rfl (Nat.le_refl _) (Nat.le_refl _) ⟨rfl, rfl, _, rfl, ch_Q.P hL h30 a3 hD'⟩
  ·
    exact absurd (show (-1 : Int32) < 0 by decide) c89
theorem c_MO_childM {G : sd_G} {o : Nat} {D : fx_D} {h0 : sd_H} {nx g t place m : Nat} {L : List st_Gl} {q : st_Gl} (hB : G.2.1 ≤ o) (hL : mo_gl D L) (h30 : L.length < 30) (hq : L[g]? = some q) (hqs : ∀ u ∈ q.2.1, u < 2 ^ 30) (hp : place < 30) (hm : m < 2 ^ 30) (h6 : (ls_h q.2.1 m).length ≤ 6) : sd_Ct G mMO_child 1 0 0 [.ref (o + 0), .int (nI g), .int (nI place), .int (nI t), .int (nI m)] (fx_h G.1.2 mo_S o D h0) nx (fx_is G.1.2 mo_S o h0 nx none (ch_P D L (t, ls_h q.2.1 m, none) place)) := by
  obtain ⟨a1, a2, a3, a4, -⟩ := hL.2.2 g q hq
  have hg := getE_lt hq
  refine sd_Ct_of (by decide) (Nat.le_of_ble_eq_true rfl) (h_MO_child hB hg h30 a3 hL.2.1 a2 a4 (fun D' hD' => ?_))
  obtain ⟨w, w2, w1⟩ := bw_b (m ∈ q.2.1)
  have b14 : D'.1 14 g = nI q.2.1.length := by rw [(hD'.2.2.2.2.1 g (by omega)).2.1]; exact a2
  have b15 : ∀ (k u : Nat), q.2.1[k]? = some u → D'.1 15 (6 * g + k) = nI u ∧ u < 2 ^ 30 := fun k u hk => ⟨by
    have := getE_lt hk
    rw [hD'.2.2.2.2.2.2.2.2.1 _ (by omega)]
    exact a4 k u hk, hqs u (List.mem_of_getElem? hk)⟩
  have b14N := hD'.2.2.2.2.2.2.1
  by_cases hin : m ∈ q.2.1
  · have e : ls_h q.2.1 m = q.2.1 := by unfold ls_h; rw [if_pos hin]
    rw [e]
    obtain rfl : w = 1 := w1.mpr hin
    refine sd_iload dMO_child_87 rfl ?_
    refine nn_if_lt dMO_child_89 127 (by decide) (by omega) ?_
    refine sd_aload_n dMO_child_92 rfl rfl ?_
    refine sd_iload_n dMO_child_93 rfl rfl ?_
    refine sd_iload dMO_child_94 rfl ?_
    refine fx_cV 10 sR_MO [.int (nI (g)), .int (nI (m))] [] dMO_child_96 kMO_278 rfl rfl mMO_assumes_v (c_MO_assumesL (by omega) b14 a3 b15 hm w2 w1) (by decide) (Nat.le_refl _) (Nat.le_refl _) (Nat.le_of_ble_eq_true rfl) rfl ?_
    refine nn_if_ne 127 dMO_child_99 (by decide) (by decide) (fun _ => ?_) (fun c => absurd c (by decide))
    refine sd_aload_n dMO_child_127 rfl rfl ?_
    refine fx_getr 10 24 (20) dMO_child_128 fMO_67 rfl rfl ?_
    refine sd_iload_n dMO_child_131 rfl rfl ?_
    refine sd_iload dMO_child_132 rfl ?_
    refine fx_iast (place) dMO_child_134 rfl rfl (by omega) (by decide) hB ?_
    exact sd_vret dMO_child_135 rfl (Nat.le_refl _) (Nat.le_refl _) ⟨rfl, rfl, _, rfl, ch_Q.P hL h30 a3 hD'⟩
  · have e : ls_h q.2.1 m = q.2.1 ++ [m] := by unfold ls_h; rw [if_neg hin]
    rw [e] at h6 ⊢
    rw [List.length_append, List.length_singleton] at h6
    obtain rfl : w = 0 := by
      have : ¬ w = 1 := fun z => hin (w1.mp z)
      omega
    refine sd_iload dMO_child_87 rfl ?_
    refine nn_if_lt dMO_child_89 127 (by decide) (by omega) ?_
    refine sd_aload_n dMO_child_92 rfl rfl ?_
    refine sd_iload_n dMO_child_93 rfl rfl ?_
    refine sd_iload dMO_child_94 rfl ?_
    refine fx_cV 10 sR_MO [.int (nI (g)), .int (nI (m))] [] dMO_child_96 kMO_278 rfl rfl mMO_assumes_v (c_MO_assumesL (by omega) b14 a3 b15 hm w2 w1) (by decide) (Nat.le_refl _) (Nat.le_refl _) (Nat.le_of_ble_eq_true rfl) rfl ?_
    refine nn_if_ne 127 dMO_child_99 (by decide) (by decide) (fun c => absurd c (by decide)) (fun _ => ?_)
    refine sd_aload_n dMO_child_102 rfl rfl ?_
    refine fx_getr 10 19 (15) dMO_child_103 fMO_52 rfl rfl ?_
    refine sd_bipush (v := nI 6) dMO_child_106 (by decide) ?_
    refine sd_iload dMO_child_108 rfl ?_
    refine nn_imul dMO_child_110 ?_
    refine sd_aload_n dMO_child_111 rfl rfl ?_
    refine fx_getr 10 18 (14) dMO_child_112 fMO_49 rfl rfl ?_
    refine sd_iload dMO_child_115 rfl ?_
    refine sd_dup2_11 dMO_child_117 rfl rfl ?_
    refine fx_ialdv (v := (nI (q.2.1.length))) (L.length) dMO_child_118 rfl rfl (by omega) (by decide) (b14N) ?_
    refine sd_dup_x2 dMO_child_119 rfl rfl rfl ?_
    refine sd_iconst (v := nI 1) dMO_child_120 (by decide) ?_
    refine nn_iadd dMO_child_121 ?_
    refine fx_iast (L.length) dMO_child_122 rfl rfl (by omega) (by decide) hB ?_
    refine nn_iadd dMO_child_123 ?_
    refine sd_iload dMO_child_124 rfl ?_
    refine fx_iast ((6 * L.length) + q.2.1.length) dMO_child_126 rfl rfl (by omega) (by decide) hB ?_
    refine sd_aload_n dMO_child_127 rfl rfl ?_
    refine fx_getr 10 24 (20) dMO_child_128 fMO_67 rfl rfl ?_
    refine sd_iload_n dMO_child_131 rfl rfl ?_
    refine sd_iload dMO_child_132 rfl ?_
    refine fx_iast (place) dMO_child_134 rfl rfl (by omega) (by decide) hB ?_
    exact sd_vret dMO_child_135 rfl (Nat.le_refl _) (Nat.le_refl _) ⟨rfl, rfl, _, rfl, ch_Q.P2 hL h30 (by omega) hD'⟩
