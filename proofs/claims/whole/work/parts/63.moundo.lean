/-! ===== the model: undo ===== -/
/-- how many goals a tactic leaves -/
def gk (k : Nat) : Nat := [0, 0, 2, 2, 1, 0, 2, 2, 0].getD k 0
theorem gk_le (k : Nat) : gk k ≤ 2 := by
  unfold gk
  match k with
  | 0 => decide
  | 1 => decide
  | 2 => decide
  | 3 => decide
  | 4 => decide
  | 5 => decide
  | 6 => decide
  | 7 => decide
  | 8 => decide
  | k + 9 => simp
def sp_undo (S : st_S) (ans : Int32) (S' : st_S) : Prop := (st_dn S = [] ∧ ans = -1 ∧ S' = S) ∨ ∃ g dn q w, st_dn S = g :: dn ∧ (st_gl S)[g]? = some q ∧ q.2.2 = some w ∧ ans = nI ((st_op S).length - gk w.1 + 1) ∧ S' = (S.1, S.2.1, S.2.2.1, S.2.2.2.1, ((st_gl S).take ((st_gl S).length - gk w.1)).set g (q.1, q.2.1, none), g :: (st_op S).drop (gk w.1), dn)
/-- what the latest tactic left is open -/
def st_okU (S : st_S) : Prop := ∀ g dn, st_dn S = g :: dn → ∃ q w, (st_gl S)[g]? = some q ∧ q.2.2 = some w ∧ gk w.1 ≤ (st_op S).length
theorem un_gl {D D3 : fx_D} {L : List st_Gl} {g m : Nat} {q : st_Gl} (hL : mo_gl D L) (hq : L[g]? = some q) (s : ∀ x, 13 ≤ x → x ≤ 19 → x ≠ 16 → D3.1 x = D.1 x) (s16 : ∀ i, i ≠ g → D3.1 16 i = D.1 16 i) (e16 : D3.1 16 g = -1) (e27 : D3.2.1 0 27 = nI (L.length - m)) : mo_gl D3 ((L.take (L.length - m)).set g (q.1, q.2.1, none)) := by
  have hl : ((L.take (L.length - m)).set g (q.1, q.2.1, none)).length = L.length - m := by rw [List.length_set, List.length_take]; omega
  refine ⟨by rw [hl]; have := hL.1; omega, by rw [hl]; exact e27, fun i p hi => ?_⟩
  have hil := getE_lt hi
  rw [hl] at hil
  rw [s 13 (by omega) (by omega) (by decide), s 14 (by omega) (by omega) (by decide), s 15 (by omega) (by omega) (by decide), s 17 (by omega) (by omega) (by decide), s 18 (by omega) (by omega) (by decide), s 19 (by omega) (by omega) (by decide)]
  by_cases e : i = g
  · subst e
    rw [List.getElem?_set_self (by rw [List.length_take]; omega)] at hi
    cases hi
    obtain ⟨a1, a2, a3, a4, -⟩ := hL.2.2 i q hq
    exact ⟨a1, a2, a3, a4, e16⟩
  · rw [List.getElem?_set_ne (fun z => e z.symm), List.getElem?_take_of_lt hil] at hi
    rw [s16 i e]
    exact hL.2.2 i p hi
theorem un_dn {D D3 : fx_D} {dn : List Nat} {g : Nat} (h : mo_dn D (g :: dn)) (f1 : D3.1 21 = D.1 21) (f2 : D3.2.1 0 29 = nI dn.length) : mo_dn D3 dn := by
  refine ⟨by have h1 := h.1; rw [List.length_cons] at h1; omega, f2, fun k u hk => ?_⟩
  rw [f1]
  refine h.2.2 k u ?_
  rw [List.reverse_cons, List.getElem?_append_left (getE_lt hk)]
  exact hk
theorem dMO_undo_0 : decode prog_13_method_65_code 0 = .ok (.aload_n 0, 1) := by decide +kernel
theorem dMO_undo_1 : decode prog_13_method_65_code 1 = .ok (.getfield 275, 3) := by decide +kernel
theorem dMO_undo_4 : decode prog_13_method_65_code 4 = .ok (.ifCond .ne (5), 3) := by decide +kernel
theorem dMO_undo_7 : decode prog_13_method_65_code 7 = .ok (.iconst (-1), 1) := by decide +kernel
theorem dMO_undo_8 : decode prog_13_method_65_code 8 = .ok (.ireturn, 1) := by decide +kernel
theorem dMO_undo_9 : decode prog_13_method_65_code 9 = .ok (.aload_n 0, 1) := by decide +kernel
theorem dMO_undo_10 : decode prog_13_method_65_code 10 = .ok (.getfield 70, 3) := by decide +kernel
theorem dMO_undo_13 : decode prog_13_method_65_code 13 = .ok (.aload_n 0, 1) := by decide +kernel
theorem dMO_undo_14 : decode prog_13_method_65_code 14 = .ok (.dup, 1) := by decide +kernel
theorem dMO_undo_15 : decode prog_13_method_65_code 15 = .ok (.getfield 275, 3) := by decide +kernel
theorem dMO_undo_18 : decode prog_13_method_65_code 18 = .ok (.iconst 1, 1) := by decide +kernel
theorem dMO_undo_19 : decode prog_13_method_65_code 19 = .ok (.isub, 1) := by decide +kernel
theorem dMO_undo_20 : decode prog_13_method_65_code 20 = .ok (.dup_x1, 1) := by decide +kernel
theorem dMO_undo_21 : decode prog_13_method_65_code 21 = .ok (.putfield 275, 3) := by decide +kernel
theorem dMO_undo_24 : decode prog_13_method_65_code 24 = .ok (.iaload, 1) := by decide +kernel
theorem dMO_undo_25 : decode prog_13_method_65_code 25 = .ok (.istore_n 1, 1) := by decide +kernel
theorem dMO_undo_26 : decode prog_13_method_65_code 26 = .ok (.aload_n 0, 1) := by decide +kernel
theorem dMO_undo_27 : decode prog_13_method_65_code 27 = .ok (.getfield 64, 3) := by decide +kernel
theorem dMO_undo_30 : decode prog_13_method_65_code 30 = .ok (.iload_n 1, 1) := by decide +kernel
theorem dMO_undo_31 : decode prog_13_method_65_code 31 = .ok (.iaload, 1) := by decide +kernel
theorem dMO_undo_32 : decode prog_13_method_65_code 32 = .ok (.istore_n 2, 1) := by decide +kernel
theorem dMO_undo_33 : decode prog_13_method_65_code 33 = .ok (.iload_n 2, 1) := by decide +kernel
theorem dMO_undo_34 : decode prog_13_method_65_code 34 = .ok (.iconst 2, 1) := by decide +kernel
theorem dMO_undo_35 : decode prog_13_method_65_code 35 = .ok (.if_icmp .ne (35), 3) := by decide +kernel
theorem dMO_undo_38 : decode prog_13_method_65_code 38 = .ok (.iconst 1, 1) := by decide +kernel
theorem dMO_undo_39 : decode prog_13_method_65_code 39 = .ok (.istore_n 3, 1) := by decide +kernel
theorem dMO_undo_40 : decode prog_13_method_65_code 40 = .ok (.iload_n 3, 1) := by decide +kernel
theorem dMO_undo_41 : decode prog_13_method_65_code 41 = .ok (.aload_n 0, 1) := by decide +kernel
theorem dMO_undo_42 : decode prog_13_method_65_code 42 = .ok (.getfield 273, 3) := by decide +kernel
theorem dMO_undo_45 : decode prog_13_method_65_code 45 = .ok (.iconst 1, 1) := by decide +kernel
theorem dMO_undo_46 : decode prog_13_method_65_code 46 = .ok (.isub, 1) := by decide +kernel
theorem dMO_undo_47 : decode prog_13_method_65_code 47 = .ok (.if_icmp .ge (23), 3) := by decide +kernel
theorem dMO_undo_50 : decode prog_13_method_65_code 50 = .ok (.aload_n 0, 1) := by decide +kernel
theorem dMO_undo_51 : decode prog_13_method_65_code 51 = .ok (.getfield 67, 3) := by decide +kernel
theorem dMO_undo_54 : decode prog_13_method_65_code 54 = .ok (.iload_n 3, 1) := by decide +kernel
theorem dMO_undo_55 : decode prog_13_method_65_code 55 = .ok (.aload_n 0, 1) := by decide +kernel
theorem dMO_undo_56 : decode prog_13_method_65_code 56 = .ok (.getfield 67, 3) := by decide +kernel
theorem dMO_undo_59 : decode prog_13_method_65_code 59 = .ok (.iload_n 3, 1) := by decide +kernel
theorem dMO_undo_60 : decode prog_13_method_65_code 60 = .ok (.iconst 1, 1) := by decide +kernel
theorem dMO_undo_61 : decode prog_13_method_65_code 61 = .ok (.iadd, 1) := by decide +kernel
theorem dMO_undo_62 : decode prog_13_method_65_code 62 = .ok (.iaload, 1) := by decide +kernel
theorem dMO_undo_63 : decode prog_13_method_65_code 63 = .ok (.iastore, 1) := by decide +kernel
theorem dMO_undo_64 : decode prog_13_method_65_code 64 = .ok (.iinc 3 (1), 3) := by decide +kernel
theorem dMO_undo_67 : decode prog_13_method_65_code 67 = .ok (.goto (-27), 3) := by decide +kernel
theorem dMO_undo_70 : decode prog_13_method_65_code 70 = .ok (.iload_n 2, 1) := by decide +kernel
theorem dMO_undo_71 : decode prog_13_method_65_code 71 = .ok (.ifCond .ne (32), 3) := by decide +kernel
theorem dMO_undo_74 : decode prog_13_method_65_code 74 = .ok (.aload_n 0, 1) := by decide +kernel
theorem dMO_undo_75 : decode prog_13_method_65_code 75 = .ok (.getfield 273, 3) := by decide +kernel
theorem dMO_undo_78 : decode prog_13_method_65_code 78 = .ok (.istore_n 3, 1) := by decide +kernel
theorem dMO_undo_79 : decode prog_13_method_65_code 79 = .ok (.iload_n 3, 1) := by decide +kernel
theorem dMO_undo_80 : decode prog_13_method_65_code 80 = .ok (.ifCond .le (23), 3) := by decide +kernel
theorem dMO_undo_83 : decode prog_13_method_65_code 83 = .ok (.aload_n 0, 1) := by decide +kernel
theorem dMO_undo_84 : decode prog_13_method_65_code 84 = .ok (.getfield 67, 3) := by decide +kernel
theorem dMO_undo_87 : decode prog_13_method_65_code 87 = .ok (.iload_n 3, 1) := by decide +kernel
theorem dMO_undo_88 : decode prog_13_method_65_code 88 = .ok (.aload_n 0, 1) := by decide +kernel
theorem dMO_undo_89 : decode prog_13_method_65_code 89 = .ok (.getfield 67, 3) := by decide +kernel
theorem dMO_undo_92 : decode prog_13_method_65_code 92 = .ok (.iload_n 3, 1) := by decide +kernel
theorem dMO_undo_93 : decode prog_13_method_65_code 93 = .ok (.iconst 1, 1) := by decide +kernel
theorem dMO_undo_94 : decode prog_13_method_65_code 94 = .ok (.isub, 1) := by decide +kernel
theorem dMO_undo_95 : decode prog_13_method_65_code 95 = .ok (.iaload, 1) := by decide +kernel
theorem dMO_undo_96 : decode prog_13_method_65_code 96 = .ok (.iastore, 1) := by decide +kernel
theorem dMO_undo_97 : decode prog_13_method_65_code 97 = .ok (.iinc 3 (-1), 3) := by decide +kernel
theorem dMO_undo_100 : decode prog_13_method_65_code 100 = .ok (.goto (-21), 3) := by decide +kernel
theorem dMO_undo_103 : decode prog_13_method_65_code 103 = .ok (.aload_n 0, 1) := by decide +kernel
theorem dMO_undo_104 : decode prog_13_method_65_code 104 = .ok (.dup, 1) := by decide +kernel
theorem dMO_undo_105 : decode prog_13_method_65_code 105 = .ok (.getfield 273, 3) := by decide +kernel
theorem dMO_undo_108 : decode prog_13_method_65_code 108 = .ok (.iconst 1, 1) := by decide +kernel
theorem dMO_undo_109 : decode prog_13_method_65_code 109 = .ok (.iload_n 2, 1) := by decide +kernel
theorem dMO_undo_110 : decode prog_13_method_65_code 110 = .ok (.isub, 1) := by decide +kernel
theorem dMO_undo_111 : decode prog_13_method_65_code 111 = .ok (.iadd, 1) := by decide +kernel
theorem dMO_undo_112 : decode prog_13_method_65_code 112 = .ok (.putfield 273, 3) := by decide +kernel
theorem dMO_undo_115 : decode prog_13_method_65_code 115 = .ok (.aload_n 0, 1) := by decide +kernel
theorem dMO_undo_116 : decode prog_13_method_65_code 116 = .ok (.dup, 1) := by decide +kernel
theorem dMO_undo_117 : decode prog_13_method_65_code 117 = .ok (.getfield 270, 3) := by decide +kernel
theorem dMO_undo_120 : decode prog_13_method_65_code 120 = .ok (.iload_n 2, 1) := by decide +kernel
theorem dMO_undo_121 : decode prog_13_method_65_code 121 = .ok (.isub, 1) := by decide +kernel
theorem dMO_undo_122 : decode prog_13_method_65_code 122 = .ok (.putfield 270, 3) := by decide +kernel
theorem dMO_undo_125 : decode prog_13_method_65_code 125 = .ok (.aload_n 0, 1) := by decide +kernel
theorem dMO_undo_126 : decode prog_13_method_65_code 126 = .ok (.getfield 67, 3) := by decide +kernel
theorem dMO_undo_129 : decode prog_13_method_65_code 129 = .ok (.iconst 0, 1) := by decide +kernel
theorem dMO_undo_130 : decode prog_13_method_65_code 130 = .ok (.iload_n 1, 1) := by decide +kernel
theorem dMO_undo_131 : decode prog_13_method_65_code 131 = .ok (.iastore, 1) := by decide +kernel
theorem dMO_undo_132 : decode prog_13_method_65_code 132 = .ok (.aload_n 0, 1) := by decide +kernel
theorem dMO_undo_133 : decode prog_13_method_65_code 133 = .ok (.getfield 55, 3) := by decide +kernel
theorem dMO_undo_136 : decode prog_13_method_65_code 136 = .ok (.iload_n 1, 1) := by decide +kernel
theorem dMO_undo_137 : decode prog_13_method_65_code 137 = .ok (.iconst (-1), 1) := by decide +kernel
theorem dMO_undo_138 : decode prog_13_method_65_code 138 = .ok (.iastore, 1) := by decide +kernel
theorem dMO_undo_139 : decode prog_13_method_65_code 139 = .ok (.aload_n 0, 1) := by decide +kernel
theorem dMO_undo_140 : decode prog_13_method_65_code 140 = .ok (.getfield 273, 3) := by decide +kernel
theorem dMO_undo_143 : decode prog_13_method_65_code 143 = .ok (.ireturn, 1) := by decide +kernel
theorem l_MO_undo2 {G : sd_G} {o : Nat} {h0 : sd_H} {nx g n : Nat} {Q : sd_Q} (hB : G.2.1 ≤ o) (hn : n ≤ 30) (hn2 : 2 ≤ n) : ∀ (m j : Nat) (D : fx_D), n - 1 = j + m → 1 ≤ j → D.2.1 0 28 = nI n → (∀ D' : fx_D, mo_f20 D D' → (∀ i, j ≤ i → i < n - 1 → D'.1 20 i = D.1 20 (i + 1)) → (∀ i, i < j → D'.1 20 i = D.1 20 i) → sd_W G mMO_undo 0 0 0 Q 70 [(0, .ref (o + 0)), (1, .int (nI g)), (2, .int (nI 2))] [] (fx_h G.1.2 mo_S o D' h0) nx 0 0) → sd_W G mMO_undo 0 0 0 Q 40 [(0, .ref (o + 0)), (1, .int (nI g)), (2, .int (nI 2)), (3, .int (nI j))] [] (fx_h G.1.2 mo_S o D h0) nx 0 0 := by
  intro m
  induction m with
  | zero =>
    intro j D hj h1 hf K
    refine sd_iload_n dMO_undo_40 rfl rfl ?_
    refine sd_aload_n dMO_undo_41 rfl rfl ?_
    refine fx_getiv (v := (nI (n))) 10 28 dMO_undo_42 fMO_273 rfl rfl (hf) ?_
    refine sd_iconst (v := nI 1) dMO_undo_45 (by decide) ?_
    refine nn_isub dMO_undo_46 (by omega) ?_
    refine nn_icmp_ge 70 dMO_undo_47 (by decide) (by omega) (by omega) (fun c47 => ?_) (fun c47 => ?_)
    ·
      refine sd_locp (al' := [(0, .ref (o + (0))), (1, .int (nI (g))), (2, .int (nI (2)))]) [0, 1, 2] rfl ?_
      exact K D (mo_f20.rf D) (fun i a b ↦ absurd a (by omega)) (fun i a ↦ rfl)
    ·
      exact absurd c47 (by omega)
  | succ m ih =>
    intro j D hj h1 hf K
    refine sd_iload_n dMO_undo_40 rfl rfl ?_
    refine sd_aload_n dMO_undo_41 rfl rfl ?_
    refine fx_getiv (v := (nI (n))) 10 28 dMO_undo_42 fMO_273 rfl rfl (hf) ?_
    refine sd_iconst (v := nI 1) dMO_undo_45 (by decide) ?_
    refine nn_isub dMO_undo_46 (by omega) ?_
    refine nn_icmp_ge 70 dMO_undo_47 (by decide) (by omega) (by omega) (fun c47 => ?_) (fun c47 => ?_)
    ·
      exact absurd c47 (by omega)
    ·
      refine sd_aload_n dMO_undo_50 rfl rfl ?_
      refine fx_getr 10 24 (20) dMO_undo_51 fMO_67 rfl rfl ?_
      refine sd_iload_n dMO_undo_54 rfl rfl ?_
      refine sd_aload_n dMO_undo_55 rfl rfl ?_
      refine fx_getr 10 24 (20) dMO_undo_56 fMO_67 rfl rfl ?_
      refine sd_iload_n dMO_undo_59 rfl rfl ?_
      refine sd_iconst (v := nI 1) dMO_undo_60 (by decide) ?_
      refine nn_iadd dMO_undo_61 ?_
      refine fx_iald (j + 1) dMO_undo_62 rfl rfl (by omega) (by decide) ?_
      refine fx_iast (j) dMO_undo_63 rfl rfl (by omega) (by decide) hB ?_
      refine nn_iinc 1 dMO_undo_64 rfl (by decide) ?_
      refine sd_goto 40 dMO_undo_67 (by decide) ?_
      refine sd_locp (al' := [(0, .ref (o + (0))), (1, .int (nI (g))), (2, .int (nI (2))), (3, .int (nI (j + 1)))]) [1, 2, 3, 0] rfl ?_
      refine ih (j + 1) _ (by omega) (by omega) hf (fun D' a1 a2 a3 ↦ K D' ((mo_f20.ua D).tr a1) (fun i b1 b2 ↦ ?_) (fun i b1 ↦ ?_))
      · by_cases e : i = j
        · subst e
          rw [a3 _ (by omega), ua_at, if_pos rfl]
        · rw [a2 i (by omega) b2, ua_at, if_neg (by omega)]
      · rw [a3 i (by omega), ua_at, if_neg (by omega)]
theorem l_MO_undo0 {G : sd_G} {o : Nat} {h0 : sd_H} {nx g : Nat} {Q : sd_Q} (hB : G.2.1 ≤ o) : ∀ (j : Nat) (D : fx_D), j < 30 → (∀ D' : fx_D, mo_f20 D D' → (∀ i, 1 ≤ i → i ≤ j → D'.1 20 i = D.1 20 (i - 1)) → (∀ i, j < i → D'.1 20 i = D.1 20 i) → sd_W G mMO_undo 0 0 0 Q 103 [(0, .ref (o + 0)), (1, .int (nI g)), (2, .int (nI 0))] [] (fx_h G.1.2 mo_S o D' h0) nx 0 0) → sd_W G mMO_undo 0 0 0 Q 79 [(0, .ref (o + 0)), (1, .int (nI g)), (2, .int (nI 0)), (3, .int (nI j))] [] (fx_h G.1.2 mo_S o D h0) nx 0 0 := by
  intro j
  induction j with
  | zero =>
    intro D hj K
    refine sd_iload_n dMO_undo_79 rfl rfl ?_
    refine nn_if_le 103 dMO_undo_80 (by decide) (by decide) (fun _ => ?_) (fun c => absurd c (by decide))
    refine sd_locp (al' := [(0, .ref (o + (0))), (1, .int (nI (g))), (2, .int (nI (0)))]) [0, 1, 2] rfl ?_
    exact K D (mo_f20.rf D) (fun i a b ↦ absurd a (by omega)) (fun i a ↦ rfl)
  | succ j ih =>
    intro D hj K
    refine sd_iload_n dMO_undo_79 rfl rfl ?_
    refine nn_if_le 103 dMO_undo_80 (by decide) (by omega) (fun c80 => ?_) (fun c80 => ?_)
    ·
      exact absurd c80 (by omega)
    ·
      refine sd_aload_n dMO_undo_83 rfl rfl ?_
      refine fx_getr 10 24 (20) dMO_undo_84 fMO_67 rfl rfl ?_
      refine sd_iload_n dMO_undo_87 rfl rfl ?_
      refine sd_aload_n dMO_undo_88 rfl rfl ?_
      refine fx_getr 10 24 (20) dMO_undo_89 fMO_67 rfl rfl ?_
      refine sd_iload_n dMO_undo_92 rfl rfl ?_
      refine sd_iconst (v := nI 1) dMO_undo_93 (by decide) ?_
      refine nn_isub dMO_undo_94 (by omega) ?_
      refine fx_iald ((j + 1) - 1) dMO_undo_95 rfl rfl (by omega) (by decide) ?_
      refine fx_iast (j + 1) dMO_undo_96 rfl rfl (by omega) (by decide) hB ?_
      refine nn_idec dMO_undo_97 rfl (by omega) (by decide) ?_
      refine sd_goto 79 dMO_undo_100 (by decide) ?_
      refine sd_locp (al' := [(0, .ref (o + (0))), (1, .int (nI (g))), (2, .int (nI (0))), (3, .int (nI (j + 1 - 1)))]) [1, 2, 3, 0] rfl ?_
      rw [Nat.add_sub_cancel]
      refine ih _ (by omega) (fun D' a1 a2 a3 ↦ K D' ((mo_f20.ua D).tr a1) (fun i b1 b2 ↦ ?_) (fun i b1 ↦ ?_))
      · by_cases e : i = j + 1
        · subst e
          rw [a3 _ (by omega), ua_at, if_pos rfl, Nat.add_sub_cancel]
        · rw [a2 i b1 (by omega), ua_at, if_neg (by omega)]
      · rw [a3 i (by omega), ua_at, if_neg (by omega)]
theorem nn_1m0 {n : Nat} : nI n + (nI 1 - nI 0) = nI (n - 0 + 1) := by
  rw [show nI 1 - nI 0 = nI 1 from by decide, nI_add, Nat.sub_zero]
theorem nn_1m1 {n : Nat} (h : 1 ≤ n) : nI n + (nI 1 - nI 1) = nI (n - 1 + 1) := by
  rw [show nI 1 - nI 1 = 0 from by decide, Int32.add_zero, Nat.sub_add_cancel h]
theorem nn_1m2 {n : Nat} (h : 2 ≤ n) : nI n + (nI 1 - nI 2) = nI (n - 2 + 1) := by
  obtain ⟨m, rfl⟩ : ∃ m, n = m + 2 := ⟨n - 2, by omega⟩
  rw [Nat.add_sub_cancel, ← nI_add, ← nI_add, Int32.add_assoc, show nI 2 + (nI 1 - nI 2) = nI 1 from by decide]
theorem w_MO_undo0 {G : sd_G} {o : Nat} {D D2 : fx_D} {h0 : sd_H} {nx g : Nat} {S : st_S} {q : st_Gl} {dn : List Nat} (hB : G.2.1 ≤ o) (hR : mo_R S D) (hdn : st_dn S = g :: dn) (hq : (st_gl S)[g]? = some q) (hm : 0 ≤ (st_op S).length) (hmN : 0 ≤ (st_gl S).length) (h30 : (st_op S).length < 30) (f1 : ∀ x, x ≠ 20 → D2.1 x = D.1 x) (f2 : ∀ x j, ¬ (x = 0 ∧ j = 29) → D2.2.1 x j = D.2.1 x j) (f3 : D2.2.2 = D.2.2) (f29 : D2.2.1 0 29 = nI dn.length) (f20 : ∀ (i u : Nat), ((st_op S).drop 0)[i]? = some u → D2.1 20 (i + 1) = nI u) : sd_W G mMO_undo 0 0 0 (fx_is G.1.2 mo_S o h0 nx (some (.int (nI ((st_op S).length - 0 + 1)))) (mo_R (S.1, S.2.1, S.2.2.1, S.2.2.2.1, ((st_gl S).take ((st_gl S).length - 0)).set g (q.1, q.2.1, none), g :: (st_op S).drop 0, dn))) 103 [(0, .ref (o + 0)), (1, .int (nI g)), (2, .int (nI 0))] [] (fx_h G.1.2 mo_S o D2 h0) nx 0 0 := by
  have hgl := hR.2.2.2.2.2.1
  have hopd := hR.2.2.2.2.2.2.1
  have hdnd : mo_dn D (g :: dn) := by rw [← hdn]; exact hR.2.2.2.2.2.2.2
  have hgN := getE_lt hq
  have g30 := hgl.1
  have e28 : D2.2.1 0 28 = nI (st_op S).length := by rw [f2 0 28 (by omega)]; exact hopd.2.1
  have e27 : D2.2.1 0 27 = nI (st_gl S).length := by rw [f2 0 27 (by omega)]; exact hgl.2.1
  have ff : mo_fg D D2 := ⟨fun x hx => f1 x (by omega), fun x j hj => f2 x j (fun z => by obtain ⟨rfl, rfl⟩ := z; exact hj ⟨rfl, by omega, by omega⟩), f3⟩
  refine sd_aload_n dMO_undo_103 rfl rfl ?_
  refine sd_dup dMO_undo_104 rfl ?_
  refine fx_getiv (v := (nI ((st_op S).length))) 10 28 dMO_undo_105 fMO_273 rfl rfl (e28) ?_
  refine sd_iconst (v := nI 1) dMO_undo_108 (by decide) ?_
  refine sd_iload_n dMO_undo_109 rfl rfl ?_
  refine sd_isub dMO_undo_110 ?_
  refine sd_iadd dMO_undo_111 ?_
  rw [show ((nI ((st_op S).length)) + ((nI (1)) - (nI (0)))) = (nI ((st_op S).length - 0 + 1)) from nn_1m0]
  refine fx_puti 10 28 dMO_undo_112 fMO_273 rfl rfl rfl rfl hB ?_
  refine sd_aload_n dMO_undo_115 rfl rfl ?_
  refine sd_dup dMO_undo_116 rfl ?_
  refine fx_getiv (v := (nI ((st_gl S).length))) 10 27 dMO_undo_117 fMO_270 rfl rfl ((by simpa [fx_uf, upd] using e27)) ?_
  refine sd_iload_n dMO_undo_120 rfl rfl ?_
  refine nn_isub dMO_undo_121 (by omega) ?_
  refine fx_puti 10 27 dMO_undo_122 fMO_270 rfl rfl rfl rfl hB ?_
  refine sd_aload_n dMO_undo_125 rfl rfl ?_
  refine fx_getr 10 24 (20) dMO_undo_126 fMO_67 rfl rfl ?_
  refine sd_iconst (v := nI 0) dMO_undo_129 (by decide) ?_
  refine sd_iload_n dMO_undo_130 rfl rfl ?_
  refine fx_iast (0) dMO_undo_131 rfl rfl (by omega) (by decide) hB ?_
  refine sd_aload_n dMO_undo_132 rfl rfl ?_
  refine fx_getr 10 20 (16) dMO_undo_133 fMO_55 rfl rfl ?_
  refine sd_iload_n dMO_undo_136 rfl rfl ?_
  refine sd_iconst (v := (-1)) dMO_undo_137 (by decide) ?_
  refine fx_iast (g) dMO_undo_138 rfl rfl (by omega) (by decide) hB ?_
  refine sd_aload_n dMO_undo_139 rfl rfl ?_
  refine fx_getiv (v := (nI ((st_op S).length - 0 + 1))) 10 28 dMO_undo_140 fMO_273 rfl rfl ((by simp [fx_ua, fx_uf, upd])) ?_
  refine sd_iret dMO_undo_143 rfl (Nat.le_refl _) (Nat.le_refl _) ⟨rfl, rfl, _, rfl, mo_R_goals hR ((((ff.tr (mo_fg.uf _ (by omega) (by omega))).tr (mo_fg.uf _ (by omega) (by omega))).tr (mo_fg.ua _ (by omega) (by omega))).tr (mo_fg.ua _ (by omega) (by omega))) (un_gl hgl hq (fun x a b c ↦ ?_) (fun i hi ↦ ?_) ?_ ?_) ⟨?_, ?_, fun k u hk ↦ ?_⟩ (un_dn hdnd ?_ ?_)⟩
  · simp only [fx_ua, fx_uf, c, show ¬ x = 20 by omega, if_false]
    exact f1 x (by omega)
  · simp only [fx_ua, fx_uf, upd, hi, if_true, if_false, show ¬ (16 : Nat) = 20 by decide]
    rw [f1 16 (by decide)]
  · simp [fx_ua, upd]
  · simp [fx_ua, fx_uf, upd]
  · rw [List.length_cons, List.length_drop]
    omega
  · rw [List.length_cons, List.length_drop]
    simp [fx_ua, fx_uf, upd]
  · match k, hk with
    | 0, hk =>
      simp at hk
      rw [← hk]
      simp [fx_ua, upd]
    | i + 1, hk =>
      rw [List.getElem?_cons_succ] at hk
      simp only [fx_ua, fx_uf, upd, if_true, if_false, show ¬ (20 : Nat) = 16 by decide, show ¬ i + 1 = 0 by omega]
      exact f20 i u hk
  · simp only [fx_ua, fx_uf, if_false, show ¬ (21 : Nat) = 16 by decide, show ¬ (21 : Nat) = 20 by decide]
    exact f1 21 (by decide)
  · simpa [fx_ua, fx_uf, upd] using f29
theorem w_MO_undo1 {G : sd_G} {o : Nat} {D D2 : fx_D} {h0 : sd_H} {nx g : Nat} {S : st_S} {q : st_Gl} {dn : List Nat} (hB : G.2.1 ≤ o) (hR : mo_R S D) (hdn : st_dn S = g :: dn) (hq : (st_gl S)[g]? = some q) (hm : 1 ≤ (st_op S).length) (hmN : 1 ≤ (st_gl S).length) (h30 : (st_op S).length < 30) (f1 : ∀ x, x ≠ 20 → D2.1 x = D.1 x) (f2 : ∀ x j, ¬ (x = 0 ∧ j = 29) → D2.2.1 x j = D.2.1 x j) (f3 : D2.2.2 = D.2.2) (f29 : D2.2.1 0 29 = nI dn.length) (f20 : ∀ (i u : Nat), ((st_op S).drop 1)[i]? = some u → D2.1 20 (i + 1) = nI u) : sd_W G mMO_undo 0 0 0 (fx_is G.1.2 mo_S o h0 nx (some (.int (nI ((st_op S).length - 1 + 1)))) (mo_R (S.1, S.2.1, S.2.2.1, S.2.2.2.1, ((st_gl S).take ((st_gl S).length - 1)).set g (q.1, q.2.1, none), g :: (st_op S).drop 1, dn))) 103 [(0, .ref (o + 0)), (1, .int (nI g)), (2, .int (nI 1))] [] (fx_h G.1.2 mo_S o D2 h0) nx 0 0 := by
  have hgl := hR.2.2.2.2.2.1
  have hopd := hR.2.2.2.2.2.2.1
  have hdnd : mo_dn D (g :: dn) := by rw [← hdn]; exact hR.2.2.2.2.2.2.2
  have hgN := getE_lt hq
  have g30 := hgl.1
  have e28 : D2.2.1 0 28 = nI (st_op S).length := by rw [f2 0 28 (by omega)]; exact hopd.2.1
  have e27 : D2.2.1 0 27 = nI (st_gl S).length := by rw [f2 0 27 (by omega)]; exact hgl.2.1
  have ff : mo_fg D D2 := ⟨fun x hx => f1 x (by omega), fun x j hj => f2 x j (fun z => by obtain ⟨rfl, rfl⟩ := z; exact hj ⟨rfl, by omega, by omega⟩), f3⟩
  refine sd_aload_n dMO_undo_103 rfl rfl ?_
  refine sd_dup dMO_undo_104 rfl ?_
  refine fx_getiv (v := (nI ((st_op S).length))) 10 28 dMO_undo_105 fMO_273 rfl rfl (e28) ?_
  refine sd_iconst (v := nI 1) dMO_undo_108 (by decide) ?_
  refine sd_iload_n dMO_undo_109 rfl rfl ?_
  refine sd_isub dMO_undo_110 ?_
  refine sd_iadd dMO_undo_111 ?_
  rw [show ((nI ((st_op S).length)) + ((nI (1)) - (nI (1)))) = (nI ((st_op S).length - 1 + 1)) from (nn_1m1 (by omega))]
  refine fx_puti 10 28 dMO_undo_112 fMO_273 rfl rfl rfl rfl hB ?_
  refine sd_aload_n dMO_undo_115 rfl rfl ?_
  refine sd_dup dMO_undo_116 rfl ?_
  refine fx_getiv (v := (nI ((st_gl S).length))) 10 27 dMO_undo_117 fMO_270 rfl rfl ((by simpa [fx_uf, upd] using e27)) ?_
  refine sd_iload_n dMO_undo_120 rfl rfl ?_
  refine nn_isub dMO_undo_121 (by omega) ?_
  refine fx_puti 10 27 dMO_undo_122 fMO_270 rfl rfl rfl rfl hB ?_
  refine sd_aload_n dMO_undo_125 rfl rfl ?_
  refine fx_getr 10 24 (20) dMO_undo_126 fMO_67 rfl rfl ?_
  refine sd_iconst (v := nI 0) dMO_undo_129 (by decide) ?_
  refine sd_iload_n dMO_undo_130 rfl rfl ?_
  refine fx_iast (0) dMO_undo_131 rfl rfl (by omega) (by decide) hB ?_
  refine sd_aload_n dMO_undo_132 rfl rfl ?_
  refine fx_getr 10 20 (16) dMO_undo_133 fMO_55 rfl rfl ?_
  refine sd_iload_n dMO_undo_136 rfl rfl ?_
  refine sd_iconst (v := (-1)) dMO_undo_137 (by decide) ?_
  refine fx_iast (g) dMO_undo_138 rfl rfl (by omega) (by decide) hB ?_
  refine sd_aload_n dMO_undo_139 rfl rfl ?_
  refine fx_getiv (v := (nI ((st_op S).length - 1 + 1))) 10 28 dMO_undo_140 fMO_273 rfl rfl ((by simp [fx_ua, fx_uf, upd])) ?_
  refine sd_iret dMO_undo_143 rfl (Nat.le_refl _) (Nat.le_refl _) ⟨rfl, rfl, _, rfl, mo_R_goals hR ((((ff.tr (mo_fg.uf _ (by omega) (by omega))).tr (mo_fg.uf _ (by omega) (by omega))).tr (mo_fg.ua _ (by omega) (by omega))).tr (mo_fg.ua _ (by omega) (by omega))) (un_gl hgl hq (fun x a b c ↦ ?_) (fun i hi ↦ ?_) ?_ ?_) ⟨?_, ?_, fun k u hk ↦ ?_⟩ (un_dn hdnd ?_ ?_)⟩
  · simp only [fx_ua, fx_uf, c, show ¬ x = 20 by omega, if_false]
    exact f1 x (by omega)
  · simp only [fx_ua, fx_uf, upd, hi, if_true, if_false, show ¬ (16 : Nat) = 20 by decide]
    rw [f1 16 (by decide)]
  · simp [fx_ua, upd]
  · simp [fx_ua, fx_uf, upd]
  · rw [List.length_cons, List.length_drop]
    omega
  · rw [List.length_cons, List.length_drop]
    simp [fx_ua, fx_uf, upd]
  · match k, hk with
    | 0, hk =>
      simp at hk
      rw [← hk]
      simp [fx_ua, upd]
    | i + 1, hk =>
      rw [List.getElem?_cons_succ] at hk
      simp only [fx_ua, fx_uf, upd, if_true, if_false, show ¬ (20 : Nat) = 16 by decide, show ¬ i + 1 = 0 by omega]
      exact f20 i u hk
  · simp only [fx_ua, fx_uf, if_false, show ¬ (21 : Nat) = 16 by decide, show ¬ (21 : Nat) = 20 by decide]
    exact f1 21 (by decide)
  · simpa [fx_ua, fx_uf, upd] using f29
theorem w_MO_undo2 {G : sd_G} {o : Nat} {D D2 : fx_D} {h0 : sd_H} {nx g : Nat} {S : st_S} {q : st_Gl} {dn : List Nat} (hB : G.2.1 ≤ o) (hR : mo_R S D) (hdn : st_dn S = g :: dn) (hq : (st_gl S)[g]? = some q) (hm : 2 ≤ (st_op S).length) (hmN : 2 ≤ (st_gl S).length) (h30 : (st_op S).length < 30) (f1 : ∀ x, x ≠ 20 → D2.1 x = D.1 x) (f2 : ∀ x j, ¬ (x = 0 ∧ j = 29) → D2.2.1 x j = D.2.1 x j) (f3 : D2.2.2 = D.2.2) (f29 : D2.2.1 0 29 = nI dn.length) (f20 : ∀ (i u : Nat), ((st_op S).drop 2)[i]? = some u → D2.1 20 (i + 1) = nI u) : sd_W G mMO_undo 0 0 0 (fx_is G.1.2 mo_S o h0 nx (some (.int (nI ((st_op S).length - 2 + 1)))) (mo_R (S.1, S.2.1, S.2.2.1, S.2.2.2.1, ((st_gl S).take ((st_gl S).length - 2)).set g (q.1, q.2.1, none), g :: (st_op S).drop 2, dn))) 103 [(0, .ref (o + 0)), (1, .int (nI g)), (2, .int (nI 2))] [] (fx_h G.1.2 mo_S o D2 h0) nx 0 0 := by
  have hgl := hR.2.2.2.2.2.1
  have hopd := hR.2.2.2.2.2.2.1
  have hdnd : mo_dn D (g :: dn) := by rw [← hdn]; exact hR.2.2.2.2.2.2.2
  have hgN := getE_lt hq
  have g30 := hgl.1
  have e28 : D2.2.1 0 28 = nI (st_op S).length := by rw [f2 0 28 (by omega)]; exact hopd.2.1
  have e27 : D2.2.1 0 27 = nI (st_gl S).length := by rw [f2 0 27 (by omega)]; exact hgl.2.1
  have ff : mo_fg D D2 := ⟨fun x hx => f1 x (by omega), fun x j hj => f2 x j (fun z => by obtain ⟨rfl, rfl⟩ := z; exact hj ⟨rfl, by omega, by omega⟩), f3⟩
  refine sd_aload_n dMO_undo_103 rfl rfl ?_
  refine sd_dup dMO_undo_104 rfl ?_
  refine fx_getiv (v := (nI ((st_op S).length))) 10 28 dMO_undo_105 fMO_273 rfl rfl (e28) ?_
  refine sd_iconst (v := nI 1) dMO_undo_108 (by decide) ?_
  refine sd_iload_n dMO_undo_109 rfl rfl ?_
  refine sd_isub dMO_undo_110 ?_
  refine sd_iadd dMO_undo_111 ?_
  rw [show ((nI ((st_op S).length)) + ((nI (1)) - (nI (2)))) = (nI ((st_op S).length - 2 + 1)) from (nn_1m2 (by omega))]
  refine fx_puti 10 28 dMO_undo_112 fMO_273 rfl rfl rfl rfl hB ?_
  refine sd_aload_n dMO_undo_115 rfl rfl ?_
  refine sd_dup dMO_undo_116 rfl ?_
  refine fx_getiv (v := (nI ((st_gl S).length))) 10 27 dMO_undo_117 fMO_270 rfl rfl ((by simpa [fx_uf, upd] using e27)) ?_
  refine sd_iload_n dMO_undo_120 rfl rfl ?_
  refine nn_isub dMO_undo_121 (by omega) ?_
  refine fx_puti 10 27 dMO_undo_122 fMO_270 rfl rfl rfl rfl hB ?_
  refine sd_aload_n dMO_undo_125 rfl rfl ?_
  refine fx_getr 10 24 (20) dMO_undo_126 fMO_67 rfl rfl ?_
  refine sd_iconst (v := nI 0) dMO_undo_129 (by decide) ?_
  refine sd_iload_n dMO_undo_130 rfl rfl ?_
  refine fx_iast (0) dMO_undo_131 rfl rfl (by omega) (by decide) hB ?_
  refine sd_aload_n dMO_undo_132 rfl rfl ?_
  refine fx_getr 10 20 (16) dMO_undo_133 fMO_55 rfl rfl ?_
  refine sd_iload_n dMO_undo_136 rfl rfl ?_
  refine sd_iconst (v := (-1)) dMO_undo_137 (by decide) ?_
  refine fx_iast (g) dMO_undo_138 rfl rfl (by omega) (by decide) hB ?_
  refine sd_aload_n dMO_undo_139 rfl rfl ?_
  refine fx_getiv (v := (nI ((st_op S).length - 2 + 1))) 10 28 dMO_undo_140 fMO_273 rfl rfl ((by simp [fx_ua, fx_uf, upd])) ?_
  refine sd_iret dMO_undo_143 rfl (Nat.le_refl _) (Nat.le_refl _) ⟨rfl, rfl, _, rfl, mo_R_goals hR ((((ff.tr (mo_fg.uf _ (by omega) (by omega))).tr (mo_fg.uf _ (by omega) (by omega))).tr (mo_fg.ua _ (by omega) (by omega))).tr (mo_fg.ua _ (by omega) (by omega))) (un_gl hgl hq (fun x a b c ↦ ?_) (fun i hi ↦ ?_) ?_ ?_) ⟨?_, ?_, fun k u hk ↦ ?_⟩ (un_dn hdnd ?_ ?_)⟩
  · simp only [fx_ua, fx_uf, c, show ¬ x = 20 by omega, if_false]
    exact f1 x (by omega)
  · simp only [fx_ua, fx_uf, upd, hi, if_true, if_false, show ¬ (16 : Nat) = 20 by decide]
    rw [f1 16 (by decide)]
  · simp [fx_ua, upd]
  · simp [fx_ua, fx_uf, upd]
  · rw [List.length_cons, List.length_drop]
    omega
  · rw [List.length_cons, List.length_drop]
    simp [fx_ua, fx_uf, upd]
  · match k, hk with
    | 0, hk =>
      simp at hk
      rw [← hk]
      simp [fx_ua, upd]
    | i + 1, hk =>
      rw [List.getElem?_cons_succ] at hk
      simp only [fx_ua, fx_uf, upd, if_true, if_false, show ¬ (20 : Nat) = 16 by decide, show ¬ i + 1 = 0 by omega]
      exact f20 i u hk
  · simp only [fx_ua, fx_uf, if_false, show ¬ (21 : Nat) = 16 by decide, show ¬ (21 : Nat) = 20 by decide]
    exact f1 21 (by decide)
  · simpa [fx_ua, fx_uf, upd] using f29
theorem x_MO_undo2 {G : sd_G} {o : Nat} {D : fx_D} {h0 : sd_H} {nx g : Nat} {Q : sd_Q} (kk : sd_W G mMO_undo 0 0 0 Q 103 [(0, .ref (o + 0)), (1, .int (nI g)), (2, .int (nI 2))] [] (fx_h G.1.2 mo_S o D h0) nx 0 0) : sd_W G mMO_undo 0 0 0 Q 70 [(0, .ref (o + 0)), (1, .int (nI g)), (2, .int (nI 2))] [] (fx_h G.1.2 mo_S o D h0) nx 0 0 := by
  refine sd_iload_n dMO_undo_70 rfl rfl ?_
  refine nn_if_ne 103 dMO_undo_71 (by decide) (by decide) (fun _ => ?_) (fun c => absurd c (by decide))
  refine sd_locp (al' := [(0, .ref (o + (0))), (1, .int (nI (g))), (2, .int (nI (2)))]) [0, 1, 2] rfl ?_
  exact kk
theorem c_MO_undo {G : sd_G} {o : Nat} {D : fx_D} {h0 : sd_H} {nx : Nat} {ans : Int32} {S S' : st_S} (hB : G.2.1 ≤ o) (hR : mo_R S D) (hN : st_okN S) (hU : st_okU S) (hs : sp_undo S ans S') : sd_Ct G mMO_undo 0 0 0 [.ref (o + 0)] (fx_h G.1.2 mo_S o D h0) nx (fx_is G.1.2 mo_S o h0 nx (some (.int ans)) (mo_R S')) := by
  refine sd_Ct_of (by decide) (Nat.le_of_ble_eq_true rfl) ?_
  have hdnd := hR.2.2.2.2.2.2.2
  rcases hs with ⟨h0', rfl, rfl⟩ | ⟨g, dn, q, w, hdn, hq, hw, rfl, rfl⟩
  · have d29 : D.2.1 0 29 = nI 0 := by rw [hdnd.2.1, h0']; rfl
    refine sd_aload_n dMO_undo_0 rfl rfl ?_
    refine fx_getiv (v := (nI (0))) 10 29 dMO_undo_1 fMO_275 rfl rfl (d29) ?_
    refine nn_if_ne 9 dMO_undo_4 (by decide) (by decide) (fun c => absurd c (by decide)) (fun _ => ?_)
    refine sd_iconst (v := (-1)) dMO_undo_7 (by decide) ?_
    exact sd_iret dMO_undo_8 rfl (Nat.le_refl _) (Nat.le_refl _) ⟨rfl, rfl, _, rfl, hR⟩
  · have hgl := hR.2.2.2.2.2.1
    have hopd := hR.2.2.2.2.2.2.1
    have hgN := getE_lt hq
    have g30 := hgl.1
    have hN2 := hN
    unfold st_okN at hN2
    rw [hdn, List.length_cons] at hN2
    have hU2 : gk w.1 ≤ (st_op S).length := by
      obtain ⟨q', w', a1, a2, a3⟩ := hU g dn hdn
      rw [hq] at a1
      cases a1
      rw [hw] at a2
      cases a2
      exact a3
    have d29 : D.2.1 0 29 = nI (dn.length + 1) := by rw [hdnd.2.1, hdn, List.length_cons]
    have dg : D.1 21 (dn.length + 1 - 1) = nI g := by
      rw [Nat.add_sub_cancel]
      refine hdnd.2.2 dn.length g ?_
      rw [hdn, List.reverse_cons, List.getElem?_append_right (by rw [List.length_reverse]; exact Nat.le_refl _), List.length_reverse, Nat.sub_self]
      rfl
    have d19 : D.1 19 g = nI (gk w.1) := by
      have h := (hgl.2.2 g q hq).2.2.2.2
      rw [hw] at h
      exact h.2.2.2
    have g2 := gk_le w.1
    generalize gk w.1 = m at *
    have ol := hopd.2.1
    rcases (show m = 0 ∨ m = 1 ∨ m = 2 by omega) with rfl | rfl | rfl
    ·
      refine sd_aload_n dMO_undo_0 rfl rfl ?_
      refine fx_getiv (v := (nI (dn.length + 1))) 10 29 dMO_undo_1 fMO_275 rfl rfl (d29) ?_
      refine nn_if_ne 9 dMO_undo_4 (by decide) (by omega) (fun c4 => ?_) (fun c4 => ?_)
      ·
        refine sd_aload_n dMO_undo_9 rfl rfl ?_
        refine fx_getr 10 25 (21) dMO_undo_10 fMO_70 rfl rfl ?_
        refine sd_aload_n dMO_undo_13 rfl rfl ?_
        refine sd_dup dMO_undo_14 rfl ?_
        refine fx_getiv (v := (nI (dn.length + 1))) 10 29 dMO_undo_15 fMO_275 rfl rfl (d29) ?_
        refine sd_iconst (v := nI 1) dMO_undo_18 (by decide) ?_
        refine nn_isub dMO_undo_19 (by omega) ?_
        refine sd_dup_x1 dMO_undo_20 rfl rfl ?_
        refine fx_puti 10 29 dMO_undo_21 fMO_275 rfl rfl rfl rfl hB ?_
        refine fx_ialdv (v := (nI (g))) ((dn.length + 1) - 1) dMO_undo_24 rfl rfl (by omega) (by decide) (dg) ?_
        refine sd_istore_n dMO_undo_25 rfl (by decide) ?_
        refine sd_aload_n dMO_undo_26 rfl rfl ?_
        refine fx_getr 10 23 (19) dMO_undo_27 fMO_64 rfl rfl ?_
        refine sd_iload_n dMO_undo_30 rfl rfl ?_
        refine fx_ialdv (v := (nI (0))) (g) dMO_undo_31 rfl rfl (by omega) (by decide) ((by simpa [fx_uf] using d19)) ?_
        refine sd_istore_n dMO_undo_32 rfl (by decide) ?_
        refine sd_iload_n dMO_undo_33 rfl rfl ?_
        refine sd_iconst (v := nI 2) dMO_undo_34 (by decide) ?_
        refine nn_icmp_ne 70 dMO_undo_35 (by decide) (by decide) (by decide) (fun _ => ?_) (fun c => absurd c (by decide))
        refine sd_iload_n dMO_undo_70 rfl rfl ?_
        refine nn_if_ne 103 dMO_undo_71 (by decide) (by decide) (fun c => absurd c (by decide)) (fun _ => ?_)
        refine sd_aload_n dMO_undo_74 rfl rfl ?_
        refine fx_getiv (v := (nI ((st_op S).length))) 10 28 dMO_undo_75 fMO_273 rfl rfl ((by simpa [fx_uf, upd] using ol)) ?_
        refine sd_istore_n dMO_undo_78 rfl (by decide) ?_
        refine sd_locp (al' := [(0, .ref (o + (0))), (1, .int (nI (g))), (2, .int (nI (0))), (3, .int (nI ((st_op S).length)))]) [3, 2, 1, 0] rfl ?_
        refine l_MO_undo0 hB _ _ (by omega) (fun D2 a1 a2 a3 ↦ ?_)
        refine w_MO_undo0 hB hR hdn hq (by omega) (by omega) (by omega) (fun x hx ↦ (a1.1 x hx).trans rfl) (fun x j hj ↦ ?_) (by rw [a1.2]; rfl) (by rw [a1.2]; simp [fx_uf, upd]) (fun i u hi ↦ ?_)
        · rw [a1.2]
          by_cases e : x = 0
          · subst e
            simp [fx_uf, upd, show ¬ j = 29 by omega]
          · simp [fx_uf, e]
        · have hl := getE_lt hi
          rw [List.drop_zero] at hi hl
          rw [a2 (i + 1) (by omega) (by omega), Nat.add_sub_cancel]
          exact hopd.2.2 i u hi
      ·
        exact absurd c4 (by omega)
    ·
      refine sd_aload_n dMO_undo_0 rfl rfl ?_
      refine fx_getiv (v := (nI (dn.length + 1))) 10 29 dMO_undo_1 fMO_275 rfl rfl (d29) ?_
      refine nn_if_ne 9 dMO_undo_4 (by decide) (by omega) (fun c4 => ?_) (fun c4 => ?_)
      ·
        refine sd_aload_n dMO_undo_9 rfl rfl ?_
        refine fx_getr 10 25 (21) dMO_undo_10 fMO_70 rfl rfl ?_
        refine sd_aload_n dMO_undo_13 rfl rfl ?_
        refine sd_dup dMO_undo_14 rfl ?_
        refine fx_getiv (v := (nI (dn.length + 1))) 10 29 dMO_undo_15 fMO_275 rfl rfl (d29) ?_
        refine sd_iconst (v := nI 1) dMO_undo_18 (by decide) ?_
        refine nn_isub dMO_undo_19 (by omega) ?_
        refine sd_dup_x1 dMO_undo_20 rfl rfl ?_
        refine fx_puti 10 29 dMO_undo_21 fMO_275 rfl rfl rfl rfl hB ?_
        refine fx_ialdv (v := (nI (g))) ((dn.length + 1) - 1) dMO_undo_24 rfl rfl (by omega) (by decide) (dg) ?_
        refine sd_istore_n dMO_undo_25 rfl (by decide) ?_
        refine sd_aload_n dMO_undo_26 rfl rfl ?_
        refine fx_getr 10 23 (19) dMO_undo_27 fMO_64 rfl rfl ?_
        refine sd_iload_n dMO_undo_30 rfl rfl ?_
        refine fx_ialdv (v := (nI (1))) (g) dMO_undo_31 rfl rfl (by omega) (by decide) ((by simpa [fx_uf] using d19)) ?_
        refine sd_istore_n dMO_undo_32 rfl (by decide) ?_
        refine sd_iload_n dMO_undo_33 rfl rfl ?_
        refine sd_iconst (v := nI 2) dMO_undo_34 (by decide) ?_
        refine nn_icmp_ne 70 dMO_undo_35 (by decide) (by decide) (by decide) (fun _ => ?_) (fun c => absurd c (by decide))
        refine sd_iload_n dMO_undo_70 rfl rfl ?_
        refine nn_if_ne 103 dMO_undo_71 (by decide) (by decide) (fun _ => ?_) (fun c => absurd c (by decide))
        refine sd_locp (al' := [(0, .ref (o + (0))), (1, .int (nI (g))), (2, .int (nI (1)))]) [2, 1, 0] rfl ?_
        refine w_MO_undo1 hB hR hdn hq (by omega) (by omega) (by omega) (fun x hx ↦ rfl) (fun x j hj ↦ ?_) rfl (by simp [fx_uf, upd]) (fun i u hi ↦ ?_)
        · by_cases e : x = 0
          · subst e
            simp [fx_uf, upd, show ¬ j = 29 by omega]
          · simp [fx_uf, e]
        · rw [List.getElem?_drop, Nat.add_comm 1 i] at hi
          exact hopd.2.2 (i + 1) u hi
      ·
        exact absurd c4 (by omega)
    ·
      refine sd_aload_n dMO_undo_0 rfl rfl ?_
      refine fx_getiv (v := (nI (dn.length + 1))) 10 29 dMO_undo_1 fMO_275 rfl rfl (d29) ?_
      refine nn_if_ne 9 dMO_undo_4 (by decide) (by omega) (fun c4 => ?_) (fun c4 => ?_)
      ·
        refine sd_aload_n dMO_undo_9 rfl rfl ?_
        refine fx_getr 10 25 (21) dMO_undo_10 fMO_70 rfl rfl ?_
        refine sd_aload_n dMO_undo_13 rfl rfl ?_
        refine sd_dup dMO_undo_14 rfl ?_
        refine fx_getiv (v := (nI (dn.length + 1))) 10 29 dMO_undo_15 fMO_275 rfl rfl (d29) ?_
        refine sd_iconst (v := nI 1) dMO_undo_18 (by decide) ?_
        refine nn_isub dMO_undo_19 (by omega) ?_
        refine sd_dup_x1 dMO_undo_20 rfl rfl ?_
        refine fx_puti 10 29 dMO_undo_21 fMO_275 rfl rfl rfl rfl hB ?_
        refine fx_ialdv (v := (nI (g))) ((dn.length + 1) - 1) dMO_undo_24 rfl rfl (by omega) (by decide) (dg) ?_
        refine sd_istore_n dMO_undo_25 rfl (by decide) ?_
        refine sd_aload_n dMO_undo_26 rfl rfl ?_
        refine fx_getr 10 23 (19) dMO_undo_27 fMO_64 rfl rfl ?_
        refine sd_iload_n dMO_undo_30 rfl rfl ?_
        refine fx_ialdv (v := (nI (2))) (g) dMO_undo_31 rfl rfl (by omega) (by decide) ((by simpa [fx_uf] using d19)) ?_
        refine sd_istore_n dMO_undo_32 rfl (by decide) ?_
        refine sd_iload_n dMO_undo_33 rfl rfl ?_
        refine sd_iconst (v := nI 2) dMO_undo_34 (by decide) ?_
        refine nn_icmp_ne 70 dMO_undo_35 (by decide) (by decide) (by decide) (fun c => absurd c (by decide)) (fun _ => ?_)
        refine sd_iconst (v := nI 1) dMO_undo_38 (by decide) ?_
        refine sd_istore_n dMO_undo_39 rfl (by decide) ?_
        refine sd_locp (al' := [(0, .ref (o + (0))), (1, .int (nI (g))), (2, .int (nI (2))), (3, .int (nI (1)))]) [3, 2, 1, 0] rfl ?_
        refine l_MO_undo2 (n := (st_op S).length) hB (by omega) (by omega) ((st_op S).length - 2) 1 _ (by omega) (by omega) (by simpa [fx_uf, upd] using ol) (fun D2 a1 a2 a3 ↦ ?_)
        refine x_MO_undo2 (w_MO_undo2 hB hR hdn hq (by omega) (by omega) (by omega) (fun x hx ↦ (a1.1 x hx).trans rfl) (fun x j hj ↦ ?_) (by rw [a1.2]; rfl) (by rw [a1.2]; simp [fx_uf, upd]) (fun i u hi ↦ ?_))
        · rw [a1.2]
          by_cases e : x = 0
          · subst e
            simp [fx_uf, upd, show ¬ j = 29 by omega]
          · simp [fx_uf, e]
        · have hl := getE_lt hi
          rw [List.length_drop] at hl
          rw [List.getElem?_drop, Nat.add_comm 2 i] at hi
          rw [a2 (i + 1) (by omega) (by omega)]
          exact hopd.2.2 (i + 2) u hi
      ·
        exact absurd c4 (by omega)
