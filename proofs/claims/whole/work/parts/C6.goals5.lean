/-! ===== the class's Goals: attempt; the desk's tactic ===== -/
theorem ku_all : ∀ (ls T : List tl_T) (L : List Nat), (∀ l ∈ ls, l.length ≤ 24) → T.length ≤ 64 → tl_full T ls = false → (ku_i T L ls).1 = tl_all T ls ∧ ku_n T ls = tl_nums T ls ∧ (tl_all T ls).length ≤ 64
  | [], T, L, _, hT, _ => ⟨rfl, rfl, hT⟩
  | l :: ls, T, L, h, hT, hf => by
    simp only [tl_full, Bool.or_eq_false_iff, Bool.not_eq_false', decide_eq_true_eq] at hf
    obtain ⟨e1, e2⟩ := tl_kp_lt64 hT hf.1
    obtain ⟨i1, i2, i3⟩ := ku_all ls (tl_kt T l) (ls_h L (tl_kp T l)) (fun m hm => h m (List.mem_cons_of_mem _ hm)) e2 hf.2
    unfold ku_i ku_n tl_all tl_nums
    rw [if_pos (h l (List.mem_cons_self ..)), e1]
    exact ⟨i1, by rw [i2], i3⟩
theorem kp_mem {T : List tl_T} {r0 r1 : tl_T} {M : List Nat} (hT : T.length ≤ 64) (hM : ∀ t ∈ M, t < T.length) : tl_kp (tl_ku T r0) r1 ∈ M ↔ tl_kp (tl_kt T r0) r1 ∈ M := by
  by_cases h : tl_kp T r0 < 64
  · rw [(tl_kp_lt64 hT h).1]
  · have e1 := tl_kt_full hT h
    rw [e1]
    obtain ⟨X, x1, -⟩ := tl_ku_pre T r0
    rw [x1]
    cases e : T.idxOf? r1 with
    | some j =>
      rw [(tl_k_idx e).1, (tl_k_idx (idx_app (X := X) e)).1]
    | none =>
      have n1 : tl_kp T r1 ∉ M := fun q => by
        have := hM _ q
        have : tl_kp T r1 = T.length := by unfold tl_kp; rw [e]
        omega
      have n2 : tl_kp (T ++ X) r1 ∉ M := fun q => by
        have h1 := hM _ q
        have h3 : tl_kp (T ++ X) r1 < (T ++ X).length := by rw [List.length_append]; omega
        unfold tl_kp at h1 h3
        cases e2 : (T ++ X).idxOf? r1 with
        | none =>
          rw [e2] at h3
          exact Nat.lt_irrefl _ h3
        | some j =>
          rw [e2] at h1
          obtain ⟨q1, q2, -⟩ := List.idxOf?_eq_some_iff.mp e2
          have h1' : j < T.length := h1
          rw [List.getElem_append_left h1'] at q2
          exact List.idxOf?_eq_none_iff.mp e (by rw [← q2]; exact List.getElem_mem h1')
      exact ⟨fun q => absurd q n2, fun q => absurd q n1⟩
theorem ls_h_lm {L : List Nat} {s t : Nat} (h : s ∈ L ↔ t ∈ L) : (ls_h L s).length = (ls_h L t).length := by
  unfold ls_h
  by_cases q : s ∈ L
  · rw [if_pos q, if_pos (h.mp q)]
  · rw [if_neg q, if_neg (fun r => q (h.mpr r))]
    simp
theorem tc_bg {S : st_S} {k a g : Nat} {x y : Int32} {T : List tl_T} {H0 H1 : List Nat} {c0 c1 : Int32} (ht : tc_there S x y k a) (hK : lf_K S k a g T H0 H1 c0 c1) (h64 : (st_T S).length ≤ 64) (h6 : (st_gh S g).length ≤ 6) (hgh : ∀ t ∈ st_gh S g, t < (st_T S).length) : tc_big S k a g = true ↔ (1 ≤ gk k ∧ 6 < H0.length) ∨ (2 ≤ gk k ∧ 6 < H1.length) := by
  by_cases hbig : ∃ l ∈ lv_rows S k a g, 24 < l.length
  · refine ⟨fun _ => hK.2.1 hbig, fun _ => ?_⟩
    unfold tc_big
    rw [Bool.or_eq_true]
    left
    obtain ⟨l, h1, h2⟩ := hbig
    exact List.any_eq_true.mpr ⟨l, h1, by simpa using h2⟩
  · have hsm : ∀ l ∈ lv_rows S k a g, l.length ≤ 24 := fun l hl => by
      by_cases q : l.length ≤ 24
      · exact q
      · exact absurd ⟨l, hl, by omega⟩ hbig
    obtain ⟨-, k1, k2⟩ := hK.1 hsm
    have e1 : (lv_rows S k a g).any (fun l => 24 < l.length) = false := by
      rw [List.any_eq_false]
      intro l hl
      have := hsm l hl
      simp
      omega
    unfold tc_big
    rw [e1, Bool.false_or]
    have nogh : ∀ ns : List Nat, (ns.map (fun n => ((n, st_gh S g, none) : st_Gl))).any (fun q => 6 < q.2.1.length) = false := fun ns => by
      rw [List.any_eq_false]
      intro q hq
      obtain ⟨n, -, rfl⟩ := List.mem_map.mp hq
      simp
      omega
    obtain ⟨-, hh⟩ := ht
    rcases hh with ⟨rfl | rfl | rfl | rfl | rfl, rfl⟩ | ⟨rfl | rfl, -, ha⟩ | ⟨rfl, -, ha⟩ | ⟨rfl, -, ha⟩
    · exact ⟨fun q => absurd q (by show ¬ false = true; decide), fun q => by
        rcases q with ⟨q, -⟩ | ⟨q, -⟩
        · exact absurd q (by decide)
        · exact absurd q (by decide)⟩
    · exact ⟨fun q => absurd q (by show ¬ false = true; decide), fun q => by
        rcases q with ⟨q, -⟩ | ⟨q, -⟩
        · exact absurd q (by decide)
        · exact absurd q (by decide)⟩
    · have w0 := ((k1 (Or.inr (Or.inl rfl)) 0 _ rfl).1 rfl).1
      have w1 := ((k1 (Or.inr (Or.inl rfl)) 1 _ rfl).2 rfl).1
      refine ⟨fun q => absurd q (by rw [show tc_kids S 3 0 g = (tl_nums (st_T S) (lv_rows S 3 0 g)).map (fun n => ((n, st_gh S g, none) : st_Gl)) from rfl, nogh]; decide), fun q => ?_⟩
      rcases q with ⟨-, q⟩ | ⟨-, q⟩
      · rw [w0] at q
        omega
      · rw [w1] at q
        omega
    · exact ⟨fun q => absurd q (by show ¬ false = true; decide), fun q => by
        rcases q with ⟨q, -⟩ | ⟨q, -⟩
        · exact absurd q (by decide)
        · exact absurd q (by decide)⟩
    · obtain ⟨m, n, e, em, en⟩ : ∃ m n, ku_n (st_T S) (lv_rows S 7 0 g) = [m, n] ∧ m = tl_kp (st_T S) (tl_part (su_m S g) (tl_end (su_m S g) 1)) ∧ n = tl_kp (tl_ku (st_T S) (tl_part (su_m S g) (tl_end (su_m S g) 1))) (tl_part (su_m S g) 1) := ⟨_, _, rfl, rfl, rfl⟩
      obtain ⟨w0, -, w1, -⟩ := k2 rfl m n e
      rw [w0, w1]
      have hl : (ls_h (st_gh S g) n).length = (ls_h (st_gh S g) (tl_kp (tl_kt (st_T S) (tl_part (su_m S g) (tl_end (su_m S g) 1))) (tl_part (su_m S g) 1))).length := ls_h_lm (by rw [en]; exact kp_mem h64 hgh)
      rw [hl, em]
      show (List.any [((_, ls_h (st_gh S g) _, none) : st_Gl), (_, ls_h (st_gh S g) _, none)] _) = true ↔ _
      simp only [List.any_cons, List.any_nil, Bool.or_false, Bool.or_eq_true, decide_eq_true_eq]
      exact ⟨fun q => q.elim (fun q => Or.inl ⟨by decide, q⟩) (fun q => Or.inr ⟨by decide, q⟩), fun q => q.elim (fun q => Or.inl q.2) (fun q => Or.inr q.2)⟩
    · have w0 := ((k1 (Or.inl rfl) 0 _ rfl).1 rfl).1
      have w1 := ((k1 (Or.inl rfl) 1 _ rfl).2 rfl).1
      refine ⟨fun q => absurd q (by rw [show tc_kids S 2 _ g = (tl_nums (st_T S) (lv_rows S 2 _ g)).map (fun n => ((n, st_gh S g, none) : st_Gl)) from rfl, nogh]; decide), fun q => ?_⟩
      rcases q with ⟨-, q⟩ | ⟨-, q⟩
      · rw [w0] at q
        omega
      · rw [w1] at q
        omega
    · have w0 := ((k1 (Or.inr (Or.inr (Or.inr rfl))) 0 _ rfl).1 rfl).1
      have w1 := ((k1 (Or.inr (Or.inr (Or.inr rfl))) 1 _ rfl).2 rfl).1
      refine ⟨fun q => absurd q (by rw [show tc_kids S 6 _ g = (tl_nums (st_T S) (lv_rows S 6 _ g)).map (fun n => ((n, st_gh S g, none) : st_Gl)) from rfl, nogh]; decide), fun q => ?_⟩
      rcases q with ⟨-, q⟩ | ⟨-, q⟩
      · rw [w0] at q
        omega
      · rw [w1] at q
        omega
    · have w0 := ((k1 (Or.inr (Or.inr (Or.inl rfl))) 0 _ rfl).1 rfl).1
      refine ⟨fun q => absurd q (by rw [show tc_kids S 4 _ g = (tl_nums (st_T S) (lv_rows S 4 _ g)).map (fun n => ((n, st_gh S g, none) : st_Gl)) from rfl, nogh]; decide), fun q => ?_⟩
      rcases q with ⟨-, q⟩ | ⟨p, q⟩
      · rw [w0] at q
        omega
      · exact absurd p (by decide)
    · exact ⟨fun q => absurd q (by show ¬ false = true; decide), fun q => by
        rcases q with ⟨q, -⟩ | ⟨q, -⟩
        · exact absurd q (by decide)
        · exact absurd q (by decide)⟩
theorem tc_kd {S : st_S} {k a g : Nat} {x y : Int32} {T : List tl_T} {H0 H1 : List Nat} {c0 c1 : Int32} (ht : tc_there S x y k a) (hK : lf_K S k a g T H0 H1 c0 c1) (hsm : ∀ l ∈ lv_rows S k a g, l.length ≤ 24) (hnum : ku_n (st_T S) (lv_rows S k a g) = tl_nums (st_T S) (lv_rows S k a g)) : ∀ (j : Nat) (q : st_Gl), (tc_kids S k a g)[j]? = some q → (j = 0 → q.2.1 = H0 ∧ c0 = nI q.1) ∧ (j = 1 → q.2.1 = H1 ∧ c1 = nI q.1) ∧ q.2.2 = none := by
  obtain ⟨-, k1, k2⟩ := hK.1 hsm
  rw [hnum] at k1 k2
  have gen : (k = 2 ∨ k = 3 ∨ k = 4 ∨ k = 6) → ∀ (j : Nat) (q : st_Gl), ((tl_nums (st_T S) (lv_rows S k a g)).map (fun n => ((n, st_gh S g, none) : st_Gl)))[j]? = some q → (j = 0 → q.2.1 = H0 ∧ c0 = nI q.1) ∧ (j = 1 → q.2.1 = H1 ∧ c1 = nI q.1) ∧ q.2.2 = none := fun hk j q hq => by
    rw [List.getElem?_map] at hq
    cases e : (tl_nums (st_T S) (lv_rows S k a g))[j]? with
    | none => rw [e] at hq; cases hq
    | some m =>
      rw [e] at hq
      cases hq
      obtain ⟨w1, w2⟩ := k1 hk j m e
      exact ⟨fun hj => ⟨(w1 hj).1.symm, (w1 hj).2⟩, fun hj => ⟨(w2 hj).1.symm, (w2 hj).2⟩, rfl⟩
  obtain ⟨-, hh⟩ := ht
  rcases hh with ⟨rfl | rfl | rfl | rfl | rfl, rfl⟩ | ⟨rfl | rfl, -, ha⟩ | ⟨rfl, -, ha⟩ | ⟨rfl, -, ha⟩
  · exact fun j q hq => by cases hq
  · exact fun j q hq => by cases hq
  · exact gen (by omega)
  · exact fun j q hq => by cases hq
  · obtain ⟨w0, w1, w2, w3⟩ := k2 rfl _ _ rfl
    intro j q hq
    match j, hq with
    | 0, hq => cases hq; exact ⟨fun _ => ⟨w0.symm, w1⟩, fun e => by omega, rfl⟩
    | 1, hq => cases hq; exact ⟨fun e => by omega, fun _ => ⟨w2.symm, w3⟩, rfl⟩
    | j + 2, hq => cases hq
  · exact gen (by omega)
  · exact gen (by omega)
  · exact gen (by omega)
  · exact fun j q hq => by cases hq
theorem dGS_attempt_0 : decode prog_4_method_5_code 0 = .ok (.aload_n 0, 1) := by decide +kernel
theorem dGS_attempt_1 : decode prog_4_method_5_code 1 = .ok (.getfield 37, 3) := by decide +kernel
theorem dGS_attempt_4 : decode prog_4_method_5_code 4 = .ok (.ifCond .eq (12), 3) := by decide +kernel
theorem dGS_attempt_7 : decode prog_4_method_5_code 7 = .ok (.aload_n 0, 1) := by decide +kernel
theorem dGS_attempt_8 : decode prog_4_method_5_code 8 = .ok (.iload_n 1, 1) := by decide +kernel
theorem dGS_attempt_9 : decode prog_4_method_5_code 9 = .ok (.iload_n 2, 1) := by decide +kernel
theorem dGS_attempt_10 : decode prog_4_method_5_code 10 = .ok (.invokevirtual 59, 3) := by decide +kernel
theorem dGS_attempt_13 : decode prog_4_method_5_code 13 = .ok (.ifCond .ne (5), 3) := by decide +kernel
theorem dGS_attempt_16 : decode prog_4_method_5_code 16 = .ok (.iconst (-1), 1) := by decide +kernel
theorem dGS_attempt_17 : decode prog_4_method_5_code 17 = .ok (.ireturn, 1) := by decide +kernel
theorem dGS_attempt_18 : decode prog_4_method_5_code 18 = .ok (.aload_n 0, 1) := by decide +kernel
theorem dGS_attempt_19 : decode prog_4_method_5_code 19 = .ok (.iconst 0, 1) := by decide +kernel
theorem dGS_attempt_20 : decode prog_4_method_5_code 20 = .ok (.invokevirtual 63, 3) := by decide +kernel
theorem dGS_attempt_23 : decode prog_4_method_5_code 23 = .ok (.getfield 46, 3) := by decide +kernel
theorem dGS_attempt_26 : decode prog_4_method_5_code 26 = .ok (.astore_n 3, 1) := by decide +kernel
theorem dGS_attempt_27 : decode prog_4_method_5_code 27 = .ok (.aload_n 0, 1) := by decide +kernel
theorem dGS_attempt_28 : decode prog_4_method_5_code 28 = .ok (.iload_n 1, 1) := by decide +kernel
theorem dGS_attempt_29 : decode prog_4_method_5_code 29 = .ok (.iload_n 2, 1) := by decide +kernel
theorem dGS_attempt_30 : decode prog_4_method_5_code 30 = .ok (.aload_n 3, 1) := by decide +kernel
theorem dGS_attempt_31 : decode prog_4_method_5_code 31 = .ok (.invokevirtual 67, 3) := by decide +kernel
theorem dGS_attempt_34 : decode prog_4_method_5_code 34 = .ok (.ifCond .ne (6), 3) := by decide +kernel
theorem dGS_attempt_37 : decode prog_4_method_5_code 37 = .ok (.bipush (-4), 2) := by decide +kernel
theorem dGS_attempt_39 : decode prog_4_method_5_code 39 = .ok (.ireturn, 1) := by decide +kernel
theorem dGS_attempt_40 : decode prog_4_method_5_code 40 = .ok (.aload_n 0, 1) := by decide +kernel
theorem dGS_attempt_41 : decode prog_4_method_5_code 41 = .ok (.getfield 24, 3) := by decide +kernel
theorem dGS_attempt_44 : decode prog_4_method_5_code 44 = .ok (.getfield 71, 3) := by decide +kernel
theorem dGS_attempt_47 : decode prog_4_method_5_code 47 = .ok (.istore 4, 2) := by decide +kernel
theorem dGS_attempt_49 : decode prog_4_method_5_code 49 = .ok (.aload_n 0, 1) := by decide +kernel
theorem dGS_attempt_50 : decode prog_4_method_5_code 50 = .ok (.iload_n 1, 1) := by decide +kernel
theorem dGS_attempt_51 : decode prog_4_method_5_code 51 = .ok (.iload_n 2, 1) := by decide +kernel
theorem dGS_attempt_52 : decode prog_4_method_5_code 52 = .ok (.aload_n 3, 1) := by decide +kernel
theorem dGS_attempt_53 : decode prog_4_method_5_code 53 = .ok (.invokevirtual 74, 3) := by decide +kernel
theorem dGS_attempt_56 : decode prog_4_method_5_code 56 = .ok (.iconst 0, 1) := by decide +kernel
theorem dGS_attempt_57 : decode prog_4_method_5_code 57 = .ok (.istore 5, 2) := by decide +kernel
theorem dGS_attempt_59 : decode prog_4_method_5_code 59 = .ok (.aload_n 0, 1) := by decide +kernel
theorem dGS_attempt_60 : decode prog_4_method_5_code 60 = .ok (.iload_n 1, 1) := by decide +kernel
theorem dGS_attempt_61 : decode prog_4_method_5_code 61 = .ok (.invokevirtual 78, 3) := by decide +kernel
theorem dGS_attempt_64 : decode prog_4_method_5_code 64 = .ok (.ifCond .eq (10), 3) := by decide +kernel
theorem dGS_attempt_67 : decode prog_4_method_5_code 67 = .ok (.bipush (-5), 2) := by decide +kernel
theorem dGS_attempt_69 : decode prog_4_method_5_code 69 = .ok (.istore 5, 2) := by decide +kernel
theorem dGS_attempt_71 : decode prog_4_method_5_code 71 = .ok (.goto (32), 3) := by decide +kernel
theorem dGS_attempt_74 : decode prog_4_method_5_code 74 = .ok (.aload_n 0, 1) := by decide +kernel
theorem dGS_attempt_75 : decode prog_4_method_5_code 75 = .ok (.getfield 24, 3) := by decide +kernel
theorem dGS_attempt_78 : decode prog_4_method_5_code 78 = .ok (.invokevirtual 82, 3) := by decide +kernel
theorem dGS_attempt_81 : decode prog_4_method_5_code 81 = .ok (.ifCond .ne (18), 3) := by decide +kernel
theorem dGS_attempt_84 : decode prog_4_method_5_code 84 = .ok (.aload_n 0, 1) := by decide +kernel
theorem dGS_attempt_85 : decode prog_4_method_5_code 85 = .ok (.getfield 33, 3) := by decide +kernel
theorem dGS_attempt_88 : decode prog_4_method_5_code 88 = .ok (.getstatic 86, 3) := by decide +kernel
theorem dGS_attempt_91 : decode prog_4_method_5_code 91 = .ok (.iload_n 1, 1) := by decide +kernel
theorem dGS_attempt_92 : decode prog_4_method_5_code 92 = .ok (.iaload, 1) := by decide +kernel
theorem dGS_attempt_93 : decode prog_4_method_5_code 93 = .ok (.iadd, 1) := by decide +kernel
theorem dGS_attempt_94 : decode prog_4_method_5_code 94 = .ok (.bipush (30), 2) := by decide +kernel
theorem dGS_attempt_96 : decode prog_4_method_5_code 96 = .ok (.if_icmp .le (7), 3) := by decide +kernel
theorem dGS_attempt_99 : decode prog_4_method_5_code 99 = .ok (.bipush (-6), 2) := by decide +kernel
theorem dGS_attempt_101 : decode prog_4_method_5_code 101 = .ok (.istore 5, 2) := by decide +kernel
theorem dGS_attempt_103 : decode prog_4_method_5_code 103 = .ok (.iload 5, 2) := by decide +kernel
theorem dGS_attempt_105 : decode prog_4_method_5_code 105 = .ok (.ifCond .ge (15), 3) := by decide +kernel
theorem dGS_attempt_108 : decode prog_4_method_5_code 108 = .ok (.aload_n 0, 1) := by decide +kernel
theorem dGS_attempt_109 : decode prog_4_method_5_code 109 = .ok (.getfield 24, 3) := by decide +kernel
theorem dGS_attempt_112 : decode prog_4_method_5_code 112 = .ok (.iload 4, 2) := by decide +kernel
theorem dGS_attempt_114 : decode prog_4_method_5_code 114 = .ok (.putfield 71, 3) := by decide +kernel
theorem dGS_attempt_117 : decode prog_4_method_5_code 117 = .ok (.iload 5, 2) := by decide +kernel
theorem dGS_attempt_119 : decode prog_4_method_5_code 119 = .ok (.ireturn, 1) := by decide +kernel
theorem dGS_attempt_120 : decode prog_4_method_5_code 120 = .ok (.aload_n 0, 1) := by decide +kernel
theorem dGS_attempt_121 : decode prog_4_method_5_code 121 = .ok (.iload_n 1, 1) := by decide +kernel
theorem dGS_attempt_122 : decode prog_4_method_5_code 122 = .ok (.iload_n 2, 1) := by decide +kernel
theorem dGS_attempt_123 : decode prog_4_method_5_code 123 = .ok (.invokevirtual 89, 3) := by decide +kernel
theorem dGS_attempt_126 : decode prog_4_method_5_code 126 = .ok (.aload_n 0, 1) := by decide +kernel
theorem dGS_attempt_127 : decode prog_4_method_5_code 127 = .ok (.getfield 37, 3) := by decide +kernel
theorem dGS_attempt_130 : decode prog_4_method_5_code 130 = .ok (.ireturn, 1) := by decide +kernel
theorem l_GS_att_big {G : sd_G} {o : Nat} {D : fx_D} {h0 : sd_H} {nx k t : Nat} {y : Int32} {Qp : fx_D → Prop} (hB : G.2.1 ≤ o) (hl : sd_Ct G mGS_leftBig 0 0 0 [.ref (o + 432), .int (nI k)] (fx_h G.1.2 dk_S o D h0) nx (sd_is (some (.int (nI 1))) (fx_h G.1.2 dk_S o D h0) nx)) (hQ : Qp (fx_uf D 1 2 (nI t))) : sd_W G mGS_attempt 5 0 0 (fx_is G.1.2 dk_S o h0 nx (some (.int (-5))) Qp) 56 [(0, .ref (o + 432)), (1, .int (nI k)), (2, .int y), (4, .int (nI t))] [] (fx_h G.1.2 dk_S o D h0) nx 0 0 := by
  refine sd_iconst (v := nI 0) dGS_attempt_56 (by decide) ?_
  refine sd_istore dGS_attempt_57 (by decide) ?_
  refine sd_aload_n dGS_attempt_59 rfl rfl ?_
  refine sd_iload_n dGS_attempt_60 rfl rfl ?_
  refine fx_cV 3 sR_GS [.int (nI (k))] [] dGS_attempt_61 kGS_78 rfl rfl mGS_leftBig_v (hl) (by decide) (Nat.le_refl _) (Nat.le_refl _) (Nat.le_of_ble_eq_true rfl) rfl ?_
  refine nn_if_eq 74 dGS_attempt_64 (by decide) (by decide) (fun c => absurd c (by decide)) (fun _ => ?_)
  refine sd_bipush (v := (-5)) dGS_attempt_67 (by decide) ?_
  refine sd_istore dGS_attempt_69 (by decide) ?_
  refine sd_goto 103 dGS_attempt_71 (by decide) ?_
  refine sd_iload dGS_attempt_103 rfl ?_
  refine sd_if_ge 120 dGS_attempt_105 (by decide) (fun c105 => ?_) (fun c105 => ?_)
  ·
    exact absurd c105 (by decide)
  ·
    refine sd_aload_n dGS_attempt_108 rfl rfl ?_
    refine fx_getr 3 0 (1) dGS_attempt_109 fGS_24 rfl rfl ?_
    refine sd_iload dGS_attempt_112 rfl ?_
    refine fx_puti 8 2 dGS_attempt_114 fGS_71 rfl rfl rfl rfl hB ?_
    refine sd_iload dGS_attempt_117 rfl ?_
    exact sd_iret dGS_attempt_119 rfl (Nat.le_refl _) (Nat.le_refl _) ⟨rfl, rfl, _, rfl, hQ⟩
theorem l_GS_att_full {G : sd_G} {o : Nat} {D : fx_D} {h0 : sd_H} {nx k n m t : Nat} {y : Int32} {Qp : fx_D → Prop} (hB : G.2.1 ≤ o) (hk : k < 9) (hl : sd_Ct G mGS_leftBig 0 0 0 [.ref (o + 432), .int (nI k)] (fx_h G.1.2 dk_S o D h0) nx (sd_is (some (.int (nI 0))) (fx_h G.1.2 dk_S o D h0) nx)) (hm1 : m ≤ 100) (hm : D.2.1 1 2 = nI m) (hn1 : n ≤ 30) (hn : D.2.1 432 3 = nI n) (hfull : 64 < m ∨ 30 < n + gk k) (hQ : Qp (fx_uf D 1 2 (nI t))) : sd_W G mGS_attempt 5 0 0 (fx_is G.1.2 dk_S o h0 nx (some (.int (-6))) Qp) 56 [(0, .ref (o + 432)), (1, .int (nI k)), (2, .int y), (4, .int (nI t))] [] (fx_h G.1.2 dk_S o D h0) nx 0 0 := by
  have g2 := gk_le k
  by_cases h64 : 64 < m
  · skip
    refine sd_iconst (v := nI 0) dGS_attempt_56 (by decide) ?_
    refine sd_istore dGS_attempt_57 (by decide) ?_
    refine sd_aload_n dGS_attempt_59 rfl rfl ?_
    refine sd_iload_n dGS_attempt_60 rfl rfl ?_
    refine fx_cV 3 sR_GS [.int (nI (k))] [] dGS_attempt_61 kGS_78 rfl rfl mGS_leftBig_v (hl) (by decide) (Nat.le_refl _) (Nat.le_refl _) (Nat.le_of_ble_eq_true rfl) rfl ?_
    refine nn_if_eq 74 dGS_attempt_64 (by decide) (by decide) (fun _ => ?_) (fun c => absurd c (by decide))
    refine sd_aload_n dGS_attempt_74 rfl rfl ?_
    refine fx_getr 3 0 (1) dGS_attempt_75 fGS_24 rfl rfl ?_
    refine fx_cV 8 sR_TS [] [] dGS_attempt_78 kGS_82 rfl rfl mTS_overfull_v (c_TS_overfull (b := 1) hm1 hm (by omega) (by simp only [true_iff]; exact h64)) (by decide) (Nat.le_refl _) (Nat.le_refl _) (Nat.le_of_ble_eq_true rfl) rfl ?_
    refine nn_if_ne 99 dGS_attempt_81 (by decide) (by decide) (fun _ => ?_) (fun c => absurd c (by decide))
    refine sd_bipush (v := (-6)) dGS_attempt_99 (by decide) ?_
    refine sd_istore dGS_attempt_101 (by decide) ?_
    refine sd_iload dGS_attempt_103 rfl ?_
    refine sd_if_ge 120 dGS_attempt_105 (by decide) (fun c105 => ?_) (fun c105 => ?_)
    ·
      exact absurd c105 (by decide)
    ·
      refine sd_aload_n dGS_attempt_108 rfl rfl ?_
      refine fx_getr 3 0 (1) dGS_attempt_109 fGS_24 rfl rfl ?_
      refine sd_iload dGS_attempt_112 rfl ?_
      refine fx_puti 8 2 dGS_attempt_114 fGS_71 rfl rfl rfl rfl hB ?_
      refine sd_iload dGS_attempt_117 rfl ?_
      exact sd_iret dGS_attempt_119 rfl (Nat.le_refl _) (Nat.le_refl _) ⟨rfl, rfl, _, rfl, hQ⟩
  · skip
    refine sd_iconst (v := nI 0) dGS_attempt_56 (by decide) ?_
    refine sd_istore dGS_attempt_57 (by decide) ?_
    refine sd_aload_n dGS_attempt_59 rfl rfl ?_
    refine sd_iload_n dGS_attempt_60 rfl rfl ?_
    refine fx_cV 3 sR_GS [.int (nI (k))] [] dGS_attempt_61 kGS_78 rfl rfl mGS_leftBig_v (hl) (by decide) (Nat.le_refl _) (Nat.le_refl _) (Nat.le_of_ble_eq_true rfl) rfl ?_
    refine nn_if_eq 74 dGS_attempt_64 (by decide) (by decide) (fun _ => ?_) (fun c => absurd c (by decide))
    refine sd_aload_n dGS_attempt_74 rfl rfl ?_
    refine fx_getr 3 0 (1) dGS_attempt_75 fGS_24 rfl rfl ?_
    refine fx_cV 8 sR_TS [] [] dGS_attempt_78 kGS_82 rfl rfl mTS_overfull_v (c_TS_overfull (b := 0) hm1 hm (by omega) (by constructor; intro e; cases e; intro e; exact absurd e h64)) (by decide) (Nat.le_refl _) (Nat.le_refl _) (Nat.le_of_ble_eq_true rfl) rfl ?_
    refine nn_if_ne 99 dGS_attempt_81 (by decide) (by decide) (fun c => absurd c (by decide)) (fun _ => ?_)
    refine sd_aload_n dGS_attempt_84 rfl rfl ?_
    refine fx_getiv (v := (nI (n))) 3 3 dGS_attempt_85 fGS_33 rfl rfl (hn) ?_
    refine sd_gets sz_LEFT dGS_attempt_88 (by decide) (Or.inr ⟨"SequentDesk", (sd_nT (sd_in4 (List.mem_of_getElem? (i := 21) rfl)) rfl)⟩) ?_
    refine sd_iload_n dGS_attempt_91 rfl rfl ?_
    refine sd_tald sz_LEFT (v := (nI (gk k))) dGS_attempt_92 (by decide) (vp_in_nI (by show _ < 9; omega) (by decide)) (left_tab k hk) ?_
    refine nn_iadd dGS_attempt_93 ?_
    refine sd_bipush (v := nI 30) dGS_attempt_94 (by decide) ?_
    refine nn_icmp_le 103 dGS_attempt_96 (by decide) (by omega) (by omega) (fun c96 => ?_) (fun c96 => ?_)
    ·
      exact absurd c96 (by omega)
    ·
      refine sd_bipush (v := (-6)) dGS_attempt_99 (by decide) ?_
      refine sd_istore dGS_attempt_101 (by decide) ?_
      refine sd_iload dGS_attempt_103 rfl ?_
      refine sd_if_ge 120 dGS_attempt_105 (by decide) (fun c105 => ?_) (fun c105 => ?_)
      ·
        exact absurd c105 (by decide)
      ·
        refine sd_aload_n dGS_attempt_108 rfl rfl ?_
        refine fx_getr 3 0 (1) dGS_attempt_109 fGS_24 rfl rfl ?_
        refine sd_iload dGS_attempt_112 rfl ?_
        refine fx_puti 8 2 dGS_attempt_114 fGS_71 rfl rfl rfl rfl hB ?_
        refine sd_iload dGS_attempt_117 rfl ?_
        exact sd_iret dGS_attempt_119 rfl (Nat.le_refl _) (Nat.le_refl _) ⟨rfl, rfl, _, rfl, hQ⟩
theorem l_GS_att_ok {G : sd_G} {o : Nat} {D : fx_D} {h0 : sd_H} {nx k n m t a g : Nat} {y : Int32} {tl dn : List Nat} {Qp : fx_D → Prop} (hB : G.2.1 ≤ o) (hk : k < 9) (hl : sd_Ct G mGS_leftBig 0 0 0 [.ref (o + 432), .int (nI k)] (fx_h G.1.2 dk_S o D h0) nx (sd_is (some (.int (nI 0))) (fx_h G.1.2 dk_S o D h0) nx)) (hm1 : m ≤ 64) (hm : D.2.1 1 2 = nI m) (hn : D.2.1 432 3 = nI n) (hn2 : n + gk k ≤ 30) (hO : dk_opn D (g :: tl)) (hT : dk_tkn D dn) (hg : g < 30) (hl2 : tl.length + gk k ≤ 30) (hd : dn.length < 30) (hy : k = 8 → y = nI a) (hQ : ∀ D', tkk_P k a g n tl dn D D' → Qp D') : sd_W G mGS_attempt 5 0 0 (fx_is G.1.2 dk_S o h0 nx (some (.int (nI (gk k + tl.length)))) Qp) 56 [(0, .ref (o + 432)), (1, .int (nI k)), (2, .int y), (4, .int (nI t))] [] (fx_h G.1.2 dk_S o D h0) nx 0 0 := by
  have g2 := gk_le k
  refine sd_iconst (v := nI 0) dGS_attempt_56 (by decide) ?_
  refine sd_istore dGS_attempt_57 (by decide) ?_
  refine sd_aload_n dGS_attempt_59 rfl rfl ?_
  refine sd_iload_n dGS_attempt_60 rfl rfl ?_
  refine fx_cV 3 sR_GS [.int (nI (k))] [] dGS_attempt_61 kGS_78 rfl rfl mGS_leftBig_v (hl) (by decide) (Nat.le_refl _) (Nat.le_refl _) (Nat.le_of_ble_eq_true rfl) rfl ?_
  refine nn_if_eq 74 dGS_attempt_64 (by decide) (by decide) (fun _ => ?_) (fun c => absurd c (by decide))
  refine sd_aload_n dGS_attempt_74 rfl rfl ?_
  refine fx_getr 3 0 (1) dGS_attempt_75 fGS_24 rfl rfl ?_
  refine fx_cV 8 sR_TS [] [] dGS_attempt_78 kGS_82 rfl rfl mTS_overfull_v (c_TS_overfull (b := 0) (by omega) hm (by omega) (by constructor; intro e; cases e; intro e; omega)) (by decide) (Nat.le_refl _) (Nat.le_refl _) (Nat.le_of_ble_eq_true rfl) rfl ?_
  refine nn_if_ne 99 dGS_attempt_81 (by decide) (by decide) (fun c => absurd c (by decide)) (fun _ => ?_)
  refine sd_aload_n dGS_attempt_84 rfl rfl ?_
  refine fx_getiv (v := (nI (n))) 3 3 dGS_attempt_85 fGS_33 rfl rfl (hn) ?_
  refine sd_gets sz_LEFT dGS_attempt_88 (by decide) (Or.inr ⟨"SequentDesk", (sd_nT (sd_in4 (List.mem_of_getElem? (i := 21) rfl)) rfl)⟩) ?_
  refine sd_iload_n dGS_attempt_91 rfl rfl ?_
  refine sd_tald sz_LEFT (v := (nI (gk k))) dGS_attempt_92 (by decide) (vp_in_nI (by show _ < 9; omega) (by decide)) (left_tab k hk) ?_
  refine nn_iadd dGS_attempt_93 ?_
  refine sd_bipush (v := nI 30) dGS_attempt_94 (by decide) ?_
  refine nn_icmp_le 103 dGS_attempt_96 (by decide) (by omega) (by omega) (fun c96 => ?_) (fun c96 => ?_)
  ·
    refine sd_iload dGS_attempt_103 rfl ?_
    refine nn_if_ge dGS_attempt_105 120 (by decide) (by omega) ?_
    refine sd_aload_n dGS_attempt_120 rfl rfl ?_
    refine sd_iload_n dGS_attempt_121 rfl rfl ?_
    refine sd_iload_n dGS_attempt_122 rfl rfl ?_
    refine fx_cP 3 sR_GS [.int (nI (k)), .int (y)] [] dGS_attempt_123 kGS_89 rfl rfl mGS_take_v (c_GS_take hB hk hn2 hn hO hT hg hl2 hd hy) (by decide) (Nat.le_refl _) (Nat.le_refl _) (Nat.le_of_ble_eq_true rfl) rfl (fun D1 h1 => ?_)
    refine sd_aload_n dGS_attempt_126 rfl rfl ?_
    refine fx_getiv (v := (nI (gk k + tl.length))) 3 5 dGS_attempt_127 fGS_37 rfl rfl ((by have z := h1.1.2.1; simpa using z)) ?_
    exact sd_iret dGS_attempt_130 rfl (Nat.le_refl _) (Nat.le_refl _) ⟨rfl, rfl, _, rfl, hQ D1 h1⟩
  ·
    exact absurd c96 (by omega)
theorem dk_R_tm {S : st_S} {D D' : fx_D} (hR : dk_R S D) (hf : tm_f ((st_T S).length + 1) D D') : dk_R S D' := by
  have h64 := hR.2.1.1
  have a : ∀ x, ¬ (8 ≤ x ∧ x < 296) → ag D D' x := fun x hx => hf.ag (by unfold tmo; omega) (by unfold tmo; omega) (by unfold tmo; omega) (by unfold tmo; omega)
  obtain ⟨r1, r2, r3, r4, r5, r6, r7⟩ := hR
  exact ⟨dk_nt_ag (a 2 (by omega)) r1, ⟨r2.1, ts_T_f (Or.inl (Nat.lt_succ_self _)) hf r2.2⟩, dd_R_ag (a 296 (by omega)) (a 297 (by omega)) r3, dk_thm_ag (a 307 (by omega)) (fun x _ _ => a x (by omega)) r4, dk_glL_ag (a 432 (by omega)) (fun x _ _ => a x (by omega)) r5, dk_opn_ag (a 432 (by omega)) (a 434 (by omega)) r6, dk_tkn_ag (a 432 (by omega)) (a 435 (by omega)) r7⟩
theorem dk_glL_lo {D D' : fx_D} {L : List st_Gl} (a1 : ag D D' 432) (a : ∀ x, 436 ≤ x → x < 436 + 3 * L.length → ag D D' x) (h : dk_glL D L) : dk_glL D' L := by
  refine ⟨h.1, by rw [a1.2.1]; exact h.2.1, fun g q hq => ?_⟩
  have hg := getE_lt hq
  obtain ⟨b1, b2, b3⟩ := h.2.2 g q hq
  have c0 := a (436 + 3 * g) (by omega) (by omega)
  have c1 := a (436 + 3 * g + 1) (by omega) (by omega)
  have c2 := a (436 + 3 * g + 1 + 1) (by omega) (by omega)
  exact ⟨so_r_ag c1 c2 b1, by rw [c1.2.1]; exact b2, fun w hw => by rw [c0.2.1]; exact b3 w hw⟩
theorem dk_R_lv {S : st_S} {D D' : fx_D} {X : List tl_T} (hR : dk_R S D) (a : ∀ x, ¬ (4 ≤ x ∧ x < 296) → x ≠ 1 → ¬ (436 + 3 * (st_gl S).length + 1 ≤ x ∧ x < 436 + 3 * ((st_gl S).length + 1) + 1 + 2) → ag D D' x) (h : ts_T D' (st_T S ++ X)) : dk_R S (fx_uf D' 1 2 (nI (st_T S).length)) := by
  have h64 := hR.2.1.1
  obtain ⟨r1, r2, r3, r4, r5, r6, r7⟩ := hR
  have a' : ∀ x, ¬ (4 ≤ x ∧ x < 296) → x ≠ 1 → ¬ (436 + 3 * (st_gl S).length + 1 ≤ x ∧ x < 436 + 3 * ((st_gl S).length + 1) + 1 + 2) → ag D (fx_uf D' 1 2 (nI (st_T S).length)) x := fun x h1 h2 h3 => (a x h1 h2 h3).tr (ag_uf h2)
  exact ⟨dk_nt_ag (a' 2 (by omega) (by omega) (by omega)) r1, dk_tms_back r2.1 h, dd_R_ag (a' 296 (by omega) (by omega) (by omega)) (a' 297 (by omega) (by omega) (by omega)) r3, dk_thm_ag (a' 307 (by omega) (by omega) (by omega)) (fun x _ _ => a' x (by omega) (by omega) (by omega)) r4, dk_glL_lo (a' 432 (by omega) (by omega) (by omega)) (fun x _ _ => a' x (by omega) (by omega) (by omega)) r5, dk_opn_ag (a' 432 (by omega) (by omega) (by omega)) (a' 434 (by omega) (by omega) (by omega)) r6, dk_tkn_ag (a' 432 (by omega) (by omega) (by omega)) (a' 435 (by omega) (by omega) (by omega)) r7⟩
theorem dk_glL_new {S : st_S} {D D' : fx_D} {k a g : Nat} {kids : List st_Gl} (h : dk_glL D (st_gl S)) (hg : g < (st_gl S).length) (hl : (st_gl S).length + kids.length ≤ 30) (fr : ∀ x, 436 ≤ x → x < 436 + 3 * (st_gl S).length → x ≠ 436 + 3 * g → ag D D' x) (hr : D'.2.1 (436 + 3 * g) 1 = nI k ∧ (k = 8 → D'.2.1 (436 + 3 * g) 2 = nI a) ∧ D'.2.1 (436 + 3 * g) 3 = nI (st_gl S).length) (hm : D'.2.1 432 3 = nI ((st_gl S).length + kids.length)) (hk : ∀ (j : Nat) (q : st_Gl), kids[j]? = some q → so_r D' (436 + 3 * ((st_gl S).length + j) + 1) q.2.1 ∧ D'.2.1 (436 + 3 * ((st_gl S).length + j) + 1) 2 = nI q.1 ∧ q.2.2 = none) : dk_glL D' ((st_gl S).set g (st_gt S g, st_gh S g, some (k, a, (st_gl S).length)) ++ kids) := by
  refine ⟨by simp only [List.length_append, List.length_set]; omega, by simp only [List.length_append, List.length_set]; exact hm, fun i q hq => ?_⟩
  by_cases hi : i < (st_gl S).length
  · rw [List.getElem?_append_left (by simpa using hi)] at hq
    have c1 := fr (436 + 3 * i + 1) (by omega) (by omega) (by omega)
    have c2 := fr (436 + 3 * i + 1 + 1) (by omega) (by omega) (by omega)
    by_cases hig : i = g
    · subst hig
      rw [List.getElem?_set_self hi] at hq
      cases hq
      obtain ⟨s1, s2⟩ := dk_gl_at h hi
      exact ⟨so_r_ag c1 c2 s1, by rw [c1.2.1]; exact s2, fun w hw => by cases hw; exact hr⟩
    · rw [List.getElem?_set_ne (fun e => hig e.symm)] at hq
      obtain ⟨b1, b2, b3⟩ := h.2.2 i q hq
      have c0 := fr (436 + 3 * i) (by omega) (by omega) (by omega)
      exact ⟨so_r_ag c1 c2 b1, by rw [c1.2.1]; exact b2, fun w hw => by rw [c0.2.1]; exact b3 w hw⟩
  · rw [List.getElem?_append_right (by simp; omega)] at hq
    simp only [List.length_set] at hq
    obtain ⟨b1, b2, b3⟩ := hk _ q hq
    rw [show (st_gl S).length + (i - (st_gl S).length) = i by omega] at b1 b2
    exact ⟨b1, b2, fun w hw => by rw [b3] at hw; cases hw⟩
theorem tc_k98 {S : st_S} {x y : Int32} {k a : Nat} (h : tc_there S x y k a) : k < 9 ∧ (k = 8 → y = nI a) := by
  obtain ⟨-, hh⟩ := h
  rcases hh with ⟨rfl | rfl | rfl | rfl | rfl, rfl⟩ | ⟨rfl | rfl, h, ha⟩ | ⟨rfl, h, ha⟩ | ⟨rfl, h, ha⟩ <;> first | exact ⟨by decide, fun e => absurd e (by decide)⟩ | exact ⟨by decide, fun _ => h⟩
/-- what the class asks of goals -/
def st_okD (S : st_S) : Prop := ∀ (g : Nat) (q : st_Gl), (st_gl S)[g]? = some q → q.2.1.Nodup
theorem c_GS_attempt {G : sd_G} {o : Nat} {D Dm : fx_D} {h0 : sd_H} {nx : Nat} {S S' : st_S} {x y ans : Int32} (hB : G.2.1 ≤ o) (hR : dk_R S D) (hM : mo_R S Dm) (hT : st_okT S) (hH : st_okH S) (hG : st_okG S) (hOk : st_okO S) (hNn : st_okN S) (hN : (st_T S).Nodup) (hDd : st_okD S) (hV : st_okV S) (hs : sp_tactic S x y ans S') : sd_Ct G mGS_attempt 5 0 0 [.ref (o + 432), .int x, .int y] (fx_h G.1.2 dk_S o D h0) nx (fx_is G.1.2 dk_S o h0 nx (some (.int ans)) (dk_R S')) := by
  refine sd_Ct_of (by decide) (Nat.le_of_ble_eq_true rfl) ?_
  have hO := hR.2.2.2.2.2.1
  have o30 := hO.1
  have hc := hO.2.1
  have hW := hR.W
  rcases hs with ⟨hno, rfl, hS⟩ | ⟨g, k, a, hh, ht, hs⟩
  · rw [hS]
    cases hop : st_op S with
    | nil =>
      rw [hop] at hc
      refine sd_aload_n dGS_attempt_0 rfl rfl ?_
      refine fx_getiv (v := (nI (0))) 3 5 dGS_attempt_1 fGS_37 rfl rfl (hc) ?_
      refine nn_if_eq 16 dGS_attempt_4 (by decide) (by decide) (fun _ => ?_) (fun c => absurd c (by decide))
      refine sd_iconst (v := (-1)) dGS_attempt_16 (by decide) ?_
      exact sd_iret dGS_attempt_17 rfl (Nat.le_refl _) (Nat.le_refl _) ⟨rfl, rfl, D, rfl, hR⟩
    | cons g tl =>
      have hno' : ¬ ∃ k a, tc_there S x y k a := fun ⟨k, a, q⟩ => hno ⟨g, k, a, by rw [hop]; rfl, q⟩
      have hl : 0 < (st_op S).length := by rw [hop]; simp
      refine sd_aload_n dGS_attempt_0 rfl rfl ?_
      refine fx_getiv (v := (nI ((st_op S).length))) 3 5 dGS_attempt_1 fGS_37 rfl rfl (hc) ?_
      refine nn_if_eq 16 dGS_attempt_4 (by decide) (by omega) (fun c4 => ?_) (fun c4 => ?_)
      ·
        exact absurd c4 (by omega)
      ·
        refine sd_aload_n dGS_attempt_7 rfl rfl ?_
        refine sd_iload_n dGS_attempt_8 rfl rfl ?_
        refine sd_iload_n dGS_attempt_9 rfl rfl ?_
        refine fx_cV 3 sR_GS [.int (x), .int (y)] [] dGS_attempt_10 kGS_59 rfl rfl mGS_isThere_v (c_GS_thereF hW hno') (by decide) (Nat.le_refl _) (Nat.le_refl _) (Nat.le_of_ble_eq_true rfl) rfl ?_
        refine nn_if_ne 18 dGS_attempt_13 (by decide) (by decide) (fun c => absurd c (by decide)) (fun _ => ?_)
        refine sd_iconst (v := (-1)) dGS_attempt_16 (by decide) ?_
        exact sd_iret dGS_attempt_17 rfl (Nat.le_refl _) (Nat.le_refl _) ⟨rfl, rfl, D, rfl, hR⟩
  · obtain ⟨tl, hop⟩ : ∃ tl, st_op S = g :: tl := by
      cases e : st_op S with
      | nil => rw [e] at hh; cases hh
      | cons g' tl => rw [e] at hh; cases hh; exact ⟨tl, rfl⟩
    have hg : g < (st_gl S).length := hOk g (by rw [hop]; simp)
    have g30 := hR.2.2.2.2.1.1
    have hl : 0 < (st_op S).length := by rw [hop]; simp
    have h64 := hR.2.1.1
    obtain ⟨k9, k8⟩ := tc_k98 ht
    have hx := ht.1
    subst hx
    have og := c_GS_openGoal (G := G) (o := o) (h0 := h0) (nx := nx) (k := 0) (g := g) hO (by rw [hop]; rfl) (by omega)
    unfold tc_do at hs
    by_cases hfit : su_fit S k a g = true
    · rw [if_neg (by rw [hfit]; decide)] at hs
      have ft := c_GS_fits (G := G) (o := o) (h0 := h0) (nx := nx) (v := 1) hB hR hT hH hG hg rfl ht (by omega) (by simp only [true_iff]; exact hfit)
      refine sd_aload_n dGS_attempt_0 rfl rfl ?_
      refine fx_getiv (v := (nI ((st_op S).length))) 3 5 dGS_attempt_1 fGS_37 rfl rfl (hc) ?_
      refine nn_if_eq 16 dGS_attempt_4 (by decide) (by omega) (fun c4 => ?_) (fun c4 => ?_)
      ·
        exact absurd c4 (by omega)
      ·
        refine sd_aload_n dGS_attempt_7 rfl rfl ?_
        refine sd_iload_n dGS_attempt_8 rfl rfl ?_
        refine sd_iload_n dGS_attempt_9 rfl rfl ?_
        refine fx_cV 3 sR_GS [.int (nI (k)), .int (y)] [] dGS_attempt_10 kGS_59 rfl rfl mGS_isThere_v (c_GS_thereT hW ht) (by decide) (Nat.le_refl _) (Nat.le_refl _) (Nat.le_of_ble_eq_true rfl) rfl ?_
        refine nn_if_ne 18 dGS_attempt_13 (by decide) (by decide) (fun _ => ?_) (fun c => absurd c (by decide))
        refine sd_aload_n dGS_attempt_18 rfl rfl ?_
        refine sd_iconst (v := nI 0) dGS_attempt_19 (by decide) ?_
        refine fx_cV 3 sR_GS [.int (nI (0))] [] dGS_attempt_20 kGS_63 rfl rfl mGS_openGoal_v (og) (by decide) (Nat.le_refl _) (Nat.le_refl _) (Nat.le_of_ble_eq_true rfl) rfl ?_
        refine fx_getr 2 0 (436 + 3 * (g) + 1) dGS_attempt_23 fGS_46 (dk_gl (by omega)) rfl ?_
        refine sd_astore_n dGS_attempt_26 rfl (by decide) ?_
        refine sd_aload_n dGS_attempt_27 rfl rfl ?_
        refine sd_iload_n dGS_attempt_28 rfl rfl ?_
        refine sd_iload_n dGS_attempt_29 rfl rfl ?_
        refine sd_aload_n dGS_attempt_30 rfl rfl ?_
        refine fx_cP 3 sR_GS [.int (nI (k)), .int (y), .ref (o + (436 + 3 * (g) + 1))] [] dGS_attempt_31 kGS_67 rfl rfl mGS_fits_v (ft) (by decide) (Nat.le_refl _) (Nat.le_refl _) (Nat.le_of_ble_eq_true rfl) rfl (fun D1 h1 => ?_)
        have hR1 := dk_R_tm hR h1
        refine nn_if_ne 40 dGS_attempt_34 (by decide) (by decide) (fun _ => ?_) (fun c => absurd c (by decide))
        refine sd_aload_n dGS_attempt_40 rfl rfl ?_
        refine fx_getr 3 0 (1) dGS_attempt_41 fGS_24 rfl rfl ?_
        refine fx_getiv (v := (nI ((st_T S).length))) 8 2 dGS_attempt_44 fGS_71 rfl rfl (hR1.2.1.2.2.1) ?_
        refine sd_istore dGS_attempt_47 (by decide) ?_
        refine sd_aload_n dGS_attempt_49 rfl rfl ?_
        refine sd_iload_n dGS_attempt_50 rfl rfl ?_
        refine sd_iload_n dGS_attempt_51 rfl rfl ?_
        refine sd_aload_n dGS_attempt_52 rfl rfl ?_
        refine fx_cP 3 sR_GS [.int (nI (k)), .int (y), .ref (o + (436 + 3 * (g) + 1))] [] dGS_attempt_53 kGS_74 rfl rfl mGS_leave_v (c_GS_leave hB hR1 hM hT hH hG hN (by have := hDd g _ (List.getElem?_eq_getElem hg); unfold st_gh; rw [List.getElem?_eq_getElem hg]; exact this) hV hg rfl ht hfit) (by decide) (Nat.le_refl _) (Nat.le_refl _) (Nat.le_of_ble_eq_true rfl) rfl (fun D2 h2 => ?_)
        refine sd_locp (al' := [(0, .ref (o + (432))), (1, .int (nI (k))), (2, .int (y)), (4, .int (nI ((st_T S).length)))]) [2, 3, 4, 0] rfl ?_
        obtain ⟨T, H0, H1, c0, c1, hb, hK⟩ := h2
        obtain ⟨b1, ⟨X, b2⟩, b3, b4, ⟨b5, b6⟩, -, b7⟩ := hb
        have hback : dk_R S (fx_uf D2 1 2 (nI (st_T S).length)) := dk_R_lv hR1 b7 (by rw [← b2]; exact b1)
        obtain ⟨s1, -⟩ := dk_gl_at hR1.2.2.2.2.1 hg
        obtain ⟨-, gh⟩ := st_gl_lt hG hg
        have hbg := tc_bg ht hK h64 s1.1 gh
        have n3 : D2.2.1 432 3 = nI (st_gl S).length := by rw [(b7 432 (by omega) (by omega) (by omega)).2.1]; exact hR1.2.2.2.2.1.2.1
        have g2 := gk_le k
        obtain ⟨R0, r01, r02, r03⟩ := so_w.ln b3
        obtain ⟨R1, r11, r12, r13⟩ := so_w.ln b4
        have hf : ∀ i, i < gk k → D2.2.1 (436 + 3 * ((st_gl S).length + i) + 1) 3 = nI ((fun i => if i = 0 then (if 6 < H0.length then 1 else 0) else (if 6 < H1.length then 1 else 0)) i) ∧ (fun i => if i = 0 then (if 6 < H0.length then 1 else 0) else (if 6 < H1.length then 1 else 0)) i < 2 := by
          intro i hi
          rcases (show i = 0 ∨ i = 1 by omega) with rfl | rfl
          · show D2.2.1 (436 + 3 * (st_gl S).length + 1) 3 = nI (if 6 < H0.length then 1 else 0) ∧ (if 6 < H0.length then 1 else 0) < 2
            by_cases q : 6 < H0.length
            · rw [if_pos q]; exact ⟨r03 q, by omega⟩
            · rw [if_neg q]; exact ⟨(r02 (by omega)).2, by omega⟩
          · show D2.2.1 (436 + 3 * ((st_gl S).length + 1) + 1) 3 = nI (if 6 < H1.length then 1 else 0) ∧ (if 6 < H1.length then 1 else 0) < 2
            by_cases q : 6 < H1.length
            · rw [if_pos q]; exact ⟨r13 q, by omega⟩
            · rw [if_neg q]; exact ⟨(r12 (by omega)).2, by omega⟩
        have hex : ((1 ≤ gk k ∧ 6 < H0.length) ∨ (2 ≤ gk k ∧ 6 < H1.length)) ↔ ∃ i, i < gk k ∧ (fun i => if i = 0 then (if 6 < H0.length then 1 else 0) else (if 6 < H1.length then 1 else 0)) i = 1 := by
          constructor
          · rintro (⟨q1, q2⟩ | ⟨q1, q2⟩)
            · exact ⟨0, by omega, by show (if 6 < H0.length then 1 else 0) = 1; rw [if_pos q2]⟩
            · exact ⟨1, by omega, by show (if 6 < H1.length then 1 else 0) = 1; rw [if_pos q2]⟩
          · rintro ⟨i, q1, q2⟩
            rcases (show i = 0 ∨ i = 1 by omega) with rfl | rfl
            · left
              refine ⟨by omega, ?_⟩
              by_cases q : 6 < H0.length
              · exact q
              · have q2' : (if 6 < H0.length then 1 else 0) = 1 := q2
                rw [if_neg q] at q2'
                omega
            · right
              refine ⟨by omega, ?_⟩
              by_cases q : 6 < H1.length
              · exact q
              · have q2' : (if 6 < H1.length then 1 else 0) = 1 := q2
                rw [if_neg q] at q2'
                omega
        by_cases hbig : tc_big S k a g = true
        · rw [if_pos hbig] at hs
          cases hs
          exact l_GS_att_big hB (c_GS_leftBig k9 g30 n3 hf (by omega) (by simp only [true_iff]; exact hex.mp (hbg.mp hbig))) hback
        · rw [if_neg hbig] at hs
          have nbc : ¬ ((1 ≤ gk k ∧ 6 < H0.length) ∨ (2 ≤ gk k ∧ 6 < H1.length)) := fun q => hbig (hbg.mpr q)
          have lb0 := c_GS_leftBig (G := G) (o := o) (h0 := h0) (nx := nx) (b := 0) k9 g30 n3 hf (by omega) ⟨fun e => absurd e (by decide), fun e => absurd (hex.mpr e) nbc⟩
          have hsm : ∀ l ∈ lv_rows S k a g, l.length ≤ 24 := fun l hl => by
            by_cases q : l.length ≤ 24
            · exact q
            · exact absurd (hK.2.1 ⟨l, hl, by omega⟩) nbc
          obtain ⟨hTe, -, -⟩ := hK.1 hsm
          have hrl := lv_gk (g := g) ht
          have hm := b1.2.1
          have hm66 := hK.2.2
          by_cases hfull : tc_full S k a g = true
          · rw [if_pos hfull] at hs
            cases hs
            refine l_GS_att_full (m := T.length) hB k9 lb0 (by omega) hm g30 n3 ?_ hback
            unfold tc_full at hfull
            rw [Bool.or_eq_true, decide_eq_true_eq, hrl] at hfull
            rcases hfull with q | q
            · left
              rw [hTe]
              exact ku_i_full _ _ _ hsm h64 q
            · exact Or.inr q
          · rw [if_neg hfull] at hs
            obtain ⟨hans, hS'⟩ := Prod.mk.inj hs
            subst hS'
            have nf : tl_full (st_T S) (lv_rows S k a g) = false ∧ (st_gl S).length + gk k ≤ 30 := by
              unfold tc_full at hfull
              rw [Bool.or_eq_true, decide_eq_true_eq, hrl, not_or] at hfull
              exact ⟨by simpa using hfull.1, by omega⟩
            obtain ⟨a1, a2, a3⟩ := ku_all _ _ [] hsm h64 nf.1
            rw [a1] at hTe
            have hkd := tc_kd ht hK hsm a2
            have klen : (tc_kids S k a g).length = gk k := by rw [tc_kids_len]; exact hrl
            have hNn' : (st_op S).length + (st_dn S).length = (st_gl S).length := hNn
            rw [hop] at hNn'
            simp only [List.length_cons] at hNn'
            have hansv : ans = nI (gk k + tl.length) := by
              rw [hans]
              show nI ((List.range (lv_rows S k a g).length).map _ ++ (st_op S).tail).length = _
              rw [List.length_append, List.length_map, List.length_range, hrl, hop]
              rfl
            subst hansv
            have hO2 : dk_opn D2 (g :: tl) := by rw [← hop]; exact dk_opn_ag (b7 432 (by omega) (by omega) (by omega)) (b7 434 (by omega) (by omega) (by omega)) hR1.2.2.2.2.2.1
            have hT2 : dk_tkn D2 (st_dn S) := dk_tkn_ag (b7 432 (by omega) (by omega) (by omega)) (b7 435 (by omega) (by omega) (by omega)) hR1.2.2.2.2.2.2
            refine l_GS_att_ok (m := T.length) hB k9 lb0 (by rw [hTe]; exact a3) hm n3 nf.2 hO2 hT2 (by omega) (by omega) (by omega) k8 (fun D3 h3 => ?_)
            obtain ⟨p1, p2, p3, p4, p5⟩ := h3
            obtain ⟨r1, r2, r3, r4, r5, r6, r7⟩ := hR1
            have lo : ∀ x, ¬ (4 ≤ x ∧ x < 296) → x ≠ 1 → x < 432 → ag D1 D3 x := fun x q1 q2 q3 => (b7 x q1 q2 (by omega)).tr (p5 x (by omega) (by omega) (by omega) (by omega))
            have op2 : (List.range (lv_rows S k a g).length).map (fun j => (st_gl S).length + j) ++ (st_op S).tail = (List.range (gk k)).map (fun j => (st_gl S).length + j) ++ tl := by rw [hrl, hop]; rfl
            refine ⟨dk_nt_ag (lo 2 (by omega) (by omega) (by omega)) r1, ⟨a3, ?_⟩, dd_R_ag (lo 296 (by omega) (by omega) (by omega)) (lo 297 (by omega) (by omega) (by omega)) r3, dk_thm_ag (lo 307 (by omega) (by omega) (by omega)) (fun x _ _ => lo x (by omega) (by omega) (by omega)) r4, ?_, ?_, p2⟩
            · show ts_T D3 (tl_all (st_T S) (lv_rows S k a g))
              rw [← hTe]
              exact ts_T_lo (fun x hx => p5 x (by omega) (by omega) (by omega) (by omega)) b1
            · show dk_glL D3 ((st_gl S).set g _ ++ tc_kids S k a g)
              refine dk_glL_new r5 hg (by omega) (fun x q1 q2 q3 => (b7 x (by omega) (by omega) (by omega)).tr (p5 x (by omega) (by omega) (by omega) q3)) p4 (by rw [klen]; exact p3) (fun j q hq => ?_)
              obtain ⟨w0, w1, w2⟩ := hkd j q hq
              have hj := getE_lt hq
              rw [klen] at hj
              have c1 := p5 (436 + 3 * ((st_gl S).length + j) + 1) (by omega) (by omega) (by omega) (by omega)
              have c2 := p5 (436 + 3 * ((st_gl S).length + j) + 1 + 1) (by omega) (by omega) (by omega) (by omega)
              rcases (show j = 0 ∨ j = 1 by omega) with rfl | rfl
              · obtain ⟨z1, z2⟩ := w0 rfl
                have le6 : H0.length ≤ 6 := by
                  by_cases q : H0.length ≤ 6
                  · exact q
                  · exact absurd (Or.inl ⟨by omega, by omega⟩) nbc
                refine ⟨so_r_ag c1 c2 (by rw [z1, ← (r02 le6).1]; exact r01), by rw [c1.2.1, ← z2]; exact b5, w2⟩
              · obtain ⟨z1, z2⟩ := w1 rfl
                have le6 : H1.length ≤ 6 := by
                  by_cases q : H1.length ≤ 6
                  · exact q
                  · exact absurd (Or.inr ⟨by omega, by omega⟩) nbc
                refine ⟨so_r_ag c1 c2 (by rw [z1, ← (r12 le6).1]; exact r11), by rw [c1.2.1, ← z2]; exact b6, w2⟩
            · show dk_opn D3 ((List.range (lv_rows S k a g).length).map _ ++ (st_op S).tail)
              rw [op2]
              exact p1
    · have hff : su_fit S k a g = false := by simpa using hfit
      rw [if_pos hff] at hs
      cases hs
      have ft := c_GS_fits (G := G) (o := o) (h0 := h0) (nx := nx) (v := 0) hB hR hT hH hG hg rfl ht (by omega) ⟨fun e => absurd e (by decide), fun e => absurd e hfit⟩
      refine sd_aload_n dGS_attempt_0 rfl rfl ?_
      refine fx_getiv (v := (nI ((st_op S).length))) 3 5 dGS_attempt_1 fGS_37 rfl rfl (hc) ?_
      refine nn_if_eq 16 dGS_attempt_4 (by decide) (by omega) (fun c4 => ?_) (fun c4 => ?_)
      ·
        exact absurd c4 (by omega)
      ·
        refine sd_aload_n dGS_attempt_7 rfl rfl ?_
        refine sd_iload_n dGS_attempt_8 rfl rfl ?_
        refine sd_iload_n dGS_attempt_9 rfl rfl ?_
        refine fx_cV 3 sR_GS [.int (nI (k)), .int (y)] [] dGS_attempt_10 kGS_59 rfl rfl mGS_isThere_v (c_GS_thereT hW ht) (by decide) (Nat.le_refl _) (Nat.le_refl _) (Nat.le_of_ble_eq_true rfl) rfl ?_
        refine nn_if_ne 18 dGS_attempt_13 (by decide) (by decide) (fun _ => ?_) (fun c => absurd c (by decide))
        refine sd_aload_n dGS_attempt_18 rfl rfl ?_
        refine sd_iconst (v := nI 0) dGS_attempt_19 (by decide) ?_
        refine fx_cV 3 sR_GS [.int (nI (0))] [] dGS_attempt_20 kGS_63 rfl rfl mGS_openGoal_v (og) (by decide) (Nat.le_refl _) (Nat.le_refl _) (Nat.le_of_ble_eq_true rfl) rfl ?_
        refine fx_getr 2 0 (436 + 3 * (g) + 1) dGS_attempt_23 fGS_46 (dk_gl (by omega)) rfl ?_
        refine sd_astore_n dGS_attempt_26 rfl (by decide) ?_
        refine sd_aload_n dGS_attempt_27 rfl rfl ?_
        refine sd_iload_n dGS_attempt_28 rfl rfl ?_
        refine sd_iload_n dGS_attempt_29 rfl rfl ?_
        refine sd_aload_n dGS_attempt_30 rfl rfl ?_
        refine fx_cP 3 sR_GS [.int (nI (k)), .int (y), .ref (o + (436 + 3 * (g) + 1))] [] dGS_attempt_31 kGS_67 rfl rfl mGS_fits_v (ft) (by decide) (Nat.le_refl _) (Nat.le_refl _) (Nat.le_of_ble_eq_true rfl) rfl (fun D1 h1 => ?_)
        refine nn_if_ne 40 dGS_attempt_34 (by decide) (by decide) (fun c => absurd c (by decide)) (fun _ => ?_)
        refine sd_bipush (v := (-4)) dGS_attempt_37 (by decide) ?_
        exact sd_iret dGS_attempt_39 rfl (Nat.le_refl _) (Nat.le_refl _) ⟨rfl, rfl, D1, rfl, dk_R_tm hR h1⟩
theorem dDK_tactic_0 : decode prog_1_method_13_code 0 = .ok (.aload_n 0, 1) := by decide +kernel
theorem dDK_tactic_1 : decode prog_1_method_13_code 1 = .ok (.getfield 44, 3) := by decide +kernel
theorem dDK_tactic_4 : decode prog_1_method_13_code 4 = .ok (.iload_n 1, 1) := by decide +kernel
theorem dDK_tactic_5 : decode prog_1_method_13_code 5 = .ok (.iload_n 2, 1) := by decide +kernel
theorem dDK_tactic_6 : decode prog_1_method_13_code 6 = .ok (.invokevirtual 174, 3) := by decide +kernel
theorem dDK_tactic_9 : decode prog_1_method_13_code 9 = .ok (.ireturn, 1) := by decide +kernel
theorem c_DK_tactic {G : sd_G} {o : Nat} {D Dm : fx_D} {h0 : sd_H} {nx : Nat} {S S' : st_S} {x y ans : Int32} (hB : G.2.1 ≤ o) (hR : dk_R S D) (hM : mo_R S Dm) (hT : st_okT S) (hH : st_okH S) (hG : st_okG S) (hOk : st_okO S) (hNn : st_okN S) (hN : (st_T S).Nodup) (hDd : st_okD S) (hV : st_okV S) (hs : sp_tactic S x y ans S') : sd_Ct G mDK_tactic 6 0 0 [.ref (o + 0), .int x, .int y] (fx_h G.1.2 dk_S o D h0) nx (fx_is G.1.2 dk_S o h0 nx (some (.int ans)) (dk_R S')) := by
  refine sd_Ct_of (by decide) (Nat.le_of_ble_eq_true rfl) ?_
  refine sd_aload_n dDK_tactic_0 rfl rfl ?_
  refine fx_getr 0 4 (432) dDK_tactic_1 fDK_44 rfl rfl ?_
  refine sd_iload_n dDK_tactic_4 rfl rfl ?_
  refine sd_iload_n dDK_tactic_5 rfl rfl ?_
  refine fx_cP 3 sR_GS [.int (x), .int (y)] [] dDK_tactic_6 kDK_174 rfl rfl mGS_attempt_v (c_GS_attempt hB hR hM hT hH hG hOk hNn hN hDd hV hs) (by decide) (Nat.le_refl _) (Nat.le_refl _) (Nat.le_of_ble_eq_true rfl) rfl (fun D1 h1 => ?_)
  exact sd_iret dDK_tactic_9 rfl (Nat.le_refl _) (Nat.le_refl _) ⟨rfl, rfl, _, rfl, h1⟩
