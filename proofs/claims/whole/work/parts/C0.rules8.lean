/-! ===== the class's Rules: make; the desk's rule ===== -/
theorem c_RU_thereT {G : sd_G} {o : Nat} {D : fx_D} {h0 : sd_H} {nx k a b c : Nat} {S : st_S} {x y z w : Int32} (hW : dk_W S (st_T S) D) (ht : ru_there S x y z w k a b c) : sd_Ct G mRU_areThere 1 0 0 [.ref (o + 307), .int x, .int y, .int z, .int w] (fx_h G.1.2 dk_S o D h0) nx (sd_is (some (.int (nI 1))) (fx_h G.1.2 dk_S o D h0) nx) := by
  have m1 := hW.2.1.1
  have m2 := hW.2.1.2.1
  have n1 := hW.2.2.1.1
  have n2 := hW.2.2.1.2.1
  obtain ⟨rfl, hh⟩ := ht
  rcases hh with ⟨rfl | rfl | rfl, rfl, ha⟩ | ⟨rfl | rfl | rfl | rfl, rfl, ha, rfl, hb⟩ | ⟨rfl, rfl, ha, rfl, hb⟩ | ⟨rfl, rfl, ha, rfl, hb, rfl, hc⟩
  · exact c_RU_there0 (m := 0) (by omega) m2 (by omega) (by simp only [true_iff]; exact ⟨a, ha, rfl⟩)
  · exact c_RU_there1 (m := 0) (by omega) m2 (by omega) (by simp only [true_iff]; exact ⟨a, ha, rfl⟩)
  · exact c_RU_there5 (m := 0) (by omega) m2 (by omega) (by simp only [true_iff]; exact ⟨a, ha, rfl⟩)
  · exact c_RU_there2 (m := 0) (by omega) n2 (by omega) (by simp only [true_iff]; exact ⟨⟨a, ha, rfl⟩, ⟨b, hb, rfl⟩⟩)
  · exact c_RU_there3 (m := 0) (by omega) n2 (by omega) (by simp only [true_iff]; exact ⟨⟨a, ha, rfl⟩, ⟨b, hb, rfl⟩⟩)
  · exact c_RU_there6 (m := 0) (by omega) n2 (by omega) (by simp only [true_iff]; exact ⟨⟨a, ha, rfl⟩, ⟨b, hb, rfl⟩⟩)
  · exact c_RU_there7 (m := 0) (by omega) n2 (by omega) (by simp only [true_iff]; exact ⟨⟨a, ha, rfl⟩, ⟨b, hb, rfl⟩⟩)
  · exact c_RU_there4 (by omega) n2 (by omega) (by simp only [true_iff]; exact ⟨⟨a, ha, rfl⟩, ⟨b, hb, rfl⟩⟩)
  · exact c_RU_there8 (by omega) n2 (by omega) m2 (by omega) (by simp only [true_iff]; exact ⟨⟨a, ha, rfl⟩, ⟨b, hb, rfl⟩, ⟨c, hc, rfl⟩⟩)
theorem c_RU_thereF {G : sd_G} {o : Nat} {D : fx_D} {h0 : sd_H} {nx : Nat} {S : st_S} {x y z w : Int32} (hW : dk_W S (st_T S) D) (ht : ¬ ∃ k a b c, ru_there S x y z w k a b c) : sd_Ct G mRU_areThere 1 0 0 [.ref (o + 307), .int x, .int y, .int z, .int w] (fx_h G.1.2 dk_S o D h0) nx (sd_is (some (.int (nI 0))) (fx_h G.1.2 dk_S o D h0) nx) := by
  have m1 := hW.2.1.1
  have m2 := hW.2.1.2.1
  have n1 := hW.2.2.1.1
  have n2 := hW.2.2.1.2.1
  have ff : ∀ {P : Prop}, (P → False) → ((0 : Nat) = 1 ↔ P) := fun h => ⟨fun e => absurd e (by decide), fun p => (h p).elim⟩
  by_cases hx : nn_lt x 9
  · obtain ⟨k, hk, rfl⟩ := hx
    match k, hk with
    | 0, _ => exact c_RU_there0 (m := 0) (by omega) m2 (by omega) (ff fun ⟨a, q1, q2⟩ => ht ⟨0, a, 0, 0, rfl, Or.inl ⟨Or.inl rfl, q2, q1⟩⟩)
    | 1, _ => exact c_RU_there1 (m := 0) (by omega) m2 (by omega) (ff fun ⟨a, q1, q2⟩ => ht ⟨1, a, 0, 0, rfl, Or.inl ⟨Or.inr (Or.inl rfl), q2, q1⟩⟩)
    | 2, _ => exact c_RU_there2 (m := 0) (by omega) n2 (by omega) (ff fun ⟨⟨a, q1, q2⟩, ⟨b, q3, q4⟩⟩ => ht ⟨2, a, b, 0, rfl, Or.inr (Or.inl ⟨Or.inl rfl, q2, q1, q4, q3⟩)⟩)
    | 3, _ => exact c_RU_there3 (m := 0) (by omega) n2 (by omega) (ff fun ⟨⟨a, q1, q2⟩, ⟨b, q3, q4⟩⟩ => ht ⟨3, a, b, 0, rfl, Or.inr (Or.inl ⟨Or.inr (Or.inl rfl), q2, q1, q4, q3⟩)⟩)
    | 4, _ => exact c_RU_there4 (by omega) n2 (by omega) (ff fun ⟨⟨a, q1, q2⟩, ⟨b, q3, q4⟩⟩ => ht ⟨4, a, b, 0, rfl, Or.inr (Or.inr (Or.inl ⟨rfl, q2, q1, q4, q3⟩))⟩)
    | 5, _ => exact c_RU_there5 (m := 0) (by omega) m2 (by omega) (ff fun ⟨a, q1, q2⟩ => ht ⟨5, a, 0, 0, rfl, Or.inl ⟨Or.inr (Or.inr rfl), q2, q1⟩⟩)
    | 6, _ => exact c_RU_there6 (m := 0) (by omega) n2 (by omega) (ff fun ⟨⟨a, q1, q2⟩, ⟨b, q3, q4⟩⟩ => ht ⟨6, a, b, 0, rfl, Or.inr (Or.inl ⟨Or.inr (Or.inr (Or.inl rfl)), q2, q1, q4, q3⟩)⟩)
    | 7, _ => exact c_RU_there7 (m := 0) (by omega) n2 (by omega) (ff fun ⟨⟨a, q1, q2⟩, ⟨b, q3, q4⟩⟩ => ht ⟨7, a, b, 0, rfl, Or.inr (Or.inl ⟨Or.inr (Or.inr (Or.inr rfl)), q2, q1, q4, q3⟩)⟩)
    | 8, _ => exact c_RU_there8 (by omega) n2 (by omega) m2 (by omega) (ff fun ⟨⟨a, q1, q2⟩, ⟨b, q3, q4⟩, ⟨c, q5, q6⟩⟩ => ht ⟨8, a, b, c, rfl, Or.inr (Or.inr (Or.inr ⟨rfl, q2, q1, q4, q3, q6, q5⟩))⟩)
    | k + 9, hk => omega
  · exact c_RU_there9 hx
theorem dRU_make_0 : decode prog_6_method_3_code 0 = .ok (.aload_n 0, 1) := by decide +kernel
theorem dRU_make_1 : decode prog_6_method_3_code 1 = .ok (.iload_n 1, 1) := by decide +kernel
theorem dRU_make_2 : decode prog_6_method_3_code 2 = .ok (.iload_n 2, 1) := by decide +kernel
theorem dRU_make_3 : decode prog_6_method_3_code 3 = .ok (.iload_n 3, 1) := by decide +kernel
theorem dRU_make_4 : decode prog_6_method_3_code 4 = .ok (.iload 4, 2) := by decide +kernel
theorem dRU_make_6 : decode prog_6_method_3_code 6 = .ok (.invokevirtual 26, 3) := by decide +kernel
theorem dRU_make_9 : decode prog_6_method_3_code 9 = .ok (.ifCond .ne (5), 3) := by decide +kernel
theorem dRU_make_12 : decode prog_6_method_3_code 12 = .ok (.iconst (-1), 1) := by decide +kernel
theorem dRU_make_13 : decode prog_6_method_3_code 13 = .ok (.ireturn, 1) := by decide +kernel
theorem dRU_make_14 : decode prog_6_method_3_code 14 = .ok (.aload_n 0, 1) := by decide +kernel
theorem dRU_make_15 : decode prog_6_method_3_code 15 = .ok (.iload_n 1, 1) := by decide +kernel
theorem dRU_make_16 : decode prog_6_method_3_code 16 = .ok (.iload_n 2, 1) := by decide +kernel
theorem dRU_make_17 : decode prog_6_method_3_code 17 = .ok (.iload_n 3, 1) := by decide +kernel
theorem dRU_make_18 : decode prog_6_method_3_code 18 = .ok (.iload 4, 2) := by decide +kernel
theorem dRU_make_20 : decode prog_6_method_3_code 20 = .ok (.invokevirtual 30, 3) := by decide +kernel
theorem dRU_make_23 : decode prog_6_method_3_code 23 = .ok (.ifCond .ne (6), 3) := by decide +kernel
theorem dRU_make_26 : decode prog_6_method_3_code 26 = .ok (.bipush (-4), 2) := by decide +kernel
theorem dRU_make_28 : decode prog_6_method_3_code 28 = .ok (.ireturn, 1) := by decide +kernel
theorem dRU_make_29 : decode prog_6_method_3_code 29 = .ok (.aload_n 0, 1) := by decide +kernel
theorem dRU_make_30 : decode prog_6_method_3_code 30 = .ok (.getfield 17, 3) := by decide +kernel
theorem dRU_make_33 : decode prog_6_method_3_code 33 = .ok (.getfield 33, 3) := by decide +kernel
theorem dRU_make_36 : decode prog_6_method_3_code 36 = .ok (.istore 5, 2) := by decide +kernel
theorem dRU_make_38 : decode prog_6_method_3_code 38 = .ok (.aload_n 0, 1) := by decide +kernel
theorem dRU_make_39 : decode prog_6_method_3_code 39 = .ok (.iload_n 1, 1) := by decide +kernel
theorem dRU_make_40 : decode prog_6_method_3_code 40 = .ok (.iload_n 2, 1) := by decide +kernel
theorem dRU_make_41 : decode prog_6_method_3_code 41 = .ok (.iload_n 3, 1) := by decide +kernel
theorem dRU_make_42 : decode prog_6_method_3_code 42 = .ok (.iload 4, 2) := by decide +kernel
theorem dRU_make_44 : decode prog_6_method_3_code 44 = .ok (.invokevirtual 36, 3) := by decide +kernel
theorem dRU_make_47 : decode prog_6_method_3_code 47 = .ok (.iconst 0, 1) := by decide +kernel
theorem dRU_make_48 : decode prog_6_method_3_code 48 = .ok (.istore 6, 2) := by decide +kernel
theorem dRU_make_50 : decode prog_6_method_3_code 50 = .ok (.aload_n 0, 1) := by decide +kernel
theorem dRU_make_51 : decode prog_6_method_3_code 51 = .ok (.getfield 11, 3) := by decide +kernel
theorem dRU_make_54 : decode prog_6_method_3_code 54 = .ok (.aload_n 0, 1) := by decide +kernel
theorem dRU_make_55 : decode prog_6_method_3_code 55 = .ok (.getfield 22, 3) := by decide +kernel
theorem dRU_make_58 : decode prog_6_method_3_code 58 = .ok (.aaload, 1) := by decide +kernel
theorem dRU_make_59 : decode prog_6_method_3_code 59 = .ok (.getfield 40, 3) := by decide +kernel
theorem dRU_make_62 : decode prog_6_method_3_code 62 = .ok (.getfield 44, 3) := by decide +kernel
theorem dRU_make_65 : decode prog_6_method_3_code 65 = .ok (.ifCond .eq (10), 3) := by decide +kernel
theorem dRU_make_68 : decode prog_6_method_3_code 68 = .ok (.bipush (-5), 2) := by decide +kernel
theorem dRU_make_70 : decode prog_6_method_3_code 70 = .ok (.istore 6, 2) := by decide +kernel
theorem dRU_make_72 : decode prog_6_method_3_code 72 = .ok (.goto (26), 3) := by decide +kernel
theorem dRU_make_75 : decode prog_6_method_3_code 75 = .ok (.aload_n 0, 1) := by decide +kernel
theorem dRU_make_76 : decode prog_6_method_3_code 76 = .ok (.getfield 17, 3) := by decide +kernel
theorem dRU_make_79 : decode prog_6_method_3_code 79 = .ok (.invokevirtual 50, 3) := by decide +kernel
theorem dRU_make_82 : decode prog_6_method_3_code 82 = .ok (.ifCond .ne (12), 3) := by decide +kernel
theorem dRU_make_85 : decode prog_6_method_3_code 85 = .ok (.aload_n 0, 1) := by decide +kernel
theorem dRU_make_86 : decode prog_6_method_3_code 86 = .ok (.getfield 22, 3) := by decide +kernel
theorem dRU_make_89 : decode prog_6_method_3_code 89 = .ok (.bipush (40), 2) := by decide +kernel
theorem dRU_make_91 : decode prog_6_method_3_code 91 = .ok (.if_icmp .lt (7), 3) := by decide +kernel
theorem dRU_make_94 : decode prog_6_method_3_code 94 = .ok (.bipush (-6), 2) := by decide +kernel
theorem dRU_make_96 : decode prog_6_method_3_code 96 = .ok (.istore 6, 2) := by decide +kernel
theorem dRU_make_98 : decode prog_6_method_3_code 98 = .ok (.iload 6, 2) := by decide +kernel
theorem dRU_make_100 : decode prog_6_method_3_code 100 = .ok (.ifCond .ge (15), 3) := by decide +kernel
theorem dRU_make_103 : decode prog_6_method_3_code 103 = .ok (.aload_n 0, 1) := by decide +kernel
theorem dRU_make_104 : decode prog_6_method_3_code 104 = .ok (.getfield 17, 3) := by decide +kernel
theorem dRU_make_107 : decode prog_6_method_3_code 107 = .ok (.iload 5, 2) := by decide +kernel
theorem dRU_make_109 : decode prog_6_method_3_code 109 = .ok (.putfield 33, 3) := by decide +kernel
theorem dRU_make_112 : decode prog_6_method_3_code 112 = .ok (.iload 6, 2) := by decide +kernel
theorem dRU_make_114 : decode prog_6_method_3_code 114 = .ok (.ireturn, 1) := by decide +kernel
theorem dRU_make_115 : decode prog_6_method_3_code 115 = .ok (.aload_n 0, 1) := by decide +kernel
theorem dRU_make_116 : decode prog_6_method_3_code 116 = .ok (.dup, 1) := by decide +kernel
theorem dRU_make_117 : decode prog_6_method_3_code 117 = .ok (.getfield 22, 3) := by decide +kernel
theorem dRU_make_120 : decode prog_6_method_3_code 120 = .ok (.iconst 1, 1) := by decide +kernel
theorem dRU_make_121 : decode prog_6_method_3_code 121 = .ok (.iadd, 1) := by decide +kernel
theorem dRU_make_122 : decode prog_6_method_3_code 122 = .ok (.putfield 22, 3) := by decide +kernel
theorem dRU_make_125 : decode prog_6_method_3_code 125 = .ok (.aload_n 0, 1) := by decide +kernel
theorem dRU_make_126 : decode prog_6_method_3_code 126 = .ok (.getfield 22, 3) := by decide +kernel
theorem dRU_make_129 : decode prog_6_method_3_code 129 = .ok (.iconst 1, 1) := by decide +kernel
theorem dRU_make_130 : decode prog_6_method_3_code 130 = .ok (.isub, 1) := by decide +kernel
theorem dRU_make_131 : decode prog_6_method_3_code 131 = .ok (.ireturn, 1) := by decide +kernel
theorem l_RU_make_big {G : sd_G} {o : Nat} {D : fx_D} {h0 : sd_H} {nx n t : Nat} {x y z w : Int32} {Qp : fx_D → Prop} (hB : G.2.1 ≤ o) (hn : n ≤ 40) (h7 : D.2.1 307 2 = nI n) (hb : D.2.1 (309 + 3 * n + 1) 3 = nI 1) (hQ : Qp (fx_uf D 1 2 (nI t))) : sd_W G mRU_make 6 0 0 (fx_is G.1.2 dk_S o h0 nx (some (.int (-5))) Qp) 47 [(0, .ref (o + 307)), (1, .int x), (2, .int y), (3, .int z), (4, .int w), (5, .int (nI t))] [] (fx_h G.1.2 dk_S o D h0) nx 0 0 := by
  refine sd_iconst (v := nI 0) dRU_make_47 (by decide) ?_
  refine sd_istore dRU_make_48 (by decide) ?_
  refine sd_aload_n dRU_make_50 rfl rfl ?_
  refine fx_getr 5 1 (308) dRU_make_51 fRU_11 rfl rfl ?_
  refine sd_aload_n dRU_make_54 rfl rfl ?_
  refine fx_getiv (v := (nI (n))) 5 2 dRU_make_55 fRU_22 rfl rfl (h7) ?_
  refine fx_aald (n) dRU_make_58 rfl rfl rfl (by omega) (by decide) ?_
  refine fx_getr 9 0 (309 + 3 * (n) + 1) dRU_make_59 fRU_40 (dk_th (by omega)) rfl ?_
  refine fx_getiv (v := (nI (1))) 6 3 dRU_make_62 fRU_44 (dk_ths (p := n) (by omega)).1 rfl (hb) ?_
  refine nn_if_eq 75 dRU_make_65 (by decide) (by decide) (fun c => absurd c (by decide)) (fun _ => ?_)
  refine sd_bipush (v := (-5)) dRU_make_68 (by decide) ?_
  refine sd_istore dRU_make_70 (by decide) ?_
  refine sd_goto 98 dRU_make_72 (by decide) ?_
  refine sd_iload dRU_make_98 rfl ?_
  refine sd_if_ge 115 dRU_make_100 (by decide) (fun c100 => ?_) (fun c100 => ?_)
  ·
    exact absurd c100 (by decide)
  ·
    refine sd_aload_n dRU_make_103 rfl rfl ?_
    refine fx_getr 5 0 (1) dRU_make_104 fRU_17 rfl rfl ?_
    refine sd_iload dRU_make_107 rfl ?_
    refine fx_puti 8 2 dRU_make_109 fRU_33 rfl rfl rfl rfl hB ?_
    refine sd_iload dRU_make_112 rfl ?_
    exact sd_iret dRU_make_114 rfl (Nat.le_refl _) (Nat.le_refl _) ⟨rfl, rfl, _, rfl, hQ⟩
theorem l_RU_make_full {G : sd_G} {o : Nat} {D : fx_D} {h0 : sd_H} {nx n m t : Nat} {x y z w : Int32} {Qp : fx_D → Prop} (hB : G.2.1 ≤ o) (hn : n ≤ 40) (h7 : D.2.1 307 2 = nI n) (hb : D.2.1 (309 + 3 * n + 1) 3 = nI 0) (hm1 : m ≤ 100) (hm : D.2.1 1 2 = nI m) (hfull : 64 < m ∨ n = 40) (hQ : Qp (fx_uf D 1 2 (nI t))) : sd_W G mRU_make 6 0 0 (fx_is G.1.2 dk_S o h0 nx (some (.int (-6))) Qp) 47 [(0, .ref (o + 307)), (1, .int x), (2, .int y), (3, .int z), (4, .int w), (5, .int (nI t))] [] (fx_h G.1.2 dk_S o D h0) nx 0 0 := by
  by_cases h64 : 64 < m
  · skip
    refine sd_iconst (v := nI 0) dRU_make_47 (by decide) ?_
    refine sd_istore dRU_make_48 (by decide) ?_
    refine sd_aload_n dRU_make_50 rfl rfl ?_
    refine fx_getr 5 1 (308) dRU_make_51 fRU_11 rfl rfl ?_
    refine sd_aload_n dRU_make_54 rfl rfl ?_
    refine fx_getiv (v := (nI (n))) 5 2 dRU_make_55 fRU_22 rfl rfl (h7) ?_
    refine fx_aald (n) dRU_make_58 rfl rfl rfl (by omega) (by decide) ?_
    refine fx_getr 9 0 (309 + 3 * (n) + 1) dRU_make_59 fRU_40 (dk_th (by omega)) rfl ?_
    refine fx_getiv (v := (nI (0))) 6 3 dRU_make_62 fRU_44 (dk_ths (p := n) (by omega)).1 rfl (hb) ?_
    refine nn_if_eq 75 dRU_make_65 (by decide) (by decide) (fun _ => ?_) (fun c => absurd c (by decide))
    refine sd_aload_n dRU_make_75 rfl rfl ?_
    refine fx_getr 5 0 (1) dRU_make_76 fRU_17 rfl rfl ?_
    refine fx_cV 8 sR_TS [] [] dRU_make_79 kRU_50 rfl rfl mTS_overfull_v (c_TS_overfull (b := 1) hm1 hm (by omega) (by simp only [true_iff]; exact h64)) (by decide) (Nat.le_refl _) (Nat.le_refl _) (Nat.le_of_ble_eq_true rfl) rfl ?_
    refine nn_if_ne 94 dRU_make_82 (by decide) (by decide) (fun _ => ?_) (fun c => absurd c (by decide))
    refine sd_bipush (v := (-6)) dRU_make_94 (by decide) ?_
    refine sd_istore dRU_make_96 (by decide) ?_
    refine sd_iload dRU_make_98 rfl ?_
    refine sd_if_ge 115 dRU_make_100 (by decide) (fun c100 => ?_) (fun c100 => ?_)
    ·
      exact absurd c100 (by decide)
    ·
      refine sd_aload_n dRU_make_103 rfl rfl ?_
      refine fx_getr 5 0 (1) dRU_make_104 fRU_17 rfl rfl ?_
      refine sd_iload dRU_make_107 rfl ?_
      refine fx_puti 8 2 dRU_make_109 fRU_33 rfl rfl rfl rfl hB ?_
      refine sd_iload dRU_make_112 rfl ?_
      exact sd_iret dRU_make_114 rfl (Nat.le_refl _) (Nat.le_refl _) ⟨rfl, rfl, _, rfl, hQ⟩
  · have hn40 : n = 40 := by omega
    refine sd_iconst (v := nI 0) dRU_make_47 (by decide) ?_
    refine sd_istore dRU_make_48 (by decide) ?_
    refine sd_aload_n dRU_make_50 rfl rfl ?_
    refine fx_getr 5 1 (308) dRU_make_51 fRU_11 rfl rfl ?_
    refine sd_aload_n dRU_make_54 rfl rfl ?_
    refine fx_getiv (v := (nI (n))) 5 2 dRU_make_55 fRU_22 rfl rfl (h7) ?_
    refine fx_aald (n) dRU_make_58 rfl rfl rfl (by omega) (by decide) ?_
    refine fx_getr 9 0 (309 + 3 * (n) + 1) dRU_make_59 fRU_40 (dk_th (by omega)) rfl ?_
    refine fx_getiv (v := (nI (0))) 6 3 dRU_make_62 fRU_44 (dk_ths (p := n) (by omega)).1 rfl (hb) ?_
    refine nn_if_eq 75 dRU_make_65 (by decide) (by decide) (fun _ => ?_) (fun c => absurd c (by decide))
    refine sd_aload_n dRU_make_75 rfl rfl ?_
    refine fx_getr 5 0 (1) dRU_make_76 fRU_17 rfl rfl ?_
    refine fx_cV 8 sR_TS [] [] dRU_make_79 kRU_50 rfl rfl mTS_overfull_v (c_TS_overfull (b := 0) hm1 hm (by omega) (by constructor; intro e; cases e; intro e; exact absurd e h64)) (by decide) (Nat.le_refl _) (Nat.le_refl _) (Nat.le_of_ble_eq_true rfl) rfl ?_
    refine nn_if_ne 94 dRU_make_82 (by decide) (by decide) (fun c => absurd c (by decide)) (fun _ => ?_)
    refine sd_aload_n dRU_make_85 rfl rfl ?_
    refine fx_getiv (v := (nI (n))) 5 2 dRU_make_86 fRU_22 rfl rfl (h7) ?_
    refine sd_bipush (v := nI 40) dRU_make_89 (by decide) ?_
    refine nn_icmp_lt 98 dRU_make_91 (by decide) (by omega) (by omega) (fun c91 => ?_) (fun c91 => ?_)
    ·
      exact absurd c91 (by omega)
    ·
      refine sd_bipush (v := (-6)) dRU_make_94 (by decide) ?_
      refine sd_istore dRU_make_96 (by decide) ?_
      refine sd_iload dRU_make_98 rfl ?_
      refine sd_if_ge 115 dRU_make_100 (by decide) (fun c100 => ?_) (fun c100 => ?_)
      ·
        exact absurd c100 (by decide)
      ·
        refine sd_aload_n dRU_make_103 rfl rfl ?_
        refine fx_getr 5 0 (1) dRU_make_104 fRU_17 rfl rfl ?_
        refine sd_iload dRU_make_107 rfl ?_
        refine fx_puti 8 2 dRU_make_109 fRU_33 rfl rfl rfl rfl hB ?_
        refine sd_iload dRU_make_112 rfl ?_
        exact sd_iret dRU_make_114 rfl (Nat.le_refl _) (Nat.le_refl _) ⟨rfl, rfl, _, rfl, hQ⟩
theorem l_RU_make_ok {G : sd_G} {o : Nat} {D : fx_D} {h0 : sd_H} {nx n m t : Nat} {x y z w : Int32} {Qp : fx_D → Prop} (hB : G.2.1 ≤ o) (hn : n < 40) (h7 : D.2.1 307 2 = nI n) (hb : D.2.1 (309 + 3 * n + 1) 3 = nI 0) (hm1 : m ≤ 64) (hm : D.2.1 1 2 = nI m) (hQ : Qp (fx_uf D 307 2 (nI (n + 1)))) : sd_W G mRU_make 6 0 0 (fx_is G.1.2 dk_S o h0 nx (some (.int (nI n))) Qp) 47 [(0, .ref (o + 307)), (1, .int x), (2, .int y), (3, .int z), (4, .int w), (5, .int (nI t))] [] (fx_h G.1.2 dk_S o D h0) nx 0 0 := by
  refine sd_iconst (v := nI 0) dRU_make_47 (by decide) ?_
  refine sd_istore dRU_make_48 (by decide) ?_
  refine sd_aload_n dRU_make_50 rfl rfl ?_
  refine fx_getr 5 1 (308) dRU_make_51 fRU_11 rfl rfl ?_
  refine sd_aload_n dRU_make_54 rfl rfl ?_
  refine fx_getiv (v := (nI (n))) 5 2 dRU_make_55 fRU_22 rfl rfl (h7) ?_
  refine fx_aald (n) dRU_make_58 rfl rfl rfl (by omega) (by decide) ?_
  refine fx_getr 9 0 (309 + 3 * (n) + 1) dRU_make_59 fRU_40 (dk_th (by omega)) rfl ?_
  refine fx_getiv (v := (nI (0))) 6 3 dRU_make_62 fRU_44 (dk_ths (p := n) (by omega)).1 rfl (hb) ?_
  refine nn_if_eq 75 dRU_make_65 (by decide) (by decide) (fun _ => ?_) (fun c => absurd c (by decide))
  refine sd_aload_n dRU_make_75 rfl rfl ?_
  refine fx_getr 5 0 (1) dRU_make_76 fRU_17 rfl rfl ?_
  refine fx_cV 8 sR_TS [] [] dRU_make_79 kRU_50 rfl rfl mTS_overfull_v (c_TS_overfull (b := 0) (by omega) hm (by omega) (by constructor; intro e; cases e; intro e; omega)) (by decide) (Nat.le_refl _) (Nat.le_refl _) (Nat.le_of_ble_eq_true rfl) rfl ?_
  refine nn_if_ne 94 dRU_make_82 (by decide) (by decide) (fun c => absurd c (by decide)) (fun _ => ?_)
  refine sd_aload_n dRU_make_85 rfl rfl ?_
  refine fx_getiv (v := (nI (n))) 5 2 dRU_make_86 fRU_22 rfl rfl (h7) ?_
  refine sd_bipush (v := nI 40) dRU_make_89 (by decide) ?_
  refine nn_icmp_lt 98 dRU_make_91 (by decide) (by omega) (by omega) (fun c91 => ?_) (fun c91 => ?_)
  ·
    refine sd_iload dRU_make_98 rfl ?_
    refine nn_if_ge dRU_make_100 115 (by decide) (by omega) ?_
    refine sd_aload_n dRU_make_115 rfl rfl ?_
    refine sd_dup dRU_make_116 rfl ?_
    refine fx_getiv (v := (nI (n))) 5 2 dRU_make_117 fRU_22 rfl rfl (h7) ?_
    refine sd_iconst (v := nI 1) dRU_make_120 (by decide) ?_
    refine nn_iadd dRU_make_121 ?_
    refine fx_puti 5 2 dRU_make_122 fRU_22 rfl rfl rfl rfl hB ?_
    refine sd_aload_n dRU_make_125 rfl rfl ?_
    refine fx_getiv (v := (nI (n + 1))) 5 2 dRU_make_126 fRU_22 rfl rfl ((by simp [fx_uf, upd])) ?_
    refine sd_iconst (v := nI 1) dRU_make_129 (by decide) ?_
    refine nn_isub dRU_make_130 (by omega) ?_
    exact sd_iret dRU_make_131 rfl (Nat.le_refl _) (Nat.le_refl _) ⟨rfl, rfl, _, rfl, hQ⟩
  ·
    exact absurd c91 (by omega)
/-- theorems: what a new one leaves as it was -/
theorem st_okF_app {S S' : st_S} {h : st_Th} (hF : st_okF S) (he : st_th S' = st_th S ++ [h]) (h1 : ∀ a, h.2.2.2.1 = some a → a < (st_th S).length) (h2 : ∀ a, h.2.2.2.2 = some a → a < (st_th S).length) : st_okF S' := by
  have e : ∀ p, (p < (st_th S).length ∧ (st_th S')[p]? = (st_th S)[p]?) ∨ (p = (st_th S).length ∧ (st_th S')[p]? = some h) ∨ ((st_th S')[p]? = none) := fun p => by
    rw [he]
    by_cases hp : p < (st_th S).length
    · exact Or.inl ⟨hp, List.getElem?_append_left hp⟩
    · by_cases hp2 : p = (st_th S).length
      · subst hp2
        exact Or.inr (Or.inl ⟨rfl, by simp⟩)
      · exact Or.inr (Or.inr (by rw [List.getElem?_eq_none_iff]; simp; omega))
  constructor
  · intro p a q
    unfold st_f1 at q
    rcases e p with ⟨-, e⟩ | ⟨rfl, e⟩ | e
    · rw [e] at q
      exact hF.1 p a q
    · rw [e] at q
      exact h1 a q
    · rw [e] at q
      cases q
  · intro p a q
    unfold st_f2 at q
    rcases e p with ⟨-, e⟩ | ⟨rfl, e⟩ | e
    · rw [e] at q
      exact hF.2 p a q
    · rw [e] at q
      exact h2 a q
    · rw [e] at q
      cases q
theorem rs_app {S S' : st_S} {h : st_Th} (hF : st_okF S) (hF' : st_okF S') (he : st_th S' = st_th S ++ [h]) : ∀ (n p : Nat), p < n → p < (st_th S).length → rs S' p = rs S p := by
  intro n
  induction n with
  | zero => intro p h; omega
  | succ n ih =>
    intro p hp hl
    have e : (st_th S')[p]? = (st_th S)[p]? := by rw [he]; exact List.getElem?_append_left hl
    have e1 : st_f1 S' p = st_f1 S p := by unfold st_f1; rw [e]
    have e2 : st_f2 S' p = st_f2 S p := by unfold st_f2; rw [e]
    rw [rs_eq hF' p, rs_eq hF p, e1, e2]
    have k1 := hF.1 p
    have k2 := hF.2 p
    cases f1 : st_f1 S p with
    | none =>
      cases f2 : st_f2 S p with
      | none => rfl
      | some b =>
        have := k2 b f2
        simp only [ih b (by omega) (by omega)]
    | some a =>
      have := k1 a f1
      cases f2 : st_f2 S p with
      | none => simp only [ih a (by omega) (by omega)]
      | some b =>
        have := k2 b f2
        simp only [ih a (by omega) (by omega), ih b (by omega) (by omega)]
theorem rs_new {S S' : st_S} {h : st_Th} (hF : st_okF S) (he : st_th S' = st_th S ++ [h]) (h1 : ∀ a, h.2.2.2.1 = some a → a < (st_th S).length) (h2 : ∀ a, h.2.2.2.2 = some a → a < (st_th S).length) : rs S' (st_th S).length = 2 ^ (st_th S).length ||| rr_1 (st_th S) h.2.2.2.1 ||| rr_1 (st_th S) h.2.2.2.2 := by
  have hF' := st_okF_app hF he h1 h2
  have e : (st_th S')[(st_th S).length]? = some h := by rw [he]; simp
  have e1 : st_f1 S' (st_th S).length = h.2.2.2.1 := by unfold st_f1; rw [e]; rfl
  have e2 : st_f2 S' (st_th S).length = h.2.2.2.2 := by unfold st_f2; rw [e]; rfl
  rw [rs_eq hF', e1, e2, Nat.or_assoc]
  have g : ∀ p : Option Nat, (∀ a, p = some a → a < (st_th S).length) → (match p with | some a => rs S' a | none => 0) = rr_1 (st_th S) p := fun p hp => by
    cases p with
    | none => rfl
    | some a => exact (rs_app hF hF' he (a + 1) a (by omega) (hp a rfl)).trans (rs_rl S a)
  exact congrArg (2 ^ (st_th S).length ||| ·) (congr (congrArg HOr.hOr (g _ h1)) (g _ h2))
theorem dk_thm_new {S S' : st_S} {D D' : fx_D} {h : st_Th} (hF : st_okF S) (hT : dk_thm D (st_th S)) (hn : (st_th S).length < 40) (he : st_th S' = st_th S ++ [h]) (h1 : ∀ a, h.2.2.2.1 = some a → a < (st_th S).length) (h2 : ∀ a, h.2.2.2.2 = some a → a < (st_th S).length) (a : ∀ x, 309 ≤ x → x < 309 + 3 * (st_th S).length → ag D D' x) (hm : D'.2.1 307 2 = nI ((st_th S).length + 1)) (hs : so_r D' (309 + 3 * (st_th S).length + 1) h.2.1) (hc : D'.2.1 (309 + 3 * (st_th S).length + 1) 2 = nI h.1) (hr : D'.2.1 (309 + 3 * (st_th S).length) 1 = nI h.2.2.1 ∧ D'.2.1 (309 + 3 * (st_th S).length) 2 = oi_I h.2.2.2.1 ∧ D'.2.1 (309 + 3 * (st_th S).length) 3 = oi_I h.2.2.2.2) (hl : D'.2.2 (309 + 3 * (st_th S).length) = lI (2 ^ (st_th S).length ||| rr_1 (st_th S) h.2.2.2.1 ||| rr_1 (st_th S) h.2.2.2.2)) : dk_thm D' (st_th S') := by
  have hF' := st_okF_app hF he h1 h2
  have hnew := rs_new hF he h1 h2
  refine ⟨by rw [he, List.length_append]; show _ + 1 ≤ 40; omega, by rw [he, List.length_append]; exact hm, fun p q hq => ?_⟩
  rw [← rs_rl S' p]
  rw [he] at hq
  by_cases hp : p < (st_th S).length
  · rw [List.getElem?_append_left hp] at hq
    obtain ⟨b1, b2, b3, b4, b5, b6⟩ := hT.2.2 p q hq
    have c0 := a (309 + 3 * p) (by omega) (by omega)
    have c1 := a (309 + 3 * p + 1) (by omega) (by omega)
    have c2 := a (309 + 3 * p + 1 + 1) (by omega) (by omega)
    exact ⟨so_r_ag c1 c2 b1, by rw [c1.2.1]; exact b2, by rw [c0.2.1]; exact b3, by rw [c0.2.1]; exact b4, by rw [c0.2.1]; exact b5, by rw [c0.2.2, rs_app hF hF' he (p + 1) p (by omega) hp, rs_rl S p]; exact b6⟩
  · have hp2 : p = (st_th S).length := by
      have := getE_lt hq
      simp at this
      omega
    subst hp2
    have : q = h := by simpa using hq.symm
    subst this
    exact ⟨hs, hc, hr.1, hr.2.1, hr.2.2, by rw [hnew]; exact hl⟩
theorem dk_tms_back {D : fx_D} {T X : List tl_T} (h64 : T.length ≤ 64) (h : ts_T D (T ++ X)) : dk_tms (fx_uf D 1 2 (nI T.length)) T := by
  refine ⟨h64, by omega, by simp [fx_uf, upd], fun t l hl => ?_⟩
  have ht := getE_lt hl
  obtain ⟨a, b, c⟩ := h.2.2 t l (by rw [List.getElem?_append_left ht]; exact hl)
  have g : ∀ i, i ≤ 3 → ag D (fx_uf D 1 2 (nI T.length)) (tmo (t + 1) + i) := fun i hi => ag_uf (by unfold tmo; omega)
  exact ⟨tm_row_ag g a, tm_set_ag g b, c⟩
theorem dk_tms_307 {D : fx_D} {T : List tl_T} {v : Int32} (h64 : T.length ≤ 64) (h : ts_T D T) : dk_tms (fx_uf D 307 2 v) T := ⟨h64, ts_T_uf (by omega) h⟩
/-- terms and theorems changed, all else as it was -/
theorem dk_R_ru {S : st_S} {D D' : fx_D} {T : List tl_T} {L : List st_Th} (hR : dk_R S D) (a : ∀ x, ¬ (8 ≤ x ∧ x < 296) → x ≠ 1 → ¬ (307 ≤ x ∧ x < 432) → ag D D' x) (h1 : dk_tms D' T) (h2 : dk_thm D' L) : dk_R (S.1, T, S.2.2.1, L, S.2.2.2.2) D' := by
  obtain ⟨r1, -, r3, -, r5, r6, r7⟩ := hR
  exact ⟨dk_nt_ag (a 2 (by omega) (by omega) (by omega)) r1, h1, dd_R_ag (a 296 (by omega) (by omega) (by omega)) (a 297 (by omega) (by omega) (by omega)) r3, h2, dk_glL_ag (a 432 (by omega) (by omega) (by omega)) (fun x _ _ => a x (by omega) (by omega) (by omega)) r5, dk_opn_ag (a 432 (by omega) (by omega) (by omega)) (a 434 (by omega) (by omega) (by omega)) r6, dk_tkn_ag (a 432 (by omega) (by omega) (by omega)) (a 435 (by omega) (by omega) (by omega)) r7⟩
theorem dk_R_back {S : st_S} {D D' : fx_D} {X : List tl_T} (hR : dk_R S D) (a : ∀ x, ¬ (8 ≤ x ∧ x < 296) → x ≠ 1 → ¬ (309 + 3 * (st_th S).length ≤ x ∧ x < 309 + 3 * (st_th S).length + 3) → ag D D' x) (hn : (st_th S).length ≤ 40) (h : ts_T D' (st_T S ++ X)) : dk_R S (fx_uf D' 1 2 (nI (st_T S).length)) := by
  have a' : ∀ x, ¬ (8 ≤ x ∧ x < 296) → x ≠ 1 → ¬ (309 + 3 * (st_th S).length ≤ x ∧ x < 309 + 3 * (st_th S).length + 3) → ag D (fx_uf D' 1 2 (nI (st_T S).length)) x := fun x h1 h2 h3 => (a x h1 h2 h3).tr (ag_uf (by omega))
  have hW := hR.W.ag (D' := fx_uf D' 1 2 (nI (st_T S).length)) (a' 2 (by omega) (by omega) (by omega)) (a' 307 (by omega) (by omega) (by omega)) (fun x h1 h2 => a' x (by omega) (by omega) (by omega)) (dk_tms_back hR.2.1.1 h).2
  exact dk_R_ru hR (fun x h1 h2 h3 => a' x h1 h2 (by omega)) (dk_tms_back hR.2.1.1 h) hW.2.2.1
