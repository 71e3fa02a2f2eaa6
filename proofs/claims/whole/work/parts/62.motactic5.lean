/-! ===== the model: tactic ===== -/
theorem tc_big_n7 {S : st_S} {k a g : Nat} {x y : Int32} (ht : tc_there S x y k a) (hk : k ≠ 7) (h6 : (st_gh S g).length ≤ 6) : tc_big S k a g = (lv_rows S k a g).any (fun l => 24 < l.length) := by
  unfold tc_big
  have : (tc_kids S k a g).any (fun q => 6 < q.2.1.length) = false := by
    rw [List.any_eq_false]
    intro q hq
    have hq2 : q.2.1 = st_gh S g := by
      obtain ⟨-, h⟩ := ht
      rcases h with ⟨rfl | rfl | rfl | rfl | rfl, rfl⟩ | ⟨rfl | rfl, rfl, ha⟩ | ⟨rfl, rfl, ha⟩ | ⟨rfl, rfl, ha⟩
      · cases hq
      · cases hq
      · obtain ⟨n, -, rfl⟩ := List.mem_map.mp hq; rfl
      · cases hq
      · exact absurd rfl hk
      · obtain ⟨n, -, rfl⟩ := List.mem_map.mp hq; rfl
      · obtain ⟨n, -, rfl⟩ := List.mem_map.mp hq; rfl
      · obtain ⟨n, -, rfl⟩ := List.mem_map.mp hq; rfl
      · cases hq
    rw [hq2]
    simp
    omega
  rw [this, Bool.or_false]
theorem tc_big_7 {S : st_S} {g bad : Nat} {r0 r1 : tl_T} (hr : lv_rows S 7 0 g = [r0, r1]) (l0 : r0.length ≤ 24) (l1 : r1.length ≤ 24) (h6 : (st_gh S g).length ≤ 6) (hb : tc_bad S g r0 r1 bad) : tc_big S 7 0 g = true ↔ bad = 1 := by
  have hk : tc_kids S 7 0 g = [(tl_kp (tl_kt (st_T S) r0) r1, ls_h (st_gh S g) (tl_kp (st_T S) r0), none), (tl_kp (st_T S) r0, ls_h (st_gh S g) (tl_kp (tl_kt (st_T S) r0) r1), none)] := by
    unfold tc_kids
    rw [hr]
    rfl
  unfold tc_big
  rw [hr, hk, hb.2]
  have b0 := ls_h_big (m := tl_kp (st_T S) r0) h6
  have b1 := ls_h_big (m := tl_kp (tl_kt (st_T S) r0) r1) h6
  simp only [List.any_cons, List.any_nil, Bool.or_false, Bool.or_eq_true, decide_eq_true_eq]
  rw [b0, b1]
  constructor
  · rintro ((h | h) | (h | h))
    · omega
    · omega
    · exact ⟨h.1, fun z => h.2 z.1⟩
    · exact ⟨h.1, fun z => h.2 z.2⟩
  · rintro ⟨h, h'⟩
    by_cases e : tl_kp (st_T S) r0 ∈ st_gh S g
    · exact Or.inr (Or.inr ⟨h, fun z => h' ⟨e, z⟩⟩)
    · exact Or.inr (Or.inl ⟨h, e⟩)
theorem b_MO_tactic {G : sd_G} {o : Nat} {D : fx_D} {h0 : sd_H} {nx g k a : Nat} {y ans : Int32} {S S' : st_S} (hB : G.2.1 ≤ o) (hR : mo_R S D) (hT : st_okT S) (hH : st_okH S) (hG : st_okG S) (hO : st_okO S) (hN : st_okN S) (hop : (st_op S).head? = some g) (ht : tc_there S (nI k) y k a) (hk7 : k ≠ 7) (he : (ans, S') = tc_do S k a g) : sd_W G mMO_tactic 7 0 0 (fx_is G.1.2 mo_S o h0 nx (some (.int ans)) (mo_R S')) 77 [(0, .ref (o + 0)), (1, .int (nI k)), (2, .int y)] [] (fx_h G.1.2 mo_S o D h0) nx 0 0 := by
  have hop0 : (st_op S)[0]? = some g := by rw [← List.head?_eq_getElem?]; exact hop
  have hg := hO g (List.mem_of_getElem? hop0)
  obtain ⟨g1, g2, g3, g4, g5, g6⟩ := mo_gg hR hG hg
  have hk9 : k < 9 := by have := ht.2; omega
  have h64 := hR.2.1.1
  have hrl : (lv_rows S k a g).length < 9 := by
    unfold lv_rows
    split <;> simp
  unfold tc_do at he
  by_cases hfit : su_fit S k a g = false
  · rw [if_pos hfit] at he
    obtain ⟨rfl, rfl⟩ := Prod.mk.inj he
    refine sd_aload_n dMO_tactic_77 rfl rfl ?_
    refine fx_getr 10 24 (20) dMO_tactic_78 fMO_67 rfl rfl ?_
    refine sd_iconst (v := nI 0) dMO_tactic_81 (by decide) ?_
    refine fx_ialdv (v := (nI (g))) (0) dMO_tactic_82 rfl rfl (by omega) (by decide) (hR.2.2.2.2.2.2.1.2.2 0 g hop0) ?_
    refine sd_istore dMO_tactic_83 (by decide) ?_
    refine sd_aload_n dMO_tactic_85 rfl rfl ?_
    refine sd_iload_n dMO_tactic_86 rfl rfl ?_
    refine sd_iload_n dMO_tactic_87 rfl rfl ?_
    refine sd_iload dMO_tactic_88 rfl ?_
    refine fx_cP 10 sR_MO [.int (nI (k)), .int (y), .int (nI (g))] [] dMO_tactic_90 kMO_284 rfl rfl mMO_suits_v (c_MO_suits (v := 0) hB hR hT hH hG hg ht (by omega) (by rw [hfit]; simp)) (by decide) (Nat.le_refl _) (Nat.le_refl _) (Nat.le_of_ble_eq_true rfl) rfl (fun D1 hD1 => ?_)
    refine nn_if_ne 99 dMO_tactic_93 (by decide) (by decide) (fun c => absurd c (by decide)) (fun _ => ?_)
    refine sd_bipush (v := (-4)) dMO_tactic_96 (by decide) ?_
    exact sd_iret dMO_tactic_98 rfl (Nat.le_refl _) (Nat.le_refl _) ⟨rfl, rfl, _, rfl, hD1⟩
  · rw [if_neg hfit] at he
    have hf : su_fit S k a g = true := by simpa using hfit
    have hbig := tc_big_n7 ht hk7 g5
    refine sd_aload_n dMO_tactic_77 rfl rfl ?_
    refine fx_getr 10 24 (20) dMO_tactic_78 fMO_67 rfl rfl ?_
    refine sd_iconst (v := nI 0) dMO_tactic_81 (by decide) ?_
    refine fx_ialdv (v := (nI (g))) (0) dMO_tactic_82 rfl rfl (by omega) (by decide) (hR.2.2.2.2.2.2.1.2.2 0 g hop0) ?_
    refine sd_istore dMO_tactic_83 (by decide) ?_
    refine sd_aload_n dMO_tactic_85 rfl rfl ?_
    refine sd_iload_n dMO_tactic_86 rfl rfl ?_
    refine sd_iload_n dMO_tactic_87 rfl rfl ?_
    refine sd_iload dMO_tactic_88 rfl ?_
    refine fx_cP 10 sR_MO [.int (nI (k)), .int (y), .int (nI (g))] [] dMO_tactic_90 kMO_284 rfl rfl mMO_suits_v (c_MO_suits (v := 1) hB hR hT hH hG hg ht (by omega) (by rw [hf]; simp)) (by decide) (Nat.le_refl _) (Nat.le_refl _) (Nat.le_of_ble_eq_true rfl) rfl (fun D1 hD1 => ?_)
    refine nn_if_ne 99 dMO_tactic_93 (by decide) (by decide) (fun _ => ?_) (fun c => absurd c (by decide))
    refine sd_aload_n dMO_tactic_99 rfl rfl ?_
    refine sd_iconst (v := nI 0) dMO_tactic_100 (by decide) ?_
    refine fx_putz 10 7 dMO_tactic_101 fMO_124 rfl rfl (Or.inl rfl) rfl rfl hB ?_
    refine sd_aload_n dMO_tactic_104 rfl rfl ?_
    refine sd_iload_n dMO_tactic_105 rfl rfl ?_
    refine sd_iload_n dMO_tactic_106 rfl rfl ?_
    refine sd_aload_n dMO_tactic_107 rfl rfl ?_
    refine fx_getr 10 17 (13) dMO_tactic_108 fMO_46 rfl rfl ?_
    refine sd_iload dMO_tactic_111 rfl ?_
    refine fx_ialdv (v := (nI (st_gt S g))) (g) dMO_tactic_113 rfl rfl (by omega) (by decide) ((mo_gg hD1 hG hg).1) ?_
    refine fx_cP 10 sR_MO [.int (nI (k)), .int (y), .int (nI (st_gt S g))] [] dMO_tactic_114 kMO_287 rfl rfl mMO_leave_v (c_MO_leave hB (mo_R_f hD1 (Or.inl rfl)) hT hG hg (by simp [fx_uf, upd]) ht hf) (by decide) (Nat.le_refl _) (Nat.le_refl _) (Nat.le_of_ble_eq_true rfl) rfl (fun D3 hD3 => ?_)
    refine sd_istore dMO_tactic_117 (by decide) ?_
    refine sd_iload_n dMO_tactic_119 rfl rfl ?_
    refine sd_bipush (v := nI 7) dMO_tactic_120 (by decide) ?_
    refine nn_icmp_ne 129 dMO_tactic_122 (by decide) (by omega) (by omega) (fun c122 => ?_) (fun c122 => ?_)
    ·
      refine sd_iconst (v := nI 0) dMO_tactic_129 (by decide) ?_
      refine sd_istore dMO_tactic_130 (by decide) ?_
      refine sd_aload_n dMO_tactic_132 rfl rfl ?_
      refine fx_getr 10 17 (13) dMO_tactic_133 fMO_46 rfl rfl ?_
      refine sd_iload dMO_tactic_136 rfl ?_
      refine fx_ialdv (v := (nI (st_gt S g))) (g) dMO_tactic_138 rfl rfl (by omega) (by decide) ((mo_gg hD3.1 hG hg).1) ?_
      refine sd_istore dMO_tactic_139 (by decide) ?_
      refine sd_iload_n dMO_tactic_141 rfl rfl ?_
      refine sd_bipush (v := nI 7) dMO_tactic_142 (by decide) ?_
      refine nn_icmp_ne 214 dMO_tactic_144 (by decide) (by omega) (by omega) (fun c144 => ?_) (fun c144 => ?_)
      ·
        refine sd_locp (al' := [(0, .ref (o + (0))), (1, .int (nI (k))), (2, .int (y)), (4, .int (nI (g))), (5, .int (nI ((lv_rows S k a g).length))), (6, .int (nI (0)))]) [4, 5, 6, 3, 2, 1] rfl ?_
        obtain ⟨f, hf2, hfv, hf0, hf1⟩ := hD3.f
        refine t_MO_214 hf2 hfv (fun e ↦ ?_) (fun e ↦ ?_)
        · have hb : tc_big S k a g = true := by
            rw [hbig, List.any_eq_true]
            obtain ⟨l, l1, l2⟩ := hf1 e
            exact ⟨l, l1, by simpa using l2⟩
          rw [if_pos hb] at he
          obtain ⟨rfl, rfl⟩ := Prod.mk.inj he
          exact ⟨rfl, rfl, _, rfl, hD3.1⟩
        · have hb : tc_big S k a g = false := by rw [hbig]; exact lv_nbg (hf0 e)
          rw [if_neg (by rw [hb]; simp)] at he
          exact u_MO_tactic hB hD3.1 hG hN hop hg ht hk7 hf (hf0 e) he
      ·
        exact absurd c144 hk7
    ·
      exact absurd c122 hk7
theorem b_MO_tactic7 {G : sd_G} {o : Nat} {D : fx_D} {h0 : sd_H} {nx g : Nat} {y ans : Int32} {S S' : st_S} (hB : G.2.1 ≤ o) (hR : mo_R S D) (hT : st_okT S) (hH : st_okH S) (hG : st_okG S) (hO : st_okO S) (hN : st_okN S) (hop : (st_op S).head? = some g) (he : (ans, S') = tc_do S 7 0 g) : sd_W G mMO_tactic 7 0 0 (fx_is G.1.2 mo_S o h0 nx (some (.int ans)) (mo_R S')) 77 [(0, .ref (o + 0)), (1, .int (nI 7)), (2, .int y)] [] (fx_h G.1.2 mo_S o D h0) nx 0 0 := by
  have ht : tc_there S (nI 7) y 7 0 := ⟨rfl, Or.inl ⟨by omega, rfl⟩⟩
  have hop0 : (st_op S)[0]? = some g := by rw [← List.head?_eq_getElem?]; exact hop
  have hg := hO g (List.mem_of_getElem? hop0)
  obtain ⟨g1, g2, g3, g4, g5, g6⟩ := mo_gg hR hG hg
  unfold tc_do at he
  by_cases hfit : su_fit S 7 0 g = false
  · rw [if_pos hfit] at he
    obtain ⟨rfl, rfl⟩ := Prod.mk.inj he
    refine sd_aload_n dMO_tactic_77 rfl rfl ?_
    refine fx_getr 10 24 (20) dMO_tactic_78 fMO_67 rfl rfl ?_
    refine sd_iconst (v := nI 0) dMO_tactic_81 (by decide) ?_
    refine fx_ialdv (v := (nI (g))) (0) dMO_tactic_82 rfl rfl (by omega) (by decide) (hR.2.2.2.2.2.2.1.2.2 0 g hop0) ?_
    refine sd_istore dMO_tactic_83 (by decide) ?_
    refine sd_aload_n dMO_tactic_85 rfl rfl ?_
    refine sd_iload_n dMO_tactic_86 rfl rfl ?_
    refine sd_iload_n dMO_tactic_87 rfl rfl ?_
    refine sd_iload dMO_tactic_88 rfl ?_
    refine fx_cP 10 sR_MO [.int (nI (7)), .int (y), .int (nI (g))] [] dMO_tactic_90 kMO_284 rfl rfl mMO_suits_v (c_MO_suits (v := 0) hB hR hT hH hG hg ht (by omega) (by rw [hfit]; simp)) (by decide) (Nat.le_refl _) (Nat.le_refl _) (Nat.le_of_ble_eq_true rfl) rfl (fun D1 hD1 => ?_)
    refine nn_if_ne 99 dMO_tactic_93 (by decide) (by decide) (fun c => absurd c (by decide)) (fun _ => ?_)
    refine sd_bipush (v := (-4)) dMO_tactic_96 (by decide) ?_
    exact sd_iret dMO_tactic_98 rfl (Nat.le_refl _) (Nat.le_refl _) ⟨rfl, rfl, _, rfl, hD1⟩
  · rw [if_neg hfit] at he
    have hf : su_fit S 7 0 g = true := by simpa using hfit
    have hcp := lv_cp hR hG hg ht hf
    obtain ⟨r0, r1, hr⟩ : ∃ r0 r1, lv_rows S 7 0 g = [r0, r1] := ⟨_, _, rfl⟩
    have hl : (lv_rows S 7 0 g).length = 2 := by rw [hr]; rfl
    have hkd : tc_kids S 7 0 g = [(tl_kp (tl_kt (st_T S) r0) r1, ls_h (st_gh S g) (tl_kp (st_T S) r0), none), (tl_kp (st_T S) r0, ls_h (st_gh S g) (tl_kp (tl_kt (st_T S) r0) r1), none)] := by
      unfold tc_kids
      rw [hr]
      rfl
    have hln : ¬ lv_bg (lv_rows S 7 0 g) := by
      obtain ⟨-, m1, -, -⟩ := mo_tm hR g2
      rintro ⟨l, hl, h⟩
      have h24 := m1.1
      rcases List.mem_cons.mp hl with rfl | hl
      · rw [tl_part_len] at h
        have := tl_pl_le ((su_m S g).drop (tl_end (su_m S g) 1)) 1
        rw [List.length_drop] at this
        unfold su_m at this h
        omega
      · rcases List.mem_cons.mp hl with rfl | hl
        · rw [tl_part_len] at h
          have := tl_pl_le ((su_m S g).drop 1) 1
          rw [List.length_drop] at this
          unfold su_m at this h
          omega
        · cases hl
    obtain ⟨tl, hop2⟩ := List.head?_eq_some_iff.mp hop
    have hq : (st_gl S)[g]? = some (st_gl S)[g] := List.getElem?_eq_getElem hg
    generalize (st_gl S)[g] = q at hq
    obtain ⟨bad, hbad⟩ : ∃ bad, tc_bad S g r0 r1 bad := bw_b _
    have cL := fun {D1 : fx_D} (h : mo_R S D1) => c_MO_leave (G := G) (o := o) (h0 := h0) (nx := nx) hB (mo_R_f (v := nI 0) h (Or.inl rfl)) hT hG hg (by simp [fx_uf, upd]) ht hf
    rw [hl] at cL
    refine sd_aload_n dMO_tactic_77 rfl rfl ?_
    refine fx_getr 10 24 (20) dMO_tactic_78 fMO_67 rfl rfl ?_
    refine sd_iconst (v := nI 0) dMO_tactic_81 (by decide) ?_
    refine fx_ialdv (v := (nI (g))) (0) dMO_tactic_82 rfl rfl (by omega) (by decide) (hR.2.2.2.2.2.2.1.2.2 0 g hop0) ?_
    refine sd_istore dMO_tactic_83 (by decide) ?_
    refine sd_aload_n dMO_tactic_85 rfl rfl ?_
    refine sd_iload_n dMO_tactic_86 rfl rfl ?_
    refine sd_iload_n dMO_tactic_87 rfl rfl ?_
    refine sd_iload dMO_tactic_88 rfl ?_
    refine fx_cP 10 sR_MO [.int (nI (7)), .int (y), .int (nI (g))] [] dMO_tactic_90 kMO_284 rfl rfl mMO_suits_v (c_MO_suits (v := 1) hB hR hT hH hG hg ht (by omega) (by rw [hf]; simp)) (by decide) (Nat.le_refl _) (Nat.le_refl _) (Nat.le_of_ble_eq_true rfl) rfl (fun D1 hD1 => ?_)
    refine nn_if_ne 99 dMO_tactic_93 (by decide) (by decide) (fun _ => ?_) (fun c => absurd c (by decide))
    refine sd_aload_n dMO_tactic_99 rfl rfl ?_
    refine sd_iconst (v := nI 0) dMO_tactic_100 (by decide) ?_
    refine fx_putz 10 7 dMO_tactic_101 fMO_124 rfl rfl (Or.inl rfl) rfl rfl hB ?_
    refine sd_aload_n dMO_tactic_104 rfl rfl ?_
    refine sd_iload_n dMO_tactic_105 rfl rfl ?_
    refine sd_iload_n dMO_tactic_106 rfl rfl ?_
    refine sd_aload_n dMO_tactic_107 rfl rfl ?_
    refine fx_getr 10 17 (13) dMO_tactic_108 fMO_46 rfl rfl ?_
    refine sd_iload dMO_tactic_111 rfl ?_
    refine fx_ialdv (v := (nI (st_gt S g))) (g) dMO_tactic_113 rfl rfl (by omega) (by decide) ((mo_gg hD1 hG hg).1) ?_
    refine fx_cP 10 sR_MO [.int (nI (7)), .int (y), .int (nI (st_gt S g))] [] dMO_tactic_114 kMO_287 rfl rfl mMO_leave_v (cL hD1) (by decide) (Nat.le_refl _) (Nat.le_refl _) (Nat.le_of_ble_eq_true rfl) rfl (fun D3 hD3 => ?_)
    refine sd_istore dMO_tactic_117 (by decide) ?_
    refine sd_iload_n dMO_tactic_119 rfl rfl ?_
    refine sd_bipush (v := nI 7) dMO_tactic_120 (by decide) ?_
    refine nn_icmp_ne 129 dMO_tactic_122 (by decide) (by decide) (by decide) (fun c => absurd c (by decide)) (fun _ => ?_)
    refine sd_iconst (v := nI 2) dMO_tactic_125 (by decide) ?_
    refine sd_goto 130 dMO_tactic_126 (by decide) ?_
    refine sd_istore dMO_tactic_130 (by decide) ?_
    refine sd_aload_n dMO_tactic_132 rfl rfl ?_
    refine fx_getr 10 17 (13) dMO_tactic_133 fMO_46 rfl rfl ?_
    refine sd_iload dMO_tactic_136 rfl ?_
    refine fx_ialdv (v := (nI (st_gt S g))) (g) dMO_tactic_138 rfl rfl (by omega) (by decide) ((mo_gg hD3.1 hG hg).1) ?_
    refine sd_istore dMO_tactic_139 (by decide) ?_
    refine sd_iload_n dMO_tactic_141 rfl rfl ?_
    refine sd_bipush (v := nI 7) dMO_tactic_142 (by decide) ?_
    refine nn_icmp_ne 214 dMO_tactic_144 (by decide) (by decide) (by decide) (fun c => absurd c (by decide)) (fun _ => ?_)
    refine sd_locp (al' := [(0, .ref (o + (0))), (1, .int (nI (7))), (2, .int (y)), (4, .int (nI (g))), (5, .int (nI (2))), (6, .int (nI (2)))]) [4, 5, 6, 3, 2, 1] rfl ?_
    obtain ⟨f, hf2, hfv, hf0, hf1⟩ := hD3.f
    obtain rfl : f = 0 := by
      have : ¬ f = 1 := fun e => hln (hf1 e)
      omega
    have hok := hf0 rfl
    have hok2 := hok
    rw [hr] at hok
    have hcp2 := hcp
    rw [hr] at hcp2
    have w0 := lvr_wf hcp2 hok (j := 0) rfl
    have w1 := lvr_wf hcp2 hok (j := 1) rfl
    have hbig := tc_big_7 hr w0.2.2 w1.2.2 g5 hbad
    refine t_MO_147 hB hD3.1 hG hg (hok 0 r0 rfl).2 w0 (hok 1 r1 rfl).2 w1 hbad (fun D4 h4 ↦ ?_)
    rcases h4 with ⟨rfl, e⟩ | ⟨rfl, e⟩
    · refine t_MO_214 (f := 0) (by omega) hfv (fun z ↦ absurd z (by omega)) (fun _ ↦ ?_)
      have hb : tc_big S 7 0 g = false := by
        have : ¬ tc_big S 7 0 g = true := fun z => by have := hbig.mp z; omega
        simpa using this
      rw [if_neg (by rw [hb]; simp)] at he
      exact u_MO_tac7 hB hD3.1 hN hop2 hq (fun z ↦ absurd z (by decide)) rfl hr hkd hcp hok2 hG hb he
    · refine t_MO_214 (f := 1) (by omega) (by simp [fx_uf, upd]) (fun _ ↦ ?_) (fun z ↦ absurd z (by omega))
      rw [if_pos (hbig.mpr e)] at he
      obtain ⟨rfl, rfl⟩ := Prod.mk.inj he
      exact ⟨rfl, rfl, _, rfl, mo_R_f hD3.1 (Or.inl rfl)⟩
theorem c_MO_tactic {G : sd_G} {o : Nat} {D : fx_D} {h0 : sd_H} {nx : Nat} {x y ans : Int32} {S S' : st_S} (hB : G.2.1 ≤ o) (hR : mo_R S D) (hT : st_okT S) (hH : st_okH S) (hG : st_okG S) (hO : st_okO S) (hN : st_okN S) (hs : sp_tactic S x y ans S') : sd_Ct G mMO_tactic 7 0 0 [.ref (o + 0), .int x, .int y] (fx_h G.1.2 mo_S o D h0) nx (fx_is G.1.2 mo_S o h0 nx (some (.int ans)) (mo_R S')) := by
  refine sd_Ct_of (by decide) (Nat.le_of_ble_eq_true rfl) ?_
  have h64 := hR.2.1.1
  have h40 : (st_th S).length ≤ 40 := hR.2.2.2.2.1.1
  have h30 : (st_op S).length ≤ 30 := hR.2.2.2.2.2.2.1.1
  have hop := hR.2.2.2.2.2.2.1.2.1
  obtain ⟨t1, t1b, t1e⟩ := bw_b (nn_lt y (st_T S).length)
  obtain ⟨p1, p1b, p1e⟩ := bw_b (nn_lt y (st_th S).length)
  obtain ⟨n2, n2b, n2e⟩ := bw_b (nn_lt y 8)
  have i1 := c_MO_isTerm (G := G) (o := o) (h0 := h0) (nx := nx) (x := y) h64 hR.2.1.2.1 t1b t1e
  have j1 := c_MO_isTheorem (G := G) (o := o) (h0 := h0) (nx := nx) (x := y) (by omega) hR.2.2.2.2.1.2.1 p1b p1e
  have m2 := c_MO_in (G := G) (h := fx_h G.1.2 mo_S o D h0) (nx := nx) (v := y) (l := nI 0) (m := nI 7) n2b (by rw [n2e, mo_in_of (by omega)])
  have key : ∀ k, k < 9 → ((∃ a, tc_there S (nI k) y k a) ↔ ((k = 0 ∨ k = 1 ∨ k = 3 ∨ k = 5 ∨ k = 7) ∨ (k = 2 ∨ k = 6) ∧ t1 = 1 ∨ k = 4 ∧ n2 = 1 ∨ k = 8 ∧ p1 = 1)) := by
    intro k hk
    rw [t1e, p1e, n2e]
    constructor
    · rintro ⟨a, -, h⟩
      rcases h with ⟨h1, -⟩ | ⟨h1, h2, h3⟩ | ⟨h1, h2, h3⟩ | ⟨h1, h2, h3⟩
      · exact Or.inl h1
      · exact Or.inr (Or.inl ⟨h1, a, h3, h2⟩)
      · exact Or.inr (Or.inr (Or.inl ⟨h1, a, h3, h2⟩))
      · exact Or.inr (Or.inr (Or.inr ⟨h1, a, h3, h2⟩))
    · rintro (h1 | ⟨h1, a, h3, h2⟩ | ⟨h1, a, h3, h2⟩ | ⟨h1, a, h3, h2⟩)
      · exact ⟨0, rfl, Or.inl ⟨h1, rfl⟩⟩
      · exact ⟨a, rfl, Or.inr (Or.inl ⟨h1, h2, h3⟩)⟩
      · exact ⟨a, rfl, Or.inr (Or.inr (Or.inl ⟨h1, h2, h3⟩))⟩
      · exact ⟨a, rfl, Or.inr (Or.inr (Or.inr ⟨h1, h2, h3⟩))⟩
  rcases hs with ⟨hno, rfl, rfl⟩ | ⟨g, k, a, hh, ht, he⟩
  · by_cases hx : nn_lt x 9
    · obtain ⟨k, hk, rfl⟩ := hx
      have hn : ¬ ((st_op S').length ≠ 0 ∧ ((k = 0 ∨ k = 1 ∨ k = 3 ∨ k = 5 ∨ k = 7) ∨ (k = 2 ∨ k = 6) ∧ t1 = 1 ∨ k = 4 ∧ n2 = 1 ∨ k = 8 ∧ p1 = 1)) := by
        rintro ⟨z1, z2⟩
        obtain ⟨a, ha⟩ := (key k hk).mpr z2
        cases hl : st_op S' with
        | nil => rw [hl] at z1; exact z1 rfl
        | cons g tl => exact hno ⟨g, k, a, by rw [hl]; rfl, ha⟩
      clear key hno t1e p1e n2e
      refine sd_iload_n dMO_tactic_0 rfl rfl ?_
      refine sd_iconst (v := nI 2) dMO_tactic_1 (by decide) ?_
      refine nn_icmp_eq 11 dMO_tactic_2 (by decide) (by omega) (by omega) (fun c2 => ?_) (fun c2 => ?_)
      ·
        refine sd_aload_n dMO_tactic_11 rfl rfl ?_
        refine sd_iload_n dMO_tactic_12 rfl rfl ?_
        refine fx_cV 10 sR_MO [.int (y)] [] dMO_tactic_13 kMO_200 rfl rfl mMO_isTerm_v (i1) (by decide) (Nat.le_refl _) (Nat.le_refl _) (Nat.le_of_ble_eq_true rfl) rfl ?_
        refine sd_goto 53 dMO_tactic_16 (by decide) ?_
        refine sd_istore_n dMO_tactic_53 rfl (by decide) ?_
        refine sd_iload_n dMO_tactic_54 rfl rfl ?_
        refine sd_iconst (v := nI 0) dMO_tactic_55 (by decide) ?_
        refine sd_bipush (v := nI 8) dMO_tactic_56 (by decide) ?_
        refine sd_cS [.int (nI (k)), .int (nI (0)), .int (nI (8))] [] dMO_tactic_58 kMO_102 mMO_in_s (c_MO_in (b := 1) (by omega) (by simp only [true_iff]; exact (mo_in_of (by omega)).mpr ⟨k, by omega, rfl⟩)) (by decide) (Nat.le_refl _) (Nat.le_refl _) (Nat.le_of_ble_eq_true rfl) rfl ?_
        refine nn_if_eq 75 dMO_tactic_61 (by decide) (by decide) (fun c => absurd c (by decide)) (fun _ => ?_)
        refine sd_aload_n dMO_tactic_64 rfl rfl ?_
        refine fx_getiv (v := (nI ((st_op S').length))) 10 28 dMO_tactic_65 fMO_273 rfl rfl (hop) ?_
        refine nn_if_eq 75 dMO_tactic_68 (by decide) (by omega) (fun c68 => ?_) (fun c68 => ?_)
        ·
          refine sd_iconst (v := (-1)) dMO_tactic_75 (by decide) ?_
          exact sd_iret dMO_tactic_76 rfl (Nat.le_refl _) (Nat.le_refl _) ⟨rfl, rfl, _, rfl, hR⟩
        ·
          refine sd_iload_n dMO_tactic_71 rfl rfl ?_
          refine nn_if_ne 77 dMO_tactic_72 (by decide) (by omega) (fun c72 => ?_) (fun c72 => ?_)
          ·
            refine sd_locp (al' := [(0, .ref (o + (0))), (1, .int (nI (k))), (2, .int (y))]) [1, 2, 3] rfl ?_
            exact absurd hn (by omega)
          ·
            refine sd_iconst (v := (-1)) dMO_tactic_75 (by decide) ?_
            exact sd_iret dMO_tactic_76 rfl (Nat.le_refl _) (Nat.le_refl _) ⟨rfl, rfl, _, rfl, hR⟩
      ·
        refine sd_iload_n dMO_tactic_5 rfl rfl ?_
        refine sd_bipush (v := nI 6) dMO_tactic_6 (by decide) ?_
        refine nn_icmp_ne 19 dMO_tactic_8 (by decide) (by omega) (by omega) (fun c8 => ?_) (fun c8 => ?_)
        ·
          refine sd_iload_n dMO_tactic_19 rfl rfl ?_
          refine sd_iconst (v := nI 4) dMO_tactic_20 (by decide) ?_
          refine nn_icmp_ne 34 dMO_tactic_21 (by decide) (by omega) (by omega) (fun c21 => ?_) (fun c21 => ?_)
          ·
            refine sd_iload_n dMO_tactic_34 rfl rfl ?_
            refine sd_bipush (v := nI 8) dMO_tactic_35 (by decide) ?_
            refine nn_icmp_ne 48 dMO_tactic_37 (by decide) (by omega) (by omega) (fun c37 => ?_) (fun c37 => ?_)
            ·
              refine sd_iconst (v := nI 1) dMO_tactic_48 (by decide) ?_
              refine sd_goto 53 dMO_tactic_49 (by decide) ?_
              refine sd_istore_n dMO_tactic_53 rfl (by decide) ?_
              refine sd_iload_n dMO_tactic_54 rfl rfl ?_
              refine sd_iconst (v := nI 0) dMO_tactic_55 (by decide) ?_
              refine sd_bipush (v := nI 8) dMO_tactic_56 (by decide) ?_
              refine sd_cS [.int (nI (k)), .int (nI (0)), .int (nI (8))] [] dMO_tactic_58 kMO_102 mMO_in_s (c_MO_in (b := 1) (by omega) (by simp only [true_iff]; exact (mo_in_of (by omega)).mpr ⟨k, by omega, rfl⟩)) (by decide) (Nat.le_refl _) (Nat.le_refl _) (Nat.le_of_ble_eq_true rfl) rfl ?_
              refine nn_if_eq 75 dMO_tactic_61 (by decide) (by decide) (fun c => absurd c (by decide)) (fun _ => ?_)
              refine sd_aload_n dMO_tactic_64 rfl rfl ?_
              refine fx_getiv (v := (nI ((st_op S').length))) 10 28 dMO_tactic_65 fMO_273 rfl rfl (hop) ?_
              refine nn_if_eq 75 dMO_tactic_68 (by decide) (by omega) (fun c68 => ?_) (fun c68 => ?_)
              ·
                refine sd_iconst (v := (-1)) dMO_tactic_75 (by decide) ?_
                exact sd_iret dMO_tactic_76 rfl (Nat.le_refl _) (Nat.le_refl _) ⟨rfl, rfl, _, rfl, hR⟩
              ·
                refine sd_iload_n dMO_tactic_71 rfl rfl ?_
                refine nn_if_ne 77 dMO_tactic_72 (by decide) (by decide) (fun _ => ?_) (fun c => absurd c (by decide))
                refine sd_locp (al' := [(0, .ref (o + (0))), (1, .int (nI (k))), (2, .int (y))]) [1, 2, 3] rfl ?_
                exact absurd hn (by omega)
            ·
              refine sd_aload_n dMO_tactic_40 rfl rfl ?_
              refine sd_iload_n dMO_tactic_41 rfl rfl ?_
              refine fx_cV 10 sR_MO [.int (y)] [] dMO_tactic_42 kMO_219 rfl rfl mMO_isTheorem_v (j1) (by decide) (Nat.le_refl _) (Nat.le_refl _) (Nat.le_of_ble_eq_true rfl) rfl ?_
              refine nn_if_eq 52 dMO_tactic_45 (by decide) (by omega) (fun c45 => ?_) (fun c45 => ?_)
              ·
                refine sd_iconst (v := nI 0) dMO_tactic_52 (by decide) ?_
                refine sd_istore_n dMO_tactic_53 rfl (by decide) ?_
                refine sd_iload_n dMO_tactic_54 rfl rfl ?_
                refine sd_iconst (v := nI 0) dMO_tactic_55 (by decide) ?_
                refine sd_bipush (v := nI 8) dMO_tactic_56 (by decide) ?_
                refine sd_cS [.int (nI (k)), .int (nI (0)), .int (nI (8))] [] dMO_tactic_58 kMO_102 mMO_in_s (c_MO_in (b := 1) (by omega) (by simp only [true_iff]; exact (mo_in_of (by omega)).mpr ⟨k, by omega, rfl⟩)) (by decide) (Nat.le_refl _) (Nat.le_refl _) (Nat.le_of_ble_eq_true rfl) rfl ?_
                refine nn_if_eq 75 dMO_tactic_61 (by decide) (by decide) (fun c => absurd c (by decide)) (fun _ => ?_)
                refine sd_aload_n dMO_tactic_64 rfl rfl ?_
                refine fx_getiv (v := (nI ((st_op S').length))) 10 28 dMO_tactic_65 fMO_273 rfl rfl (hop) ?_
                refine nn_if_eq 75 dMO_tactic_68 (by decide) (by omega) (fun c68 => ?_) (fun c68 => ?_)
                ·
                  refine sd_iconst (v := (-1)) dMO_tactic_75 (by decide) ?_
                  exact sd_iret dMO_tactic_76 rfl (Nat.le_refl _) (Nat.le_refl _) ⟨rfl, rfl, _, rfl, hR⟩
                ·
                  refine sd_iload_n dMO_tactic_71 rfl rfl ?_
                  refine nn_if_ne 77 dMO_tactic_72 (by decide) (by decide) (fun c => absurd c (by decide)) (fun _ => ?_)
                  refine sd_iconst (v := (-1)) dMO_tactic_75 (by decide) ?_
                  exact sd_iret dMO_tactic_76 rfl (Nat.le_refl _) (Nat.le_refl _) ⟨rfl, rfl, _, rfl, hR⟩
              ·
                refine sd_iconst (v := nI 1) dMO_tactic_48 (by decide) ?_
                refine sd_goto 53 dMO_tactic_49 (by decide) ?_
                refine sd_istore_n dMO_tactic_53 rfl (by decide) ?_
                refine sd_iload_n dMO_tactic_54 rfl rfl ?_
                refine sd_iconst (v := nI 0) dMO_tactic_55 (by decide) ?_
                refine sd_bipush (v := nI 8) dMO_tactic_56 (by decide) ?_
                refine sd_cS [.int (nI (k)), .int (nI (0)), .int (nI (8))] [] dMO_tactic_58 kMO_102 mMO_in_s (c_MO_in (b := 1) (by omega) (by simp only [true_iff]; exact (mo_in_of (by omega)).mpr ⟨k, by omega, rfl⟩)) (by decide) (Nat.le_refl _) (Nat.le_refl _) (Nat.le_of_ble_eq_true rfl) rfl ?_
                refine nn_if_eq 75 dMO_tactic_61 (by decide) (by decide) (fun c => absurd c (by decide)) (fun _ => ?_)
                refine sd_aload_n dMO_tactic_64 rfl rfl ?_
                refine fx_getiv (v := (nI ((st_op S').length))) 10 28 dMO_tactic_65 fMO_273 rfl rfl (hop) ?_
                refine nn_if_eq 75 dMO_tactic_68 (by decide) (by omega) (fun c68 => ?_) (fun c68 => ?_)
                ·
                  refine sd_iconst (v := (-1)) dMO_tactic_75 (by decide) ?_
                  exact sd_iret dMO_tactic_76 rfl (Nat.le_refl _) (Nat.le_refl _) ⟨rfl, rfl, _, rfl, hR⟩
                ·
                  refine sd_iload_n dMO_tactic_71 rfl rfl ?_
                  refine nn_if_ne 77 dMO_tactic_72 (by decide) (by decide) (fun _ => ?_) (fun c => absurd c (by decide))
                  refine sd_locp (al' := [(0, .ref (o + (0))), (1, .int (nI (k))), (2, .int (y))]) [1, 2, 3] rfl ?_
                  exact absurd hn (by omega)
          ·
            refine sd_iload_n dMO_tactic_24 rfl rfl ?_
            refine sd_iconst (v := nI 0) dMO_tactic_25 (by decide) ?_
            refine sd_bipush (v := nI 7) dMO_tactic_26 (by decide) ?_
            refine sd_cS [.int (y), .int (nI (0)), .int (nI (7))] [] dMO_tactic_28 kMO_102 mMO_in_s (m2) (by decide) (Nat.le_refl _) (Nat.le_refl _) (Nat.le_of_ble_eq_true rfl) rfl ?_
            refine sd_goto 53 dMO_tactic_31 (by decide) ?_
            refine sd_istore_n dMO_tactic_53 rfl (by decide) ?_
            refine sd_iload_n dMO_tactic_54 rfl rfl ?_
            refine sd_iconst (v := nI 0) dMO_tactic_55 (by decide) ?_
            refine sd_bipush (v := nI 8) dMO_tactic_56 (by decide) ?_
            refine sd_cS [.int (nI (k)), .int (nI (0)), .int (nI (8))] [] dMO_tactic_58 kMO_102 mMO_in_s (c_MO_in (b := 1) (by omega) (by simp only [true_iff]; exact (mo_in_of (by omega)).mpr ⟨k, by omega, rfl⟩)) (by decide) (Nat.le_refl _) (Nat.le_refl _) (Nat.le_of_ble_eq_true rfl) rfl ?_
            refine nn_if_eq 75 dMO_tactic_61 (by decide) (by decide) (fun c => absurd c (by decide)) (fun _ => ?_)
            refine sd_aload_n dMO_tactic_64 rfl rfl ?_
            refine fx_getiv (v := (nI ((st_op S').length))) 10 28 dMO_tactic_65 fMO_273 rfl rfl (hop) ?_
            refine nn_if_eq 75 dMO_tactic_68 (by decide) (by omega) (fun c68 => ?_) (fun c68 => ?_)
            ·
              refine sd_iconst (v := (-1)) dMO_tactic_75 (by decide) ?_
              exact sd_iret dMO_tactic_76 rfl (Nat.le_refl _) (Nat.le_refl _) ⟨rfl, rfl, _, rfl, hR⟩
            ·
              refine sd_iload_n dMO_tactic_71 rfl rfl ?_
              refine nn_if_ne 77 dMO_tactic_72 (by decide) (by omega) (fun c72 => ?_) (fun c72 => ?_)
              ·
                refine sd_locp (al' := [(0, .ref (o + (0))), (1, .int (nI (k))), (2, .int (y))]) [1, 2, 3] rfl ?_
                exact absurd hn (by omega)
              ·
                refine sd_iconst (v := (-1)) dMO_tactic_75 (by decide) ?_
                exact sd_iret dMO_tactic_76 rfl (Nat.le_refl _) (Nat.le_refl _) ⟨rfl, rfl, _, rfl, hR⟩
        ·
          refine sd_aload_n dMO_tactic_11 rfl rfl ?_
          refine sd_iload_n dMO_tactic_12 rfl rfl ?_
          refine fx_cV 10 sR_MO [.int (y)] [] dMO_tactic_13 kMO_200 rfl rfl mMO_isTerm_v (i1) (by decide) (Nat.le_refl _) (Nat.le_refl _) (Nat.le_of_ble_eq_true rfl) rfl ?_
          refine sd_goto 53 dMO_tactic_16 (by decide) ?_
          refine sd_istore_n dMO_tactic_53 rfl (by decide) ?_
          refine sd_iload_n dMO_tactic_54 rfl rfl ?_
          refine sd_iconst (v := nI 0) dMO_tactic_55 (by decide) ?_
          refine sd_bipush (v := nI 8) dMO_tactic_56 (by decide) ?_
          refine sd_cS [.int (nI (k)), .int (nI (0)), .int (nI (8))] [] dMO_tactic_58 kMO_102 mMO_in_s (c_MO_in (b := 1) (by omega) (by simp only [true_iff]; exact (mo_in_of (by omega)).mpr ⟨k, by omega, rfl⟩)) (by decide) (Nat.le_refl _) (Nat.le_refl _) (Nat.le_of_ble_eq_true rfl) rfl ?_
          refine nn_if_eq 75 dMO_tactic_61 (by decide) (by decide) (fun c => absurd c (by decide)) (fun _ => ?_)
          refine sd_aload_n dMO_tactic_64 rfl rfl ?_
          refine fx_getiv (v := (nI ((st_op S').length))) 10 28 dMO_tactic_65 fMO_273 rfl rfl (hop) ?_
          refine nn_if_eq 75 dMO_tactic_68 (by decide) (by omega) (fun c68 => ?_) (fun c68 => ?_)
          ·
            refine sd_iconst (v := (-1)) dMO_tactic_75 (by decide) ?_
            exact sd_iret dMO_tactic_76 rfl (Nat.le_refl _) (Nat.le_refl _) ⟨rfl, rfl, _, rfl, hR⟩
          ·
            refine sd_iload_n dMO_tactic_71 rfl rfl ?_
            refine nn_if_ne 77 dMO_tactic_72 (by decide) (by omega) (fun c72 => ?_) (fun c72 => ?_)
            ·
              refine sd_locp (al' := [(0, .ref (o + (0))), (1, .int (nI (k))), (2, .int (y))]) [1, 2, 3] rfl ?_
              exact absurd hn (by omega)
            ·
              refine sd_iconst (v := (-1)) dMO_tactic_75 (by decide) ?_
              exact sd_iret dMO_tactic_76 rfl (Nat.le_refl _) (Nat.le_refl _) ⟨rfl, rfl, _, rfl, hR⟩
    ·
      refine sd_iload_n dMO_tactic_0 rfl rfl ?_
      refine sd_iconst (v := nI 2) dMO_tactic_1 (by decide) ?_
      refine sd_icmp_eq 11 dMO_tactic_2 (by decide) (fun c2 => ?_) (fun c2 => ?_)
      ·
        exact absurd ⟨2, by omega, c2⟩ hx
      ·
        refine sd_iload_n dMO_tactic_5 rfl rfl ?_
        refine sd_bipush (v := nI 6) dMO_tactic_6 (by decide) ?_
        refine sd_icmp_ne 19 dMO_tactic_8 (by decide) (fun c8 => ?_) (fun c8 => ?_)
        ·
          refine sd_iload_n dMO_tactic_19 rfl rfl ?_
          refine sd_iconst (v := nI 4) dMO_tactic_20 (by decide) ?_
          refine sd_icmp_ne 34 dMO_tactic_21 (by decide) (fun c21 => ?_) (fun c21 => ?_)
          ·
            refine sd_iload_n dMO_tactic_34 rfl rfl ?_
            refine sd_bipush (v := nI 8) dMO_tactic_35 (by decide) ?_
            refine sd_icmp_ne 48 dMO_tactic_37 (by decide) (fun c37 => ?_) (fun c37 => ?_)
            ·
              refine sd_iconst (v := nI 1) dMO_tactic_48 (by decide) ?_
              refine sd_goto 53 dMO_tactic_49 (by decide) ?_
              refine sd_istore_n dMO_tactic_53 rfl (by decide) ?_
              refine sd_iload_n dMO_tactic_54 rfl rfl ?_
              refine sd_iconst (v := nI 0) dMO_tactic_55 (by decide) ?_
              refine sd_bipush (v := nI 8) dMO_tactic_56 (by decide) ?_
              refine sd_cS [.int (x), .int (nI (0)), .int (nI (8))] [] dMO_tactic_58 kMO_102 mMO_in_s (c_MO_in (b := 0) (by omega) (by rw [mo_in_of (by omega)]; constructor; intro e; cases e; intro e; exact absurd e hx)) (by decide) (Nat.le_refl _) (Nat.le_refl _) (Nat.le_of_ble_eq_true rfl) rfl ?_
              refine nn_if_eq 75 dMO_tactic_61 (by decide) (by decide) (fun _ => ?_) (fun c => absurd c (by decide))
              refine sd_iconst (v := (-1)) dMO_tactic_75 (by decide) ?_
              exact sd_iret dMO_tactic_76 rfl (Nat.le_refl _) (Nat.le_refl _) ⟨rfl, rfl, _, rfl, hR⟩
            ·
              exact absurd ⟨8, by omega, c37⟩ hx
          ·
            exact absurd ⟨4, by omega, c21⟩ hx
        ·
          exact absurd ⟨6, by omega, c8⟩ hx
  · have hk9 : k < 9 := by have := ht.2; omega
    obtain rfl := ht.1
    have hy := (key k hk9).mp ⟨a, ht⟩
    have hne : (st_op S).length ≠ 0 := fun e => by
      rw [List.length_eq_zero_iff.mp e] at hh
      cases hh
    have kk : sd_W G mMO_tactic 7 0 0 (fx_is G.1.2 mo_S o h0 nx (some (.int ans)) (mo_R S')) 77 [(0, .ref (o + 0)), (1, .int (nI k)), (2, .int y)] [] (fx_h G.1.2 mo_S o D h0) nx 0 0 := by
      by_cases h7 : k = 7
      · subst h7
        obtain rfl : a = 0 := by have := ht.2; omega
        exact b_MO_tactic7 hB hR hT hH hG hO hN hh he
      · exact b_MO_tactic hB hR hT hH hG hO hN hh ht h7 he
    clear key t1e p1e n2e ht he
    refine sd_iload_n dMO_tactic_0 rfl rfl ?_
    refine sd_iconst (v := nI 2) dMO_tactic_1 (by decide) ?_
    refine nn_icmp_eq 11 dMO_tactic_2 (by decide) (by omega) (by omega) (fun c2 => ?_) (fun c2 => ?_)
    ·
      refine sd_aload_n dMO_tactic_11 rfl rfl ?_
      refine sd_iload_n dMO_tactic_12 rfl rfl ?_
      refine fx_cV 10 sR_MO [.int (y)] [] dMO_tactic_13 kMO_200 rfl rfl mMO_isTerm_v (i1) (by decide) (Nat.le_refl _) (Nat.le_refl _) (Nat.le_of_ble_eq_true rfl) rfl ?_
      refine sd_goto 53 dMO_tactic_16 (by decide) ?_
      refine sd_istore_n dMO_tactic_53 rfl (by decide) ?_
      refine sd_iload_n dMO_tactic_54 rfl rfl ?_
      refine sd_iconst (v := nI 0) dMO_tactic_55 (by decide) ?_
      refine sd_bipush (v := nI 8) dMO_tactic_56 (by decide) ?_
      refine sd_cS [.int (nI (k)), .int (nI (0)), .int (nI (8))] [] dMO_tactic_58 kMO_102 mMO_in_s (c_MO_in (b := 1) (by omega) (by simp only [true_iff]; exact (mo_in_of (by omega)).mpr ⟨k, by omega, rfl⟩)) (by decide) (Nat.le_refl _) (Nat.le_refl _) (Nat.le_of_ble_eq_true rfl) rfl ?_
      refine nn_if_eq 75 dMO_tactic_61 (by decide) (by decide) (fun c => absurd c (by decide)) (fun _ => ?_)
      refine sd_aload_n dMO_tactic_64 rfl rfl ?_
      refine fx_getiv (v := (nI ((st_op S).length))) 10 28 dMO_tactic_65 fMO_273 rfl rfl (hop) ?_
      refine nn_if_eq 75 dMO_tactic_68 (by decide) (by omega) (fun c68 => ?_) (fun c68 => ?_)
      ·
        refine sd_iconst (v := (-1)) dMO_tactic_75 (by decide) ?_
        exact absurd hy (by omega)
      ·
        refine sd_iload_n dMO_tactic_71 rfl rfl ?_
        refine nn_if_ne 77 dMO_tactic_72 (by decide) (by omega) (fun c72 => ?_) (fun c72 => ?_)
        ·
          refine sd_locp (al' := [(0, .ref (o + (0))), (1, .int (nI (k))), (2, .int (y))]) [1, 2, 3] rfl ?_
          exact kk
        ·
          refine sd_iconst (v := (-1)) dMO_tactic_75 (by decide) ?_
          exact absurd hy (by omega)
    ·
      refine sd_iload_n dMO_tactic_5 rfl rfl ?_
      refine sd_bipush (v := nI 6) dMO_tactic_6 (by decide) ?_
      refine nn_icmp_ne 19 dMO_tactic_8 (by decide) (by omega) (by omega) (fun c8 => ?_) (fun c8 => ?_)
      ·
        refine sd_iload_n dMO_tactic_19 rfl rfl ?_
        refine sd_iconst (v := nI 4) dMO_tactic_20 (by decide) ?_
        refine nn_icmp_ne 34 dMO_tactic_21 (by decide) (by omega) (by omega) (fun c21 => ?_) (fun c21 => ?_)
        ·
          refine sd_iload_n dMO_tactic_34 rfl rfl ?_
          refine sd_bipush (v := nI 8) dMO_tactic_35 (by decide) ?_
          refine nn_icmp_ne 48 dMO_tactic_37 (by decide) (by omega) (by omega) (fun c37 => ?_) (fun c37 => ?_)
          ·
            refine sd_iconst (v := nI 1) dMO_tactic_48 (by decide) ?_
            refine sd_goto 53 dMO_tactic_49 (by decide) ?_
            refine sd_istore_n dMO_tactic_53 rfl (by decide) ?_
            refine sd_iload_n dMO_tactic_54 rfl rfl ?_
            refine sd_iconst (v := nI 0) dMO_tactic_55 (by decide) ?_
            refine sd_bipush (v := nI 8) dMO_tactic_56 (by decide) ?_
            refine sd_cS [.int (nI (k)), .int (nI (0)), .int (nI (8))] [] dMO_tactic_58 kMO_102 mMO_in_s (c_MO_in (b := 1) (by omega) (by simp only [true_iff]; exact (mo_in_of (by omega)).mpr ⟨k, by omega, rfl⟩)) (by decide) (Nat.le_refl _) (Nat.le_refl _) (Nat.le_of_ble_eq_true rfl) rfl ?_
            refine nn_if_eq 75 dMO_tactic_61 (by decide) (by decide) (fun c => absurd c (by decide)) (fun _ => ?_)
            refine sd_aload_n dMO_tactic_64 rfl rfl ?_
            refine fx_getiv (v := (nI ((st_op S).length))) 10 28 dMO_tactic_65 fMO_273 rfl rfl (hop) ?_
            refine nn_if_eq 75 dMO_tactic_68 (by decide) (by omega) (fun c68 => ?_) (fun c68 => ?_)
            ·
              refine sd_iconst (v := (-1)) dMO_tactic_75 (by decide) ?_
              exact absurd hy (by omega)
            ·
              refine sd_iload_n dMO_tactic_71 rfl rfl ?_
              refine nn_if_ne 77 dMO_tactic_72 (by decide) (by decide) (fun _ => ?_) (fun c => absurd c (by decide))
              refine sd_locp (al' := [(0, .ref (o + (0))), (1, .int (nI (k))), (2, .int (y))]) [1, 2, 3] rfl ?_
              exact kk
          ·
            refine sd_aload_n dMO_tactic_40 rfl rfl ?_
            refine sd_iload_n dMO_tactic_41 rfl rfl ?_
            refine fx_cV 10 sR_MO [.int (y)] [] dMO_tactic_42 kMO_219 rfl rfl mMO_isTheorem_v (j1) (by decide) (Nat.le_refl _) (Nat.le_refl _) (Nat.le_of_ble_eq_true rfl) rfl ?_
            refine nn_if_eq 52 dMO_tactic_45 (by decide) (by omega) (fun c45 => ?_) (fun c45 => ?_)
            ·
              refine sd_iconst (v := nI 0) dMO_tactic_52 (by decide) ?_
              refine sd_istore_n dMO_tactic_53 rfl (by decide) ?_
              refine sd_iload_n dMO_tactic_54 rfl rfl ?_
              refine sd_iconst (v := nI 0) dMO_tactic_55 (by decide) ?_
              refine sd_bipush (v := nI 8) dMO_tactic_56 (by decide) ?_
              refine sd_cS [.int (nI (k)), .int (nI (0)), .int (nI (8))] [] dMO_tactic_58 kMO_102 mMO_in_s (c_MO_in (b := 1) (by omega) (by simp only [true_iff]; exact (mo_in_of (by omega)).mpr ⟨k, by omega, rfl⟩)) (by decide) (Nat.le_refl _) (Nat.le_refl _) (Nat.le_of_ble_eq_true rfl) rfl ?_
              refine nn_if_eq 75 dMO_tactic_61 (by decide) (by decide) (fun c => absurd c (by decide)) (fun _ => ?_)
              refine sd_aload_n dMO_tactic_64 rfl rfl ?_
              refine fx_getiv (v := (nI ((st_op S).length))) 10 28 dMO_tactic_65 fMO_273 rfl rfl (hop) ?_
              refine nn_if_eq 75 dMO_tactic_68 (by decide) (by omega) (fun c68 => ?_) (fun c68 => ?_)
              ·
                refine sd_iconst (v := (-1)) dMO_tactic_75 (by decide) ?_
                exact absurd hy (by omega)
              ·
                refine sd_iload_n dMO_tactic_71 rfl rfl ?_
                refine nn_if_ne 77 dMO_tactic_72 (by decide) (by decide) (fun c => absurd c (by decide)) (fun _ => ?_)
                refine sd_iconst (v := (-1)) dMO_tactic_75 (by decide) ?_
                exact absurd hy (by omega)
            ·
              refine sd_iconst (v := nI 1) dMO_tactic_48 (by decide) ?_
              refine sd_goto 53 dMO_tactic_49 (by decide) ?_
              refine sd_istore_n dMO_tactic_53 rfl (by decide) ?_
              refine sd_iload_n dMO_tactic_54 rfl rfl ?_
              refine sd_iconst (v := nI 0) dMO_tactic_55 (by decide) ?_
              refine sd_bipush (v := nI 8) dMO_tactic_56 (by decide) ?_
              refine sd_cS [.int (nI (k)), .int (nI (0)), .int (nI (8))] [] dMO_tactic_58 kMO_102 mMO_in_s (c_MO_in (b := 1) (by omega) (by simp only [true_iff]; exact (mo_in_of (by omega)).mpr ⟨k, by omega, rfl⟩)) (by decide) (Nat.le_refl _) (Nat.le_refl _) (Nat.le_of_ble_eq_true rfl) rfl ?_
              refine nn_if_eq 75 dMO_tactic_61 (by decide) (by decide) (fun c => absurd c (by decide)) (fun _ => ?_)
              refine sd_aload_n dMO_tactic_64 rfl rfl ?_
              refine fx_getiv (v := (nI ((st_op S).length))) 10 28 dMO_tactic_65 fMO_273 rfl rfl (hop) ?_
              refine nn_if_eq 75 dMO_tactic_68 (by decide) (by omega) (fun c68 => ?_) (fun c68 => ?_)
              ·
                refine sd_iconst (v := (-1)) dMO_tactic_75 (by decide) ?_
                exact absurd hy (by omega)
              ·
                refine sd_iload_n dMO_tactic_71 rfl rfl ?_
                refine nn_if_ne 77 dMO_tactic_72 (by decide) (by decide) (fun _ => ?_) (fun c => absurd c (by decide))
                refine sd_locp (al' := [(0, .ref (o + (0))), (1, .int (nI (k))), (2, .int (y))]) [1, 2, 3] rfl ?_
                exact kk
        ·
          refine sd_iload_n dMO_tactic_24 rfl rfl ?_
          refine sd_iconst (v := nI 0) dMO_tactic_25 (by decide) ?_
          refine sd_bipush (v := nI 7) dMO_tactic_26 (by decide) ?_
          refine sd_cS [.int (y), .int (nI (0)), .int (nI (7))] [] dMO_tactic_28 kMO_102 mMO_in_s (m2) (by decide) (Nat.le_refl _) (Nat.le_refl _) (Nat.le_of_ble_eq_true rfl) rfl ?_
          refine sd_goto 53 dMO_tactic_31 (by decide) ?_
          refine sd_istore_n dMO_tactic_53 rfl (by decide) ?_
          refine sd_iload_n dMO_tactic_54 rfl rfl ?_
          refine sd_iconst (v := nI 0) dMO_tactic_55 (by decide) ?_
          refine sd_bipush (v := nI 8) dMO_tactic_56 (by decide) ?_
          refine sd_cS [.int (nI (k)), .int (nI (0)), .int (nI (8))] [] dMO_tactic_58 kMO_102 mMO_in_s (c_MO_in (b := 1) (by omega) (by simp only [true_iff]; exact (mo_in_of (by omega)).mpr ⟨k, by omega, rfl⟩)) (by decide) (Nat.le_refl _) (Nat.le_refl _) (Nat.le_of_ble_eq_true rfl) rfl ?_
          refine nn_if_eq 75 dMO_tactic_61 (by decide) (by decide) (fun c => absurd c (by decide)) (fun _ => ?_)
          refine sd_aload_n dMO_tactic_64 rfl rfl ?_
          refine fx_getiv (v := (nI ((st_op S).length))) 10 28 dMO_tactic_65 fMO_273 rfl rfl (hop) ?_
          refine nn_if_eq 75 dMO_tactic_68 (by decide) (by omega) (fun c68 => ?_) (fun c68 => ?_)
          ·
            refine sd_iconst (v := (-1)) dMO_tactic_75 (by decide) ?_
            exact absurd hy (by omega)
          ·
            refine sd_iload_n dMO_tactic_71 rfl rfl ?_
            refine nn_if_ne 77 dMO_tactic_72 (by decide) (by omega) (fun c72 => ?_) (fun c72 => ?_)
            ·
              refine sd_locp (al' := [(0, .ref (o + (0))), (1, .int (nI (k))), (2, .int (y))]) [1, 2, 3] rfl ?_
              exact kk
            ·
              refine sd_iconst (v := (-1)) dMO_tactic_75 (by decide) ?_
              exact absurd hy (by omega)
      ·
        refine sd_aload_n dMO_tactic_11 rfl rfl ?_
        refine sd_iload_n dMO_tactic_12 rfl rfl ?_
        refine fx_cV 10 sR_MO [.int (y)] [] dMO_tactic_13 kMO_200 rfl rfl mMO_isTerm_v (i1) (by decide) (Nat.le_refl _) (Nat.le_refl _) (Nat.le_of_ble_eq_true rfl) rfl ?_
        refine sd_goto 53 dMO_tactic_16 (by decide) ?_
        refine sd_istore_n dMO_tactic_53 rfl (by decide) ?_
        refine sd_iload_n dMO_tactic_54 rfl rfl ?_
        refine sd_iconst (v := nI 0) dMO_tactic_55 (by decide) ?_
        refine sd_bipush (v := nI 8) dMO_tactic_56 (by decide) ?_
        refine sd_cS [.int (nI (k)), .int (nI (0)), .int (nI (8))] [] dMO_tactic_58 kMO_102 mMO_in_s (c_MO_in (b := 1) (by omega) (by simp only [true_iff]; exact (mo_in_of (by omega)).mpr ⟨k, by omega, rfl⟩)) (by decide) (Nat.le_refl _) (Nat.le_refl _) (Nat.le_of_ble_eq_true rfl) rfl ?_
        refine nn_if_eq 75 dMO_tactic_61 (by decide) (by decide) (fun c => absurd c (by decide)) (fun _ => ?_)
        refine sd_aload_n dMO_tactic_64 rfl rfl ?_
        refine fx_getiv (v := (nI ((st_op S).length))) 10 28 dMO_tactic_65 fMO_273 rfl rfl (hop) ?_
        refine nn_if_eq 75 dMO_tactic_68 (by decide) (by omega) (fun c68 => ?_) (fun c68 => ?_)
        ·
          refine sd_iconst (v := (-1)) dMO_tactic_75 (by decide) ?_
          exact absurd hy (by omega)
        ·
          refine sd_iload_n dMO_tactic_71 rfl rfl ?_
          refine nn_if_ne 77 dMO_tactic_72 (by decide) (by omega) (fun c72 => ?_) (fun c72 => ?_)
          ·
            refine sd_locp (al' := [(0, .ref (o + (0))), (1, .int (nI (k))), (2, .int (y))]) [1, 2, 3] rfl ?_
            exact kk
          ·
            refine sd_iconst (v := (-1)) dMO_tactic_75 (by decide) ?_
            exact absurd hy (by omega)
