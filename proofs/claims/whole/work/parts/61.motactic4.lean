/-! ===== the model: tactic, behind leave ===== -/
theorem tc_full_iff {S : st_S} {k a g : Nat} : tc_full S k a g = true ↔ tl_full (st_T S) (lv_rows S k a g) = true ∨ 30 < (st_gl S).length + (lv_rows S k a g).length := by
  unfold tc_full
  simp
theorem tc_nbig {S : st_S} {k a g : Nat} (h : tc_big S k a g = false) : ∀ q ∈ tc_kids S k a g, q.2.1.length ≤ 6 := by
  unfold tc_big at h
  rw [Bool.or_eq_false_iff] at h
  intro q hq
  have := List.any_eq_false.mp h.2 q hq
  simp at this
  exact this
theorem lvr_wf {rows : List tl_T} {D : fx_D} {j : Nat} {r : tl_T} (hcp : ∀ l ∈ rows, tl_cp 1 l) (hok : lv_ok rows D) (h : rows[j]? = some r) : tl_wf r := ⟨(hcp r (List.mem_of_getElem? h)).1, (hcp r (List.mem_of_getElem? h)).2, (hok j r h).1⟩
theorem u_MO_tac0 {G : sd_G} {o : Nat} {D : fx_D} {h0 : sd_H} {nx g k a : Nat} {y ans : Int32} {S S' : st_S} {q : st_Gl} {tl : List Nat} (hB : G.2.1 ≤ o) (hR : mo_R S D) (hN : st_okN S) (hop : st_op S = g :: tl) (hq : (st_gl S)[g]? = some q) (hy : k = 8 → y = nI a) (hk : [0, 0, 2, 2, 1, 0, 2, 2, 0].getD k 0 = 0) (hr : lv_rows S k a g = []) (hkd : tc_kids S k a g = []) (hcp : ∀ l ∈ lv_rows S k a g, tl_cp 1 l) (hok : lv_ok (lv_rows S k a g) D) (he : (ans, S') = if tc_full S k a g = true then (-6, S) else (nI (st_op (tc_S S k a g)).length, tc_S S k a g)) : sd_W G mMO_tactic 7 0 0 (fx_is G.1.2 mo_S o h0 nx (some (.int ans)) (mo_R S')) 224 [(0, .ref (o + 0)), (1, .int (nI k)), (2, .int y), (4, .int (nI g)), (5, .int (nI 0)), (6, .int (nI 0))] [] (fx_h G.1.2 mo_S o D h0) nx 0 0 := by
  have g30 := hR.2.2.2.2.2.1.1
  have hn : ¬ tc_full S k a g = true := by
    rw [tc_full_iff, hr]
    simp [tl_full]
    omega
  rw [if_neg hn, tc_S0 hop hq hr hkd] at he
  obtain ⟨e1, e2⟩ := Prod.mk.inj he
  exact v_MO_tac0 hB hR hop hq hy hk hN ⟨e1, e2⟩
theorem u_MO_tac1 {G : sd_G} {o : Nat} {D : fx_D} {h0 : sd_H} {nx g k a : Nat} {y ans : Int32} {S S' : st_S} {q : st_Gl} {tl : List Nat} {r0 : tl_T} (hB : G.2.1 ≤ o) (hR : mo_R S D) (hN : st_okN S) (hop : st_op S = g :: tl) (hq : (st_gl S)[g]? = some q) (hy : k = 8 → y = nI a) (hk : [0, 0, 2, 2, 1, 0, 2, 2, 0].getD k 0 = 1) (hr : lv_rows S k a g = [r0]) (hkd : tc_kids S k a g = [(tl_kp (st_T S) r0, st_gh S g, none)]) (hcp : ∀ l ∈ lv_rows S k a g, tl_cp 1 l) (hok : lv_ok (lv_rows S k a g) D) (he : (ans, S') = if tc_full S k a g = true then (-6, S) else (nI (st_op (tc_S S k a g)).length, tc_S S k a g)) : sd_W G mMO_tactic 7 0 0 (fx_is G.1.2 mo_S o h0 nx (some (.int ans)) (mo_R S')) 224 [(0, .ref (o + 0)), (1, .int (nI k)), (2, .int y), (4, .int (nI g)), (5, .int (nI 1)), (6, .int (nI 0))] [] (fx_h G.1.2 mo_S o D h0) nx 0 0 := by
  have hfull : tc_full S k a g = true ↔ ¬ tl_kp (st_T S) r0 < 64 ∨ 30 < (st_gl S).length + 1 := by
    rw [tc_full_iff, hr]
    simp [tl_full]
  rw [hr] at hcp hok
  refine v_MO_tac1 (r0 := r0) hB hR hop hq hy (hok 0 r0 rfl).2 (lvr_wf hcp hok (j := 0) rfl) hk hN (fun h => ?_) (fun h h' => ?_)
  · rw [if_pos (hfull.mpr h)] at he
    exact Prod.mk.inj he
  · rw [if_neg (fun z => by have := hfull.mp z; omega), tc_S1 hop hq hr hkd] at he
    exact Prod.mk.inj he
theorem u_MO_tac2 {G : sd_G} {o : Nat} {D : fx_D} {h0 : sd_H} {nx g k a : Nat} {y ans : Int32} {S S' : st_S} {q : st_Gl} {tl : List Nat} {r0 r1 : tl_T} (hB : G.2.1 ≤ o) (hR : mo_R S D) (hN : st_okN S) (hop : st_op S = g :: tl) (hq : (st_gl S)[g]? = some q) (hy : k = 8 → y = nI a) (hk : [0, 0, 2, 2, 1, 0, 2, 2, 0].getD k 0 = 2) (hr : lv_rows S k a g = [r0, r1]) (hkd : tc_kids S k a g = [(tl_kp (st_T S) r0, st_gh S g, none), (tl_kp (tl_kt (st_T S) r0) r1, st_gh S g, none)]) (hcp : ∀ l ∈ lv_rows S k a g, tl_cp 1 l) (hok : lv_ok (lv_rows S k a g) D) (he : (ans, S') = if tc_full S k a g = true then (-6, S) else (nI (st_op (tc_S S k a g)).length, tc_S S k a g)) : sd_W G mMO_tactic 7 0 0 (fx_is G.1.2 mo_S o h0 nx (some (.int ans)) (mo_R S')) 224 [(0, .ref (o + 0)), (1, .int (nI k)), (2, .int y), (4, .int (nI g)), (5, .int (nI 2)), (6, .int (nI 0))] [] (fx_h G.1.2 mo_S o D h0) nx 0 0 := by
  have hfull : tc_full S k a g = true ↔ ¬ tl_kp (st_T S) r0 < 64 ∨ ¬ tl_kp (tl_kt (st_T S) r0) r1 < 64 ∨ 30 < (st_gl S).length + 2 := by
    rw [tc_full_iff, hr]
    simp [tl_full, or_assoc]
  rw [hr] at hcp hok
  refine v_MO_tac2 (r0 := r0) (r1 := r1) hB hR hop hq hy (hok 0 r0 rfl).2 (lvr_wf hcp hok (j := 0) rfl) (hok 1 r1 rfl).2 (lvr_wf hcp hok (j := 1) rfl) hk hN (fun h => ?_) (fun h h' h'' => ?_)
  · rw [if_pos (hfull.mpr h)] at he
    exact Prod.mk.inj he
  · rw [if_neg (fun z => by have := hfull.mp z; omega), tc_S2 hop hq hr hkd] at he
    exact Prod.mk.inj he
theorem u_MO_tac7 {G : sd_G} {o : Nat} {D : fx_D} {h0 : sd_H} {nx g k a : Nat} {y ans : Int32} {S S' : st_S} {q : st_Gl} {tl : List Nat} {r0 r1 : tl_T} (hB : G.2.1 ≤ o) (hR : mo_R S D) (hN : st_okN S) (hop : st_op S = g :: tl) (hq : (st_gl S)[g]? = some q) (hy : k = 8 → y = nI a) (hk : [0, 0, 2, 2, 1, 0, 2, 2, 0].getD k 0 = 2) (hr : lv_rows S k a g = [r0, r1]) (hkd : tc_kids S k a g = [(tl_kp (tl_kt (st_T S) r0) r1, ls_h (st_gh S g) (tl_kp (st_T S) r0), none), (tl_kp (st_T S) r0, ls_h (st_gh S g) (tl_kp (tl_kt (st_T S) r0) r1), none)]) (hcp : ∀ l ∈ lv_rows S k a g, tl_cp 1 l) (hok : lv_ok (lv_rows S k a g) D) (hG : st_okG S) (hnb : tc_big S k a g = false) (he : (ans, S') = if tc_full S k a g = true then (-6, S) else (nI (st_op (tc_S S k a g)).length, tc_S S k a g)) : sd_W G mMO_tactic 7 0 0 (fx_is G.1.2 mo_S o h0 nx (some (.int ans)) (mo_R S')) 224 [(0, .ref (o + 0)), (1, .int (nI k)), (2, .int y), (4, .int (nI g)), (5, .int (nI 2)), (6, .int (nI 2))] [] (fx_h G.1.2 mo_S o D h0) nx 0 0 := by
  have hfull : tc_full S k a g = true ↔ ¬ tl_kp (st_T S) r0 < 64 ∨ ¬ tl_kp (tl_kt (st_T S) r0) r1 < 64 ∨ 30 < (st_gl S).length + 2 := by
    rw [tc_full_iff, hr]
    simp [tl_full, or_assoc]
  rw [hr] at hcp hok
  have e2 : st_gh S g = q.2.1 := by unfold st_gh; rw [hq]; rfl
  have h64 := hR.2.1.1
  have hqs : ∀ u ∈ q.2.1, u < 2 ^ 30 := fun u hu => by
    have := (hG g q hq).2 u hu
    omega
  have hb := tc_nbig hnb
  rw [hkd, e2] at hb
  have h60 := hb _ (List.mem_cons_self ..)
  have h61 := hb _ (List.mem_cons_of_mem _ (List.mem_cons_self ..))
  refine v_MO_tac7 (r0 := r0) (r1 := r1) hB hR hop hq hy hqs h60 h61 (hok 0 r0 rfl).2 (lvr_wf hcp hok (j := 0) rfl) (hok 1 r1 rfl).2 (lvr_wf hcp hok (j := 1) rfl) hk hN (fun h => ?_) (fun h h' h'' => ?_)
  · rw [if_pos (hfull.mpr h)] at he
    exact Prod.mk.inj he
  · rw [if_neg (fun z => by have := hfull.mp z; omega), tc_S7 hop hq hr hkd] at he
    exact Prod.mk.inj he
theorem u_MO_tactic {G : sd_G} {o : Nat} {D : fx_D} {h0 : sd_H} {nx g k a : Nat} {x y ans : Int32} {S S' : st_S} (hB : G.2.1 ≤ o) (hR : mo_R S D) (hG : st_okG S) (hN : st_okN S) (hop : (st_op S).head? = some g) (hg : g < (st_gl S).length) (ht : tc_there S x y k a) (hk7 : k ≠ 7) (hf : su_fit S k a g = true) (hok : lv_ok (lv_rows S k a g) D) (he : (ans, S') = if tc_full S k a g = true then (-6, S) else (nI (st_op (tc_S S k a g)).length, tc_S S k a g)) : sd_W G mMO_tactic 7 0 0 (fx_is G.1.2 mo_S o h0 nx (some (.int ans)) (mo_R S')) 224 [(0, .ref (o + 0)), (1, .int (nI k)), (2, .int y), (4, .int (nI g)), (5, .int (nI (lv_rows S k a g).length)), (6, .int (nI 0))] [] (fx_h G.1.2 mo_S o D h0) nx 0 0 := by
  obtain ⟨tl, hop⟩ := List.head?_eq_some_iff.mp hop
  have hcp := lv_cp hR hG hg ht hf
  have hq : (st_gl S)[g]? = some (st_gl S)[g] := List.getElem?_eq_getElem hg
  generalize (st_gl S)[g] = q at hq
  obtain ⟨-, h⟩ := ht
  rcases h with ⟨rfl | rfl | rfl | rfl | rfl, rfl⟩ | ⟨rfl | rfl, rfl, ha⟩ | ⟨rfl, rfl, ha⟩ | ⟨rfl, rfl, ha⟩
  · exact u_MO_tac0 hB hR hN hop hq (fun e => absurd e (by decide)) rfl rfl rfl hcp hok he
  · exact u_MO_tac0 hB hR hN hop hq (fun e => absurd e (by decide)) rfl rfl rfl hcp hok he
  · exact u_MO_tac2 hB hR hN hop hq (fun e => absurd e (by decide)) rfl rfl rfl hcp hok he
  · exact u_MO_tac0 hB hR hN hop hq (fun e => absurd e (by decide)) rfl rfl rfl hcp hok he
  · exact absurd rfl hk7
  · exact u_MO_tac2 hB hR hN hop hq (fun e => absurd e (by decide)) rfl rfl rfl hcp hok he
  · exact u_MO_tac2 hB hR hN hop hq (fun e => absurd e (by decide)) rfl rfl rfl hcp hok he
  · exact u_MO_tac1 hB hR hN hop hq (fun e => absurd e (by decide)) rfl rfl rfl hcp hok he
  · exact u_MO_tac0 hB hR hN hop hq (fun _ => rfl) rfl rfl rfl hcp hok he
theorem t_MO_214 {G : sd_G} {o : Nat} {D : fx_D} {h0 : sd_H} {nx k g many both f : Nat} {y : Int32} {Q : sd_Q} (hf2 : f < 2) (hfv : D.2.1 0 7 = nI f) (k1 : f = 1 → Q (some (.int (-5))) (fx_h G.1.2 mo_S o D h0) nx) (k0 : f = 0 → sd_W G mMO_tactic 7 0 0 Q 224 [(0, .ref (o + 0)), (1, .int (nI k)), (2, .int y), (4, .int (nI g)), (5, .int (nI many)), (6, .int (nI both))] [] (fx_h G.1.2 mo_S o D h0) nx 0 0) : sd_W G mMO_tactic 7 0 0 Q 214 [(0, .ref (o + 0)), (1, .int (nI k)), (2, .int y), (4, .int (nI g)), (5, .int (nI many)), (6, .int (nI both))] [] (fx_h G.1.2 mo_S o D h0) nx 0 0 := by
  refine sd_aload_n dMO_tactic_214 rfl rfl ?_
  refine fx_getiv (v := (nI (f))) 10 7 dMO_tactic_215 fMO_124 rfl rfl (hfv) ?_
  refine nn_if_eq 224 dMO_tactic_218 (by decide) (by omega) (fun c218 => ?_) (fun c218 => ?_)
  ·
    refine sd_locp (al' := [(0, .ref (o + (0))), (1, .int (nI (k))), (2, .int (y)), (4, .int (nI (g))), (5, .int (nI (many))), (6, .int (nI (both)))]) [0, 1, 2, 3, 4, 5] rfl ?_
    exact k0 (by omega)
  ·
    refine sd_bipush (v := (-5)) dMO_tactic_221 (by decide) ?_
    exact sd_iret dMO_tactic_223 rfl (Nat.le_refl _) (Nat.le_refl _) (k1 (by omega))
/-- whether a hypothesis too many would come -/
def tc_bad (S : st_S) (g : Nat) (r0 r1 : tl_T) (bad : Nat) : Prop := bad < 2 ∧ (bad = 1 ↔ (st_gh S g).length = 6 ∧ ¬ (tl_kp (st_T S) r0 ∈ st_gh S g ∧ tl_kp (tl_kt (st_T S) r0) r1 ∈ st_gh S g))
theorem t_MO_147 {G : sd_G} {o : Nat} {D : fx_D} {h0 : sd_H} {nx g bad : Nat} {y : Int32} {S : st_S} {r0 r1 : tl_T} {Q : sd_Q} (hB : G.2.1 ≤ o) (hR : mo_R S D) (hG : st_okG S) (hg : g < (st_gl S).length) (hrow : mo_row D 64 r0) (hwf : tl_wf r0) (hrow1 : mo_row D 65 r1) (hwf1 : tl_wf r1) (hbad : tc_bad S g r0 r1 bad) (K : ∀ D4 : fx_D, (D4 = D ∧ bad = 0 ∨ D4 = fx_uf D 0 7 (nI 1) ∧ bad = 1) → sd_W G mMO_tactic 7 0 0 Q 214 [(0, .ref (o + 0)), (1, .int (nI 7)), (2, .int y), (4, .int (nI g)), (5, .int (nI 2)), (6, .int (nI 2))] [] (fx_h G.1.2 mo_S o D4 h0) nx 0 0) : sd_W G mMO_tactic 7 0 0 Q 147 [(0, .ref (o + 0)), (1, .int (nI 7)), (2, .int y), (4, .int (nI g)), (5, .int (nI 2)), (6, .int (nI 2))] [] (fx_h G.1.2 mo_S o D h0) nx 0 0 := by
  obtain ⟨g1, g2, g3, g4, g5, g6⟩ := mo_gg hR hG hg
  have h64 := hR.2.1.1
  have hh : ∀ t ∈ st_gh S g, t < (st_T S).length := fun t ht => by
    obtain ⟨j, hj⟩ := List.mem_iff_getElem?.mp ht
    exact (g6 j t hj).2
  obtain ⟨Y, hY⟩ := tl_kt_pre (T := st_T S) (l := r0)
  have m0 := tl_kp_mem (X := []) (l := r0) hh
  rw [List.append_nil] at m0
  have m1 := tl_kp_mem (X := Y) (l := r1) hh
  rw [← hY] at m1
  obtain ⟨hb2, hb1⟩ := hbad
  rw [m0, m1] at hb1
  have cF1 := c_MO_find (G := G) (o := o) (h0 := h0) (nx := nx) (r := 65) (i := 0) hR.2.1 (by omega) hrow1 (Nat.zero_le _) hwf1.1
  rw [tl_cp_part hwf1.cp] at cF1
  have cF0 := c_MO_find (G := G) (o := o) (h0 := h0) (nx := nx) (r := 64) (i := 0) hR.2.1 (by omega) hrow (Nat.zero_le _) hwf.1
  rw [tl_cp_part hwf.cp] at cF0
  cases hx0 : (st_T S).idxOf? r0 with
  | none =>
    have e0 : tl_find (st_T S) r0 = -1 := by unfold tl_find; rw [hx0]
    rw [e0] at cF0
    have hb3 : bad = 1 ↔ (st_gh S g).length = 6 := by
      rw [hb1, hx0]
      simp
    refine sd_aload_n dMO_tactic_147 rfl rfl ?_
    refine sd_bipush (v := nI 65) dMO_tactic_148 (by decide) ?_
    refine sd_iconst (v := nI 0) dMO_tactic_150 (by decide) ?_
    refine fx_cV 10 sR_MO [.int (nI (65)), .int (nI (0))] [] dMO_tactic_151 kMO_145 rfl rfl mMO_find_v (cF1) (by decide) (Nat.le_refl _) (Nat.le_refl _) (Nat.le_of_ble_eq_true rfl) rfl ?_
    refine sd_istore dMO_tactic_154 (by decide) ?_
    refine sd_aload_n dMO_tactic_156 rfl rfl ?_
    refine sd_bipush (v := nI 64) dMO_tactic_157 (by decide) ?_
    refine sd_iconst (v := nI 0) dMO_tactic_159 (by decide) ?_
    refine fx_cV 10 sR_MO [.int (nI (64)), .int (nI (0))] [] dMO_tactic_160 kMO_145 rfl rfl mMO_find_v (cF0) (by decide) (Nat.le_refl _) (Nat.le_refl _) (Nat.le_of_ble_eq_true rfl) rfl ?_
    refine sd_istore dMO_tactic_163 (by decide) ?_
    refine sd_aload_n dMO_tactic_165 rfl rfl ?_
    refine fx_getr 10 18 (14) dMO_tactic_166 fMO_49 rfl rfl ?_
    refine sd_iload dMO_tactic_169 rfl ?_
    refine fx_ialdv (v := (nI ((st_gh S g).length))) (g) dMO_tactic_171 rfl rfl (by omega) (by decide) (g4) ?_
    refine sd_bipush (v := nI 6) dMO_tactic_172 (by decide) ?_
    refine nn_icmp_ne 214 dMO_tactic_174 (by decide) (by omega) (by omega) (fun c174 => ?_) (fun c174 => ?_)
    ·
      refine sd_locp (al' := [(0, .ref (o + (0))), (1, .int (nI (7))), (2, .int (y)), (4, .int (nI (g))), (5, .int (nI (2))), (6, .int (nI (2)))]) [2, 3, 4, 5, 6, 7] rfl ?_
      exact K (D) (by first | exact Or.inl ⟨rfl, by omega⟩ | exact Or.inr ⟨rfl, by omega⟩)
    ·
      refine sd_iload dMO_tactic_177 rfl ?_
      refine sd_if_lt 209 dMO_tactic_179 (by decide) (fun c179 => ?_) (fun c179 => ?_)
      ·
        refine sd_aload_n dMO_tactic_209 rfl rfl ?_
        refine sd_iconst (v := nI 1) dMO_tactic_210 (by decide) ?_
        refine fx_putz 10 7 dMO_tactic_211 fMO_124 rfl rfl (Or.inr rfl) rfl rfl hB ?_
        refine sd_locp (al' := [(0, .ref (o + (0))), (1, .int (nI (7))), (2, .int (y)), (4, .int (nI (g))), (5, .int (nI (2))), (6, .int (nI (2)))]) [2, 3, 4, 5, 6, 7] rfl ?_
        exact K (fx_uf (D) (0) 7 ((nI (1)))) (by first | exact Or.inl ⟨rfl, by omega⟩ | exact Or.inr ⟨rfl, by omega⟩)
      ·
        exact absurd (show (-1 : Int32) < 0 by decide) c179
  | some t0 =>
    have e0 : tl_find (st_T S) r0 = nI t0 := by unfold tl_find; rw [hx0]
    rw [e0] at cF0
    obtain ⟨i0, -⟩ := List.idxOf?_eq_some_iff.mp hx0
    obtain ⟨w0, w02, w01⟩ := bw_b (t0 ∈ st_gh S g)
    cases hx1 : (st_T S).idxOf? r1 with
    | none =>
      have e1 : tl_find (st_T S) r1 = -1 := by unfold tl_find; rw [hx1]
      rw [e1] at cF1
      have hb3 : bad = 1 ↔ (st_gh S g).length = 6 := by
        rw [hb1, hx1]
        simp
      refine sd_aload_n dMO_tactic_147 rfl rfl ?_
      refine sd_bipush (v := nI 65) dMO_tactic_148 (by decide) ?_
      refine sd_iconst (v := nI 0) dMO_tactic_150 (by decide) ?_
      refine fx_cV 10 sR_MO [.int (nI (65)), .int (nI (0))] [] dMO_tactic_151 kMO_145 rfl rfl mMO_find_v (cF1) (by decide) (Nat.le_refl _) (Nat.le_refl _) (Nat.le_of_ble_eq_true rfl) rfl ?_
      refine sd_istore dMO_tactic_154 (by decide) ?_
      refine sd_aload_n dMO_tactic_156 rfl rfl ?_
      refine sd_bipush (v := nI 64) dMO_tactic_157 (by decide) ?_
      refine sd_iconst (v := nI 0) dMO_tactic_159 (by decide) ?_
      refine fx_cV 10 sR_MO [.int (nI (64)), .int (nI (0))] [] dMO_tactic_160 kMO_145 rfl rfl mMO_find_v (cF0) (by decide) (Nat.le_refl _) (Nat.le_refl _) (Nat.le_of_ble_eq_true rfl) rfl ?_
      refine sd_istore dMO_tactic_163 (by decide) ?_
      refine sd_aload_n dMO_tactic_165 rfl rfl ?_
      refine fx_getr 10 18 (14) dMO_tactic_166 fMO_49 rfl rfl ?_
      refine sd_iload dMO_tactic_169 rfl ?_
      refine fx_ialdv (v := (nI ((st_gh S g).length))) (g) dMO_tactic_171 rfl rfl (by omega) (by decide) (g4) ?_
      refine sd_bipush (v := nI 6) dMO_tactic_172 (by decide) ?_
      refine nn_icmp_ne 214 dMO_tactic_174 (by decide) (by omega) (by omega) (fun c174 => ?_) (fun c174 => ?_)
      ·
        refine sd_locp (al' := [(0, .ref (o + (0))), (1, .int (nI (7))), (2, .int (y)), (4, .int (nI (g))), (5, .int (nI (2))), (6, .int (nI (2)))]) [2, 3, 4, 5, 6, 7] rfl ?_
        exact K (D) (by first | exact Or.inl ⟨rfl, by omega⟩ | exact Or.inr ⟨rfl, by omega⟩)
      ·
        refine sd_iload dMO_tactic_177 rfl ?_
        refine nn_if_lt dMO_tactic_179 209 (by decide) (by omega) ?_
        refine sd_iload dMO_tactic_182 rfl ?_
        refine sd_if_lt 209 dMO_tactic_184 (by decide) (fun c184 => ?_) (fun c184 => ?_)
        ·
          refine sd_aload_n dMO_tactic_209 rfl rfl ?_
          refine sd_iconst (v := nI 1) dMO_tactic_210 (by decide) ?_
          refine fx_putz 10 7 dMO_tactic_211 fMO_124 rfl rfl (Or.inr rfl) rfl rfl hB ?_
          refine sd_locp (al' := [(0, .ref (o + (0))), (1, .int (nI (7))), (2, .int (y)), (4, .int (nI (g))), (5, .int (nI (2))), (6, .int (nI (2)))]) [2, 3, 4, 5, 6, 7] rfl ?_
          exact K (fx_uf (D) (0) 7 ((nI (1)))) (by first | exact Or.inl ⟨rfl, by omega⟩ | exact Or.inr ⟨rfl, by omega⟩)
        ·
          exact absurd (show (-1 : Int32) < 0 by decide) c184
    | some t1 =>
      have e1 : tl_find (st_T S) r1 = nI t1 := by unfold tl_find; rw [hx1]
      rw [e1] at cF1
      obtain ⟨i1, -⟩ := List.idxOf?_eq_some_iff.mp hx1
      obtain ⟨w1, w12, w11⟩ := bw_b (t1 ∈ st_gh S g)
      have hb3 : bad = 1 ↔ (st_gh S g).length = 6 ∧ ¬ (w0 = 1 ∧ w1 = 1) := by
        rw [hb1, hx0, hx1, w01, w11]
        simp
      refine sd_aload_n dMO_tactic_147 rfl rfl ?_
      refine sd_bipush (v := nI 65) dMO_tactic_148 (by decide) ?_
      refine sd_iconst (v := nI 0) dMO_tactic_150 (by decide) ?_
      refine fx_cV 10 sR_MO [.int (nI (65)), .int (nI (0))] [] dMO_tactic_151 kMO_145 rfl rfl mMO_find_v (cF1) (by decide) (Nat.le_refl _) (Nat.le_refl _) (Nat.le_of_ble_eq_true rfl) rfl ?_
      refine sd_istore dMO_tactic_154 (by decide) ?_
      refine sd_aload_n dMO_tactic_156 rfl rfl ?_
      refine sd_bipush (v := nI 64) dMO_tactic_157 (by decide) ?_
      refine sd_iconst (v := nI 0) dMO_tactic_159 (by decide) ?_
      refine fx_cV 10 sR_MO [.int (nI (64)), .int (nI (0))] [] dMO_tactic_160 kMO_145 rfl rfl mMO_find_v (cF0) (by decide) (Nat.le_refl _) (Nat.le_refl _) (Nat.le_of_ble_eq_true rfl) rfl ?_
      refine sd_istore dMO_tactic_163 (by decide) ?_
      refine sd_aload_n dMO_tactic_165 rfl rfl ?_
      refine fx_getr 10 18 (14) dMO_tactic_166 fMO_49 rfl rfl ?_
      refine sd_iload dMO_tactic_169 rfl ?_
      refine fx_ialdv (v := (nI ((st_gh S g).length))) (g) dMO_tactic_171 rfl rfl (by omega) (by decide) (g4) ?_
      refine sd_bipush (v := nI 6) dMO_tactic_172 (by decide) ?_
      refine nn_icmp_ne 214 dMO_tactic_174 (by decide) (by omega) (by omega) (fun c174 => ?_) (fun c174 => ?_)
      ·
        refine sd_locp (al' := [(0, .ref (o + (0))), (1, .int (nI (7))), (2, .int (y)), (4, .int (nI (g))), (5, .int (nI (2))), (6, .int (nI (2)))]) [2, 3, 4, 5, 6, 7] rfl ?_
        exact K (D) (by first | exact Or.inl ⟨rfl, by omega⟩ | exact Or.inr ⟨rfl, by omega⟩)
      ·
        refine sd_iload dMO_tactic_177 rfl ?_
        refine nn_if_lt dMO_tactic_179 209 (by decide) (by omega) ?_
        refine sd_iload dMO_tactic_182 rfl ?_
        refine nn_if_lt dMO_tactic_184 209 (by decide) (by omega) ?_
        refine sd_aload_n dMO_tactic_187 rfl rfl ?_
        refine sd_iload dMO_tactic_188 rfl ?_
        refine sd_iload dMO_tactic_190 rfl ?_
        refine fx_cV 10 sR_MO [.int (nI (g)), .int (nI (t0))] [] dMO_tactic_192 kMO_278 rfl rfl mMO_assumes_v (c_MO_assumes hR hG hg (by omega) w02 w01) (by decide) (Nat.le_refl _) (Nat.le_refl _) (Nat.le_of_ble_eq_true rfl) rfl ?_
        refine nn_if_eq 209 dMO_tactic_195 (by decide) (by omega) (fun c195 => ?_) (fun c195 => ?_)
        ·
          refine sd_aload_n dMO_tactic_209 rfl rfl ?_
          refine sd_iconst (v := nI 1) dMO_tactic_210 (by decide) ?_
          refine fx_putz 10 7 dMO_tactic_211 fMO_124 rfl rfl (Or.inr rfl) rfl rfl hB ?_
          refine sd_locp (al' := [(0, .ref (o + (0))), (1, .int (nI (7))), (2, .int (y)), (4, .int (nI (g))), (5, .int (nI (2))), (6, .int (nI (2)))]) [2, 3, 4, 5, 6, 7] rfl ?_
          exact K (fx_uf (D) (0) 7 ((nI (1)))) (by first | exact Or.inl ⟨rfl, by omega⟩ | exact Or.inr ⟨rfl, by omega⟩)
        ·
          refine sd_aload_n dMO_tactic_198 rfl rfl ?_
          refine sd_iload dMO_tactic_199 rfl ?_
          refine sd_iload dMO_tactic_201 rfl ?_
          refine fx_cV 10 sR_MO [.int (nI (g)), .int (nI (t1))] [] dMO_tactic_203 kMO_278 rfl rfl mMO_assumes_v (c_MO_assumes hR hG hg (by omega) w12 w11) (by decide) (Nat.le_refl _) (Nat.le_refl _) (Nat.le_of_ble_eq_true rfl) rfl ?_
          refine nn_if_ne 214 dMO_tactic_206 (by decide) (by omega) (fun c206 => ?_) (fun c206 => ?_)
          ·
            refine sd_locp (al' := [(0, .ref (o + (0))), (1, .int (nI (7))), (2, .int (y)), (4, .int (nI (g))), (5, .int (nI (2))), (6, .int (nI (2)))]) [2, 3, 4, 5, 6, 7] rfl ?_
            exact K (D) (by first | exact Or.inl ⟨rfl, by omega⟩ | exact Or.inr ⟨rfl, by omega⟩)
          ·
            refine sd_aload_n dMO_tactic_209 rfl rfl ?_
            refine sd_iconst (v := nI 1) dMO_tactic_210 (by decide) ?_
            refine fx_putz 10 7 dMO_tactic_211 fMO_124 rfl rfl (Or.inr rfl) rfl rfl hB ?_
            refine sd_locp (al' := [(0, .ref (o + (0))), (1, .int (nI (7))), (2, .int (y)), (4, .int (nI (g))), (5, .int (nI (2))), (6, .int (nI (2)))]) [2, 3, 4, 5, 6, 7] rfl ?_
            exact K (fx_uf (D) (0) 7 ((nI (1)))) (by first | exact Or.inl ⟨rfl, by omega⟩ | exact Or.inr ⟨rfl, by omega⟩)
