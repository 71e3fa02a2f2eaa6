/-! ===== the model: tactic, the terms are kept ===== -/
def lv_ok (rows : List tl_T) (D' : fx_D) : Prop := ∀ (j : Nat) (l : tl_T), rows[j]? = some l → l.length ≤ 24 ∧ mo_row D' (64 + j) l
def lv_bg (rows : List tl_T) : Prop := ∃ l ∈ rows, 24 < l.length
theorem lv_P.f {S : st_S} {rows : List tl_T} {D' : fx_D} (h : lv_P S rows D') : ∃ f, f < 2 ∧ D'.2.1 0 7 = nI f ∧ (f = 0 → lv_ok rows D') ∧ (f = 1 → lv_bg rows) := by
  obtain ⟨-, ⟨h1, h2⟩ | ⟨h1, h2⟩⟩ := h
  · exact ⟨0, by omega, h2, fun _ => h1, fun e => absurd e (by omega)⟩
  · exact ⟨1, by omega, h2, fun e => absurd e (by omega), fun _ => h1⟩
theorem lv_nbg {rows : List tl_T} {D' : fx_D} (h : lv_ok rows D') : rows.any (fun l => 24 < l.length) = false := by
  rw [List.any_eq_false]
  intro l hl
  obtain ⟨j, hj⟩ := List.mem_iff_getElem?.mp hl
  have := (h j l hj).1
  simp
  omega
theorem tc_S0 {S : st_S} {k a g : Nat} {q : st_Gl} {tl : List Nat} (hop : st_op S = g :: tl) (hq : (st_gl S)[g]? = some q) (hr : lv_rows S k a g = []) (hk : tc_kids S k a g = []) : tc_S S k a g = (S.1, S.2.1, S.2.2.1, S.2.2.2.1, tk_L (st_gl S) g q k a, tl, g :: st_dn S) := by
  have e1 : st_gt S g = q.1 := by unfold st_gt; rw [hq]; rfl
  have e2 : st_gh S g = q.2.1 := by unfold st_gh; rw [hq]; rfl
  unfold tc_S tk_L
  rw [hr, hk, e1, e2, hop, List.append_nil]
  rfl
theorem tc_S1 {S : st_S} {k a g : Nat} {q : st_Gl} {tl : List Nat} {r0 : tl_T} (hop : st_op S = g :: tl) (hq : (st_gl S)[g]? = some q) (hr : lv_rows S k a g = [r0]) (hk : tc_kids S k a g = [(tl_kp (st_T S) r0, st_gh S g, none)]) : tc_S S k a g = (S.1, tl_kt (st_T S) r0, S.2.2.1, S.2.2.2.1, tk_L (st_gl S) g q k a ++ [(tl_kp (st_T S) r0, q.2.1, none)], (st_gl S).length :: tl, g :: st_dn S) := by
  have e1 : st_gt S g = q.1 := by unfold st_gt; rw [hq]; rfl
  have e2 : st_gh S g = q.2.1 := by unfold st_gh; rw [hq]; rfl
  unfold tc_S tk_L
  rw [hr, hk, e1, e2, hop]
  rfl
theorem tc_S2 {S : st_S} {k a g : Nat} {q : st_Gl} {tl : List Nat} {r0 r1 : tl_T} (hop : st_op S = g :: tl) (hq : (st_gl S)[g]? = some q) (hr : lv_rows S k a g = [r0, r1]) (hk : tc_kids S k a g = [(tl_kp (st_T S) r0, st_gh S g, none), (tl_kp (tl_kt (st_T S) r0) r1, st_gh S g, none)]) : tc_S S k a g = (S.1, tl_kt (tl_kt (st_T S) r0) r1, S.2.2.1, S.2.2.2.1, tk_L (st_gl S) g q k a ++ [(tl_kp (st_T S) r0, q.2.1, none)] ++ [(tl_kp (tl_kt (st_T S) r0) r1, q.2.1, none)], (st_gl S).length :: ((st_gl S).length + 1) :: tl, g :: st_dn S) := by
  have e1 : st_gt S g = q.1 := by unfold st_gt; rw [hq]; rfl
  have e2 : st_gh S g = q.2.1 := by unfold st_gh; rw [hq]; rfl
  unfold tc_S tk_L
  rw [hr, hk, e1, e2, hop, List.append_assoc]
  rfl
theorem tc_S7 {S : st_S} {k a g : Nat} {q : st_Gl} {tl : List Nat} {r0 r1 : tl_T} (hop : st_op S = g :: tl) (hq : (st_gl S)[g]? = some q) (hr : lv_rows S k a g = [r0, r1]) (hk : tc_kids S k a g = [(tl_kp (tl_kt (st_T S) r0) r1, ls_h (st_gh S g) (tl_kp (st_T S) r0), none), (tl_kp (st_T S) r0, ls_h (st_gh S g) (tl_kp (tl_kt (st_T S) r0) r1), none)]) : tc_S S k a g = (S.1, tl_kt (tl_kt (st_T S) r0) r1, S.2.2.1, S.2.2.2.1, tk_L (st_gl S) g q k a ++ [(tl_kp (tl_kt (st_T S) r0) r1, ls_h q.2.1 (tl_kp (st_T S) r0), none)] ++ [(tl_kp (st_T S) r0, ls_h q.2.1 (tl_kp (tl_kt (st_T S) r0) r1), none)], (st_gl S).length :: ((st_gl S).length + 1) :: tl, g :: st_dn S) := by
  have e1 : st_gt S g = q.1 := by unfold st_gt; rw [hq]; rfl
  have e2 : st_gh S g = q.2.1 := by unfold st_gh; rw [hq]; rfl
  unfold tc_S tk_L
  rw [hr, hk, e1, e2, hop, List.append_assoc]
  rfl
theorem v_MO_tac0 {G : sd_G} {o : Nat} {D : fx_D} {h0 : sd_H} {nx g k a : Nat} {y ans : Int32} {S S' : st_S} {q : st_Gl} {tl : List Nat} (hB : G.2.1 ≤ o) (hR : mo_R S D) (hop : st_op S = g :: tl) (hq : (st_gl S)[g]? = some q) (hy : k = 8 → y = nI a) (hk : [0, 0, 2, 2, 1, 0, 2, 2, 0].getD k 0 = 0) (hN : st_okN S) (he : ans = nI tl.length ∧ S' = (S.1, S.2.1, S.2.2.1, S.2.2.2.1, tk_L (st_gl S) g q k a, tl, g :: st_dn S)) : sd_W G mMO_tactic 7 0 0 (fx_is G.1.2 mo_S o h0 nx (some (.int ans)) (mo_R S')) 224 [(0, .ref (o + 0)), (1, .int (nI k)), (2, .int y), (4, .int (nI g)), (5, .int (nI 0)), (6, .int (nI 0))] [] (fx_h G.1.2 mo_S o D h0) nx 0 0 := by
  obtain ⟨rfl, rfl⟩ := he
  have g30 := hR.2.2.2.2.2.1.1
  refine sd_aload_n dMO_tactic_224 rfl rfl ?_
  refine fx_getiv (v := (nI ((st_T S).length))) 10 5 dMO_tactic_225 fMO_117 rfl rfl (hR.2.1.2.1) ?_
  refine sd_istore dMO_tactic_228 (by decide) ?_
  refine sd_iload dMO_tactic_230 rfl ?_
  refine nn_if_le 244 dMO_tactic_232 (by decide) (by decide) (fun _ => ?_) (fun c => absurd c (by decide))
  refine sd_iconst (v := nI 0) dMO_tactic_244 (by decide) ?_
  refine sd_istore dMO_tactic_245 (by decide) ?_
  refine sd_iload dMO_tactic_247 rfl ?_
  refine sd_iconst (v := nI 1) dMO_tactic_249 (by decide) ?_
  refine nn_icmp_le 262 dMO_tactic_250 (by decide) (by decide) (by decide) (fun _ => ?_) (fun c => absurd c (by decide))
  refine sd_iconst (v := nI 0) dMO_tactic_262 (by decide) ?_
  refine sd_istore dMO_tactic_263 (by decide) ?_
  refine sd_iload dMO_tactic_265 rfl ?_
  refine sd_bipush (v := nI 64) dMO_tactic_267 (by decide) ?_
  refine nn_icmp_eq 291 dMO_tactic_269 (by decide) (by decide) (by decide) (fun c => absurd c (by decide)) (fun _ => ?_)
  refine sd_iload dMO_tactic_272 rfl ?_
  refine sd_bipush (v := nI 64) dMO_tactic_274 (by decide) ?_
  refine nn_icmp_eq 291 dMO_tactic_276 (by decide) (by decide) (by decide) (fun c => absurd c (by decide)) (fun _ => ?_)
  refine sd_aload_n dMO_tactic_279 rfl rfl ?_
  refine fx_getiv (v := (nI ((st_gl S).length))) 10 27 dMO_tactic_280 fMO_270 rfl rfl (hR.2.2.2.2.2.1.2.1) ?_
  refine sd_iload dMO_tactic_283 rfl ?_
  refine nn_iadd dMO_tactic_285 ?_
  refine sd_bipush (v := nI 30) dMO_tactic_286 (by decide) ?_
  refine nn_icmp_le 300 dMO_tactic_288 (by decide) (by omega) (by omega) (fun c288 => ?_) (fun c288 => ?_)
  ·
    refine sd_locp (al' := [(0, .ref (o + (0))), (1, .int (nI (k))), (2, .int (y)), (4, .int (nI (g))), (5, .int (nI (0))), (6, .int (nI (0))), (9, .int (nI (0))), (10, .int (nI (0)))]) [3, 4, 5, 6, 7, 8, 1, 0] rfl ?_
    exact w_MO_tac0 hB hR hop hq hy hk hN
  ·
    exact absurd c288 (by omega)
theorem v_MO_tac1 {G : sd_G} {o : Nat} {D : fx_D} {h0 : sd_H} {nx g k a : Nat} {y ans : Int32} {S S' : st_S} {q : st_Gl} {tl : List Nat} {r0 : tl_T} (hB : G.2.1 ≤ o) (hR : mo_R S D) (hop : st_op S = g :: tl) (hq : (st_gl S)[g]? = some q) (hy : k = 8 → y = nI a) (hrow : mo_row D 64 r0) (hwf : tl_wf r0) (hk : [0, 0, 2, 2, 1, 0, 2, 2, 0].getD k 0 = 1) (hN : st_okN S) (h1 : ¬ tl_kp (st_T S) r0 < 64 ∨ 30 < (st_gl S).length + 1 → ans = -6 ∧ S' = S) (h2 : tl_kp (st_T S) r0 < 64 → (st_gl S).length + 1 ≤ 30 → ans = nI (tl.length + 1) ∧ S' = (S.1, tl_kt (st_T S) r0, S.2.2.1, S.2.2.2.1, tk_L (st_gl S) g q k a ++ [(tl_kp (st_T S) r0, q.2.1, none)], (st_gl S).length :: tl, g :: st_dn S)) : sd_W G mMO_tactic 7 0 0 (fx_is G.1.2 mo_S o h0 nx (some (.int ans)) (mo_R S')) 224 [(0, .ref (o + 0)), (1, .int (nI k)), (2, .int y), (4, .int (nI g)), (5, .int (nI 1)), (6, .int (nI 0))] [] (fx_h G.1.2 mo_S o D h0) nx 0 0 := by
  have g30 := hR.2.2.2.2.2.1.1
  have k64 : tl_kp (st_T S) r0 ≤ 64 := Nat.le_trans tl_kp_le hR.2.1.1
  obtain ⟨Y, hY⟩ := tl_kt_pre (T := st_T S) (l := r0)
  have kr : ∀ {D1 : fx_D}, (mo_terms D1 (tl_kt (st_T S) r0) ∧ mo_fr D D1) → mo_R (S.1, tl_kt (st_T S) r0, S.2.2) D1 := fun h => mo_R_keep hR h.1 h.2
  have bk : ∀ {D1 : fx_D}, (mo_terms D1 (tl_kt (st_T S) r0) ∧ mo_fr D D1) → mo_R S (fx_uf D1 0 5 (nI (st_T S).length)) := fun h => mo_R_back (X := Y) (by rw [← hY]; exact kr h)
  refine sd_aload_n dMO_tactic_224 rfl rfl ?_
  refine fx_getiv (v := (nI ((st_T S).length))) 10 5 dMO_tactic_225 fMO_117 rfl rfl (hR.2.1.2.1) ?_
  refine sd_istore dMO_tactic_228 (by decide) ?_
  refine sd_iload dMO_tactic_230 rfl ?_
  refine nn_if_le 244 dMO_tactic_232 (by decide) (by decide) (fun c => absurd c (by decide)) (fun _ => ?_)
  refine sd_aload_n dMO_tactic_235 rfl rfl ?_
  refine sd_bipush (v := nI 64) dMO_tactic_236 (by decide) ?_
  refine fx_cP 10 sR_MO [.int (nI (64))] [] dMO_tactic_238 kMO_197 rfl rfl mMO_keep_v (c_MO_keep (r := 64) (T := st_T S) (l := r0) hB hR.2.1 (by omega) (by omega) hrow hwf) (by decide) (Nat.le_refl _) (Nat.le_refl _) (Nat.le_of_ble_eq_true rfl) rfl (fun D1 hD1 => ?_)
  refine sd_goto 245 dMO_tactic_241 (by decide) ?_
  refine sd_istore dMO_tactic_245 (by decide) ?_
  refine sd_iload dMO_tactic_247 rfl ?_
  refine sd_iconst (v := nI 1) dMO_tactic_249 (by decide) ?_
  refine nn_icmp_le 262 dMO_tactic_250 (by decide) (by decide) (by decide) (fun _ => ?_) (fun c => absurd c (by decide))
  refine sd_iconst (v := nI 0) dMO_tactic_262 (by decide) ?_
  refine sd_istore dMO_tactic_263 (by decide) ?_
  refine sd_iload dMO_tactic_265 rfl ?_
  refine sd_bipush (v := nI 64) dMO_tactic_267 (by decide) ?_
  refine nn_icmp_eq 291 dMO_tactic_269 (by decide) (by omega) (by omega) (fun c269 => ?_) (fun c269 => ?_)
  ·
    refine sd_aload_n dMO_tactic_291 rfl rfl ?_
    refine sd_iload dMO_tactic_292 rfl ?_
    refine fx_puti 10 5 dMO_tactic_294 fMO_117 rfl rfl rfl rfl hB ?_
    refine sd_bipush (v := (-6)) dMO_tactic_297 (by decide) ?_
    obtain ⟨rfl, rfl⟩ := h1 (by omega)
    exact sd_iret dMO_tactic_299 rfl (Nat.le_refl _) (Nat.le_refl _) ⟨rfl, rfl, _, rfl, bk hD1⟩
  ·
    refine sd_iload dMO_tactic_272 rfl ?_
    refine sd_bipush (v := nI 64) dMO_tactic_274 (by decide) ?_
    refine nn_icmp_eq 291 dMO_tactic_276 (by decide) (by decide) (by decide) (fun c => absurd c (by decide)) (fun _ => ?_)
    refine sd_aload_n dMO_tactic_279 rfl rfl ?_
    refine fx_getiv (v := (nI ((st_gl S).length))) 10 27 dMO_tactic_280 fMO_270 rfl rfl ((kr hD1).2.2.2.2.2.1.2.1) ?_
    refine sd_iload dMO_tactic_283 rfl ?_
    refine nn_iadd dMO_tactic_285 ?_
    refine sd_bipush (v := nI 30) dMO_tactic_286 (by decide) ?_
    refine nn_icmp_le 300 dMO_tactic_288 (by decide) (by omega) (by omega) (fun c288 => ?_) (fun c288 => ?_)
    ·
      refine sd_locp (al' := [(0, .ref (o + (0))), (1, .int (nI (k))), (2, .int (y)), (4, .int (nI (g))), (5, .int (nI (1))), (6, .int (nI (0))), (9, .int (nI (tl_kp (st_T S) r0))), (10, .int (nI (0)))]) [3, 4, 5, 6, 7, 8, 1, 0] rfl ?_
      obtain ⟨rfl, rfl⟩ := h2 (by omega) (by omega)
      exact w_MO_tac1 (S := (S.1, tl_kt (st_T S) r0, S.2.2)) hB (kr hD1) hop hq hy hk hN (by first | exact c288 | (show (st_gl S).length + 1 ≤ 30; omega))
    ·
      refine sd_aload_n dMO_tactic_291 rfl rfl ?_
      refine sd_iload dMO_tactic_292 rfl ?_
      refine fx_puti 10 5 dMO_tactic_294 fMO_117 rfl rfl rfl rfl hB ?_
      refine sd_bipush (v := (-6)) dMO_tactic_297 (by decide) ?_
      obtain ⟨rfl, rfl⟩ := h1 (by omega)
      exact sd_iret dMO_tactic_299 rfl (Nat.le_refl _) (Nat.le_refl _) ⟨rfl, rfl, _, rfl, bk hD1⟩
theorem v_MO_tac2 {G : sd_G} {o : Nat} {D : fx_D} {h0 : sd_H} {nx g k a : Nat} {y ans : Int32} {S S' : st_S} {q : st_Gl} {tl : List Nat} {r0 r1 : tl_T} (hB : G.2.1 ≤ o) (hR : mo_R S D) (hop : st_op S = g :: tl) (hq : (st_gl S)[g]? = some q) (hy : k = 8 → y = nI a) (hrow : mo_row D 64 r0) (hwf : tl_wf r0) (hrow1 : mo_row D 65 r1) (hwf1 : tl_wf r1) (hk : [0, 0, 2, 2, 1, 0, 2, 2, 0].getD k 0 = 2) (hN : st_okN S) (h1 : ¬ tl_kp (st_T S) r0 < 64 ∨ ¬ tl_kp (tl_kt (st_T S) r0) r1 < 64 ∨ 30 < (st_gl S).length + 2 → ans = -6 ∧ S' = S) (h2 : tl_kp (st_T S) r0 < 64 → tl_kp (tl_kt (st_T S) r0) r1 < 64 → (st_gl S).length + 2 ≤ 30 → ans = nI (tl.length + 2) ∧ S' = (S.1, tl_kt (tl_kt (st_T S) r0) r1, S.2.2.1, S.2.2.2.1, tk_L (st_gl S) g q k a ++ [(tl_kp (st_T S) r0, q.2.1, none)] ++ [(tl_kp (tl_kt (st_T S) r0) r1, q.2.1, none)], (st_gl S).length :: ((st_gl S).length + 1) :: tl, g :: st_dn S)) : sd_W G mMO_tactic 7 0 0 (fx_is G.1.2 mo_S o h0 nx (some (.int ans)) (mo_R S')) 224 [(0, .ref (o + 0)), (1, .int (nI k)), (2, .int y), (4, .int (nI g)), (5, .int (nI 2)), (6, .int (nI 0))] [] (fx_h G.1.2 mo_S o D h0) nx 0 0 := by
  have g30 := hR.2.2.2.2.2.1.1
  have k64 : tl_kp (st_T S) r0 ≤ 64 := Nat.le_trans tl_kp_le hR.2.1.1
  obtain ⟨Y, hY⟩ := tl_kt_pre (T := st_T S) (l := r0)
  obtain ⟨Z, hZ⟩ := tl_kt_pre (T := tl_kt (st_T S) r0) (l := r1)
  have hYZ : tl_kt (tl_kt (st_T S) r0) r1 = st_T S ++ (Y ++ Z) := by rw [hZ, hY, List.append_assoc]
  have kr : ∀ {D1 : fx_D}, (mo_terms D1 (tl_kt (st_T S) r0) ∧ mo_fr D D1) → mo_R (S.1, tl_kt (st_T S) r0, S.2.2) D1 := fun h => mo_R_keep hR h.1 h.2
  have kr2 : ∀ {D1 D2 : fx_D}, (mo_terms D1 (tl_kt (st_T S) r0) ∧ mo_fr D D1) → (mo_terms D2 (tl_kt (tl_kt (st_T S) r0) r1) ∧ mo_fr D1 D2) → mo_R (S.1, tl_kt (tl_kt (st_T S) r0) r1, S.2.2) D2 := fun h h' => mo_R_keep (S := (S.1, tl_kt (st_T S) r0, S.2.2)) (kr h) h'.1 h'.2
  have bk : ∀ {D1 D2 : fx_D}, (mo_terms D1 (tl_kt (st_T S) r0) ∧ mo_fr D D1) → (mo_terms D2 (tl_kt (tl_kt (st_T S) r0) r1) ∧ mo_fr D1 D2) → mo_R S (fx_uf D2 0 5 (nI (st_T S).length)) := fun h h' => mo_R_back (X := Y ++ Z) (by rw [← hYZ]; exact kr2 h h')
  have kb : ∀ {D1 : fx_D}, (mo_terms D1 (tl_kt (st_T S) r0) ∧ mo_fr D D1) → tl_kp (tl_kt (st_T S) r0) r1 ≤ 64 := fun h => Nat.le_trans tl_kp_le h.1.1
  refine sd_aload_n dMO_tactic_224 rfl rfl ?_
  refine fx_getiv (v := (nI ((st_T S).length))) 10 5 dMO_tactic_225 fMO_117 rfl rfl (hR.2.1.2.1) ?_
  refine sd_istore dMO_tactic_228 (by decide) ?_
  refine sd_iload dMO_tactic_230 rfl ?_
  refine nn_if_le 244 dMO_tactic_232 (by decide) (by decide) (fun c => absurd c (by decide)) (fun _ => ?_)
  refine sd_aload_n dMO_tactic_235 rfl rfl ?_
  refine sd_bipush (v := nI 64) dMO_tactic_236 (by decide) ?_
  refine fx_cP 10 sR_MO [.int (nI (64))] [] dMO_tactic_238 kMO_197 rfl rfl mMO_keep_v (c_MO_keep (r := 64) (T := st_T S) (l := r0) hB hR.2.1 (by omega) (by omega) hrow hwf) (by decide) (Nat.le_refl _) (Nat.le_refl _) (Nat.le_of_ble_eq_true rfl) rfl (fun D1 hD1 => ?_)
  have k65 := kb hD1
  refine sd_goto 245 dMO_tactic_241 (by decide) ?_
  refine sd_istore dMO_tactic_245 (by decide) ?_
  refine sd_iload dMO_tactic_247 rfl ?_
  refine sd_iconst (v := nI 1) dMO_tactic_249 (by decide) ?_
  refine nn_icmp_le 262 dMO_tactic_250 (by decide) (by decide) (by decide) (fun c => absurd c (by decide)) (fun _ => ?_)
  refine sd_aload_n dMO_tactic_253 rfl rfl ?_
  refine sd_bipush (v := nI 65) dMO_tactic_254 (by decide) ?_
  refine fx_cP 10 sR_MO [.int (nI (65))] [] dMO_tactic_256 kMO_197 rfl rfl mMO_keep_v (c_MO_keep (r := 65) (T := tl_kt (st_T S) r0) (l := r1) hB hD1.1 (by omega) (by omega) (hD1.2.2.2.2.1 65 r1 (by omega) hrow1) hwf1) (by decide) (Nat.le_refl _) (Nat.le_refl _) (Nat.le_of_ble_eq_true rfl) rfl (fun D2 hD2 => ?_)
  refine sd_goto 263 dMO_tactic_259 (by decide) ?_
  refine sd_istore dMO_tactic_263 (by decide) ?_
  refine sd_iload dMO_tactic_265 rfl ?_
  refine sd_bipush (v := nI 64) dMO_tactic_267 (by decide) ?_
  refine nn_icmp_eq 291 dMO_tactic_269 (by decide) (by omega) (by omega) (fun c269 => ?_) (fun c269 => ?_)
  ·
    refine sd_aload_n dMO_tactic_291 rfl rfl ?_
    refine sd_iload dMO_tactic_292 rfl ?_
    refine fx_puti 10 5 dMO_tactic_294 fMO_117 rfl rfl rfl rfl hB ?_
    refine sd_bipush (v := (-6)) dMO_tactic_297 (by decide) ?_
    obtain ⟨rfl, rfl⟩ := h1 (by omega)
    exact sd_iret dMO_tactic_299 rfl (Nat.le_refl _) (Nat.le_refl _) ⟨rfl, rfl, _, rfl, bk hD1 hD2⟩
  ·
    refine sd_iload dMO_tactic_272 rfl ?_
    refine sd_bipush (v := nI 64) dMO_tactic_274 (by decide) ?_
    refine nn_icmp_eq 291 dMO_tactic_276 (by decide) (by omega) (by omega) (fun c276 => ?_) (fun c276 => ?_)
    ·
      refine sd_aload_n dMO_tactic_291 rfl rfl ?_
      refine sd_iload dMO_tactic_292 rfl ?_
      refine fx_puti 10 5 dMO_tactic_294 fMO_117 rfl rfl rfl rfl hB ?_
      refine sd_bipush (v := (-6)) dMO_tactic_297 (by decide) ?_
      obtain ⟨rfl, rfl⟩ := h1 (by omega)
      exact sd_iret dMO_tactic_299 rfl (Nat.le_refl _) (Nat.le_refl _) ⟨rfl, rfl, _, rfl, bk hD1 hD2⟩
    ·
      refine sd_aload_n dMO_tactic_279 rfl rfl ?_
      refine fx_getiv (v := (nI ((st_gl S).length))) 10 27 dMO_tactic_280 fMO_270 rfl rfl ((kr2 hD1 hD2).2.2.2.2.2.1.2.1) ?_
      refine sd_iload dMO_tactic_283 rfl ?_
      refine nn_iadd dMO_tactic_285 ?_
      refine sd_bipush (v := nI 30) dMO_tactic_286 (by decide) ?_
      refine nn_icmp_le 300 dMO_tactic_288 (by decide) (by omega) (by omega) (fun c288 => ?_) (fun c288 => ?_)
      ·
        refine sd_locp (al' := [(0, .ref (o + (0))), (1, .int (nI (k))), (2, .int (y)), (4, .int (nI (g))), (5, .int (nI (2))), (6, .int (nI (0))), (9, .int (nI (tl_kp (st_T S) r0))), (10, .int (nI (tl_kp (tl_kt (st_T S) r0) r1)))]) [3, 4, 5, 6, 7, 8, 1, 0] rfl ?_
        obtain ⟨rfl, rfl⟩ := h2 (by omega) (by omega) (by omega)
        exact w_MO_tac2 (S := (S.1, tl_kt (tl_kt (st_T S) r0) r1, S.2.2)) hB (kr2 hD1 hD2) hop hq hy hk hN c288
      ·
        refine sd_aload_n dMO_tactic_291 rfl rfl ?_
        refine sd_iload dMO_tactic_292 rfl ?_
        refine fx_puti 10 5 dMO_tactic_294 fMO_117 rfl rfl rfl rfl hB ?_
        refine sd_bipush (v := (-6)) dMO_tactic_297 (by decide) ?_
        obtain ⟨rfl, rfl⟩ := h1 (by omega)
        exact sd_iret dMO_tactic_299 rfl (Nat.le_refl _) (Nat.le_refl _) ⟨rfl, rfl, _, rfl, bk hD1 hD2⟩
theorem v_MO_tac7 {G : sd_G} {o : Nat} {D : fx_D} {h0 : sd_H} {nx g k a : Nat} {y ans : Int32} {S S' : st_S} {q : st_Gl} {tl : List Nat} {r0 r1 : tl_T} (hB : G.2.1 ≤ o) (hR : mo_R S D) (hop : st_op S = g :: tl) (hq : (st_gl S)[g]? = some q) (hy : k = 8 → y = nI a) (hqs : ∀ u ∈ q.2.1, u < 2 ^ 30) (h60 : (ls_h q.2.1 (tl_kp (st_T S) r0)).length ≤ 6) (h61 : (ls_h q.2.1 (tl_kp (tl_kt (st_T S) r0) r1)).length ≤ 6) (hrow : mo_row D 64 r0) (hwf : tl_wf r0) (hrow1 : mo_row D 65 r1) (hwf1 : tl_wf r1) (hk : [0, 0, 2, 2, 1, 0, 2, 2, 0].getD k 0 = 2) (hN : st_okN S) (h1 : ¬ tl_kp (st_T S) r0 < 64 ∨ ¬ tl_kp (tl_kt (st_T S) r0) r1 < 64 ∨ 30 < (st_gl S).length + 2 → ans = -6 ∧ S' = S) (h2 : tl_kp (st_T S) r0 < 64 → tl_kp (tl_kt (st_T S) r0) r1 < 64 → (st_gl S).length + 2 ≤ 30 → ans = nI (tl.length + 2) ∧ S' = (S.1, tl_kt (tl_kt (st_T S) r0) r1, S.2.2.1, S.2.2.2.1, tk_L (st_gl S) g q k a ++ [(tl_kp (tl_kt (st_T S) r0) r1, ls_h q.2.1 (tl_kp (st_T S) r0), none)] ++ [(tl_kp (st_T S) r0, ls_h q.2.1 (tl_kp (tl_kt (st_T S) r0) r1), none)], (st_gl S).length :: ((st_gl S).length + 1) :: tl, g :: st_dn S)) : sd_W G mMO_tactic 7 0 0 (fx_is G.1.2 mo_S o h0 nx (some (.int ans)) (mo_R S')) 224 [(0, .ref (o + 0)), (1, .int (nI k)), (2, .int y), (4, .int (nI g)), (5, .int (nI 2)), (6, .int (nI 2))] [] (fx_h G.1.2 mo_S o D h0) nx 0 0 := by
  have g30 := hR.2.2.2.2.2.1.1
  have k64 : tl_kp (st_T S) r0 ≤ 64 := Nat.le_trans tl_kp_le hR.2.1.1
  obtain ⟨Y, hY⟩ := tl_kt_pre (T := st_T S) (l := r0)
  obtain ⟨Z, hZ⟩ := tl_kt_pre (T := tl_kt (st_T S) r0) (l := r1)
  have hYZ : tl_kt (tl_kt (st_T S) r0) r1 = st_T S ++ (Y ++ Z) := by rw [hZ, hY, List.append_assoc]
  have kr : ∀ {D1 : fx_D}, (mo_terms D1 (tl_kt (st_T S) r0) ∧ mo_fr D D1) → mo_R (S.1, tl_kt (st_T S) r0, S.2.2) D1 := fun h => mo_R_keep hR h.1 h.2
  have kr2 : ∀ {D1 D2 : fx_D}, (mo_terms D1 (tl_kt (st_T S) r0) ∧ mo_fr D D1) → (mo_terms D2 (tl_kt (tl_kt (st_T S) r0) r1) ∧ mo_fr D1 D2) → mo_R (S.1, tl_kt (tl_kt (st_T S) r0) r1, S.2.2) D2 := fun h h' => mo_R_keep (S := (S.1, tl_kt (st_T S) r0, S.2.2)) (kr h) h'.1 h'.2
  have bk : ∀ {D1 D2 : fx_D}, (mo_terms D1 (tl_kt (st_T S) r0) ∧ mo_fr D D1) → (mo_terms D2 (tl_kt (tl_kt (st_T S) r0) r1) ∧ mo_fr D1 D2) → mo_R S (fx_uf D2 0 5 (nI (st_T S).length)) := fun h h' => mo_R_back (X := Y ++ Z) (by rw [← hYZ]; exact kr2 h h')
  have kb : ∀ {D1 : fx_D}, (mo_terms D1 (tl_kt (st_T S) r0) ∧ mo_fr D D1) → tl_kp (tl_kt (st_T S) r0) r1 ≤ 64 := fun h => Nat.le_trans tl_kp_le h.1.1
  refine sd_aload_n dMO_tactic_224 rfl rfl ?_
  refine fx_getiv (v := (nI ((st_T S).length))) 10 5 dMO_tactic_225 fMO_117 rfl rfl (hR.2.1.2.1) ?_
  refine sd_istore dMO_tactic_228 (by decide) ?_
  refine sd_iload dMO_tactic_230 rfl ?_
  refine nn_if_le 244 dMO_tactic_232 (by decide) (by decide) (fun c => absurd c (by decide)) (fun _ => ?_)
  refine sd_aload_n dMO_tactic_235 rfl rfl ?_
  refine sd_bipush (v := nI 64) dMO_tactic_236 (by decide) ?_
  refine fx_cP 10 sR_MO [.int (nI (64))] [] dMO_tactic_238 kMO_197 rfl rfl mMO_keep_v (c_MO_keep (r := 64) (T := st_T S) (l := r0) hB hR.2.1 (by omega) (by omega) hrow hwf) (by decide) (Nat.le_refl _) (Nat.le_refl _) (Nat.le_of_ble_eq_true rfl) rfl (fun D1 hD1 => ?_)
  have k65 := kb hD1
  refine sd_goto 245 dMO_tactic_241 (by decide) ?_
  refine sd_istore dMO_tactic_245 (by decide) ?_
  refine sd_iload dMO_tactic_247 rfl ?_
  refine sd_iconst (v := nI 1) dMO_tactic_249 (by decide) ?_
  refine nn_icmp_le 262 dMO_tactic_250 (by decide) (by decide) (by decide) (fun c => absurd c (by decide)) (fun _ => ?_)
  refine sd_aload_n dMO_tactic_253 rfl rfl ?_
  refine sd_bipush (v := nI 65) dMO_tactic_254 (by decide) ?_
  refine fx_cP 10 sR_MO [.int (nI (65))] [] dMO_tactic_256 kMO_197 rfl rfl mMO_keep_v (c_MO_keep (r := 65) (T := tl_kt (st_T S) r0) (l := r1) hB hD1.1 (by omega) (by omega) (hD1.2.2.2.2.1 65 r1 (by omega) hrow1) hwf1) (by decide) (Nat.le_refl _) (Nat.le_refl _) (Nat.le_of_ble_eq_true rfl) rfl (fun D2 hD2 => ?_)
  refine sd_goto 263 dMO_tactic_259 (by decide) ?_
  refine sd_istore dMO_tactic_263 (by decide) ?_
  refine sd_iload dMO_tactic_265 rfl ?_
  refine sd_bipush (v := nI 64) dMO_tactic_267 (by decide) ?_
  refine nn_icmp_eq 291 dMO_tactic_269 (by decide) (by omega) (by omega) (fun c269 => ?_) (fun c269 => ?_)
  ·
    refine sd_aload_n dMO_tactic_291 rfl rfl ?_
    refine sd_iload dMO_tactic_292 rfl ?_
    refine fx_puti 10 5 dMO_tactic_294 fMO_117 rfl rfl rfl rfl hB ?_
    refine sd_bipush (v := (-6)) dMO_tactic_297 (by decide) ?_
    obtain ⟨rfl, rfl⟩ := h1 (by omega)
    exact sd_iret dMO_tactic_299 rfl (Nat.le_refl _) (Nat.le_refl _) ⟨rfl, rfl, _, rfl, bk hD1 hD2⟩
  ·
    refine sd_iload dMO_tactic_272 rfl ?_
    refine sd_bipush (v := nI 64) dMO_tactic_274 (by decide) ?_
    refine nn_icmp_eq 291 dMO_tactic_276 (by decide) (by omega) (by omega) (fun c276 => ?_) (fun c276 => ?_)
    ·
      refine sd_aload_n dMO_tactic_291 rfl rfl ?_
      refine sd_iload dMO_tactic_292 rfl ?_
      refine fx_puti 10 5 dMO_tactic_294 fMO_117 rfl rfl rfl rfl hB ?_
      refine sd_bipush (v := (-6)) dMO_tactic_297 (by decide) ?_
      obtain ⟨rfl, rfl⟩ := h1 (by omega)
      exact sd_iret dMO_tactic_299 rfl (Nat.le_refl _) (Nat.le_refl _) ⟨rfl, rfl, _, rfl, bk hD1 hD2⟩
    ·
      refine sd_aload_n dMO_tactic_279 rfl rfl ?_
      refine fx_getiv (v := (nI ((st_gl S).length))) 10 27 dMO_tactic_280 fMO_270 rfl rfl ((kr2 hD1 hD2).2.2.2.2.2.1.2.1) ?_
      refine sd_iload dMO_tactic_283 rfl ?_
      refine nn_iadd dMO_tactic_285 ?_
      refine sd_bipush (v := nI 30) dMO_tactic_286 (by decide) ?_
      refine nn_icmp_le 300 dMO_tactic_288 (by decide) (by omega) (by omega) (fun c288 => ?_) (fun c288 => ?_)
      ·
        refine sd_locp (al' := [(0, .ref (o + (0))), (1, .int (nI (k))), (2, .int (y)), (4, .int (nI (g))), (5, .int (nI (2))), (6, .int (nI (2))), (9, .int (nI (tl_kp (st_T S) r0))), (10, .int (nI (tl_kp (tl_kt (st_T S) r0) r1)))]) [3, 4, 5, 6, 7, 8, 1, 0] rfl ?_
        obtain ⟨rfl, rfl⟩ := h2 (by omega) (by omega) (by omega)
        exact w_MO_tac7 (S := (S.1, tl_kt (tl_kt (st_T S) r0) r1, S.2.2)) hB (kr2 hD1 hD2) hop hq hy hqs (by omega) (by omega) h60 h61 hk hN c288
      ·
        refine sd_aload_n dMO_tactic_291 rfl rfl ?_
        refine sd_iload dMO_tactic_292 rfl ?_
        refine fx_puti 10 5 dMO_tactic_294 fMO_117 rfl rfl rfl rfl hB ?_
        refine sd_bipush (v := (-6)) dMO_tactic_297 (by decide) ?_
        obtain ⟨rfl, rfl⟩ := h1 (by omega)
        exact sd_iret dMO_tactic_299 rfl (Nat.le_refl _) (Nat.le_refl _) ⟨rfl, rfl, _, rfl, bk hD1 hD2⟩
