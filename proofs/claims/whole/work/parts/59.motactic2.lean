/-! ===== the model: tactic, one goal or two are left ===== -/
theorem w_MO_tac1b {G : sd_G} {o : Nat} {D D1 : fx_D} {h0 : sd_H} {nx g k0 k1 : Nat} {S : st_S} {L : List st_Gl} {q : st_Gl} {tl dn : List Nat} (hB : G.2.1 ≤ o) (hR : mo_R S D) (hN : L.length + 1 ≤ 30) (htl : tl.length + 1 ≤ 30) (hq : L[g]? = some q) (h1gl : mo_gl D1 L) (h1dn : mo_dn D1 dn) (ff : mo_fg D D1) (otl : ∀ (j u : Nat), tl[j]? = some u → D1.1 20 (j + 1) = nI u) (f28 : D1.2.1 0 28 = nI (tl.length + 1)) : sd_W G mMO_tactic 7 0 0 (fx_is G.1.2 mo_S o h0 nx (some (.int (nI (tl.length + 1)))) (mo_R (S.1, S.2.1, S.2.2.1, S.2.2.2.1, L ++ [(k0, q.2.1, none)], L.length :: tl, dn))) 434 [(0, .ref (o + 0)), (4, .int (nI g)), (5, .int (nI 1)), (6, .int (nI 0)), (9, .int (nI k0)), (10, .int (nI k1))] [] (fx_h G.1.2 mo_S o D1 h0) nx 0 0 := by
  refine sd_aload_n dMO_tactic_434 rfl rfl ?_
  refine sd_dup dMO_tactic_435 rfl ?_
  refine fx_getiv (v := (nI (tl.length + 1))) 10 28 dMO_tactic_436 fMO_273 rfl rfl (f28) ?_
  refine sd_iload dMO_tactic_439 rfl ?_
  refine sd_iconst (v := nI 1) dMO_tactic_441 (by decide) ?_
  refine nn_isub dMO_tactic_442 (by omega) ?_
  refine nn_iadd dMO_tactic_443 ?_
  refine fx_puti 10 28 dMO_tactic_444 fMO_273 rfl rfl rfl rfl hB ?_
  refine sd_iload dMO_tactic_447 rfl ?_
  refine nn_if_le 482 dMO_tactic_449 (by decide) (by decide) (fun c => absurd c (by decide)) (fun _ => ?_)
  refine sd_aload_n dMO_tactic_452 rfl rfl ?_
  refine sd_iload dMO_tactic_453 rfl ?_
  refine sd_iconst (v := nI 0) dMO_tactic_455 (by decide) ?_
  refine sd_iload dMO_tactic_456 rfl ?_
  refine nn_if_le 466 dMO_tactic_458 (by decide) (by decide) (fun _ => ?_) (fun c => absurd c (by decide))
  refine sd_iload dMO_tactic_466 rfl ?_
  refine sd_iload dMO_tactic_468 rfl ?_
  refine nn_if_le 478 dMO_tactic_470 (by decide) (by decide) (fun _ => ?_) (fun c => absurd c (by decide))
  refine sd_iconst (v := (-1)) dMO_tactic_478 (by decide) ?_
  refine fx_cP 10 sR_MO [.int (nI (g)), .int (nI (0)), .int (nI (k0)), .int ((-1))] [] dMO_tactic_479 kMO_290 rfl rfl mMO_child_v (c_MO_childN (L := L) (q := q) hB (mo_gl_f h1gl (fun _ _ _ ↦ rfl) (by simp [fx_uf, upd])) (by omega) hq (by omega)) (by decide) (Nat.le_refl _) (Nat.le_refl _) (Nat.le_of_ble_eq_true rfl) rfl (fun D3 h3 => ?_)
  refine sd_iload dMO_tactic_482 rfl ?_
  refine sd_iconst (v := nI 1) dMO_tactic_484 (by decide) ?_
  refine nn_icmp_le 518 dMO_tactic_485 (by decide) (by decide) (by decide) (fun _ => ?_) (fun c => absurd c (by decide))
  refine sd_aload_n dMO_tactic_518 rfl rfl ?_
  refine fx_getiv (v := (nI (tl.length + 1))) 10 28 dMO_tactic_519 fMO_273 rfl rfl ((by rw [h3.2.2.2.1 0 28 (by omega)]; simp [fx_uf, upd])) ?_
  refine sd_iret dMO_tactic_522 rfl (Nat.le_refl _) (Nat.le_refl _) ⟨rfl, rfl, _, rfl, mo_R_goals hR ((ff.tr (mo_fg.uf _ (by omega) (by omega))).tr h3.2.2.fg) h3.1 ⟨by simp; omega, ?_, op_one (D2 := D1) h3.2.1 otl⟩ (mo_dn_f h1dn (h3.2.2.1 21 (by decide) (by decide) (by decide) (by decide) (by decide)) ?_)⟩
  · rw [h3.2.2.2.1 0 28 (by omega)]
    simp [fx_uf, upd]
  · rw [h3.2.2.2.1 0 29 (by omega)]
    simp [fx_uf, upd]
theorem w_MO_tac2b {G : sd_G} {o : Nat} {D D2 : fx_D} {h0 : sd_H} {nx g k0 k1 : Nat} {S : st_S} {L : List st_Gl} {q : st_Gl} {tl dn : List Nat} (hB : G.2.1 ≤ o) (hR : mo_R S D) (hN : L.length + 2 ≤ 30) (htl : tl.length + 2 ≤ 30) (hq : L[g]? = some q) (h1gl : mo_gl D2 L) (h1dn : mo_dn D2 dn) (ff : mo_fg D D2) (otl : ∀ (j u : Nat), tl[j]? = some u → D2.1 20 (j + 2) = nI u) (f28 : D2.2.1 0 28 = nI (tl.length + 1)) : sd_W G mMO_tactic 7 0 0 (fx_is G.1.2 mo_S o h0 nx (some (.int (nI (tl.length + 2)))) (mo_R (S.1, S.2.1, S.2.2.1, S.2.2.2.1, L ++ [(k0, q.2.1, none)] ++ [(k1, q.2.1, none)], L.length :: (L.length + 1) :: tl, dn))) 434 [(0, .ref (o + 0)), (4, .int (nI g)), (5, .int (nI 2)), (6, .int (nI 0)), (9, .int (nI k0)), (10, .int (nI k1))] [] (fx_h G.1.2 mo_S o D2 h0) nx 0 0 := by
  have hq2 : ∀ z : st_Gl, (L ++ [z])[g]? = some q := fun z => by rw [List.getElem?_append_left (getE_lt hq)]; exact hq
  refine sd_aload_n dMO_tactic_434 rfl rfl ?_
  refine sd_dup dMO_tactic_435 rfl ?_
  refine fx_getiv (v := (nI (tl.length + 1))) 10 28 dMO_tactic_436 fMO_273 rfl rfl (f28) ?_
  refine sd_iload dMO_tactic_439 rfl ?_
  refine sd_iconst (v := nI 1) dMO_tactic_441 (by decide) ?_
  refine nn_isub dMO_tactic_442 (by omega) ?_
  refine nn_iadd dMO_tactic_443 ?_
  refine fx_puti 10 28 dMO_tactic_444 fMO_273 rfl rfl rfl rfl hB ?_
  refine sd_iload dMO_tactic_447 rfl ?_
  refine nn_if_le 482 dMO_tactic_449 (by decide) (by decide) (fun c => absurd c (by decide)) (fun _ => ?_)
  refine sd_aload_n dMO_tactic_452 rfl rfl ?_
  refine sd_iload dMO_tactic_453 rfl ?_
  refine sd_iconst (v := nI 0) dMO_tactic_455 (by decide) ?_
  refine sd_iload dMO_tactic_456 rfl ?_
  refine nn_if_le 466 dMO_tactic_458 (by decide) (by decide) (fun _ => ?_) (fun c => absurd c (by decide))
  refine sd_iload dMO_tactic_466 rfl ?_
  refine sd_iload dMO_tactic_468 rfl ?_
  refine nn_if_le 478 dMO_tactic_470 (by decide) (by decide) (fun _ => ?_) (fun c => absurd c (by decide))
  refine sd_iconst (v := (-1)) dMO_tactic_478 (by decide) ?_
  refine fx_cP 10 sR_MO [.int (nI (g)), .int (nI (0)), .int (nI (k0)), .int ((-1))] [] dMO_tactic_479 kMO_290 rfl rfl mMO_child_v (c_MO_childN (L := L) (q := q) hB (mo_gl_f h1gl (fun _ _ _ ↦ rfl) (by simp [fx_uf, upd])) (by omega) hq (by omega)) (by decide) (Nat.le_refl _) (Nat.le_refl _) (Nat.le_of_ble_eq_true rfl) rfl (fun D4 h4 => ?_)
  refine sd_iload dMO_tactic_482 rfl ?_
  refine sd_iconst (v := nI 1) dMO_tactic_484 (by decide) ?_
  refine nn_icmp_le 518 dMO_tactic_485 (by decide) (by decide) (by decide) (fun c => absurd c (by decide)) (fun _ => ?_)
  refine sd_aload_n dMO_tactic_488 rfl rfl ?_
  refine sd_iload dMO_tactic_489 rfl ?_
  refine sd_iconst (v := nI 1) dMO_tactic_491 (by decide) ?_
  refine sd_iload dMO_tactic_492 rfl ?_
  refine nn_if_le 502 dMO_tactic_494 (by decide) (by decide) (fun _ => ?_) (fun c => absurd c (by decide))
  refine sd_iload dMO_tactic_502 rfl ?_
  refine sd_iload dMO_tactic_504 rfl ?_
  refine nn_if_le 514 dMO_tactic_506 (by decide) (by decide) (fun _ => ?_) (fun c => absurd c (by decide))
  refine sd_iconst (v := (-1)) dMO_tactic_514 (by decide) ?_
  refine fx_cP 10 sR_MO [.int (nI (g)), .int (nI (1)), .int (nI (k1)), .int ((-1))] [] dMO_tactic_515 kMO_290 rfl rfl mMO_child_v (c_MO_childN (q := q) hB h4.1 (by rw [List.length_append, List.length_singleton]; omega) (hq2 _) (by omega)) (by decide) (Nat.le_refl _) (Nat.le_refl _) (Nat.le_of_ble_eq_true rfl) rfl (fun D5 h5 => ?_)
  have h5o := h5.2.1
  rw [List.length_append, List.length_singleton] at h5o
  refine sd_aload_n dMO_tactic_518 rfl rfl ?_
  refine fx_getiv (v := (nI (tl.length + 2))) 10 28 dMO_tactic_519 fMO_273 rfl rfl ((by rw [h5.2.2.2.1 0 28 (by omega), h4.2.2.2.1 0 28 (by omega)]; simp [fx_uf, upd])) ?_
  refine sd_iret dMO_tactic_522 rfl (Nat.le_refl _) (Nat.le_refl _) ⟨rfl, rfl, _, rfl, mo_R_goals hR (((ff.tr (mo_fg.uf _ (by omega) (by omega))).tr h4.2.2.fg).tr h5.2.2.fg) h5.1 ⟨by simp; omega, ?_, op_two (D2 := D2) h5o h4.2.1 otl⟩ (mo_dn_f h1dn ?_ ?_)⟩
  · rw [h5.2.2.2.1 0 28 (by omega), h4.2.2.2.1 0 28 (by omega)]
    simp [fx_uf, upd]
  · rw [h5.2.2.1 21 (by decide) (by decide) (by decide) (by decide) (by decide), h4.2.2.1 21 (by decide) (by decide) (by decide) (by decide) (by decide)]
    rfl
  · rw [h5.2.2.2.1 0 29 (by omega), h4.2.2.2.1 0 29 (by omega)]
    simp [fx_uf, upd]
theorem w_MO_tac7b {G : sd_G} {o : Nat} {D D2 : fx_D} {h0 : sd_H} {nx g k0 k1 : Nat} {S : st_S} {L : List st_Gl} {q : st_Gl} {tl dn : List Nat} (hB : G.2.1 ≤ o) (hR : mo_R S D) (hN : L.length + 2 ≤ 30) (htl : tl.length + 2 ≤ 30) (hq : L[g]? = some q) (hqs : ∀ u ∈ q.2.1, u < 2 ^ 30) (hk0 : k0 < 2 ^ 30) (hk1 : k1 < 2 ^ 30) (h60 : (ls_h q.2.1 k0).length ≤ 6) (h61 : (ls_h q.2.1 k1).length ≤ 6) (h1gl : mo_gl D2 L) (h1dn : mo_dn D2 dn) (ff : mo_fg D D2) (otl : ∀ (j u : Nat), tl[j]? = some u → D2.1 20 (j + 2) = nI u) (f28 : D2.2.1 0 28 = nI (tl.length + 1)) : sd_W G mMO_tactic 7 0 0 (fx_is G.1.2 mo_S o h0 nx (some (.int (nI (tl.length + 2)))) (mo_R (S.1, S.2.1, S.2.2.1, S.2.2.2.1, L ++ [(k1, ls_h q.2.1 k0, none)] ++ [(k0, ls_h q.2.1 k1, none)], L.length :: (L.length + 1) :: tl, dn))) 434 [(0, .ref (o + 0)), (4, .int (nI g)), (5, .int (nI 2)), (6, .int (nI 2)), (9, .int (nI k0)), (10, .int (nI k1))] [] (fx_h G.1.2 mo_S o D2 h0) nx 0 0 := by
  have hq2 : ∀ z : st_Gl, (L ++ [z])[g]? = some q := fun z => by rw [List.getElem?_append_left (getE_lt hq)]; exact hq
  refine sd_aload_n dMO_tactic_434 rfl rfl ?_
  refine sd_dup dMO_tactic_435 rfl ?_
  refine fx_getiv (v := (nI (tl.length + 1))) 10 28 dMO_tactic_436 fMO_273 rfl rfl (f28) ?_
  refine sd_iload dMO_tactic_439 rfl ?_
  refine sd_iconst (v := nI 1) dMO_tactic_441 (by decide) ?_
  refine nn_isub dMO_tactic_442 (by omega) ?_
  refine nn_iadd dMO_tactic_443 ?_
  refine fx_puti 10 28 dMO_tactic_444 fMO_273 rfl rfl rfl rfl hB ?_
  refine sd_iload dMO_tactic_447 rfl ?_
  refine nn_if_le 482 dMO_tactic_449 (by decide) (by decide) (fun c => absurd c (by decide)) (fun _ => ?_)
  refine sd_aload_n dMO_tactic_452 rfl rfl ?_
  refine sd_iload dMO_tactic_453 rfl ?_
  refine sd_iconst (v := nI 0) dMO_tactic_455 (by decide) ?_
  refine sd_iload dMO_tactic_456 rfl ?_
  refine nn_if_le 466 dMO_tactic_458 (by decide) (by decide) (fun c => absurd c (by decide)) (fun _ => ?_)
  refine sd_iload dMO_tactic_461 rfl ?_
  refine sd_goto 468 dMO_tactic_463 (by decide) ?_
  refine sd_iload dMO_tactic_468 rfl ?_
  refine nn_if_le 478 dMO_tactic_470 (by decide) (by decide) (fun c => absurd c (by decide)) (fun _ => ?_)
  refine sd_iload dMO_tactic_473 rfl ?_
  refine sd_goto 479 dMO_tactic_475 (by decide) ?_
  refine fx_cP 10 sR_MO [.int (nI (g)), .int (nI (0)), .int (nI (k1)), .int (nI (k0))] [] dMO_tactic_479 kMO_290 rfl rfl mMO_child_v (c_MO_childM (L := L) (q := q) hB (mo_gl_f h1gl (fun _ _ _ ↦ rfl) (by simp [fx_uf, upd])) (by omega) hq hqs (by omega) hk0 h60) (by decide) (Nat.le_refl _) (Nat.le_refl _) (Nat.le_of_ble_eq_true rfl) rfl (fun D4 h4 => ?_)
  refine sd_iload dMO_tactic_482 rfl ?_
  refine sd_iconst (v := nI 1) dMO_tactic_484 (by decide) ?_
  refine nn_icmp_le 518 dMO_tactic_485 (by decide) (by decide) (by decide) (fun c => absurd c (by decide)) (fun _ => ?_)
  refine sd_aload_n dMO_tactic_488 rfl rfl ?_
  refine sd_iload dMO_tactic_489 rfl ?_
  refine sd_iconst (v := nI 1) dMO_tactic_491 (by decide) ?_
  refine sd_iload dMO_tactic_492 rfl ?_
  refine nn_if_le 502 dMO_tactic_494 (by decide) (by decide) (fun c => absurd c (by decide)) (fun _ => ?_)
  refine sd_iload dMO_tactic_497 rfl ?_
  refine sd_goto 504 dMO_tactic_499 (by decide) ?_
  refine sd_iload dMO_tactic_504 rfl ?_
  refine nn_if_le 514 dMO_tactic_506 (by decide) (by decide) (fun c => absurd c (by decide)) (fun _ => ?_)
  refine sd_iload dMO_tactic_509 rfl ?_
  refine sd_goto 515 dMO_tactic_511 (by decide) ?_
  refine fx_cP 10 sR_MO [.int (nI (g)), .int (nI (1)), .int (nI (k0)), .int (nI (k1))] [] dMO_tactic_515 kMO_290 rfl rfl mMO_child_v (c_MO_childM (q := q) hB h4.1 (by rw [List.length_append, List.length_singleton]; omega) (hq2 _) hqs (by omega) hk1 h61) (by decide) (Nat.le_refl _) (Nat.le_refl _) (Nat.le_of_ble_eq_true rfl) rfl (fun D5 h5 => ?_)
  have h5o := h5.2.1
  rw [List.length_append, List.length_singleton] at h5o
  refine sd_aload_n dMO_tactic_518 rfl rfl ?_
  refine fx_getiv (v := (nI (tl.length + 2))) 10 28 dMO_tactic_519 fMO_273 rfl rfl ((by rw [h5.2.2.2.1 0 28 (by omega), h4.2.2.2.1 0 28 (by omega)]; simp [fx_uf, upd])) ?_
  refine sd_iret dMO_tactic_522 rfl (Nat.le_refl _) (Nat.le_refl _) ⟨rfl, rfl, _, rfl, mo_R_goals hR (((ff.tr (mo_fg.uf _ (by omega) (by omega))).tr h4.2.2.fg).tr h5.2.2.fg) h5.1 ⟨by simp; omega, ?_, op_two (D2 := D2) h5o h4.2.1 otl⟩ (mo_dn_f h1dn ?_ ?_)⟩
  · rw [h5.2.2.2.1 0 28 (by omega), h4.2.2.2.1 0 28 (by omega)]
    simp [fx_uf, upd]
  · rw [h5.2.2.1 21 (by decide) (by decide) (by decide) (by decide) (by decide), h4.2.2.1 21 (by decide) (by decide) (by decide) (by decide) (by decide)]
    rfl
  · rw [h5.2.2.2.1 0 29 (by omega), h4.2.2.2.1 0 29 (by omega)]
    simp [fx_uf, upd]
theorem w_MO_tac1 {G : sd_G} {o : Nat} {D : fx_D} {h0 : sd_H} {nx g k0 k1 k a : Nat} {y : Int32} {S : st_S} {q : st_Gl} {tl : List Nat} (hB : G.2.1 ≤ o) (hR : mo_R S D) (hop : st_op S = g :: tl) (hq : (st_gl S)[g]? = some q) (hy : k = 8 → y = nI a) (hk : [0, 0, 2, 2, 1, 0, 2, 2, 0].getD k 0 = 1) (hN : st_okN S) (h30 : (st_gl S).length + 1 ≤ 30) : sd_W G mMO_tactic 7 0 0 (fx_is G.1.2 mo_S o h0 nx (some (.int (nI (tl.length + 1)))) (mo_R (S.1, S.2.1, S.2.2.1, S.2.2.2.1, tk_L (st_gl S) g q k a ++ [(k0, q.2.1, none)], (st_gl S).length :: tl, g :: st_dn S))) 300 [(0, .ref (o + 0)), (1, .int (nI k)), (2, .int y), (4, .int (nI g)), (5, .int (nI 1)), (6, .int (nI 0)), (9, .int (nI k0)), (10, .int (nI k1))] [] (fx_h G.1.2 mo_S o D h0) nx 0 0 := by
  have hgl := hR.2.2.2.2.2.1
  have hopd := hR.2.2.2.2.2.2.1
  have hdnd := hR.2.2.2.2.2.2.2
  have hgN := getE_lt hq
  unfold st_okN at hN
  rw [hop, List.length_cons] at hN
  have g30 := hgl.1
  have ol : D.2.1 0 28 = nI (tl.length + 1) := by rw [hopd.2.1, hop, List.length_cons]
  have otl : ∀ (j u : Nat), tl[j]? = some u → D.1 20 (j + 1) = nI u := fun j u h => hopd.2.2 (j + 1) u (by rw [hop]; exact h)
  have h1gl := tk_gl (N := (st_gl S).length) (many := 1) (d := (st_dn S).length) (a := a) (k := k) hgl hq hy hk.symm
  have h1dn := tk_dn (g := g) (k := k) (N := (st_gl S).length) (many := 1) (y := y) hdnd (by omega)
  have hLg := tk_Lg (k := k) (a := a) hq
  have hLl := tk_Ll (L := st_gl S) (g := g) (k := k) (a := a) (q := q)
  refine h_MO_tac hB (by omega) (show (st_dn S).length < 30 by omega) (show tl.length < 30 by omega) hgl.2.1 ol hdnd.2.1 ?_
  have f28 : (tk_D D g k (st_gl S).length 1 (st_dn S).length y).2.1 0 28 = nI (tl.length + 1) := by simpa [tk_D, fx_ua, fx_uf, upd] using ol
  have f20 : ∀ i, (tk_D D g k (st_gl S).length 1 (st_dn S).length y).1 20 i = D.1 20 i := fun i => by simp [tk_D, fx_ua, fx_uf]
  have ff := tk_fg (D := D) (g := g) (k := k) (N := (st_gl S).length) (many := 1) (d := (st_dn S).length) (y := y)
  unfold tk_L at hLg hLl
  unfold tk_L
  generalize tk_D D g k (st_gl S).length 1 (st_dn S).length y = D1 at *
  generalize (st_gl S).set g (q.1, q.2.1, some (k, a, (st_gl S).length)) = L at *
  rw [← hLl] at h30 ⊢
  refine l_MO_tac1i (by omega) _ _ (by omega) ?_
  refine sd_iconst (v := nI 1) dMO_tactic_395 (by decide) ?_
  refine sd_istore dMO_tactic_396 (by decide) ?_
  refine sd_locp (al' := [(0, .ref (o + (0))), (4, .int (nI (g))), (5, .int (nI (1))), (6, .int (nI (0))), (9, .int (nI (k0))), (10, .int (nI (k1))), (11, .int (nI (1)))]) [1, 2, 3, 4, 5, 6, 0] rfl ?_
  refine l_MO_tac2i (by omega) (by omega) (show tl.length + 1 ≤ 30 by omega) tl.length 1 _ (Or.inl (by omega)) f28 ?_
  exact w_MO_tac1b (q := (q.1, q.2.1, some (k, a, (st_gl S).length))) hB hR (by omega) (by omega) hLg h1gl h1dn ff (fun j u h ↦ by rw [f20]; exact otl j u h) f28
theorem w_MO_tac2 {G : sd_G} {o : Nat} {D : fx_D} {h0 : sd_H} {nx g k0 k1 k a : Nat} {y : Int32} {S : st_S} {q : st_Gl} {tl : List Nat} (hB : G.2.1 ≤ o) (hR : mo_R S D) (hop : st_op S = g :: tl) (hq : (st_gl S)[g]? = some q) (hy : k = 8 → y = nI a) (hk : [0, 0, 2, 2, 1, 0, 2, 2, 0].getD k 0 = 2) (hN : st_okN S) (h30 : (st_gl S).length + 2 ≤ 30) : sd_W G mMO_tactic 7 0 0 (fx_is G.1.2 mo_S o h0 nx (some (.int (nI (tl.length + 2)))) (mo_R (S.1, S.2.1, S.2.2.1, S.2.2.2.1, tk_L (st_gl S) g q k a ++ [(k0, q.2.1, none)] ++ [(k1, q.2.1, none)], (st_gl S).length :: ((st_gl S).length + 1) :: tl, g :: st_dn S))) 300 [(0, .ref (o + 0)), (1, .int (nI k)), (2, .int y), (4, .int (nI g)), (5, .int (nI 2)), (6, .int (nI 0)), (9, .int (nI k0)), (10, .int (nI k1))] [] (fx_h G.1.2 mo_S o D h0) nx 0 0 := by
  have hgl := hR.2.2.2.2.2.1
  have hopd := hR.2.2.2.2.2.2.1
  have hdnd := hR.2.2.2.2.2.2.2
  have hgN := getE_lt hq
  unfold st_okN at hN
  rw [hop, List.length_cons] at hN
  have g30 := hgl.1
  have ol : D.2.1 0 28 = nI (tl.length + 1) := by rw [hopd.2.1, hop, List.length_cons]
  have otl : ∀ (j u : Nat), tl[j]? = some u → D.1 20 (j + 1) = nI u := fun j u h => hopd.2.2 (j + 1) u (by rw [hop]; exact h)
  have h1gl := tk_gl (N := (st_gl S).length) (many := 2) (d := (st_dn S).length) (a := a) (k := k) hgl hq hy hk.symm
  have h1dn := tk_dn (g := g) (k := k) (N := (st_gl S).length) (many := 2) (y := y) hdnd (by omega)
  have hLg := tk_Lg (k := k) (a := a) hq
  have hLl := tk_Ll (L := st_gl S) (g := g) (k := k) (a := a) (q := q)
  refine h_MO_tac hB (by omega) (show (st_dn S).length < 30 by omega) (show tl.length < 30 by omega) hgl.2.1 ol hdnd.2.1 ?_
  have f28 : (tk_D D g k (st_gl S).length 2 (st_dn S).length y).2.1 0 28 = nI (tl.length + 1) := by simpa [tk_D, fx_ua, fx_uf, upd] using ol
  have f20 : ∀ i, (tk_D D g k (st_gl S).length 2 (st_dn S).length y).1 20 i = D.1 20 i := fun i => by simp [tk_D, fx_ua, fx_uf]
  have ff := tk_fg (D := D) (g := g) (k := k) (N := (st_gl S).length) (many := 2) (d := (st_dn S).length) (y := y)
  unfold tk_L at hLg hLl
  unfold tk_L
  generalize tk_D D g k (st_gl S).length 2 (st_dn S).length y = D1 at *
  generalize (st_gl S).set g (q.1, q.2.1, some (k, a, (st_gl S).length)) = L at *
  rw [← hLl] at h30 ⊢
  refine l_MO_tac1 hB _ _ (by omega) (fun D2 a1 a2 a3 => ?_)
  have f28' : D2.2.1 0 28 = nI (tl.length + 1) := by rw [a1.2]; exact f28
  have h2gl : mo_gl D2 L := mo_gl_f h1gl (fun x b1 b2 => a1.1 x (by omega)) (by rw [a1.2])
  have h2dn : mo_dn D2 (g :: st_dn S) := mo_dn_f h1dn (a1.1 21 (by decide)) (by rw [a1.2])
  have otl2 : ∀ (j u : Nat), tl[j]? = some u → D2.1 20 (j + 2) = nI u := fun j u h => by
    have hl := getE_lt h
    rw [a2 (j + 1) (by omega) (by omega), f20]
    exact otl j u h
  refine sd_iconst (v := nI 1) dMO_tactic_395 (by decide) ?_
  refine sd_istore dMO_tactic_396 (by decide) ?_
  refine sd_locp (al' := [(0, .ref (o + (0))), (4, .int (nI (g))), (5, .int (nI (2))), (6, .int (nI (0))), (9, .int (nI (k0))), (10, .int (nI (k1))), (11, .int (nI (1)))]) [1, 2, 3, 4, 5, 6, 0] rfl ?_
  refine l_MO_tac2i (by omega) (by omega) (show tl.length + 1 ≤ 30 by omega) tl.length 1 _ (Or.inl (by omega)) f28' ?_
  exact w_MO_tac2b (q := (q.1, q.2.1, some (k, a, (st_gl S).length))) hB hR (by omega) (by omega) hLg h2gl h2dn (ff.tr a1.fg) otl2 f28'
theorem w_MO_tac7 {G : sd_G} {o : Nat} {D : fx_D} {h0 : sd_H} {nx g k0 k1 k a : Nat} {y : Int32} {S : st_S} {q : st_Gl} {tl : List Nat} (hB : G.2.1 ≤ o) (hR : mo_R S D) (hop : st_op S = g :: tl) (hq : (st_gl S)[g]? = some q) (hy : k = 8 → y = nI a) (hqs : ∀ u ∈ q.2.1, u < 2 ^ 30) (hk0 : k0 < 2 ^ 30) (hk1 : k1 < 2 ^ 30) (h60 : (ls_h q.2.1 k0).length ≤ 6) (h61 : (ls_h q.2.1 k1).length ≤ 6) (hk : [0, 0, 2, 2, 1, 0, 2, 2, 0].getD k 0 = 2) (hN : st_okN S) (h30 : (st_gl S).length + 2 ≤ 30) : sd_W G mMO_tactic 7 0 0 (fx_is G.1.2 mo_S o h0 nx (some (.int (nI (tl.length + 2)))) (mo_R (S.1, S.2.1, S.2.2.1, S.2.2.2.1, tk_L (st_gl S) g q k a ++ [(k1, ls_h q.2.1 k0, none)] ++ [(k0, ls_h q.2.1 k1, none)], (st_gl S).length :: ((st_gl S).length + 1) :: tl, g :: st_dn S))) 300 [(0, .ref (o + 0)), (1, .int (nI k)), (2, .int y), (4, .int (nI g)), (5, .int (nI 2)), (6, .int (nI 2)), (9, .int (nI k0)), (10, .int (nI k1))] [] (fx_h G.1.2 mo_S o D h0) nx 0 0 := by
  have hgl := hR.2.2.2.2.2.1
  have hopd := hR.2.2.2.2.2.2.1
  have hdnd := hR.2.2.2.2.2.2.2
  have hgN := getE_lt hq
  unfold st_okN at hN
  rw [hop, List.length_cons] at hN
  have g30 := hgl.1
  have ol : D.2.1 0 28 = nI (tl.length + 1) := by rw [hopd.2.1, hop, List.length_cons]
  have otl : ∀ (j u : Nat), tl[j]? = some u → D.1 20 (j + 1) = nI u := fun j u h => hopd.2.2 (j + 1) u (by rw [hop]; exact h)
  have h1gl := tk_gl (N := (st_gl S).length) (many := 2) (d := (st_dn S).length) (a := a) (k := k) hgl hq hy hk.symm
  have h1dn := tk_dn (g := g) (k := k) (N := (st_gl S).length) (many := 2) (y := y) hdnd (by omega)
  have hLg := tk_Lg (k := k) (a := a) hq
  have hLl := tk_Ll (L := st_gl S) (g := g) (k := k) (a := a) (q := q)
  refine h_MO_tac hB (by omega) (show (st_dn S).length < 30 by omega) (show tl.length < 30 by omega) hgl.2.1 ol hdnd.2.1 ?_
  have f28 : (tk_D D g k (st_gl S).length 2 (st_dn S).length y).2.1 0 28 = nI (tl.length + 1) := by simpa [tk_D, fx_ua, fx_uf, upd] using ol
  have f20 : ∀ i, (tk_D D g k (st_gl S).length 2 (st_dn S).length y).1 20 i = D.1 20 i := fun i => by simp [tk_D, fx_ua, fx_uf]
  have ff := tk_fg (D := D) (g := g) (k := k) (N := (st_gl S).length) (many := 2) (d := (st_dn S).length) (y := y)
  unfold tk_L at hLg hLl
  unfold tk_L
  generalize tk_D D g k (st_gl S).length 2 (st_dn S).length y = D1 at *
  generalize (st_gl S).set g (q.1, q.2.1, some (k, a, (st_gl S).length)) = L at *
  rw [← hLl] at h30 ⊢
  refine l_MO_tac1 hB _ _ (by omega) (fun D2 a1 a2 a3 => ?_)
  have f28' : D2.2.1 0 28 = nI (tl.length + 1) := by rw [a1.2]; exact f28
  have h2gl : mo_gl D2 L := mo_gl_f h1gl (fun x b1 b2 => a1.1 x (by omega)) (by rw [a1.2])
  have h2dn : mo_dn D2 (g :: st_dn S) := mo_dn_f h1dn (a1.1 21 (by decide)) (by rw [a1.2])
  have otl2 : ∀ (j u : Nat), tl[j]? = some u → D2.1 20 (j + 2) = nI u := fun j u h => by
    have hl := getE_lt h
    rw [a2 (j + 1) (by omega) (by omega), f20]
    exact otl j u h
  refine sd_iconst (v := nI 1) dMO_tactic_395 (by decide) ?_
  refine sd_istore dMO_tactic_396 (by decide) ?_
  refine sd_locp (al' := [(0, .ref (o + (0))), (4, .int (nI (g))), (5, .int (nI (2))), (6, .int (nI (2))), (9, .int (nI (k0))), (10, .int (nI (k1))), (11, .int (nI (1)))]) [1, 2, 3, 4, 5, 6, 0] rfl ?_
  refine l_MO_tac2i (by omega) (by omega) (show tl.length + 1 ≤ 30 by omega) tl.length 1 _ (Or.inl (by omega)) f28' ?_
  exact w_MO_tac7b (q := (q.1, q.2.1, some (k, a, (st_gl S).length))) hB hR (by omega) (by omega) hLg hqs hk0 hk1 h60 h61 h2gl h2dn (ff.tr a1.fg) otl2 f28'
