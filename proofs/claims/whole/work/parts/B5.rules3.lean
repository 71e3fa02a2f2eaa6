/-! ===== the class's Rules: canCombine, fit ===== -/
theorem sd_cPs {G : sd_G} {M : sd_M} {d mc ms : Nat} {Q : sd_Q} {pc : Nat} {al : List (Nat × Value)} {st : List Value} {nx k n : Nat} {S : fx_S} {o : Nat} {D : fx_D} {h0 : sd_H} {M' : sd_M} {index d' : Nat} {v : Option Value} {P : fx_D → Prop} (av rest : List Value) (hd : decode M.2.1 pc = .ok (.invokestatic index, 3)) (hw : sd_ml M.1.cls index M' av.length) (hst : Cond.static M'.1 ∈ sd_tbl) (hct : sd_Ct G M' d' 0 0 av (fx_h G.1.2 S o D h0) nx (fx_is G.1.2 S o h0 nx v P)) (hd' : d' + 1 ≤ d) (hk : k ≤ mc) (hn : n ≤ ms) (hrest : (rest.map fun v => v.category).sum ≤ 8) (hst2 : st = av.reverse ++ rest) (kk : ∀ D' : fx_D, P D' → sd_W G M d mc ms Q (pc + 3) al (v.toList ++ rest) (fx_h G.1.2 S o D' h0) nx k n) : sd_W G M d mc ms Q pc al st (fx_h G.1.2 S o D h0) nx k n :=
  sd_callS av rest hd hw hst hct hd' hk hn hrest hst2 (fun r h' nx' q => by
    obtain ⟨rfl, rfl, D', rfl, hP⟩ := q
    exact kk D' hP)
theorem dRU_canCombine_0 : decode prog_6_method_8_code 0 = .ok (.aload_n 0, 1) := by decide +kernel
theorem dRU_canCombine_1 : decode prog_6_method_8_code 1 = .ok (.invokevirtual 85, 3) := by decide +kernel
theorem dRU_canCombine_4 : decode prog_6_method_8_code 4 = .ok (.ifCond .eq (10), 3) := by decide +kernel
theorem dRU_canCombine_7 : decode prog_6_method_8_code 7 = .ok (.aload_n 1, 1) := by decide +kernel
theorem dRU_canCombine_8 : decode prog_6_method_8_code 8 = .ok (.invokevirtual 85, 3) := by decide +kernel
theorem dRU_canCombine_11 : decode prog_6_method_8_code 11 = .ok (.ifCond .ne (5), 3) := by decide +kernel
theorem dRU_canCombine_14 : decode prog_6_method_8_code 14 = .ok (.iconst 0, 1) := by decide +kernel
theorem dRU_canCombine_15 : decode prog_6_method_8_code 15 = .ok (.ireturn, 1) := by decide +kernel
theorem dRU_canCombine_16 : decode prog_6_method_8_code 16 = .ok (.aload_n 0, 1) := by decide +kernel
theorem dRU_canCombine_17 : decode prog_6_method_8_code 17 = .ok (.getfield 68, 3) := by decide +kernel
theorem dRU_canCombine_20 : decode prog_6_method_8_code 20 = .ok (.iconst 1, 1) := by decide +kernel
theorem dRU_canCombine_21 : decode prog_6_method_8_code 21 = .ok (.iaload, 1) := by decide +kernel
theorem dRU_canCombine_22 : decode prog_6_method_8_code 22 = .ok (.invokestatic 109, 3) := by decide +kernel
theorem dRU_canCombine_25 : decode prog_6_method_8_code 25 = .ok (.ifCond .eq (25), 3) := by decide +kernel
theorem dRU_canCombine_28 : decode prog_6_method_8_code 28 = .ok (.aload_n 0, 1) := by decide +kernel
theorem dRU_canCombine_29 : decode prog_6_method_8_code 29 = .ok (.getfield 68, 3) := by decide +kernel
theorem dRU_canCombine_32 : decode prog_6_method_8_code 32 = .ok (.iconst 1, 1) := by decide +kernel
theorem dRU_canCombine_33 : decode prog_6_method_8_code 33 = .ok (.iaload, 1) := by decide +kernel
theorem dRU_canCombine_34 : decode prog_6_method_8_code 34 = .ok (.invokestatic 114, 3) := by decide +kernel
theorem dRU_canCombine_37 : decode prog_6_method_8_code 37 = .ok (.aload_n 1, 1) := by decide +kernel
theorem dRU_canCombine_38 : decode prog_6_method_8_code 38 = .ok (.getfield 68, 3) := by decide +kernel
theorem dRU_canCombine_41 : decode prog_6_method_8_code 41 = .ok (.iconst 1, 1) := by decide +kernel
theorem dRU_canCombine_42 : decode prog_6_method_8_code 42 = .ok (.iaload, 1) := by decide +kernel
theorem dRU_canCombine_43 : decode prog_6_method_8_code 43 = .ok (.if_icmp .ne (7), 3) := by decide +kernel
theorem dRU_canCombine_46 : decode prog_6_method_8_code 46 = .ok (.iconst 1, 1) := by decide +kernel
theorem dRU_canCombine_47 : decode prog_6_method_8_code 47 = .ok (.goto (4), 3) := by decide +kernel
theorem dRU_canCombine_50 : decode prog_6_method_8_code 50 = .ok (.iconst 0, 1) := by decide +kernel
theorem dRU_canCombine_51 : decode prog_6_method_8_code 51 = .ok (.ireturn, 1) := by decide +kernel
theorem c_RU_canCombine {G : sd_G} {o : Nat} {D : fx_D} {h0 : sd_H} {nx r q b : Nat} {l m : tl_T} (hr : r < 73) (hq : q < 73) (hl : tm_row D r l) (wl : tl_wf l) (hm : tm_row D q m) (wm : tl_wf m) (hok : ∀ x ∈ l, ty_ok x.2) (hb2 : b < 2) (hb : b = 1 ↔ (tl_at l 0).1 = 9 ∧ (tl_at m 0).1 = 9 ∧ ty_isF (tl_at l 1).2 = true ∧ ty_from (tl_at l 1).2 = (tl_at m 1).2) : sd_Ct G mRU_canCombine 2 0 0 [.ref (o + tmo r), .ref (o + tmo q)] (fx_h G.1.2 dk_S o D h0) nx (sd_is (some (.int (nI b))) (fx_h G.1.2 dk_S o D h0) nx) := by
  refine sd_Ct_of (by decide) (Nat.le_of_ble_eq_true rfl) ?_
  have hx := wl.hd
  have hy := wm.hd
  by_cases h9 : (tl_at l 0).1 = 9
  · obtain ⟨t1, -, -⟩ := wl.two (by rw [h9]; rfl)
    by_cases k9 : (tl_at m 0).1 = 9
    · obtain ⟨u1, -, -⟩ := wm.two (by rw [k9]; rfl)
      have x1 := tl_at_some t1
      have y1 := tl_at_some u1
      obtain ⟨-, l2, -, l4⟩ := hl.2.2 1 _ x1
      obtain ⟨-, m2, -, m4⟩ := hm.2.2 1 _ y1
      have ok := hok _ (List.mem_of_getElem? x1)
      have flt := ty_from_lt ok.1 (by have := ok.2.1; omega)
      obtain ⟨u, v1, v2⟩ := bo_b (ty_isF (tl_at l 1).2)
      have cF := c_TY_isFunction (G := G) (h := fx_h G.1.2 dk_S o D h0) (nx := nx) ok.2.1 (show (tl_at l 1).2 < 2 ^ 31 by omega) v1 (by rw [v2]; simp [ty_isF])
      by_cases hF : ty_isF (tl_at l 1).2 = true
      · obtain ⟨rr, er⟩ := ty_fun_rem ok hF
        obtain rfl : u = 1 := v2.mpr hF
        have hb' : b = 1 ↔ ty_from (tl_at l 1).2 = (tl_at m 1).2 := hb.trans ⟨fun z => z.2.2.2, fun z => ⟨h9, k9, hF, z⟩⟩
        refine sd_aload_n dRU_canCombine_0 rfl rfl ?_
        refine fx_cV 7 sR_TM [] [] dRU_canCombine_1 kRU_85 rfl (dk_tm (by omega)) mTM_isEquation_v (c_TM_isEquation (b := 1) hr hl hx (by omega) (by simp [h9])) (by decide) (Nat.le_refl _) (Nat.le_refl _) (Nat.le_of_ble_eq_true rfl) rfl ?_
        refine nn_if_eq 14 dRU_canCombine_4 (by decide) (by decide) (fun c => absurd c (by decide)) (fun _ => ?_)
        refine sd_aload_n dRU_canCombine_7 rfl rfl ?_
        refine fx_cV 7 sR_TM [] [] dRU_canCombine_8 kRU_85 rfl (dk_tm (by omega)) mTM_isEquation_v (c_TM_isEquation (b := 1) hq hm hy (by omega) (by simp [k9])) (by decide) (Nat.le_refl _) (Nat.le_refl _) (Nat.le_of_ble_eq_true rfl) rfl ?_
        refine nn_if_ne 16 dRU_canCombine_11 (by decide) (by decide) (fun _ => ?_) (fun c => absurd c (by decide))
        refine sd_aload_n dRU_canCombine_16 rfl rfl ?_
        refine fx_getr 7 1 (tmo (r) + 2) dRU_canCombine_17 fRU_68 (dk_tm (by omega)) rfl ?_
        refine sd_iconst (v := nI 1) dRU_canCombine_20 (by decide) ?_
        refine fx_ialdv (v := (nI ((tl_at l 1).2))) (1) dRU_canCombine_21 (dk_tm2 (by omega)) rfl (by omega) (by decide) (l2) ?_
        refine sd_cS [.int (nI ((tl_at l 1).2))] [] dRU_canCombine_22 kRU_109 mTY_isFunction_s (cF) (by decide) (Nat.le_refl _) (Nat.le_refl _) (Nat.le_of_ble_eq_true rfl) rfl ?_
        refine nn_if_eq 50 dRU_canCombine_25 (by decide) (by decide) (fun c => absurd c (by decide)) (fun _ => ?_)
        refine sd_aload_n dRU_canCombine_28 rfl rfl ?_
        refine fx_getr 7 1 (tmo (r) + 2) dRU_canCombine_29 fRU_68 (dk_tm (by omega)) rfl ?_
        refine sd_iconst (v := nI 1) dRU_canCombine_32 (by decide) ?_
        refine fx_ialdv (v := (nI ((tl_at l 1).2))) (1) dRU_canCombine_33 (dk_tm2 (by omega)) rfl (by omega) (by decide) (l2) ?_
        refine sd_cS [.int (nI ((tl_at l 1).2))] [] dRU_canCombine_34 kRU_114 mTY_from_s (c_TY_from ok.2.1 (by omega) er) (by decide) (Nat.le_refl _) (Nat.le_refl _) (Nat.le_of_ble_eq_true rfl) rfl ?_
        refine sd_aload_n dRU_canCombine_37 rfl rfl ?_
        refine fx_getr 7 1 (tmo (q) + 2) dRU_canCombine_38 fRU_68 (dk_tm (by omega)) rfl ?_
        refine sd_iconst (v := nI 1) dRU_canCombine_41 (by decide) ?_
        refine fx_ialdv (v := (nI ((tl_at m 1).2))) (1) dRU_canCombine_42 (dk_tm2 (by omega)) rfl (by omega) (by decide) (m2) ?_
        refine nn_icmp_ne 50 dRU_canCombine_43 (by decide) (by omega) (by omega) (fun c43 => ?_) (fun c43 => ?_)
        ·
          refine sd_iconst (v := nI 0) dRU_canCombine_50 (by decide) ?_
          exact sd_zret dRU_canCombine_51 rfl (nn_01 (by omega)) (Nat.le_refl _) (Nat.le_refl _) ⟨by rw [show b = (0) by omega], rfl, rfl⟩
        ·
          refine sd_iconst (v := nI 1) dRU_canCombine_46 (by decide) ?_
          refine sd_goto 51 dRU_canCombine_47 (by decide) ?_
          exact sd_zret dRU_canCombine_51 rfl (nn_01 (by omega)) (Nat.le_refl _) (Nat.le_refl _) ⟨by rw [show b = (1) by omega], rfl, rfl⟩
      · obtain rfl : u = 0 := by
          have : ¬ u = 1 := fun z => hF (v2.mp z)
          omega
        obtain rfl : b = 0 := by
          have : ¬ b = 1 := fun z => hF (hb.mp z).2.2.1
          omega
        refine sd_aload_n dRU_canCombine_0 rfl rfl ?_
        refine fx_cV 7 sR_TM [] [] dRU_canCombine_1 kRU_85 rfl (dk_tm (by omega)) mTM_isEquation_v (c_TM_isEquation (b := 1) hr hl hx (by omega) (by simp [h9])) (by decide) (Nat.le_refl _) (Nat.le_refl _) (Nat.le_of_ble_eq_true rfl) rfl ?_
        refine nn_if_eq 14 dRU_canCombine_4 (by decide) (by decide) (fun c => absurd c (by decide)) (fun _ => ?_)
        refine sd_aload_n dRU_canCombine_7 rfl rfl ?_
        refine fx_cV 7 sR_TM [] [] dRU_canCombine_8 kRU_85 rfl (dk_tm (by omega)) mTM_isEquation_v (c_TM_isEquation (b := 1) hq hm hy (by omega) (by simp [k9])) (by decide) (Nat.le_refl _) (Nat.le_refl _) (Nat.le_of_ble_eq_true rfl) rfl ?_
        refine nn_if_ne 16 dRU_canCombine_11 (by decide) (by decide) (fun _ => ?_) (fun c => absurd c (by decide))
        refine sd_aload_n dRU_canCombine_16 rfl rfl ?_
        refine fx_getr 7 1 (tmo (r) + 2) dRU_canCombine_17 fRU_68 (dk_tm (by omega)) rfl ?_
        refine sd_iconst (v := nI 1) dRU_canCombine_20 (by decide) ?_
        refine fx_ialdv (v := (nI ((tl_at l 1).2))) (1) dRU_canCombine_21 (dk_tm2 (by omega)) rfl (by omega) (by decide) (l2) ?_
        refine sd_cS [.int (nI ((tl_at l 1).2))] [] dRU_canCombine_22 kRU_109 mTY_isFunction_s (cF) (by decide) (Nat.le_refl _) (Nat.le_refl _) (Nat.le_of_ble_eq_true rfl) rfl ?_
        refine nn_if_eq 50 dRU_canCombine_25 (by decide) (by decide) (fun _ => ?_) (fun c => absurd c (by decide))
        refine sd_iconst (v := nI 0) dRU_canCombine_50 (by decide) ?_
        exact sd_zret dRU_canCombine_51 rfl (Or.inl rfl) (Nat.le_refl _) (Nat.le_refl _) ⟨rfl, rfl, rfl⟩
    · obtain rfl : b = 0 := by
        have : ¬ b = 1 := fun z => k9 (hb.mp z).2.1
        omega
      refine sd_aload_n dRU_canCombine_0 rfl rfl ?_
      refine fx_cV 7 sR_TM [] [] dRU_canCombine_1 kRU_85 rfl (dk_tm (by omega)) mTM_isEquation_v (c_TM_isEquation (b := 1) hr hl hx (by omega) (by simp [h9])) (by decide) (Nat.le_refl _) (Nat.le_refl _) (Nat.le_of_ble_eq_true rfl) rfl ?_
      refine nn_if_eq 14 dRU_canCombine_4 (by decide) (by decide) (fun c => absurd c (by decide)) (fun _ => ?_)
      refine sd_aload_n dRU_canCombine_7 rfl rfl ?_
      refine fx_cV 7 sR_TM [] [] dRU_canCombine_8 kRU_85 rfl (dk_tm (by omega)) mTM_isEquation_v (c_TM_isEquation (b := 0) hq hm hy (by omega) (by simp [k9])) (by decide) (Nat.le_refl _) (Nat.le_refl _) (Nat.le_of_ble_eq_true rfl) rfl ?_
      refine nn_if_ne 16 dRU_canCombine_11 (by decide) (by decide) (fun c => absurd c (by decide)) (fun _ => ?_)
      refine sd_iconst (v := nI 0) dRU_canCombine_14 (by decide) ?_
      exact sd_zret dRU_canCombine_15 rfl (Or.inl rfl) (Nat.le_refl _) (Nat.le_refl _) ⟨rfl, rfl, rfl⟩
  · obtain rfl : b = 0 := by
      have : ¬ b = 1 := fun z => h9 (hb.mp z).1
      omega
    refine sd_aload_n dRU_canCombine_0 rfl rfl ?_
    refine fx_cV 7 sR_TM [] [] dRU_canCombine_1 kRU_85 rfl (dk_tm (by omega)) mTM_isEquation_v (c_TM_isEquation (b := 0) hr hl hx (by omega) (by simp [h9])) (by decide) (Nat.le_refl _) (Nat.le_refl _) (Nat.le_of_ble_eq_true rfl) rfl ?_
    refine nn_if_eq 14 dRU_canCombine_4 (by decide) (by decide) (fun _ => ?_) (fun c => absurd c (by decide))
    refine sd_iconst (v := nI 0) dRU_canCombine_14 (by decide) ?_
    exact sd_zret dRU_canCombine_15 rfl (Or.inl rfl) (Nat.le_refl _) (Nat.le_refl _) ⟨rfl, rfl, rfl⟩
/-- within a rule: the names' types, terms (those that were, and more), the theorems -/
def dk_W (S : st_S) (T : List tl_T) (D : fx_D) : Prop := dk_nt D (st_nt S) ∧ ts_T D T ∧ dk_thm D (st_th S) ∧ ∃ X, T = st_T S ++ X
theorem dk_R.W {S : st_S} {D : fx_D} (h : dk_R S D) : dk_W S (st_T S) D := ⟨h.1, h.2.1.2, h.2.2.2.1, [], by simp⟩
theorem dk_W.tm {S : st_S} {T : List tl_T} {D : fx_D} {t : Nat} (h : dk_W S T D) (ht : t < (st_T S).length) : tm_row D (t + 1) (st_tm S t) ∧ tm_set D (t + 1) (st_tm S t) ∧ tl_wf (st_tm S t) ∧ t < T.length ∧ T[t]? = some (st_tm S t) := by
  obtain ⟨-, h2, -, X, rfl⟩ := h
  have e : (st_T S ++ X)[t]? = some (st_tm S t) := by
    rw [List.getElem?_append_left ht, st_tm, List.getElem?_eq_getElem ht]
    rfl
  obtain ⟨a, b, c⟩ := h2.2.2 t _ e
  exact ⟨a, b, c, by simp; omega, e⟩
theorem dk_W.cn {S : st_S} {T : List tl_T} {D : fx_D} {p : Nat} (h : dk_W S T D) (hH : st_okH S) (hp : p < (st_th S).length) : ∃ h' : st_Th, (st_th S)[p]? = some h' ∧ h'.1 = st_cn S p ∧ h'.2.1 = st_hy S p ∧ st_cn S p < (st_T S).length ∧ (∀ t ∈ st_hy S p, t < (st_T S).length) ∧ p < 40 ∧ (st_T S).length ≤ 71 := by
  obtain ⟨-, h2, h3, X, rfl⟩ := h
  have e := List.getElem?_eq_getElem hp
  obtain ⟨a, b, -⟩ := hH p _ e
  have c1 : ((st_th S)[p]).1 = st_cn S p := by simp [st_cn, e]
  have c2 : ((st_th S)[p]).2.1 = st_hy S p := by simp [st_hy, e]
  have := h3.1
  have := h2.1
  simp only [List.length_append] at this
  exact ⟨_, e, c1, c2, by rw [← c1]; exact a, by rw [← c2]; exact b, by omega, by omega⟩
theorem dRU_fit_0 : decode prog_6_method_6_code 0 = .ok (.iload_n 1, 1) := by decide +kernel
theorem dRU_fit_1 : decode prog_6_method_6_code 1 = .ok (.tableswitch (197) (1) (8) #[47, 71, 85, 99, 136, 150, 197, 164], 47) := by decide +kernel
theorem dRU_fit_48 : decode prog_6_method_6_code 48 = .ok (.aload_n 0, 1) := by decide +kernel
theorem dRU_fit_49 : decode prog_6_method_6_code 49 = .ok (.getfield 17, 3) := by decide +kernel
theorem dRU_fit_52 : decode prog_6_method_6_code 52 = .ok (.getfield 62, 3) := by decide +kernel
theorem dRU_fit_55 : decode prog_6_method_6_code 55 = .ok (.iload_n 2, 1) := by decide +kernel
theorem dRU_fit_56 : decode prog_6_method_6_code 56 = .ok (.aaload, 1) := by decide +kernel
theorem dRU_fit_57 : decode prog_6_method_6_code 57 = .ok (.getfield 68, 3) := by decide +kernel
theorem dRU_fit_60 : decode prog_6_method_6_code 60 = .ok (.iconst 0, 1) := by decide +kernel
theorem dRU_fit_61 : decode prog_6_method_6_code 61 = .ok (.iaload, 1) := by decide +kernel
theorem dRU_fit_62 : decode prog_6_method_6_code 62 = .ok (.iconst 4, 1) := by decide +kernel
theorem dRU_fit_63 : decode prog_6_method_6_code 63 = .ok (.if_icmp .ne (7), 3) := by decide +kernel
theorem dRU_fit_66 : decode prog_6_method_6_code 66 = .ok (.iconst 1, 1) := by decide +kernel
theorem dRU_fit_67 : decode prog_6_method_6_code 67 = .ok (.goto (4), 3) := by decide +kernel
theorem dRU_fit_70 : decode prog_6_method_6_code 70 = .ok (.iconst 0, 1) := by decide +kernel
theorem dRU_fit_71 : decode prog_6_method_6_code 71 = .ok (.ireturn, 1) := by decide +kernel
theorem dRU_fit_72 : decode prog_6_method_6_code 72 = .ok (.aload_n 0, 1) := by decide +kernel
theorem dRU_fit_73 : decode prog_6_method_6_code 73 = .ok (.iload_n 2, 1) := by decide +kernel
theorem dRU_fit_74 : decode prog_6_method_6_code 74 = .ok (.invokevirtual 74, 3) := by decide +kernel
theorem dRU_fit_77 : decode prog_6_method_6_code 77 = .ok (.aload_n 0, 1) := by decide +kernel
theorem dRU_fit_78 : decode prog_6_method_6_code 78 = .ok (.iload_n 3, 1) := by decide +kernel
theorem dRU_fit_79 : decode prog_6_method_6_code 79 = .ok (.invokevirtual 74, 3) := by decide +kernel
theorem dRU_fit_82 : decode prog_6_method_6_code 82 = .ok (.invokestatic 78, 3) := by decide +kernel
theorem dRU_fit_85 : decode prog_6_method_6_code 85 = .ok (.ireturn, 1) := by decide +kernel
theorem dRU_fit_86 : decode prog_6_method_6_code 86 = .ok (.aload_n 0, 1) := by decide +kernel
theorem dRU_fit_87 : decode prog_6_method_6_code 87 = .ok (.iload_n 2, 1) := by decide +kernel
theorem dRU_fit_88 : decode prog_6_method_6_code 88 = .ok (.invokevirtual 74, 3) := by decide +kernel
theorem dRU_fit_91 : decode prog_6_method_6_code 91 = .ok (.aload_n 0, 1) := by decide +kernel
theorem dRU_fit_92 : decode prog_6_method_6_code 92 = .ok (.iload_n 3, 1) := by decide +kernel
theorem dRU_fit_93 : decode prog_6_method_6_code 93 = .ok (.invokevirtual 74, 3) := by decide +kernel
theorem dRU_fit_96 : decode prog_6_method_6_code 96 = .ok (.invokestatic 82, 3) := by decide +kernel
theorem dRU_fit_99 : decode prog_6_method_6_code 99 = .ok (.ireturn, 1) := by decide +kernel
theorem dRU_fit_100 : decode prog_6_method_6_code 100 = .ok (.aload_n 0, 1) := by decide +kernel
theorem dRU_fit_101 : decode prog_6_method_6_code 101 = .ok (.iload_n 2, 1) := by decide +kernel
theorem dRU_fit_102 : decode prog_6_method_6_code 102 = .ok (.invokevirtual 74, 3) := by decide +kernel
theorem dRU_fit_105 : decode prog_6_method_6_code 105 = .ok (.invokevirtual 85, 3) := by decide +kernel
theorem dRU_fit_108 : decode prog_6_method_6_code 108 = .ok (.ifCond .eq (27), 3) := by decide +kernel
theorem dRU_fit_111 : decode prog_6_method_6_code 111 = .ok (.aload_n 0, 1) := by decide +kernel
theorem dRU_fit_112 : decode prog_6_method_6_code 112 = .ok (.getfield 17, 3) := by decide +kernel
theorem dRU_fit_115 : decode prog_6_method_6_code 115 = .ok (.iload_n 3, 1) := by decide +kernel
theorem dRU_fit_116 : decode prog_6_method_6_code 116 = .ok (.aload_n 0, 1) := by decide +kernel
theorem dRU_fit_117 : decode prog_6_method_6_code 117 = .ok (.getfield 11, 3) := by decide +kernel
theorem dRU_fit_120 : decode prog_6_method_6_code 120 = .ok (.iload_n 2, 1) := by decide +kernel
theorem dRU_fit_121 : decode prog_6_method_6_code 121 = .ok (.aaload, 1) := by decide +kernel
theorem dRU_fit_122 : decode prog_6_method_6_code 122 = .ok (.getfield 40, 3) := by decide +kernel
theorem dRU_fit_125 : decode prog_6_method_6_code 125 = .ok (.invokevirtual 88, 3) := by decide +kernel
theorem dRU_fit_128 : decode prog_6_method_6_code 128 = .ok (.ifCond .ne (7), 3) := by decide +kernel
theorem dRU_fit_131 : decode prog_6_method_6_code 131 = .ok (.iconst 1, 1) := by decide +kernel
theorem dRU_fit_132 : decode prog_6_method_6_code 132 = .ok (.goto (4), 3) := by decide +kernel
theorem dRU_fit_135 : decode prog_6_method_6_code 135 = .ok (.iconst 0, 1) := by decide +kernel
theorem dRU_fit_136 : decode prog_6_method_6_code 136 = .ok (.ireturn, 1) := by decide +kernel
theorem dRU_fit_137 : decode prog_6_method_6_code 137 = .ok (.aload_n 0, 1) := by decide +kernel
theorem dRU_fit_138 : decode prog_6_method_6_code 138 = .ok (.getfield 17, 3) := by decide +kernel
theorem dRU_fit_141 : decode prog_6_method_6_code 141 = .ok (.getfield 62, 3) := by decide +kernel
theorem dRU_fit_144 : decode prog_6_method_6_code 144 = .ok (.iload_n 2, 1) := by decide +kernel
theorem dRU_fit_145 : decode prog_6_method_6_code 145 = .ok (.aaload, 1) := by decide +kernel
theorem dRU_fit_146 : decode prog_6_method_6_code 146 = .ok (.iconst 0, 1) := by decide +kernel
theorem dRU_fit_147 : decode prog_6_method_6_code 147 = .ok (.invokevirtual 92, 3) := by decide +kernel
theorem dRU_fit_150 : decode prog_6_method_6_code 150 = .ok (.ireturn, 1) := by decide +kernel
theorem dRU_fit_151 : decode prog_6_method_6_code 151 = .ok (.aload_n 0, 1) := by decide +kernel
theorem dRU_fit_152 : decode prog_6_method_6_code 152 = .ok (.iload_n 2, 1) := by decide +kernel
theorem dRU_fit_153 : decode prog_6_method_6_code 153 = .ok (.invokevirtual 74, 3) := by decide +kernel
theorem dRU_fit_156 : decode prog_6_method_6_code 156 = .ok (.aload_n 0, 1) := by decide +kernel
theorem dRU_fit_157 : decode prog_6_method_6_code 157 = .ok (.iload_n 3, 1) := by decide +kernel
theorem dRU_fit_158 : decode prog_6_method_6_code 158 = .ok (.invokevirtual 74, 3) := by decide +kernel
theorem dRU_fit_161 : decode prog_6_method_6_code 161 = .ok (.invokestatic 95, 3) := by decide +kernel
theorem dRU_fit_164 : decode prog_6_method_6_code 164 = .ok (.ireturn, 1) := by decide +kernel
theorem dRU_fit_165 : decode prog_6_method_6_code 165 = .ok (.aload_n 0, 1) := by decide +kernel
theorem dRU_fit_166 : decode prog_6_method_6_code 166 = .ok (.getfield 17, 3) := by decide +kernel
theorem dRU_fit_169 : decode prog_6_method_6_code 169 = .ok (.getfield 98, 3) := by decide +kernel
theorem dRU_fit_172 : decode prog_6_method_6_code 172 = .ok (.iload_n 3, 1) := by decide +kernel
theorem dRU_fit_173 : decode prog_6_method_6_code 173 = .ok (.iaload, 1) := by decide +kernel
theorem dRU_fit_174 : decode prog_6_method_6_code 174 = .ok (.aload_n 0, 1) := by decide +kernel
theorem dRU_fit_175 : decode prog_6_method_6_code 175 = .ok (.getfield 17, 3) := by decide +kernel
theorem dRU_fit_178 : decode prog_6_method_6_code 178 = .ok (.getfield 62, 3) := by decide +kernel
theorem dRU_fit_181 : decode prog_6_method_6_code 181 = .ok (.iload 4, 2) := by decide +kernel
theorem dRU_fit_183 : decode prog_6_method_6_code 183 = .ok (.aaload, 1) := by decide +kernel
theorem dRU_fit_184 : decode prog_6_method_6_code 184 = .ok (.getfield 68, 3) := by decide +kernel
theorem dRU_fit_187 : decode prog_6_method_6_code 187 = .ok (.iconst 0, 1) := by decide +kernel
theorem dRU_fit_188 : decode prog_6_method_6_code 188 = .ok (.iaload, 1) := by decide +kernel
theorem dRU_fit_189 : decode prog_6_method_6_code 189 = .ok (.if_icmp .ne (7), 3) := by decide +kernel
theorem dRU_fit_192 : decode prog_6_method_6_code 192 = .ok (.iconst 1, 1) := by decide +kernel
theorem dRU_fit_193 : decode prog_6_method_6_code 193 = .ok (.goto (4), 3) := by decide +kernel
theorem dRU_fit_196 : decode prog_6_method_6_code 196 = .ok (.iconst 0, 1) := by decide +kernel
theorem dRU_fit_197 : decode prog_6_method_6_code 197 = .ok (.ireturn, 1) := by decide +kernel
theorem dRU_fit_198 : decode prog_6_method_6_code 198 = .ok (.iconst 1, 1) := by decide +kernel
theorem dRU_fit_199 : decode prog_6_method_6_code 199 = .ok (.ireturn, 1) := by decide +kernel
theorem c_RU_fit {G : sd_G} {o : Nat} {D : fx_D} {h0 : sd_H} {nx v : Nat} {S : st_S} {T : List tl_T} {a b c k : Nat} {x y z w : Int32} (hW : dk_W S T D) (hT : st_okT S) (hH : st_okH S) (ht : ru_there S x y z w k a b c) (hv2 : v < 2) (hv : v = 1 ↔ ru_fit S k a b c = true) : sd_Ct G mRU_fit 3 0 0 [.ref (o + 307), .int x, .int y, .int z, .int w] (fx_h G.1.2 dk_S o D h0) nx (sd_is (some (.int (nI v))) (fx_h G.1.2 dk_S o D h0) nx) := by
  refine sd_Ct_of (by decide) (Nat.le_of_ble_eq_true rfl) ?_
  obtain ⟨rfl, h⟩ := ht
  rcases h with ⟨rfl | rfl | rfl, rfl, ha⟩ | ⟨rfl | rfl | rfl | rfl, rfl, ha, rfl, hb⟩ | ⟨rfl, rfl, ha, rfl, hb⟩ | ⟨rfl, rfl, ha, rfl, hb, rfl, hc⟩
  · simp only [ru_fit, iff_true] at hv
    subst hv
    refine sd_iload_n dRU_fit_0 rfl rfl ?_
    refine sd_tableOut 198 dRU_fit_1 (by decide) (by decide) ?_
    refine sd_iconst (v := nI 1) dRU_fit_198 (by decide) ?_
    exact sd_zret dRU_fit_199 rfl (Or.inr rfl) (Nat.le_refl _) (Nat.le_refl _) ⟨rfl, rfl, rfl⟩
  · obtain ⟨m1, m2, m3, m4, -⟩ := hW.tm ha
    have h71 := hW.2.1.1
    obtain ⟨-, q2, -, q4⟩ := m1.2.2 0 _ m3.hd
    simp only [ru_fit, beq_iff_eq] at hv
    refine sd_iload_n dRU_fit_0 rfl rfl ?_
    refine sd_tableIn (off := 47) 48 dRU_fit_1 (by decide) (by decide) (by decide) (by decide) ?_
    refine sd_aload_n dRU_fit_48 rfl rfl ?_
    refine fx_getr 5 0 (1) dRU_fit_49 fRU_17 rfl rfl ?_
    refine fx_getr 8 1 (3) dRU_fit_52 fRU_62 rfl rfl ?_
    refine sd_iload_n dRU_fit_55 rfl rfl ?_
    refine fx_aald (a) dRU_fit_56 rfl rfl rfl (by omega) (by decide) ?_
    refine fx_getr 7 1 (tmo ((a) + 1) + 2) dRU_fit_57 fRU_68 (dk_tm (by omega)) rfl ?_
    refine sd_iconst (v := nI 0) dRU_fit_60 (by decide) ?_
    refine fx_ialdv (v := (nI ((tl_at (st_tm S a) 0).2))) (0) dRU_fit_61 (dk_tm2 (by omega)) rfl (by omega) (by decide) (q2) ?_
    refine sd_iconst (v := nI 4) dRU_fit_62 (by decide) ?_
    refine nn_icmp_ne 70 dRU_fit_63 (by decide) (by omega) (by omega) (fun c63 => ?_) (fun c63 => ?_)
    ·
      refine sd_iconst (v := nI 0) dRU_fit_70 (by decide) ?_
      exact sd_zret dRU_fit_71 rfl (nn_01 (by omega)) (Nat.le_refl _) (Nat.le_refl _) ⟨by rw [show v = (0) by omega], rfl, rfl⟩
    ·
      refine sd_iconst (v := nI 1) dRU_fit_66 (by decide) ?_
      refine sd_goto 71 dRU_fit_67 (by decide) ?_
      exact sd_zret dRU_fit_71 rfl (nn_01 (by omega)) (Nat.le_refl _) (Nat.le_refl _) ⟨by rw [show v = (1) by omega], rfl, rfl⟩
  · obtain ⟨m1, m2, m3, m4, -⟩ := hW.tm ha
    have h71 := hW.2.1.1
    simp only [ru_fit] at hv
    have cR := c_TM_isRedex (G := G) (o := o) (h0 := h0) (nx := nx) (r := a + 1) (i := 0) (b := v) (by omega) m1 m3.1 m3.pos hv2 hv
    refine sd_iload_n dRU_fit_0 rfl rfl ?_
    refine sd_tableIn (off := 136) 137 dRU_fit_1 (by decide) (by decide) (by decide) (by decide) ?_
    refine sd_aload_n dRU_fit_137 rfl rfl ?_
    refine fx_getr 5 0 (1) dRU_fit_138 fRU_17 rfl rfl ?_
    refine fx_getr 8 1 (3) dRU_fit_141 fRU_62 rfl rfl ?_
    refine sd_iload_n dRU_fit_144 rfl rfl ?_
    refine fx_aald (a) dRU_fit_145 rfl rfl rfl (by omega) (by decide) ?_
    refine sd_iconst (v := nI 0) dRU_fit_146 (by decide) ?_
    refine fx_cV 7 sR_TM [.int (nI (0))] [] dRU_fit_147 kRU_92 rfl (dk_tm (by omega)) mTM_isRedex_v (cR) (by decide) (Nat.le_refl _) (Nat.le_refl _) (Nat.le_of_ble_eq_true rfl) rfl ?_
    exact sd_zret dRU_fit_150 rfl (nn_01 (by omega)) (Nat.le_refl _) (Nat.le_refl _) ⟨rfl, rfl, rfl⟩
  · obtain ⟨ta, ea, ca, -, la, -, -, h71⟩ := hW.cn hH ha
    obtain ⟨tb, eb, cb, -, lb, -⟩ := hW.cn hH hb
    obtain ⟨m1, m2, m3, -⟩ := hW.tm la
    obtain ⟨n1, n2, n3, -⟩ := hW.tm lb
    have kA := c_RU_conclusionOf (G := G) (o := o) (h0 := h0) (nx := nx) hW.2.2.1 ea (by omega)
    have kB := c_RU_conclusionOf (G := G) (o := o) (h0 := h0) (nx := nx) hW.2.2.1 eb (by omega)
    rw [ca] at kA
    rw [cb] at kB
    simp only [ru_fit, Bool.and_eq_true, beq_iff_eq, and_assoc, tl_isE] at hv
    have cC := c_RU_canChain (G := G) (o := o) (h0 := h0) (nx := nx) (r := st_cn S a + 1) (q := st_cn S b + 1) (b := v) (by omega) (by omega) m1 m2 m3 n1 n2 n3 hv2 hv
    refine sd_iload_n dRU_fit_0 rfl rfl ?_
    refine sd_tableIn (off := 71) 72 dRU_fit_1 (by decide) (by decide) (by decide) (by decide) ?_
    refine sd_aload_n dRU_fit_72 rfl rfl ?_
    refine sd_iload_n dRU_fit_73 rfl rfl ?_
    refine fx_cV 5 sR_RU [.int (nI (a))] [] dRU_fit_74 kRU_74 rfl rfl mRU_conclusionOf_v (kA) (by decide) (Nat.le_refl _) (Nat.le_refl _) (Nat.le_of_ble_eq_true rfl) rfl ?_
    refine sd_aload_n dRU_fit_77 rfl rfl ?_
    refine sd_iload_n dRU_fit_78 rfl rfl ?_
    refine fx_cV 5 sR_RU [.int (nI (b))] [.ref (o + (tmo ((st_cn S a + 1))))] dRU_fit_79 kRU_74 rfl rfl mRU_conclusionOf_v (kB) (by decide) (Nat.le_refl _) (Nat.le_refl _) (Nat.le_of_ble_eq_true rfl) rfl ?_
    refine sd_cS [.ref (o + (tmo ((st_cn S a + 1)))), .ref (o + (tmo ((st_cn S b + 1))))] [] dRU_fit_82 kRU_78 mRU_canChain_s (cC) (by decide) (Nat.le_refl _) (Nat.le_refl _) (Nat.le_of_ble_eq_true rfl) rfl ?_
    exact sd_zret dRU_fit_85 rfl (nn_01 (by omega)) (Nat.le_refl _) (Nat.le_refl _) ⟨rfl, rfl, rfl⟩
  · obtain ⟨ta, ea, ca, -, la, -, -, h71⟩ := hW.cn hH ha
    obtain ⟨tb, eb, cb, -, lb, -⟩ := hW.cn hH hb
    obtain ⟨m1, m2, m3, -, -⟩ := hW.tm la
    obtain ⟨n1, n2, n3, -⟩ := hW.tm lb
    have kA := c_RU_conclusionOf (G := G) (o := o) (h0 := h0) (nx := nx) hW.2.2.1 ea (by omega)
    have kB := c_RU_conclusionOf (G := G) (o := o) (h0 := h0) (nx := nx) hW.2.2.1 eb (by omega)
    rw [ca] at kA
    rw [cb] at kB
    simp only [ru_fit, Bool.and_eq_true, beq_iff_eq, and_assoc, tl_isE] at hv
    have hok : ∀ x ∈ st_tm S (st_cn S a), ty_ok x.2 := fun x hx => (hT _ (by rw [st_tm, List.getElem?_eq_getElem la]; exact List.getElem_mem la) x hx).1
    have cC := c_RU_canCombine (G := G) (o := o) (h0 := h0) (nx := nx) (r := st_cn S a + 1) (q := st_cn S b + 1) (b := v) (by omega) (by omega) m1 m3 n1 n3 hok hv2 hv
    refine sd_iload_n dRU_fit_0 rfl rfl ?_
    refine sd_tableIn (off := 85) 86 dRU_fit_1 (by decide) (by decide) (by decide) (by decide) ?_
    refine sd_aload_n dRU_fit_86 rfl rfl ?_
    refine sd_iload_n dRU_fit_87 rfl rfl ?_
    refine fx_cV 5 sR_RU [.int (nI (a))] [] dRU_fit_88 kRU_74 rfl rfl mRU_conclusionOf_v (kA) (by decide) (Nat.le_refl _) (Nat.le_refl _) (Nat.le_of_ble_eq_true rfl) rfl ?_
    refine sd_aload_n dRU_fit_91 rfl rfl ?_
    refine sd_iload_n dRU_fit_92 rfl rfl ?_
    refine fx_cV 5 sR_RU [.int (nI (b))] [.ref (o + (tmo ((st_cn S a + 1))))] dRU_fit_93 kRU_74 rfl rfl mRU_conclusionOf_v (kB) (by decide) (Nat.le_refl _) (Nat.le_refl _) (Nat.le_of_ble_eq_true rfl) rfl ?_
    refine sd_cS [.ref (o + (tmo ((st_cn S a + 1)))), .ref (o + (tmo ((st_cn S b + 1))))] [] dRU_fit_96 kRU_82 mRU_canCombine_s (cC) (by decide) (Nat.le_refl _) (Nat.le_refl _) (Nat.le_of_ble_eq_true rfl) rfl ?_
    exact sd_zret dRU_fit_99 rfl (nn_01 (by omega)) (Nat.le_refl _) (Nat.le_refl _) ⟨rfl, rfl, rfl⟩
  · obtain ⟨ta, ea, ca, -, la, -, -, h71⟩ := hW.cn hH ha
    obtain ⟨tb, eb, cb, -, lb, -⟩ := hW.cn hH hb
    obtain ⟨m1, m2, m3, -⟩ := hW.tm la
    obtain ⟨n1, n2, n3, -⟩ := hW.tm lb
    have kA := c_RU_conclusionOf (G := G) (o := o) (h0 := h0) (nx := nx) hW.2.2.1 ea (by omega)
    have kB := c_RU_conclusionOf (G := G) (o := o) (h0 := h0) (nx := nx) hW.2.2.1 eb (by omega)
    rw [ca] at kA
    rw [cb] at kB
    simp only [ru_fit, Bool.and_eq_true, beq_iff_eq, and_assoc, tl_isE] at hv
    have cC := c_RU_canPass (G := G) (o := o) (h0 := h0) (nx := nx) (r := st_cn S a + 1) (q := st_cn S b + 1) (b := v) (by omega) (by omega) m1 m2 m3 n1 n2 n3 hv2 hv
    refine sd_iload_n dRU_fit_0 rfl rfl ?_
    refine sd_tableIn (off := 150) 151 dRU_fit_1 (by decide) (by decide) (by decide) (by decide) ?_
    refine sd_aload_n dRU_fit_151 rfl rfl ?_
    refine sd_iload_n dRU_fit_152 rfl rfl ?_
    refine fx_cV 5 sR_RU [.int (nI (a))] [] dRU_fit_153 kRU_74 rfl rfl mRU_conclusionOf_v (kA) (by decide) (Nat.le_refl _) (Nat.le_refl _) (Nat.le_of_ble_eq_true rfl) rfl ?_
    refine sd_aload_n dRU_fit_156 rfl rfl ?_
    refine sd_iload_n dRU_fit_157 rfl rfl ?_
    refine fx_cV 5 sR_RU [.int (nI (b))] [.ref (o + (tmo ((st_cn S a + 1))))] dRU_fit_158 kRU_74 rfl rfl mRU_conclusionOf_v (kB) (by decide) (Nat.le_refl _) (Nat.le_refl _) (Nat.le_of_ble_eq_true rfl) rfl ?_
    refine sd_cS [.ref (o + (tmo ((st_cn S a + 1)))), .ref (o + (tmo ((st_cn S b + 1))))] [] dRU_fit_161 kRU_95 mRU_canPass_s (cC) (by decide) (Nat.le_refl _) (Nat.le_refl _) (Nat.le_of_ble_eq_true rfl) rfl ?_
    exact sd_zret dRU_fit_164 rfl (nn_01 (by omega)) (Nat.le_refl _) (Nat.le_refl _) ⟨rfl, rfl, rfl⟩
  · simp only [ru_fit, iff_true] at hv
    subst hv
    refine sd_iload_n dRU_fit_0 rfl rfl ?_
    refine sd_tableIn (off := 197) 198 dRU_fit_1 (by decide) (by decide) (by decide) (by decide) ?_
    refine sd_iconst (v := nI 1) dRU_fit_198 (by decide) ?_
    exact sd_zret dRU_fit_199 rfl (Or.inr rfl) (Nat.le_refl _) (Nat.le_refl _) ⟨rfl, rfl, rfl⟩
  · obtain ⟨ta, ea, ca, cy, la, ly, p40, h71⟩ := hW.cn hH ha
    obtain ⟨m1, m2, m3, -⟩ := hW.tm la
    have kA := c_RU_conclusionOf (G := G) (o := o) (h0 := h0) (nx := nx) hW.2.2.1 ea (by omega)
    rw [ca] at kA
    simp only [ru_fit, Bool.and_eq_true] at hv
    by_cases h9 : (tl_at (st_tm S (st_cn S a)) 0).1 = 9
    · obtain ⟨u, u1, u2⟩ := bo_b (!(st_hy S a).all (fun t => !tl_nm (st_tm S t) b))
      have s1 := (hW.2.2.1.2.2 a ta ea).1
      rw [cy] at s1
      have cH := c_TS_inHypotheses (G := G) (o := o) (h0 := h0) (nx := nx) (v := b) (s := 309 + 3 * a + 1) (b := u) (dk_ths (by omega)) hW.2.1 s1 (fun t ht => (hW.tm (ly t ht)).2.2.2.1) hb u1 (by
        rw [u2]
        simp only [Bool.not_eq_true', List.all_eq_false]
        constructor
        · rintro ⟨t, q1, q2⟩
          refine ⟨t, q1, ?_⟩
          rw [List.getD_eq_getElem?_getD, (hW.tm (ly t q1)).2.2.2.2]
          simpa using q2
        · rintro ⟨t, q1, q2⟩
          refine ⟨t, q1, ?_⟩
          rw [List.getD_eq_getElem?_getD, (hW.tm (ly t q1)).2.2.2.2] at q2
          simpa using q2)
      have hvu : v = 1 ↔ u = 0 := by
        rw [hv]
        constructor
        · rintro ⟨-, q⟩
          have : ¬ u = 1 := fun e => by
            have := u2.mp e
            rw [q] at this
            cases this
          omega
        · intro e
          refine ⟨by simp [tl_isE, h9], ?_⟩
          cases q : (st_hy S a).all (fun t => !tl_nm (st_tm S t) b)
          · have := u2.mpr (by rw [q]; rfl)
            omega
          · rfl
      refine sd_iload_n dRU_fit_0 rfl rfl ?_
      refine sd_tableIn (off := 99) 100 dRU_fit_1 (by decide) (by decide) (by decide) (by decide) ?_
      refine sd_aload_n dRU_fit_100 rfl rfl ?_
      refine sd_iload_n dRU_fit_101 rfl rfl ?_
      refine fx_cV 5 sR_RU [.int (nI (a))] [] dRU_fit_102 kRU_74 rfl rfl mRU_conclusionOf_v (kA) (by decide) (Nat.le_refl _) (Nat.le_refl _) (Nat.le_of_ble_eq_true rfl) rfl ?_
      refine fx_cV 7 sR_TM [] [] dRU_fit_105 kRU_85 rfl (dk_tm (by omega)) mTM_isEquation_v (c_TM_isEquation (b := 1) (by omega) m1 m3.hd (by omega) (by simp [h9])) (by decide) (Nat.le_refl _) (Nat.le_refl _) (Nat.le_of_ble_eq_true rfl) rfl ?_
      refine nn_if_eq 135 dRU_fit_108 (by decide) (by decide) (fun c => absurd c (by decide)) (fun _ => ?_)
      refine sd_aload_n dRU_fit_111 rfl rfl ?_
      refine fx_getr 5 0 (1) dRU_fit_112 fRU_17 rfl rfl ?_
      refine sd_iload_n dRU_fit_115 rfl rfl ?_
      refine sd_aload_n dRU_fit_116 rfl rfl ?_
      refine fx_getr 5 1 (308) dRU_fit_117 fRU_11 rfl rfl ?_
      refine sd_iload_n dRU_fit_120 rfl rfl ?_
      refine fx_aald (a) dRU_fit_121 rfl rfl rfl (by omega) (by decide) ?_
      refine fx_getr 9 0 (309 + 3 * (a) + 1) dRU_fit_122 fRU_40 (dk_th (by omega)) rfl ?_
      refine fx_cV 8 sR_TS [.int (nI (b)), .ref (o + (309 + 3 * (a) + 1))] [] dRU_fit_125 kRU_88 rfl rfl mTS_inHypotheses_v (cH) (by decide) (Nat.le_refl _) (Nat.le_refl _) (Nat.le_of_ble_eq_true rfl) rfl ?_
      refine nn_if_ne 135 dRU_fit_128 (by decide) (by omega) (fun c128 => ?_) (fun c128 => ?_)
      ·
        refine sd_iconst (v := nI 0) dRU_fit_135 (by decide) ?_
        exact sd_zret dRU_fit_136 rfl (nn_01 (by omega)) (Nat.le_refl _) (Nat.le_refl _) ⟨by rw [show v = (0) by omega], rfl, rfl⟩
      ·
        refine sd_iconst (v := nI 1) dRU_fit_131 (by decide) ?_
        refine sd_goto 136 dRU_fit_132 (by decide) ?_
        exact sd_zret dRU_fit_136 rfl (nn_01 (by omega)) (Nat.le_refl _) (Nat.le_refl _) ⟨by rw [show v = (1) by omega], rfl, rfl⟩
    · obtain rfl : v = 0 := by
        have : ¬ v = 1 := fun e => h9 (by simpa [tl_isE] using (hv.mp e).1)
        omega
      refine sd_iload_n dRU_fit_0 rfl rfl ?_
      refine sd_tableIn (off := 99) 100 dRU_fit_1 (by decide) (by decide) (by decide) (by decide) ?_
      refine sd_aload_n dRU_fit_100 rfl rfl ?_
      refine sd_iload_n dRU_fit_101 rfl rfl ?_
      refine fx_cV 5 sR_RU [.int (nI (a))] [] dRU_fit_102 kRU_74 rfl rfl mRU_conclusionOf_v (kA) (by decide) (Nat.le_refl _) (Nat.le_refl _) (Nat.le_of_ble_eq_true rfl) rfl ?_
      refine fx_cV 7 sR_TM [] [] dRU_fit_105 kRU_85 rfl (dk_tm (by omega)) mTM_isEquation_v (c_TM_isEquation (b := 0) (by omega) m1 m3.hd (by omega) (by simp [h9])) (by decide) (Nat.le_refl _) (Nat.le_refl _) (Nat.le_of_ble_eq_true rfl) rfl ?_
      refine nn_if_eq 135 dRU_fit_108 (by decide) (by decide) (fun _ => ?_) (fun c => absurd c (by decide))
      refine sd_iconst (v := nI 0) dRU_fit_135 (by decide) ?_
      exact sd_zret dRU_fit_136 rfl (Or.inl rfl) (Nat.le_refl _) (Nat.le_refl _) ⟨rfl, rfl, rfl⟩
  · obtain ⟨m1, m2, m3, m4, -⟩ := hW.tm hc
    have h71 := hW.2.1.1
    obtain ⟨-, q2, -, q4⟩ := m1.2.2 0 _ m3.hd
    have nb := hW.1 b hb
    have nb2 := nb.2.1
    simp only [ru_fit, beq_iff_eq] at hv
    refine sd_iload_n dRU_fit_0 rfl rfl ?_
    refine sd_tableIn (off := 164) 165 dRU_fit_1 (by decide) (by decide) (by decide) (by decide) ?_
    refine sd_aload_n dRU_fit_165 rfl rfl ?_
    refine fx_getr 5 0 (1) dRU_fit_166 fRU_17 rfl rfl ?_
    refine fx_getr 8 0 (2) dRU_fit_169 fRU_98 rfl rfl ?_
    refine sd_iload_n dRU_fit_172 rfl rfl ?_
    refine fx_ialdv (v := (nI (st_nt S b))) (b) dRU_fit_173 rfl rfl (by omega) (by decide) (nb.1) ?_
    refine sd_aload_n dRU_fit_174 rfl rfl ?_
    refine fx_getr 5 0 (1) dRU_fit_175 fRU_17 rfl rfl ?_
    refine fx_getr 8 1 (3) dRU_fit_178 fRU_62 rfl rfl ?_
    refine sd_iload dRU_fit_181 rfl ?_
    refine fx_aald (c) dRU_fit_183 rfl rfl rfl (by omega) (by decide) ?_
    refine fx_getr 7 1 (tmo ((c) + 1) + 2) dRU_fit_184 fRU_68 (dk_tm (by omega)) rfl ?_
    refine sd_iconst (v := nI 0) dRU_fit_187 (by decide) ?_
    refine fx_ialdv (v := (nI ((tl_at (st_tm S c) 0).2))) (0) dRU_fit_188 (dk_tm2 (by omega)) rfl (by omega) (by decide) (q2) ?_
    refine nn_icmp_ne 196 dRU_fit_189 (by decide) (by omega) (by omega) (fun c189 => ?_) (fun c189 => ?_)
    ·
      refine sd_iconst (v := nI 0) dRU_fit_196 (by decide) ?_
      exact sd_zret dRU_fit_197 rfl (nn_01 (by omega)) (Nat.le_refl _) (Nat.le_refl _) ⟨by rw [show v = (0) by omega], rfl, rfl⟩
    ·
      refine sd_iconst (v := nI 1) dRU_fit_192 (by decide) ?_
      refine sd_goto 197 dRU_fit_193 (by decide) ?_
      exact sd_zret dRU_fit_197 rfl (nn_01 (by omega)) (Nat.le_refl _) (Nat.le_refl _) ⟨by rw [show v = (1) by omega], rfl, rfl⟩
