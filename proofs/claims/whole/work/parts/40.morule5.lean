/-! ===== the model: rule ===== -/
theorem tl_full_app : ∀ (ls : List tl_T) (l : tl_T) (T : List tl_T) (rs : List Nat), (tl_full T (ls ++ [l]) = true ↔ tl_full T ls = true ∨ ¬ tl_kp (tl_keeps T rs ls).1 l < 64) ∧ (tl_keeps T rs (ls ++ [l])).1 = tl_kt (tl_keeps T rs ls).1 l
  | [], l, T, rs => ⟨by simp [tl_full, tl_keeps], by simp [tl_keeps]⟩
  | m :: ls, l, T, rs => by
    obtain ⟨h1, h2⟩ := tl_full_app ls l (tl_kt T m) (if tl_kp T m < 64 then ls_h rs (tl_kp T m) else rs)
    rw [List.cons_append, tl_full, tl_full, tl_keeps, tl_keeps, Bool.or_eq_true, Bool.or_eq_true, h1, h2]
    exact ⟨or_assoc.symm, rfl⟩
/-- what build makes where nothing is too long -/
def bd_ok (S : st_S) (k a b c : Nat) (D' : fx_D) : Prop := ∃ L, ru_row S k a b c = some L ∧ L.length ≤ 24 ∧ mo_row D' 71 L ∧ (∀ j l, (ru_hr S k a b c)[j]? = some l → l.length ≤ 24 ∧ mo_row D' (64 + j) l)
theorem bd_P.f {S : st_S} {k a b c : Nat} {D' : fx_D} (h : bd_P S k a b c D') : ∃ f, f < 2 ∧ D'.2.1 0 7 = nI f ∧ (f = 0 → bd_ok S k a b c D') ∧ (f = 1 → ru_bg1 S k a b c) := by
  obtain ⟨-, -, ⟨L, h1, h2, h3, h4, h5⟩ | ⟨h1, h2⟩⟩ := h
  · exact ⟨0, by omega, h5, fun _ => ⟨L, h1, h2, h3, h4⟩, fun e => absurd e (by omega)⟩
  · exact ⟨1, by omega, h2, fun e => absurd e (by omega), fun _ => h1⟩
theorem ru_nbig {S : st_S} {k a b c : Nat} {L : tl_T} (h1 : ru_row S k a b c = some L) (h2 : L.length ≤ 24) (h3 : ∀ (j : Nat) l, (ru_hr S k a b c)[j]? = some l → l.length ≤ 24) (h4 : (ru_hyp S k a b).length ≤ 6) : ¬ ru_big S k a b c = true := by
  rw [ru_big_iff]
  rintro ((h | ⟨l, hl, h⟩) | h)
  · have := h L h1; omega
  · obtain ⟨j, hj⟩ := List.mem_iff_getElem?.mp hl
    have := h3 j l hj
    omega
  · omega
theorem c_MO_rule {G : sd_G} {o : Nat} {D : fx_D} {h0 : sd_H} {nx : Nat} {S S' : st_S} {x y z w ans : Int32} (hB : G.2.1 ≤ o) (hR : mo_R S D) (hT : st_okT S) (hH : st_okH S) (hs : sp_rule S x y z w ans S') : sd_Ct G mMO_rule 7 0 0 [.ref (o + 0), .int x, .int y, .int z, .int w] (fx_h G.1.2 mo_S o D h0) nx (fx_is G.1.2 mo_S o h0 nx (some (.int ans)) (mo_R S')) := by
  refine sd_Ct_of (by decide) (Nat.le_of_ble_eq_true rfl) ?_
  rcases hs with ⟨hno, rfl, rfl⟩ | ⟨k, a, b, c, ht, he⟩
  · have i0 := c_MO_isThere (G := G) (o := o) (h0 := h0) (nx := nx) (v := 0) (x := x) (y := y) (z := z) (w := w) hR (by omega) ⟨fun e => absurd e (by omega), fun e => absurd e hno⟩
    refine sd_aload_n dMO_rule_0 rfl rfl ?_
    refine sd_iload_n dMO_rule_1 rfl rfl ?_
    refine sd_iload_n dMO_rule_2 rfl rfl ?_
    refine sd_iload_n dMO_rule_3 rfl rfl ?_
    refine sd_iload dMO_rule_4 rfl ?_
    refine fx_cV 10 sR_MO [.int (x), .int (y), .int (z), .int (w)] [] dMO_rule_6 kMO_253 rfl rfl mMO_isThere_v (i0) (by decide) (Nat.le_refl _) (Nat.le_refl _) (Nat.le_of_ble_eq_true rfl) rfl ?_
    refine nn_if_ne 14 dMO_rule_9 (by decide) (by decide) (fun c => absurd c (by decide)) (fun _ => ?_)
    refine sd_iconst (v := (-1)) dMO_rule_12 (by decide) ?_
    exact sd_iret dMO_rule_13 rfl (Nat.le_refl _) (Nat.le_refl _) ⟨rfl, rfl, D, rfl, hR⟩
  · have i1 := c_MO_isThere (G := G) (o := o) (h0 := h0) (nx := nx) (v := 1) hR (by omega) ⟨fun _ => ⟨k, a, b, c, ht⟩, fun _ => rfl⟩
    have hi := ht.in
    have hxy : x = nI k ∧ y = nI a ∧ ((k = 0 ∨ k = 1 ∨ k = 5) ∨ ((k = 2 ∨ k = 3 ∨ k = 6 ∨ k = 7) ∧ z = nI b) ∨ (k = 4 ∨ k = 8)) := by
      obtain ⟨e, h⟩ := ht
      rcases h with ⟨h1, h2, h3⟩ | ⟨h1, h2, h3, h4, h5⟩ | ⟨h1, h2, h3, h4, h5⟩ | ⟨h1, h2, h3, h4, h5, h6, h7⟩
      · exact ⟨e, h2, Or.inl h1⟩
      · exact ⟨e, h2, Or.inr (Or.inl ⟨h1, h4⟩)⟩
      · exact ⟨e, h2, Or.inr (Or.inr (Or.inl h1))⟩
      · exact ⟨e, h2, Or.inr (Or.inr (Or.inr h1))⟩
    obtain ⟨rfl, rfl, hg⟩ := hxy
    have hk9 : k < 9 := by omega
    unfold ru_do at he
    by_cases hfit : ru_fit S k a b c = false
    · rw [if_pos hfit] at he
      have i2 := c_MO_fits (G := G) (o := o) (h0 := h0) (nx := nx) (v := 0) hR hT hH ht (by omega) (by simp [hfit])
      obtain ⟨rfl, rfl⟩ := Prod.mk.inj he
      refine sd_aload_n dMO_rule_0 rfl rfl ?_
      refine sd_iload_n dMO_rule_1 rfl rfl ?_
      refine sd_iload_n dMO_rule_2 rfl rfl ?_
      refine sd_iload_n dMO_rule_3 rfl rfl ?_
      refine sd_iload dMO_rule_4 rfl ?_
      refine fx_cV 10 sR_MO [.int (nI (k)), .int (nI (a)), .int (z), .int (w)] [] dMO_rule_6 kMO_253 rfl rfl mMO_isThere_v (i1) (by decide) (Nat.le_refl _) (Nat.le_refl _) (Nat.le_of_ble_eq_true rfl) rfl ?_
      refine nn_if_ne 14 dMO_rule_9 (by decide) (by decide) (fun _ => ?_) (fun c => absurd c (by decide))
      refine sd_aload_n dMO_rule_14 rfl rfl ?_
      refine sd_iload_n dMO_rule_15 rfl rfl ?_
      refine sd_iload_n dMO_rule_16 rfl rfl ?_
      refine sd_iload_n dMO_rule_17 rfl rfl ?_
      refine sd_iload dMO_rule_18 rfl ?_
      refine fx_cV 10 sR_MO [.int (nI (k)), .int (nI (a)), .int (z), .int (w)] [] dMO_rule_20 kMO_256 rfl rfl mMO_fits_v (i2) (by decide) (Nat.le_refl _) (Nat.le_refl _) (Nat.le_of_ble_eq_true rfl) rfl ?_
      refine nn_if_ne 29 dMO_rule_23 (by decide) (by decide) (fun c => absurd c (by decide)) (fun _ => ?_)
      refine sd_bipush (v := (-4)) dMO_rule_26 (by decide) ?_
      exact sd_iret dMO_rule_28 rfl (Nat.le_refl _) (Nat.le_refl _) ⟨rfl, rfl, D, rfl, hR⟩
    · rw [if_neg hfit] at he
      have hft : ru_fit S k a b c = true := by simpa using hfit
      have i2 := c_MO_fits (G := G) (o := o) (h0 := h0) (nx := nx) (v := 1) hR hT hH ht (by omega) (by simp [hft])
      have hR1 : mo_R S (fx_uf (fx_uf D 0 7 (nI 0)) 0 16 (nI 0)) := mo_R_f (mo_R_f hR (Or.inl rfl)) (Or.inr rfl)
      have i3 := c_MO_build (G := G) (o := o) (h0 := h0) (nx := nx) hB hR1 hT hH ⟨by simp, by simp [fx_uf, upd], fun k t h => by simp at h⟩ (by simp [fx_uf, upd]) ht hft
      have h12 : ∀ {f : Nat} {L : tl_T}, f < 2 → ru_row S k a b c = some L → ru_big S k a b c = false → (st_th S).length < 40 → (f = 1 ↔ tl_full (st_T S) (ru_hr S k a b c) = true) → (f = 1 ∨ ¬ tl_kp (tl_keeps (st_T S) (ru_hyp S k a b) (ru_hr S k a b c)).1 L < 64 → ans = -6 ∧ S' = S) ∧ (f = 0 → tl_kp (tl_keeps (st_T S) (ru_hyp S k a b) (ru_hr S k a b c)).1 L < 64 → ans = nI (st_th S).length ∧ S' = (S.1, tl_kt (tl_keeps (st_T S) (ru_hyp S k a b) (ru_hr S k a b c)).1 L, S.2.2.1, st_th S ++ [(tl_kp (tl_keeps (st_T S) (ru_hyp S k a b) (ru_hr S k a b c)).1 L, (tl_keeps (st_T S) (ru_hyp S k a b) (ru_hr S k a b c)).2, k, ru_fst k a, ru_snd k b)], S.2.2.2.2)) := by
        intro f L hf2 hL hbg h40 hff
        obtain ⟨t1, t2⟩ := tl_full_app (ru_hr S k a b c) L (st_T S) (ru_hyp S k a b)
        rw [hbg, if_neg (by simp), if_neg (by omega), hL, Option.getD_some, t2] at he
        constructor
        · intro h
          rw [hff, ← t1] at h
          rw [if_pos h] at he
          exact Prod.mk.inj he
        · intro h h'
          rw [if_neg (fun z => by
            rcases t1.mp z with q | q
            · have := hff.mpr q; omega
            · exact q h')] at he
          exact Prod.mk.inj he
      refine sd_aload_n dMO_rule_0 rfl rfl ?_
      refine sd_iload_n dMO_rule_1 rfl rfl ?_
      refine sd_iload_n dMO_rule_2 rfl rfl ?_
      refine sd_iload_n dMO_rule_3 rfl rfl ?_
      refine sd_iload dMO_rule_4 rfl ?_
      refine fx_cV 10 sR_MO [.int (nI (k)), .int (nI (a)), .int (z), .int (w)] [] dMO_rule_6 kMO_253 rfl rfl mMO_isThere_v (i1) (by decide) (Nat.le_refl _) (Nat.le_refl _) (Nat.le_of_ble_eq_true rfl) rfl ?_
      refine nn_if_ne 14 dMO_rule_9 (by decide) (by decide) (fun _ => ?_) (fun c => absurd c (by decide))
      refine sd_aload_n dMO_rule_14 rfl rfl ?_
      refine sd_iload_n dMO_rule_15 rfl rfl ?_
      refine sd_iload_n dMO_rule_16 rfl rfl ?_
      refine sd_iload_n dMO_rule_17 rfl rfl ?_
      refine sd_iload dMO_rule_18 rfl ?_
      refine fx_cV 10 sR_MO [.int (nI (k)), .int (nI (a)), .int (z), .int (w)] [] dMO_rule_20 kMO_256 rfl rfl mMO_fits_v (i2) (by decide) (Nat.le_refl _) (Nat.le_refl _) (Nat.le_of_ble_eq_true rfl) rfl ?_
      refine nn_if_ne 29 dMO_rule_23 (by decide) (by decide) (fun _ => ?_) (fun c => absurd c (by decide))
      refine sd_aload_n dMO_rule_29 rfl rfl ?_
      refine sd_iconst (v := nI 0) dMO_rule_30 (by decide) ?_
      refine fx_putz 10 7 dMO_rule_31 fMO_124 rfl rfl (Or.inl rfl) rfl rfl hB ?_
      refine sd_aload_n dMO_rule_34 rfl rfl ?_
      refine sd_iconst (v := nI 0) dMO_rule_35 (by decide) ?_
      refine fx_puti 10 16 dMO_rule_36 fMO_213 rfl rfl rfl rfl hB ?_
      refine sd_aload_n dMO_rule_39 rfl rfl ?_
      refine sd_iload_n dMO_rule_40 rfl rfl ?_
      refine sd_iload_n dMO_rule_41 rfl rfl ?_
      refine sd_iload_n dMO_rule_42 rfl rfl ?_
      refine sd_iload dMO_rule_43 rfl ?_
      refine fx_cP 10 sR_MO [.int (nI (k)), .int (nI (a)), .int (z), .int (w)] [] dMO_rule_45 kMO_259 rfl rfl mMO_build_v (i3) (by decide) (Nat.le_refl _) (Nat.le_refl _) (Nat.le_of_ble_eq_true rfl) rfl (fun D2 hD2 => ?_)
      obtain ⟨f, hf2, hfv, hf0, hf1⟩ := hD2.f
      obtain ⟨g1, g2, -⟩ := hD2
      have g12 := g2.1
      have g40 : (st_th S).length ≤ 40 := g1.2.2.2.2.1.1
      refine sd_aload_n dMO_rule_48 rfl rfl ?_
      refine fx_getiv (v := (nI (f))) 10 7 dMO_rule_49 fMO_124 rfl rfl (hfv) ?_
      refine nn_if_ne 64 dMO_rule_52 (by decide) (by omega) (fun c52 => ?_) (fun c52 => ?_)
      ·
        refine sd_bipush (v := (-5)) dMO_rule_64 (by decide) ?_
        have hbg : ru_big S k a b c = true := ru_big_iff.mpr (by first | exact Or.inl (hf1 (by omega)) | exact Or.inr (by omega))
        rw [if_pos hbg] at he
        obtain ⟨rfl, rfl⟩ := Prod.mk.inj he
        exact sd_iret dMO_rule_66 rfl (Nat.le_refl _) (Nat.le_refl _) ⟨rfl, rfl, _, rfl, g1⟩
      ·
        refine sd_aload_n dMO_rule_55 rfl rfl ?_
        refine fx_getiv (v := (nI ((ru_hyp S k a b).length))) 10 16 dMO_rule_56 fMO_213 rfl rfl (g2.2.1) ?_
        refine sd_bipush (v := nI 6) dMO_rule_59 (by decide) ?_
        refine nn_icmp_le 67 dMO_rule_61 (by decide) (by omega) (by omega) (fun c61 => ?_) (fun c61 => ?_)
        ·
          refine sd_aload_n dMO_rule_67 rfl rfl ?_
          refine fx_getiv (v := (nI ((st_T S).length))) 10 5 dMO_rule_68 fMO_117 rfl rfl (g1.2.1.2.1) ?_
          refine sd_istore dMO_rule_71 (by decide) ?_
          refine sd_aload_n dMO_rule_73 rfl rfl ?_
          refine fx_getiv (v := (nI ((st_th S).length))) 10 14 dMO_rule_74 fMO_148 rfl rfl (g1.2.2.2.2.1.2.1) ?_
          refine sd_bipush (v := nI 40) dMO_rule_77 (by decide) ?_
          refine nn_icmp_ne 85 dMO_rule_79 (by decide) (by omega) (by omega) (fun c79 => ?_) (fun c79 => ?_)
          ·
            refine sd_iload_n dMO_rule_85 rfl rfl ?_
            refine sd_bipush (v := nI 8) dMO_rule_86 (by decide) ?_
            refine nn_icmp_ne 143 dMO_rule_88 (by decide) (by omega) (by omega) (fun c88 => ?_) (fun c88 => ?_)
            ·
              refine sd_locp (al' := [(0, .ref (o + (0))), (1, .int (nI (k))), (2, .int (nI (a))), (3, .int (z)), (5, .int (nI ((st_T S).length)))]) [1, 2, 3, 4, 0] rfl ?_
              obtain ⟨L, l1, l2, l3, l4⟩ := hf0 (by omega)
              have hbg : ru_big S k a b c = false := by simpa using ru_nbig l1 l2 (fun j l h => (l4 j l h).1) (by omega)
              have h40 : (st_th S).length < 40 := by omega
              have er : ru_hr S k a b c = [] := by unfold ru_hr; rw [if_neg (by omega)]
              obtain ⟨q1, q2⟩ := h12 (f := f) hf2 l1 hbg h40 (by rw [er]; simp [tl_full]; omega)
              rw [er] at q1 q2
              have hcp := ru_cp hR hH hi hft l1
              exact w_MO_rule hB (T' := st_T S) g1 ⟨[], by simp⟩ g2 (by omega) l3 ⟨hcp.1, hcp.2, l2⟩ hfv hf2 h40 hg q1 q2
            ·
              refine sd_iconst (v := nI 0) dMO_rule_91 (by decide) ?_
              refine sd_istore dMO_rule_92 (by decide) ?_
              refine sd_locp (al' := [(0, .ref (o + (0))), (1, .int (nI (k))), (2, .int (nI (a))), (3, .int (z)), (5, .int (nI ((st_T S).length))), (6, .int (nI (0)))]) [2, 3, 4, 5, 1, 0] rfl ?_
              obtain rfl : k = 8 := by omega
              obtain ⟨L, l1, l2, l3, l4⟩ := hf0 (by omega)
              have hbg : ru_big S 8 a b c = false := by simpa using ru_nbig l1 l2 (fun j l h => (l4 j l h).1) (by omega)
              have h40 : (st_th S).length < 40 := by omega
              obtain ⟨ha, hb, hc⟩ : a < (st_th S).length ∧ b < 8 ∧ c < (st_T S).length := by unfold ru_in at hi; omega
              obtain ⟨-, -, a40, -, a6, -⟩ := mo_cn hR hH ha
              have hcp := ru_cp hR hH hi hft l1
              have hhc := ru_hcp (c := c) hR hH ha hb hc
              refine l_MO_rule hB ha a40 a6 (ru_hr S 8 a b c) 0 (st_T S) [] f D2 (by unfold ru_hr; rw [if_pos rfl, List.length_map]; omega) (Nat.le_refl _) hf2 hfv g1 g2 l3 (fun i l hl => ⟨⟨(hhc l (List.mem_of_getElem? hl)).1, (hhc l (List.mem_of_getElem? hl)).2, (l4 i l hl).1⟩, by have := (l4 i l hl).2; rwa [show 64 + i = 64 + (0 + i) by omega] at this⟩) (fun D' f' b1 b2 b3 b4 b5 b6 b7 => ?_)
              obtain ⟨q1, q2⟩ := h12 (f := f') b1 l1 hbg h40 (by rw [b3]; constructor <;> intro h; exact h.resolve_left (by omega); exact Or.inr h)
              exact w_MO_rule hB b4 (tl_keeps_pre _ _ _) b5 b6 b7 ⟨hcp.1, hcp.2, l2⟩ b2 b1 h40 hg q1 q2
          ·
            refine sd_bipush (v := (-6)) dMO_rule_82 (by decide) ?_
            obtain ⟨L, l1, l2, l3, l4⟩ := hf0 (by omega)
            have hbg := ru_nbig l1 l2 (fun j l h => (l4 j l h).1) (by omega)
            rw [if_neg hbg, if_pos (by omega)] at he
            obtain ⟨rfl, rfl⟩ := Prod.mk.inj he
            exact sd_iret dMO_rule_84 rfl (Nat.le_refl _) (Nat.le_refl _) ⟨rfl, rfl, _, rfl, g1⟩
        ·
          refine sd_bipush (v := (-5)) dMO_rule_64 (by decide) ?_
          have hbg : ru_big S k a b c = true := ru_big_iff.mpr (by first | exact Or.inl (hf1 (by omega)) | exact Or.inr (by omega))
          rw [if_pos hbg] at he
          obtain ⟨rfl, rfl⟩ := Prod.mk.inj he
          exact sd_iret dMO_rule_66 rfl (Nat.le_refl _) (Nat.le_refl _) ⟨rfl, rfl, _, rfl, g1⟩
