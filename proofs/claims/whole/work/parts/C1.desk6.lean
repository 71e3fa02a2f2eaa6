/-! ===== the desk's rule ===== -/
theorem ku_i_app {T : List tl_T} {L : List Nat} {l : tl_T} (hl : l.length ≤ 24) : ∀ (ls : List tl_T) (T : List tl_T) (L : List Nat), (ku_i T L (ls ++ [l])).1 = tl_ku (ku_i T L ls).1 l
  | [], T, L => by
    simp only [List.nil_append, ku_i, hl, if_true]
  | m :: ls, T, L => by
    simp only [List.cons_append, ku_i]
    split
    · exact ku_i_app (T := T) (L := L) hl ls _ _
    · exact ku_i_app (T := T) (L := L) hl ls _ _
theorem tl_keeps_rs : ∀ (ls T : List tl_T) (L L' : List Nat), (tl_keeps T L ls).1 = (tl_keeps T L' ls).1
  | [], T, L, L' => rfl
  | m :: ls, T, L, L' => tl_keeps_rs ls _ _ _
theorem tl_kp_memN {T : List tl_T} {a : Nat} {l : tl_T} (hN : T.Nodup) (h : T[a]? = some l) : tl_kp T l = a ∧ tl_ku T l = T := by
  have e := tl_first h (fun j hj q => by
    have ha := getE_lt h
    have e1 : T[j]'(by omega) = T[a] := by
      have := q.trans h.symm
      rw [List.getElem?_eq_getElem (by omega), List.getElem?_eq_getElem ha] at this
      exact Option.some.inj this
    exact (List.pairwise_iff_getElem.mp hN j a (by omega) ha hj) e1)
  unfold tl_kp tl_ku
  rw [e]
  exact ⟨rfl, rfl⟩
theorem ru_hr_nil {S : st_S} {k a b c : Nat} (h : k ≠ 8) : ru_hr S k a b c = [] := by
  unfold ru_hr
  rw [if_neg h]
theorem ga_hyp {S : st_S} {k a b c t : Nat} (hi : ru_in S k a b c) (h8 : k ≠ 8) (h1 : k = 1 → t = a) : ga_L S k a b [] t = ru_hyp S k a b := by
  rcases hi with ⟨rfl | rfl | rfl, ha⟩ | ⟨rfl | rfl | rfl | rfl, ha, hb⟩ | ⟨rfl, ha, hb⟩ | ⟨rfl, ha, hb, hc⟩
  · rfl
  · rw [h1 rfl]
    rfl
  · rfl
  · rfl
  · rfl
  · rfl
  · rfl
  · rfl
  · exact absurd rfl h8
theorem ru_fst_lt {S : st_S} {k a b c : Nat} (hi : ru_in S k a b c) : (∀ p, ru_fst k a = some p → p < (st_th S).length) ∧ (∀ p, ru_snd k b = some p → p < (st_th S).length) := by
  rcases hi with ⟨rfl | rfl | rfl, ha⟩ | ⟨rfl | rfl | rfl | rfl, ha, hb⟩ | ⟨rfl, ha, hb⟩ | ⟨rfl, ha, hb, hc⟩
  · exact ⟨fun p e => (by cases e), fun p e => (by cases e)⟩
  · exact ⟨fun p e => (by cases e), fun p e => (by cases e)⟩
  · exact ⟨fun p e => (by cases e), fun p e => (by cases e)⟩
  · exact ⟨fun p e => (by cases e; exact ha), fun p e => by cases e; exact hb⟩
  · exact ⟨fun p e => (by cases e; exact ha), fun p e => by cases e; exact hb⟩
  · exact ⟨fun p e => (by cases e; exact ha), fun p e => by cases e; exact hb⟩
  · exact ⟨fun p e => (by cases e; exact ha), fun p e => by cases e; exact hb⟩
  · exact ⟨fun p e => (by cases e; exact ha), fun p e => (by cases e)⟩
  · exact ⟨fun p e => (by cases e; exact ha), fun p e => (by cases e)⟩
theorem c_RU_make {G : sd_G} {o : Nat} {D Dm : fx_D} {h0 : sd_H} {nx k a b c : Nat} {S S' : st_S} {x y z w ans : Int32} (hB : G.2.1 ≤ o) (hR : dk_R S D) (hM : mo_R S Dm) (hT : st_okT S) (hH : st_okH S) (hF : st_okF S) (hN : (st_T S).Nodup) (ht : ru_there S x y z w k a b c) (hs : (ans, S') = ru_do S k a b c) : sd_Ct G mRU_make 6 0 0 [.ref (o + 307), .int x, .int y, .int z, .int w] (fx_h G.1.2 dk_S o D h0) nx (fx_is G.1.2 dk_S o h0 nx (some (.int ans)) (dk_R S')) := by
  refine sd_Ct_of (by decide) (Nat.le_of_ble_eq_true rfl) ?_
  have hW := hR.W
  have h64 := hR.2.1.1
  have h40 := hW.2.2.1.1
  unfold ru_do at hs
  by_cases hfit : ru_fit S k a b c = true
  · rw [if_neg (by rw [hfit]; decide)] at hs
    have hi := ht.in
    have hcp : ∀ L, ru_row S k a b c = some L → tl_cp 1 L := fun L e => ru_cp hM hH hi hfit e
    refine sd_aload_n dRU_make_0 rfl rfl ?_
    refine sd_iload_n dRU_make_1 rfl rfl ?_
    refine sd_iload_n dRU_make_2 rfl rfl ?_
    refine sd_iload_n dRU_make_3 rfl rfl ?_
    refine sd_iload dRU_make_4 rfl ?_
    refine fx_cV 5 sR_RU [.int (x), .int (y), .int (z), .int (w)] [] dRU_make_6 kRU_26 rfl rfl mRU_areThere_v (c_RU_thereT hW ht) (by decide) (Nat.le_refl _) (Nat.le_refl _) (Nat.le_of_ble_eq_true rfl) rfl ?_
    refine nn_if_ne 14 dRU_make_9 (by decide) (by decide) (fun _ => ?_) (fun c => absurd c (by decide))
    refine sd_aload_n dRU_make_14 rfl rfl ?_
    refine sd_iload_n dRU_make_15 rfl rfl ?_
    refine sd_iload_n dRU_make_16 rfl rfl ?_
    refine sd_iload_n dRU_make_17 rfl rfl ?_
    refine sd_iload dRU_make_18 rfl ?_
    refine fx_cV 5 sR_RU [.int (x), .int (y), .int (z), .int (w)] [] dRU_make_20 kRU_30 rfl rfl mRU_fit_v (c_RU_fit hW hT hH ht (v := 1) (by omega) (by simp only [true_iff]; exact hfit)) (by decide) (Nat.le_refl _) (Nat.le_refl _) (Nat.le_of_ble_eq_true rfl) rfl ?_
    refine nn_if_ne 29 dRU_make_23 (by decide) (by decide) (fun _ => ?_) (fun c => absurd c (by decide))
    refine sd_aload_n dRU_make_29 rfl rfl ?_
    refine fx_getr 5 0 (1) dRU_make_30 fRU_17 rfl rfl ?_
    refine fx_getiv (v := (nI ((st_T S).length))) 8 2 dRU_make_33 fRU_33 rfl rfl (hW.2.1.2.1) ?_
    refine sd_istore dRU_make_36 (by decide) ?_
    refine sd_aload_n dRU_make_38 rfl rfl ?_
    refine sd_iload_n dRU_make_39 rfl rfl ?_
    refine sd_iload_n dRU_make_40 rfl rfl ?_
    refine sd_iload_n dRU_make_41 rfl rfl ?_
    refine sd_iload dRU_make_42 rfl ?_
    refine fx_cP 5 sR_RU [.int (x), .int (y), .int (z), .int (w)] [] dRU_make_44 kRU_36 rfl rfl mRU_write_v (c_RU_write hB hT hH ht hfit hcp hW h64) (by decide) (Nat.le_refl _) (Nat.le_refl _) (Nat.le_of_ble_eq_true rfl) rfl (fun D1 h1 => ?_)
    refine sd_locp (al' := [(0, .ref (o + (307))), (1, .int (x)), (2, .int (y)), (3, .int (z)), (4, .int (w)), (5, .int (nI ((st_T S).length)))]) [1, 2, 3, 4, 5, 0] rfl ?_
    obtain ⟨f1, f2, f3, X, hX, hp⟩ := h1
    obtain ⟨Y, hY1, hY2⟩ := ku_i_pre (ru_hr S k a b c) (st_T S) []
    have h7 : D1.2.1 307 2 = nI (st_th S).length := by rw [(f1 307 (by omega) (by omega) (by omega)).2.1]; exact hW.2.2.1.2.1
    unfold wc_P at hX
    rcases hp with ⟨p1, p2, p3, p4⟩ | ⟨p1, p2, H, p3, p4⟩
    · cases hrow : ru_row S k a b c with
      | none => simp only [hrow] at hX; omega
      | some L =>
        simp only [hrow] at hX
        subst hX
        obtain ⟨Z, hZ1, hZ2⟩ := tl_ku_pre (ku_i (st_T S) [] (ru_hr S k a b c)).1 X
        have pre : tl_ku (ku_i (st_T S) [] (ru_hr S k a b c)).1 X = st_T S ++ (Y ++ Z) := by rw [hZ1, hY1, List.append_assoc]
        have p2' := p2
        rw [pre] at p2'
        have hback := dk_R_back hR f1 h40 p2'
        have a1 : k = 1 → tl_kp (ku_i (st_T S) [] (ru_hr S k a b c)).1 X = a ∧ tl_ku (ku_i (st_T S) [] (ru_hr S k a b c)).1 X = st_T S := fun q => by
          subst q
          have e : ru_hr S 1 a b c = [] := rfl
          rw [e]
          cases hrow
          rcases hi with ⟨-, q⟩ | ⟨q, -⟩ | ⟨q, -⟩ | ⟨q, -⟩
          · show tl_kp (st_T S) _ = a ∧ tl_ku (st_T S) _ = st_T S
            exact tl_kp_memN hN (by rw [st_tm, List.getElem?_eq_getElem q]; rfl)
          · omega
          · omega
          · omega
        by_cases hbig : ru_big S k a b c = true
        · rw [if_pos hbig] at hs
          cases hs
          have hl : 6 < (ga_L S k a b (ku_i (st_T S) [] (ru_hr S k a b c)).2 (tl_kp (ku_i (st_T S) [] (ru_hr S k a b c)).1 X)).length := by
            rcases ru_big_iff.mp hbig with (q | q) | q
            · have := q X hrow
              omega
            · exact Nat.lt_of_lt_of_le (ku_i_big _ _ _ q) (ga_L_ge _ _ _ _ _ _)
            · by_cases h8 : k = 8
              · subst h8
                exact absurd q (by show ¬ 6 < ([] : List Nat).length; decide)
              · rw [ru_hr_nil h8] at a1 ⊢
                have e := ga_hyp (t := tl_kp (st_T S) X) hi h8 (fun e => (a1 e).1)
                show 6 < (ga_L S k a b [] (tl_kp (st_T S) X)).length
                rw [e]
                exact q
          obtain ⟨-, -, -, hb1⟩ := so_w.ln p4
          exact l_RU_make_big hB h40 h7 (hb1 hl) hback
        · rw [if_neg hbig] at hs
          have nb : ¬ ((ru_bg1 S k a b c) ∨ 6 < (ru_hyp S k a b).length) := fun q => hbig (ru_big_iff.mpr q)
          have allS : ∀ l ∈ ru_hr S k a b c, l.length ≤ 24 := fun l hl => by
            by_cases q : l.length ≤ 24
            · exact q
            · exact absurd (Or.inl (Or.inr ⟨l, hl, by omega⟩)) nb
          have allS' : ∀ l ∈ ru_hr S k a b c ++ [X], l.length ≤ 24 := fun l hl => by
            rcases List.mem_append.mp hl with q | q
            · exact allS l q
            · rw [List.mem_singleton.mp q]; exact p1
          have lens : (ku_i (st_T S) [] (ru_hr S k a b c)).2.length ≤ 6 := by
            by_cases h8 : k = 8
            · subst h8
              have : ∀ (ls T : List tl_T) (L : List Nat), (∀ l ∈ ls, l.length ≤ 24) → (ku_i T L ls).2.length ≤ L.length + ls.length := by
                intro ls
                induction ls with
                | nil => intro T L _; exact Nat.le_refl _
                | cons l ls ih =>
                  intro T L hl
                  unfold ku_i
                  rw [if_pos (hl l (List.mem_cons_self ..))]
                  have q1 := ih (tl_ku T l) (ls_h L (tl_kp T l)) (fun m hm => hl m (List.mem_cons_of_mem _ hm))
                  have q2 := ls_h_len L (tl_kp T l)
                  simp only [List.length_cons]
                  omega
              have q := this _ (st_T S) [] allS
              have q2 : (ru_hr S 8 a b c).length ≤ 6 := by
                show ((st_hy S a).map _).length ≤ 6
                rw [List.length_map]
                rcases hi with ⟨q, -⟩ | ⟨q, -⟩ | ⟨q, -⟩ | ⟨-, q, -⟩
                · omega
                · omega
                · omega
                · have := (hH a _ (List.getElem?_eq_getElem q)).2.2
                  unfold st_hy
                  rw [List.getElem?_eq_getElem q]
                  exact this
              simp only [List.length_nil] at q
              omega
            · rw [ru_hr_nil h8]
              exact Nat.zero_le _
          have hyp : ga_L S k a b (ku_i (st_T S) [] (ru_hr S k a b c)).2 (tl_kp (ku_i (st_T S) [] (ru_hr S k a b c)).1 X) = (if k = 8 then (ku_i (st_T S) [] (ru_hr S k a b c)).2 else ru_hyp S k a b) := by
            by_cases h8 : k = 8
            · subst h8
              rfl
            · rw [if_neg h8]
              rw [ru_hr_nil h8] at a1 ⊢
              exact ga_hyp (t := tl_kp (st_T S) X) hi h8 (fun e => (a1 e).1)
          have hle : (ga_L S k a b (ku_i (st_T S) [] (ru_hr S k a b c)).2 (tl_kp (ku_i (st_T S) [] (ru_hr S k a b c)).1 X)).length ≤ 6 := by
            rw [hyp]
            split
            · exact lens
            · exact Nat.le_of_not_lt (fun q => nb (Or.inr q))
          obtain ⟨R, hr1, hr2, -⟩ := so_w.ln p4
          obtain ⟨hr3, hb0⟩ := hr2 hle
          have hm := p2.2.1
          have hm71 := p2.1
          by_cases hth : (st_th S).length = 40
          · rw [if_pos hth] at hs
            cases hs
            exact l_RU_make_full (m := (tl_ku (ku_i (st_T S) [] (ru_hr S k a b c)).1 X).length) hB h40 h7 hb0 (by omega) hm (Or.inr hth) hback
          · rw [if_neg hth] at hs
            have kapp := ku_i_app (T := []) (L := []) p1 (ru_hr S k a b c) (st_T S) []
            rw [hrow] at hs
            simp only [Option.getD_some] at hs
            by_cases hfu : tl_full (st_T S) (ru_hr S k a b c ++ [X]) = true
            · rw [if_pos hfu] at hs
              cases hs
              have := ku_i_full _ _ [] allS' h64 hfu
              rw [kapp] at this
              exact l_RU_make_full (m := (tl_ku (ku_i (st_T S) [] (ru_hr S k a b c)).1 X).length) hB h40 h7 hb0 (by omega) hm (Or.inl this) hback
            · rw [if_neg hfu] at hs
              obtain ⟨fa1, fa2⟩ := tl_full_app (ru_hr S k a b c) X (st_T S) (ru_hyp S k a b)
              have hfA : tl_full (st_T S) (ru_hr S k a b c) = false := by
                cases q : tl_full (st_T S) (ru_hr S k a b c)
                · rfl
                · exact absurd (fa1.mpr (Or.inl q)) hfu
              obtain ⟨e1, -⟩ := ku_i_ok (ru_hr S k a b c) (st_T S) [] allS h64 hfA
              obtain ⟨e2, e3⟩ := ku_i_ok (ru_hr S k a b c ++ [X]) (st_T S) [] allS' h64 (by simpa using hfu)
              have e4 : (tl_keeps (st_T S) (ru_hyp S k a b) (ru_hr S k a b c ++ [X])).1 = tl_ku (ku_i (st_T S) [] (ru_hr S k a b c)).1 X := by rw [← kapp, e2]; exact tl_keeps_rs _ _ _ _
              have e5 : (tl_keeps (st_T S) (ru_hyp S k a b) (ru_hr S k a b c)).1 = (ku_i (st_T S) [] (ru_hr S k a b c)).1 := by rw [e1]; exact tl_keeps_rs _ _ _ _
              have e6 : (tl_keeps (st_T S) (ru_hyp S k a b) (ru_hr S k a b c)).2 = (if k = 8 then (ku_i (st_T S) [] (ru_hr S k a b c)).2 else ru_hyp S k a b) := by
                by_cases h8 : k = 8
                · subst h8
                  rw [if_pos rfl, e1]
                  rfl
                · rw [if_neg h8, ru_hr_nil h8]
                  rfl
              rw [e4, e5, e6, ← hyp] at hs
              obtain ⟨rfl, rfl⟩ := Prod.mk.inj hs
              have hm64 : (tl_ku (ku_i (st_T S) [] (ru_hr S k a b c)).1 X).length ≤ 64 := by rw [← kapp, e2]; exact e3
              have ff := ru_fst_lt hi
              subst hr3
              refine l_RU_make_ok (m := (tl_ku (ku_i (st_T S) [] (ru_hr S k a b c)).1 X).length) hB (by omega) h7 hb0 hm64 hm (dk_R_ru hR (fun x q1 q2 q3 => (f1 x q1 q2 (by omega)).tr (ag_uf (by omega))) (dk_tms_307 hm64 p2) ?_)
              have u : ∀ x, x ≠ 307 → ag D1 (fx_uf D1 307 2 (nI ((st_th S).length + 1))) x := fun x hx => ag_uf hx
              exact dk_thm_new (S' := (S.1, tl_ku (ku_i (st_T S) [] (ru_hr S k a b c)).1 X, S.2.2.1, _, S.2.2.2.2)) hF hW.2.2.1 (by omega) rfl ff.1 ff.2 (fun x q1 q2 => (f1 x (by omega) (by omega) (by omega)).tr (u x (by omega))) (by simp [fx_uf, upd]) (so_r_ag (u _ (by omega)) (u _ (by omega)) hr1) (by rw [(u _ (by omega)).2.1]; exact p3) (by rw [(u _ (by omega)).2.1]; exact f2) (by rw [(u _ (by omega)).2.2]; exact f3)
    · have hbig : ru_big S k a b c = true := by
        rw [ru_big_iff]
        refine Or.inl (Or.inl fun L e => ?_)
        rw [e] at hX
        have : X = L := hX
        rw [← this]
        exact p1
      rw [if_pos hbig] at hs
      cases hs
      rw [hY1] at p2
      obtain ⟨-, -, -, hb1⟩ := so_w.ln p4
      exact l_RU_make_big hB h40 h7 (hb1 p3) (dk_R_back hR f1 h40 p2)
  · have hff : ru_fit S k a b c = false := by simpa using hfit
    rw [if_pos hff] at hs
    cases hs
    refine sd_aload_n dRU_make_0 rfl rfl ?_
    refine sd_iload_n dRU_make_1 rfl rfl ?_
    refine sd_iload_n dRU_make_2 rfl rfl ?_
    refine sd_iload_n dRU_make_3 rfl rfl ?_
    refine sd_iload dRU_make_4 rfl ?_
    refine fx_cV 5 sR_RU [.int (x), .int (y), .int (z), .int (w)] [] dRU_make_6 kRU_26 rfl rfl mRU_areThere_v (c_RU_thereT hW ht) (by decide) (Nat.le_refl _) (Nat.le_refl _) (Nat.le_of_ble_eq_true rfl) rfl ?_
    refine nn_if_ne 14 dRU_make_9 (by decide) (by decide) (fun _ => ?_) (fun c => absurd c (by decide))
    refine sd_aload_n dRU_make_14 rfl rfl ?_
    refine sd_iload_n dRU_make_15 rfl rfl ?_
    refine sd_iload_n dRU_make_16 rfl rfl ?_
    refine sd_iload_n dRU_make_17 rfl rfl ?_
    refine sd_iload dRU_make_18 rfl ?_
    refine fx_cV 5 sR_RU [.int (x), .int (y), .int (z), .int (w)] [] dRU_make_20 kRU_30 rfl rfl mRU_fit_v (c_RU_fit hW hT hH ht (v := 0) (by omega) (by constructor; intro e; cases e; intro e; exact absurd e hfit)) (by decide) (Nat.le_refl _) (Nat.le_refl _) (Nat.le_of_ble_eq_true rfl) rfl ?_
    refine nn_if_ne 29 dRU_make_23 (by decide) (by decide) (fun c => absurd c (by decide)) (fun _ => ?_)
    refine sd_bipush (v := (-4)) dRU_make_26 (by decide) ?_
    exact sd_iret dRU_make_28 rfl (Nat.le_refl _) (Nat.le_refl _) ⟨rfl, rfl, D, rfl, hR⟩
theorem c_RU_make0 {G : sd_G} {o : Nat} {D : fx_D} {h0 : sd_H} {nx : Nat} {S : st_S} {x y z w : Int32} (hR : dk_R S D) (ht : ¬ ∃ k a b c, ru_there S x y z w k a b c) : sd_Ct G mRU_make 6 0 0 [.ref (o + 307), .int x, .int y, .int z, .int w] (fx_h G.1.2 dk_S o D h0) nx (fx_is G.1.2 dk_S o h0 nx (some (.int (-1))) (dk_R S)) := by
  refine sd_Ct_of (by decide) (Nat.le_of_ble_eq_true rfl) ?_
  refine sd_aload_n dRU_make_0 rfl rfl ?_
  refine sd_iload_n dRU_make_1 rfl rfl ?_
  refine sd_iload_n dRU_make_2 rfl rfl ?_
  refine sd_iload_n dRU_make_3 rfl rfl ?_
  refine sd_iload dRU_make_4 rfl ?_
  refine fx_cV 5 sR_RU [.int (x), .int (y), .int (z), .int (w)] [] dRU_make_6 kRU_26 rfl rfl mRU_areThere_v (c_RU_thereF hR.W ht) (by decide) (Nat.le_refl _) (Nat.le_refl _) (Nat.le_of_ble_eq_true rfl) rfl ?_
  refine nn_if_ne 14 dRU_make_9 (by decide) (by decide) (fun c => absurd c (by decide)) (fun _ => ?_)
  refine sd_iconst (v := (-1)) dRU_make_12 (by decide) ?_
  exact sd_iret dRU_make_13 rfl (Nat.le_refl _) (Nat.le_refl _) ⟨rfl, rfl, D, rfl, hR⟩
theorem dDK_rule_0 : decode prog_1_method_9_code 0 = .ok (.aload_n 0, 1) := by decide +kernel
theorem dDK_rule_1 : decode prog_1_method_9_code 1 = .ok (.getfield 35, 3) := by decide +kernel
theorem dDK_rule_4 : decode prog_1_method_9_code 4 = .ok (.iload_n 1, 1) := by decide +kernel
theorem dDK_rule_5 : decode prog_1_method_9_code 5 = .ok (.iload_n 2, 1) := by decide +kernel
theorem dDK_rule_6 : decode prog_1_method_9_code 6 = .ok (.iload_n 3, 1) := by decide +kernel
theorem dDK_rule_7 : decode prog_1_method_9_code 7 = .ok (.iload 4, 2) := by decide +kernel
theorem dDK_rule_9 : decode prog_1_method_9_code 9 = .ok (.invokevirtual 123, 3) := by decide +kernel
theorem dDK_rule_12 : decode prog_1_method_9_code 12 = .ok (.ireturn, 1) := by decide +kernel
theorem c_DK_rule {G : sd_G} {o : Nat} {D Dm : fx_D} {h0 : sd_H} {nx : Nat} {S S' : st_S} {x y z w ans : Int32} (hB : G.2.1 ≤ o) (hR : dk_R S D) (hM : mo_R S Dm) (hT : st_okT S) (hH : st_okH S) (hF : st_okF S) (hN : (st_T S).Nodup) (hs : sp_rule S x y z w ans S') : sd_Ct G mDK_rule 7 0 0 [.ref (o + 0), .int x, .int y, .int z, .int w] (fx_h G.1.2 dk_S o D h0) nx (fx_is G.1.2 dk_S o h0 nx (some (.int ans)) (dk_R S')) := by
  refine sd_Ct_of (by decide) (Nat.le_of_ble_eq_true rfl) ?_
  have hct : sd_Ct G mRU_make 6 0 0 [.ref (o + 307), .int x, .int y, .int z, .int w] (fx_h G.1.2 dk_S o D h0) nx (fx_is G.1.2 dk_S o h0 nx (some (.int ans)) (dk_R S')) := by
    rcases hs with ⟨h1, rfl, h2⟩ | ⟨k, a, b, c, h1, h2⟩
    · rw [h2]
      exact c_RU_make0 hR h1
    · exact c_RU_make hB hR hM hT hH hF hN h1 h2
  refine sd_aload_n dDK_rule_0 rfl rfl ?_
  refine fx_getr 0 3 (307) dDK_rule_1 fDK_35 rfl rfl ?_
  refine sd_iload_n dDK_rule_4 rfl rfl ?_
  refine sd_iload_n dDK_rule_5 rfl rfl ?_
  refine sd_iload_n dDK_rule_6 rfl rfl ?_
  refine sd_iload dDK_rule_7 rfl ?_
  refine fx_cP 5 sR_RU [.int (x), .int (y), .int (z), .int (w)] [] dDK_rule_9 kDK_123 rfl rfl mRU_make_v (hct) (by decide) (Nat.le_refl _) (Nat.le_refl _) (Nat.le_of_ble_eq_true rfl) rfl (fun D1 h1 => ?_)
  exact sd_iret dDK_rule_12 rfl (Nat.le_refl _) (Nat.le_refl _) ⟨rfl, rfl, _, rfl, h1⟩
