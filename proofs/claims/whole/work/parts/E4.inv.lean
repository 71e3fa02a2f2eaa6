/-! ===== what holds of every state ===== -/
def st_inv (S : st_S) : Prop := st_okW S ∧ st_ok4 S ∧ st_okH S ∧ st_okX S ∧ st_okF S ∧ (st_T S).Nodup ∧ st_okD S
theorem st_tm_get {S : st_S} {t : Nat} (ht : t < (st_T S).length) : (st_T S)[t]? = some (st_tm S t) := by
  unfold st_tm
  rw [List.getElem?_eq_getElem ht]
  rfl
theorem st_okW.T {S : st_S} (h : st_okW S) : st_okT S := fun l hl x hx => by
  obtain ⟨j, hj⟩ := List.mem_iff_getElem?.mp hl
  have el : st_tm S j = l := by unfold st_tm; rw [hj]; rfl
  have := (h.h (getE_lt hj)).cp.2.2.2
  rw [el] at this
  exact this x hx
theorem st_inv.C {S : st_S} (h : st_inv S) : st_okC S := ⟨h.1.T, h.2.2.1, h.2.2.2.1.G, h.2.2.2.1.O, h.2.2.2.1.N, h.2.2.2.2.2.1, h.2.2.2.2.2.2, h.1.V⟩
theorem st_inv.k {S : st_S} (h : st_inv S) : st_ok S := ⟨h.1.T, h.2.2.1, h.2.2.2.1.G, h.2.2.2.1.O, h.2.2.2.1.N⟩
theorem tm_app {S S' : st_S} {X : List tl_T} (e : st_T S' = st_T S ++ X) {t : Nat} (ht : t < (st_T S).length) : st_tm S' t = st_tm S t := by
  unfold st_tm
  rw [e, List.getElem?_append_left ht]
theorem okW_app {S S' : st_S} {X : List tl_T} (h : st_okW S) (hn : st_nt S' = st_nt S) (e : st_T S' = st_T S ++ X) (hX : ∀ l ∈ X, ∃ u, WT (st_nt S) [] l u) : st_okW S' := fun t ht => by
  rw [hn]
  by_cases q : t < (st_T S).length
  · rw [tm_app e q]
    exact h t q
  · rw [e, List.length_append] at ht
    refine hX (st_tm S' t) ?_
    unfold st_tm
    rw [e, List.getElem?_append_right (by omega), List.getElem?_eq_getElem (by omega)]
    exact List.getElem_mem _
theorem okH_app {S S' : st_S} {X : List tl_T} (h : st_okH S) (e : st_T S' = st_T S ++ X) (et : st_th S' = st_th S) : st_okH S' := fun p q hq => by
  rw [et] at hq
  obtain ⟨a, b, c⟩ := h p q hq
  rw [e, List.length_append]
  exact ⟨by omega, fun t ht => by have := b t ht; omega, c⟩
theorem okX_app {S S' : st_S} {X : List tl_T} {Y : List st_Th} (h : st_okX S) (e : st_T S' = st_T S ++ X) (et : st_th S' = st_th S ++ Y) (eg : st_gl S' = st_gl S) (eo : st_op S' = st_op S) (ed : st_dn S' = st_dn S) : st_okX S' := by
  unfold st_okX
  rw [e, et, eg, eo, ed, List.length_append]
  exact un_mono (by omega) _ _ _ h
/-- terms that are kept -/
theorem kt_nd {T : List tl_T} {l : tl_T} (h : T.Nodup) : (tl_kt T l).Nodup := by
  unfold tl_kt
  cases e : T.idxOf? l with
  | some k => exact h
  | none =>
    simp only
    split
    · exact h
    · rw [List.nodup_append]
      refine ⟨h, by simp, fun a ha b hb => ?_⟩
      rw [List.mem_singleton.mp hb]
      intro q
      rw [q] at ha
      exact List.idxOf?_eq_none_iff.mp e ha
theorem kt_get {T : List tl_T} {l : tl_T} (h : tl_kp T l < 64) (hT : T.length ≤ 64) : (tl_kt T l)[tl_kp T l]? = some l := by
  rw [← (tl_kp_lt64 hT h).1]
  obtain ⟨q1, q2, -⟩ := List.idxOf?_eq_some_iff.mp (tl_ku_idx T l)
  rw [List.getElem?_eq_getElem q1, q2]
theorem all_inv : ∀ (rows T : List tl_T), T.Nodup → (tl_all T rows).Nodup ∧ ∃ X, tl_all T rows = T ++ X ∧ ∀ l ∈ X, l ∈ rows
  | [], T, h => ⟨h, [], by simp [tl_all], fun l hl => by cases hl⟩
  | r :: rows, T, h => by
    obtain ⟨h1, X, h2, h3⟩ := all_inv rows (tl_kt T r) (kt_nd h)
    obtain ⟨Y, hY⟩ := tl_kt_pre (T := T) (l := r)
    have hYm : ∀ l ∈ Y, l = r ∨ l ∈ T := fun l hl => by
      rcases tl_kt_mem (T := T) (l := r) (m := l) (by rw [hY]; exact List.mem_append_right _ hl) with q | q
      · exact Or.inr q
      · exact Or.inl q
    have hnd := kt_nd (l := r) h
    rw [hY, List.nodup_append] at hnd
    refine ⟨h1, Y ++ X, by show tl_all (tl_kt T r) rows = _; rw [h2, hY, List.append_assoc], fun l hl => ?_⟩
    rcases List.mem_append.mp hl with hl | hl
    · rcases hYm l hl with q | q
      · rw [q]
        exact List.mem_cons_self ..
      · exact absurd rfl (hnd.2.2 l q l hl)
    · exact List.mem_cons_of_mem _ (h3 l hl)
theorem keeps_all : ∀ (rows T : List tl_T) (rs : List Nat), (tl_keeps T rs rows).1 = tl_all T rows
  | [], T, rs => rfl
  | r :: rows, T, rs => keeps_all rows (tl_kt T r) _
theorem all_app : ∀ (rows T : List tl_T) (r : tl_T), tl_all T (rows ++ [r]) = tl_kt (tl_all T rows) r
  | [], T, r => rfl
  | q :: rows, T, r => all_app rows (tl_kt T q) r
theorem all_le : ∀ (rows T : List tl_T), T.length ≤ 64 → (tl_all T rows).length ≤ 64
  | [], T, h => h
  | r :: rows, T, h => all_le rows _ (tl_kt_le h)
theorem nums_get : ∀ (rows T : List tl_T), T.length ≤ 64 → tl_full T rows = false → ∀ n ∈ tl_nums T rows, ∃ l ∈ rows, (tl_all T rows)[n]? = some l
  | [], T, _, _, n, hn => by cases hn
  | r :: rows, T, hT, hf, n, hn => by
    simp only [tl_full, Bool.or_eq_false_iff, Bool.not_eq_false', decide_eq_true_eq] at hf
    rcases List.mem_cons.mp hn with rfl | hn
    · refine ⟨r, List.mem_cons_self .., ?_⟩
      have g := kt_get hf.1 hT
      obtain ⟨X, hX⟩ := tl_all_pre rows (tl_kt T r)
      show (tl_all (tl_kt T r) rows)[_]? = _
      rw [hX, List.getElem?_append_left (getE_lt g)]
      exact g
    · obtain ⟨l, h1, h2⟩ := nums_get rows (tl_kt T r) (tl_kt_le hT) hf.2 n hn
      exact ⟨l, List.mem_cons_of_mem _ h1, h2⟩
theorem keeps_mem : ∀ (rows T : List tl_T) (rs : List Nat), T.length ≤ 64 → tl_full T rows = false → (∀ t ∈ rs, t < T.length) → (∀ t ∈ (tl_keeps T rs rows).2, t < (tl_keeps T rs rows).1.length) ∧ (tl_keeps T rs rows).2.length ≤ rs.length + rows.length
  | [], T, rs, _, _, h => ⟨h, Nat.le_refl _⟩
  | r :: rows, T, rs, hT, hf, h => by
    simp only [tl_full, Bool.or_eq_false_iff, Bool.not_eq_false', decide_eq_true_eq] at hf
    rw [tl_keeps, if_pos hf.1]
    obtain ⟨Y, hY⟩ := tl_kt_pre (T := T) (l := r)
    obtain ⟨i1, i2⟩ := keeps_mem rows (tl_kt T r) (ls_h rs (tl_kp T r)) (tl_kt_le hT) hf.2 (fun t ht => by
      rcases ls_h_mem ht with q | q
      · have := h t q
        rw [hY, List.length_append]
        omega
      · rw [q]
        exact tl_kp_lt hf.1 hT)
    have := ls_h_len rs (tl_kp T r)
    exact ⟨i1, by simp only [List.length_cons]; omega⟩
theorem inv_dr {S : st_S} {dr : List Nat} (h : st_inv S) : st_inv (S.1, S.2.1, dr, S.2.2.2) := h
theorem inv_declare {S S' : st_S} {x y a : Int32} (h : st_inv S) (hs : sp_declare S x y a S') : st_inv S' := by
  rcases hs with ⟨-, -, rfl⟩ | ⟨-, -, -, -, rfl⟩ | ⟨v, t, -, -, -, -, hT, -, rfl⟩
  · exact h
  · exact h
  · obtain ⟨h1, h2, h3, h4, h5, h6, h7⟩ := h
    refine ⟨fun t ht => ?_, h2, h3, h4, h5, h6, h7⟩
    have : t < (st_T S).length := ht
    rw [hT] at this
    exact absurd this (by simp)
theorem inv_token {S S' : st_S} {x a : Int32} (h : st_inv S) (hs : sp_token S x a S') : st_inv S' := by
  rcases hs with ⟨-, -, rfl⟩ | ⟨-, -, -, rfl⟩ | ⟨t, -, -, -, -, rfl⟩
  · exact h
  · exact h
  · exact inv_dr h
theorem inv_clear {S S' : st_S} {a : Int32} (h : st_inv S) (hs : sp_clear S a S') : st_inv S' := by
  obtain ⟨-, rfl⟩ := hs
  exact inv_dr h
theorem inv_read {S S' : st_S} {D : fx_D} {a : Int32} (h : st_inv S) (hM : mo_R S D) (hs : sp_read S a S') : st_inv S' := by
  rcases hs with ⟨-, -, rfl⟩ | ⟨-, -, -, rfl⟩ | ⟨hcp, σ, hσ, hdo⟩
  · exact h
  · exact h
  · unfold rd_do at hdo
    by_cases hb : rd_big σ (sp_l (st_dr S)).length = true
    · rw [if_pos hb] at hdo
      cases hdo
      exact h
    · rw [if_neg hb] at hdo
      by_cases hk : tl_kp (st_T S) (rd_row (sp_l (st_dr S)) σ) < 64
      · rw [if_pos hk] at hdo
        obtain ⟨-, hS⟩ := Prod.mk.inj hdo
        subst hS
        obtain ⟨h1, h2, h3, h4, h5, h6, h7⟩ := h
        have hw := rd_wt hcp hM.2.2.2.1.1 (fun k x hx => (hM.2.2.2.1.2.2 k x hx).2) (fun v hv => (hM.1 v hv).2) hσ (by simpa using hb)
        obtain ⟨n1, X, e, hX⟩ := all_inv [rd_row (sp_l (st_dr S)) σ] (st_T S) h6
        have e' : tl_kt (st_T S) (rd_row (sp_l (st_dr S)) σ) = st_T S ++ X := e
        refine ⟨okW_app (S := S) (X := X) h1 rfl e' (fun l hl => ?_), ⟨fun p hp => ?_, fun g hg => ?_⟩, okH_app (S := S) (X := X) h3 e' rfl, okX_app (S := S) (X := X) (Y := []) h4 e' (by simp; rfl) rfl rfl rfl, h5, n1, h7⟩
        · have := hX l hl
          rw [List.mem_singleton] at this
          rw [this]
          exact ⟨_, hw⟩
        · obtain ⟨q1, q2⟩ := h2.1 p hp
          refine ⟨by show st_cn S p < (tl_kt _ _).length; rw [e', List.length_append]; omega, ?_⟩
          have := tm_app (S := S) (S' := (S.1, tl_kt (st_T S) (rd_row (sp_l (st_dr S)) σ), [], S.2.2.2)) e' q1
          show (tl_at (st_tm (S.1, tl_kt (st_T S) (rd_row (sp_l (st_dr S)) σ), [], S.2.2.2) (st_cn S p)) 0).2 = 4
          rw [this]
          exact q2
        · obtain ⟨q1, q2⟩ := h2.2 g hg
          refine ⟨by show st_gt S g < (tl_kt _ _).length; rw [e', List.length_append]; omega, ?_⟩
          have := tm_app (S := S) (S' := (S.1, tl_kt (st_T S) (rd_row (sp_l (st_dr S)) σ), [], S.2.2.2)) e' q1
          show (tl_at (st_tm (S.1, tl_kt (st_T S) (rd_row (sp_l (st_dr S)) σ), [], S.2.2.2) (st_gt S g)) 0).2 = 4
          rw [this]
          exact q2
      · rw [if_neg hk] at hdo
        obtain ⟨-, hS⟩ := Prod.mk.inj hdo
        subst hS
        exact h
theorem ru_hyp_lt {S : st_S} {k a b c : Nat} (hH : st_okH S) (hi : ru_in S k a b c) : ∀ t ∈ ru_hyp S k a b, t < (st_T S).length := by
  have hy : ∀ {p}, p < (st_th S).length → ∀ t ∈ st_hy S p, t < (st_T S).length := fun {p} hp t ht => by
    have e := List.getElem?_eq_getElem hp
    exact (hH p _ e).2.1 t (by unfold st_hy at ht; rw [e] at ht; exact ht)
  have one : ∀ {M : List Nat} {x : Int32} {p}, (∀ t ∈ M, t < (st_T S).length) → p < (st_th S).length → ∀ t ∈ ls_g M x (st_hy S p), t < (st_T S).length := fun {M x p} hM hp t ht => by
    rcases ls_g_mem _ _ _ _ ht with q | q
    · exact hM t q
    · exact hy hp t q.1
  have nil : ∀ t ∈ ([] : List Nat), t < (st_T S).length := fun t ht => by cases ht
  rcases hi with ⟨rfl | rfl | rfl, ha⟩ | ⟨rfl | rfl | rfl | rfl, ha, hb⟩ | ⟨rfl, ha, hb⟩ | ⟨rfl, ha, hb, hc⟩
  · exact nil
  · intro t ht
    rw [List.mem_singleton.mp ht]
    exact ha
  · exact nil
  · exact one (one nil ha) hb
  · exact one (one nil ha) hb
  · exact one (one nil ha) hb
  · exact one (one nil ha) hb
  · exact one nil ha
  · exact nil
theorem inv_rule {S S' : st_S} {D : fx_D} {x y z w ans : Int32} (h : st_inv S) (hM : mo_R S D) (hs : sp_rule S x y z w ans S') : st_inv S' := by
  rcases hs with ⟨-, -, rfl⟩ | ⟨k, a, b, c, ht, hdo⟩
  · exact h
  · have hi := ht.in
    unfold ru_do at hdo
    by_cases hfit : ru_fit S k a b c = true
    · rw [if_neg (by rw [hfit]; decide)] at hdo
      by_cases hbig : ru_big S k a b c = true
      · rw [if_pos hbig] at hdo
        cases hdo
        exact h
      · rw [if_neg hbig] at hdo
        by_cases h40 : (st_th S).length = 40
        · rw [if_pos h40] at hdo
          cases hdo
          exact h
        · rw [if_neg h40] at hdo
          cases hrow : ru_row S k a b c with
          | none =>
            exact absurd (ru_big_iff.mpr (Or.inl (Or.inl (fun L e => by rw [hrow] at e; cases e)))) hbig
          | some L =>
            rw [hrow] at hdo
            simp only [Option.getD_some] at hdo
            by_cases hfu : tl_full (st_T S) (ru_hr S k a b c ++ [L]) = true
            · rw [if_pos hfu] at hdo
              cases hdo
              exact h
            · rw [if_neg hfu] at hdo
              obtain ⟨-, hS⟩ := Prod.mk.inj hdo
              obtain ⟨h1, h2, h3, h4, h5, h6, h7⟩ := h
              have T64 := hM.2.1.1
              have hn : ∀ v, v < 8 → ty_ok (st_nt S v) := fun v hv => (hM.1 v hv).2
              have wL := ru_wt h1 h2 hn hi hfit hrow
              obtain ⟨fa1, fa2⟩ := tl_full_app (ru_hr S k a b c) L (st_T S) (ru_hyp S k a b)
              have nA : tl_full (st_T S) (ru_hr S k a b c) = false := by
                cases q : tl_full (st_T S) (ru_hr S k a b c)
                · rfl
                · exact absurd (fa1.mpr (Or.inl q)) hfu
              have kp64 : tl_kp (tl_keeps (st_T S) (ru_hyp S k a b) (ru_hr S k a b c)).1 L < 64 := by
                by_cases q : tl_kp (tl_keeps (st_T S) (ru_hyp S k a b) (ru_hr S k a b c)).1 L < 64
                · exact q
                · exact absurd (fa1.mpr (Or.inr q)) hfu
              have T1le : (tl_keeps (st_T S) (ru_hyp S k a b) (ru_hr S k a b c)).1.length ≤ 64 := by rw [keeps_all]; exact all_le _ _ T64
              have g := kt_get kp64 T1le
              rw [← fa2] at g
              have glt := getE_lt g
              obtain ⟨km1, km2⟩ := keeps_mem (ru_hr S k a b c) (st_T S) (ru_hyp S k a b) T64 nA (ru_hyp_lt h3 hi)
              obtain ⟨n1, X, e, hX⟩ := all_inv (ru_hr S k a b c ++ [L]) (st_T S) h6
              rw [← keeps_all _ _ (ru_hyp S k a b)] at n1 e
              have T1T2 : (tl_keeps (st_T S) (ru_hyp S k a b) (ru_hr S k a b c)).1.length ≤ (tl_keeps (st_T S) (ru_hyp S k a b) (ru_hr S k a b c ++ [L])).1.length := by
                rw [fa2]
                obtain ⟨Z, hZ⟩ := tl_kt_pre (T := (tl_keeps (st_T S) (ru_hyp S k a b) (ru_hr S k a b c)).1) (l := L)
                rw [hZ, List.length_append]
                omega
              have nbh : ¬ 6 < (ru_hyp S k a b).length := fun q => hbig (ru_big_iff.mpr (Or.inr q))
              have l6 : (tl_keeps (st_T S) (ru_hyp S k a b) (ru_hr S k a b c)).2.length ≤ 6 := by
                by_cases h8 : k = 8
                · subst h8
                  have q2 : (ru_hr S 8 a b c).length ≤ 6 := by
                    show ((st_hy S a).map _).length ≤ 6
                    rw [List.length_map]
                    rcases hi with ⟨q, -⟩ | ⟨q, -⟩ | ⟨q, -⟩ | ⟨-, q, -⟩
                    · omega
                    · omega
                    · omega
                    · have := (h3 a _ (List.getElem?_eq_getElem q)).2.2
                      unfold st_hy
                      rw [List.getElem?_eq_getElem q]
                      exact this
                  have q3 : (ru_hyp S 8 a b).length = 0 := rfl
                  omega
                · rw [ru_hr_nil h8] at km2 ⊢
                  simp only [List.length_nil] at km2
                  omega
              have ff := ru_fst_lt hi
              generalize hS2 : st_T S' = T2
              have eT : st_T S' = st_T S ++ X := by rw [hS]; exact e
              have eth : st_th S' = st_th S ++ [(tl_kp (tl_keeps (st_T S) (ru_hyp S k a b) (ru_hr S k a b c)).1 L, (tl_keeps (st_T S) (ru_hyp S k a b) (ru_hr S k a b c)).2, k, ru_fst k a, ru_snd k b)] := by rw [hS]; rfl
              have eT2 : st_T S' = (tl_keeps (st_T S) (ru_hyp S k a b) (ru_hr S k a b c ++ [L])).1 := by rw [hS]; rfl
              have egl : st_gl S' = st_gl S := by rw [hS]; rfl
              have eop : st_op S' = st_op S := by rw [hS]; rfl
              have edn : st_dn S' = st_dn S := by rw [hS]; rfl
              have ent : st_nt S' = st_nt S := by rw [hS]; rfl
              refine ⟨okW_app h1 ent eT (fun l hl => ?_), ⟨fun p hp => ?_, fun g hg => ?_⟩, fun p q hq => ?_, okX_app h4 eT eth egl eop edn, st_okF_app h5 eth ff.1 ff.2, by rw [eT2]; exact n1, fun g q hq => h7 g q (by rw [egl] at hq; exact hq)⟩
              · rcases List.mem_append.mp (hX l hl) with q | q
                · by_cases h8 : k = 8
                  · subst h8
                    rcases hi with ⟨q', -⟩ | ⟨q', -⟩ | ⟨q', -⟩ | ⟨-, i1, i2, i3⟩
                    · omega
                    · omega
                    · omega
                    · exact ru_hwt h1 h3 i1 i2 i3 hfit l q
                  · rw [ru_hr_nil h8] at q
                    cases q
                · rw [List.mem_singleton.mp q]
                  exact ⟨4, wL⟩
              · by_cases hp2 : p < (st_th S).length
                · have ec : st_cn S' p = st_cn S p := by unfold st_cn; rw [eth, List.getElem?_append_left hp2]
                  obtain ⟨q1, q2⟩ := h2.1 p hp2
                  rw [ec, tm_app eT q1]
                  exact ⟨by rw [eT, List.length_append]; omega, q2⟩
                · have hp3 : p = (st_th S).length := by
                    rw [eth, List.length_append] at hp
                    simp at hp
                    omega
                  have ec : st_cn S' p = tl_kp (tl_keeps (st_T S) (ru_hyp S k a b) (ru_hr S k a b c)).1 L := by
                    unfold st_cn
                    rw [eth, hp3]
                    simp
                  rw [ec]
                  have gm : st_tm S' (tl_kp (tl_keeps (st_T S) (ru_hyp S k a b) (ru_hr S k a b c)).1 L) = L := by
                    unfold st_tm
                    rw [eT2, g]
                    rfl
                  rw [gm]
                  exact ⟨by rw [eT2]; exact glt, wL.hd⟩
              · obtain ⟨q1, q2⟩ := h2.2 g (by rw [egl] at hg; exact hg)
                have ec : st_gt S' g = st_gt S g := by unfold st_gt; rw [egl]
                rw [ec, tm_app eT q1]
                exact ⟨by rw [eT, List.length_append]; omega, q2⟩
              · rw [eth] at hq
                by_cases hp2 : p < (st_th S).length
                · rw [List.getElem?_append_left hp2] at hq
                  obtain ⟨q1, q2, q3⟩ := h3 p q hq
                  rw [eT, List.length_append]
                  exact ⟨by omega, fun t ht => by have := q2 t ht; omega, q3⟩
                · have hp3 : p = (st_th S).length := by
                    have := getE_lt hq
                    simp at this
                    omega
                  subst hp3
                  have hq' : q = (tl_kp (tl_keeps (st_T S) (ru_hyp S k a b) (ru_hr S k a b c)).1 L, (tl_keeps (st_T S) (ru_hyp S k a b) (ru_hr S k a b c)).2, k, ru_fst k a, ru_snd k b) := by simpa using hq.symm
                  subst hq'
                  rw [eT2]
                  exact ⟨glt, fun t ht => by have := km1 t ht; omega, l6⟩
    · have hff : ru_fit S k a b c = false := by simpa using hfit
      rw [if_pos hff] at hdo
      cases hdo
      exact h
theorem inv_goal {S S' : st_S} {x a : Int32} (h : st_inv S) (hs : sp_goal S x a S') : st_inv S' := by
  rcases hs with ⟨-, -, rfl⟩ | ⟨t, ht, -, ⟨-, -, rfl⟩ | ⟨h4', -, rfl⟩⟩
  · exact h
  · exact h
  · obtain ⟨h1, h2, h3, h4, h5, h6, h7⟩ := h
    refine ⟨h1, ⟨h2.1, fun g hg => ?_⟩, h3, un_goal ht, h5, h6, fun g q hq => ?_⟩
    · have hg0 : g = 0 := by
        have : g < 1 := hg
        omega
      subst hg0
      exact ⟨ht, h4'⟩
    · have hg0 := getE_lt hq
      have : g = 0 := by
        have : g < 1 := hg0
        omega
      subst this
      cases hq
      exact List.nodup_nil
theorem kids_nd {S : st_S} {k a g : Nat} (h : (st_gh S g).Nodup) : ∀ q ∈ tc_kids S k a g, q.2.1.Nodup := by
  intro q hq
  unfold tc_kids at hq
  split at hq
  · rcases List.mem_cons.mp hq with rfl | hq
    · exact ls_h_nodup h
    · rcases List.mem_cons.mp hq with rfl | hq
      · exact ls_h_nodup h
      · cases hq
  · obtain ⟨n, -, rfl⟩ := List.mem_map.mp hq
    exact h
theorem inv_tcS {S : st_S} {D : fx_D} {k a g : Nat} {x y : Int32} (h : st_inv S) (hM : mo_R S D) (hop : (st_op S).head? = some g) (ht : tc_there S x y k a) (hf : su_fit S k a g = true) (hbig : tc_big S k a g = false) (hfull : tc_full S k a g = false) : st_inv (tc_S S k a g) := by
  obtain ⟨h1, h2, h3, h4, h5, h6, h7⟩ := h
  have hg : g < (st_gl S).length := h4.O g (List.mem_of_head? hop)
  have T64 := hM.2.1.1
  obtain ⟨n1, X, e, hX⟩ := all_inv (lv_rows S k a g) (st_T S) h6
  have eT : st_T (tc_S S k a g) = st_T S ++ X := e
  have hw := lv_wt h1 h2 hg ht hf
  have nf : tl_full (st_T S) (lv_rows S k a g) = false := by
    unfold tc_full at hfull
    simp only [Bool.or_eq_false_iff] at hfull
    exact hfull.1
  have egl : st_gl (tc_S S k a g) = (st_gl S).set g (st_gt S g, st_gh S g, some (k, a, (st_gl S).length)) ++ tc_kids S k a g := rfl
  have old : ∀ i, i < (st_gl S).length → st_gt (tc_S S k a g) i = st_gt S i := fun i hi => by
    unfold st_gt
    rw [egl, List.getElem?_append_left (by simpa using hi)]
    by_cases q : i = g
    · subst q
      rw [List.getElem?_set_self hi, List.getElem?_eq_getElem hi]
      simp [st_gt, List.getElem?_eq_getElem hi]
    · rw [List.getElem?_set_ne (fun z => q z.symm)]
  refine ⟨okW_app h1 rfl eT (fun l hl => ⟨4, hw l (hX l hl)⟩), ⟨fun p hp => ?_, fun i hi => ?_⟩, okH_app h3 eT rfl, tc_okX hM h4 hop ht hf hbig hfull, h5, n1, fun i q hq => ?_⟩
  · obtain ⟨q1, q2⟩ := h2.1 p hp
    have : st_cn (tc_S S k a g) p = st_cn S p := rfl
    rw [this, tm_app eT q1]
    exact ⟨by rw [eT, List.length_append]; omega, q2⟩
  · by_cases hi2 : i < (st_gl S).length
    · obtain ⟨q1, q2⟩ := h2.2 i hi2
      rw [old i hi2, tm_app eT q1]
      exact ⟨by rw [eT, List.length_append]; omega, q2⟩
    · rw [egl, List.length_append, List.length_set] at hi
      have hk := List.getElem?_eq_getElem (l := tc_kids S k a g) (i := i - (st_gl S).length) (by omega)
      have eg : st_gt (tc_S S k a g) i = ((tc_kids S k a g)[i - (st_gl S).length]'(by omega)).1 := by
        unfold st_gt
        rw [egl, List.getElem?_append_right (by simp; omega), List.length_set, hk]
        rfl
      obtain ⟨-, m1, -⟩ := tc_kids_in (List.mem_of_getElem? hk)
      obtain ⟨l, r1, r2⟩ := nums_get _ _ T64 nf _ m1
      rw [eg]
      have gm : st_tm (tc_S S k a g) ((tc_kids S k a g)[i - (st_gl S).length]'(by omega)).1 = l := by
        unfold st_tm
        rw [show st_T (tc_S S k a g) = tl_all (st_T S) (lv_rows S k a g) from rfl, r2]
        rfl
      rw [gm]
      exact ⟨getE_lt r2, (hw l r1).hd⟩
  · rw [egl] at hq
    have ghn : (st_gh S g).Nodup := by
      have := h7 g _ (List.getElem?_eq_getElem hg)
      unfold st_gh
      rw [List.getElem?_eq_getElem hg]
      exact this
    by_cases hi2 : i < (st_gl S).length
    · rw [List.getElem?_append_left (by simpa using hi2)] at hq
      by_cases z : i = g
      · subst z
        rw [List.getElem?_set_self hi2] at hq
        cases hq
        exact ghn
      · rw [List.getElem?_set_ne (fun w => z w.symm)] at hq
        exact h7 i q hq
    · rw [List.getElem?_append_right (by simp; omega)] at hq
      exact kids_nd ghn q (List.mem_of_getElem? hq)
theorem inv_do {S : st_S} {D : fx_D} {k a g : Nat} {x y : Int32} (h : st_inv S) (hM : mo_R S D) (hop : (st_op S).head? = some g) (ht : tc_there S x y k a) : st_inv (tc_do S k a g).2 := by
  unfold tc_do
  by_cases h1 : su_fit S k a g = false
  · rw [if_pos h1]
    exact h
  · rw [if_neg h1]
    by_cases h2 : tc_big S k a g = true
    · rw [if_pos h2]
      exact h
    · rw [if_neg h2]
      by_cases h3 : tc_full S k a g = true
      · rw [if_pos h3]
        exact h
      · rw [if_neg h3]
        exact inv_tcS h hM hop ht (by simpa using h1) (by simpa using h2) (by simpa using h3)
theorem inv_tactic {S S' : st_S} {D : fx_D} {x y ans : Int32} (h : st_inv S) (hM : mo_R S D) (hs : sp_tactic S x y ans S') : st_inv S' := by
  rcases hs with ⟨-, -, rfl⟩ | ⟨g, k, a, h1, h2, h3⟩
  · exact h
  · have := inv_do h hM h1 h2
    rw [← h3] at this
    exact this
theorem inv_first {S : st_S} {D : fx_D} (h : st_inv S) (hM : mo_R S D) : ∀ (m w : Nat) (S1 : st_S), w + m ≤ 12 → rp_first S m w = some S1 → st_inv S1 := by
  intro m
  induction m with
  | zero => intro w S1 hw h; cases h
  | succ m ih =>
    intro w S1 hw hq
    rw [rp_first] at hq
    by_cases h1 : (rp_try S w).1 < 0
    · rw [if_pos h1] at hq
      exact ih (w + 1) S1 (by omega) hq
    · rw [if_neg h1] at hq
      cases hq
      exact inv_tactic h hM (rp_sp2 (S := S) (show w < 12 by omega))
theorem inv_undo {S S' : st_S} {ans : Int32} (h : st_inv S) (hs : sp_undo S ans S') : st_inv S' := by
  rcases hs with ⟨-, -, rfl⟩ | ⟨g, dn, q, w, hd, hq, hw, -, rfl⟩
  · exact h
  · obtain ⟨h1, h2, h3, h4, h5, h6, h7⟩ := h
    have hX := h4
    unfold st_okX at hX
    rw [hd] at hX
    obtain ⟨-, -, q', w', e1, e2, -, hX2⟩ := hX
    rw [hq] at e1
    cases e1
    rw [hw] at e2
    cases e2
    have sub : ∀ (i : Nat) (p : st_Gl), (((st_gl S).take ((st_gl S).length - gk w.1)).set g (q.1, q.2.1, none))[i]? = some p → ∃ p', (st_gl S)[i]? = some p' ∧ p.1 = p'.1 ∧ p.2.1 = p'.2.1 := fun i p hp => by
      by_cases z : i = g
      · subst z
        have hl := getE_lt hp
        rw [List.length_set] at hl
        rw [List.getElem?_set_self hl] at hp
        cases hp
        exact ⟨q, hq, rfl, rfl⟩
      · rw [List.getElem?_set_ne (fun e => z e.symm), List.getElem?_take] at hp
        split at hp
        · exact ⟨p, hp, rfl, rfl⟩
        · cases hp
    refine ⟨h1, ⟨h2.1, fun i hi => ?_⟩, h3, hX2, h5, h6, fun i p hp => ?_⟩
    · have hp := List.getElem?_eq_getElem (l := ((st_gl S).take ((st_gl S).length - gk w.1)).set g (q.1, q.2.1, none)) (i := i) hi
      obtain ⟨p', e1, e2, -⟩ := sub i _ hp
      have eg : st_gt (S.1, S.2.1, S.2.2.1, S.2.2.2.1, ((st_gl S).take ((st_gl S).length - gk w.1)).set g (q.1, q.2.1, none), g :: (st_op S).drop (gk w.1), dn) i = st_gt S i := by
        unfold st_gt
        rw [e1]
        show (((((st_gl S).take ((st_gl S).length - gk w.1)).set g (q.1, q.2.1, none))[i]?).map _).getD 0 = _
        rw [hp]
        simp [e2]
      rw [eg]
      exact h2.2 i (getE_lt e1)
    · obtain ⟨p', e1, -, e3⟩ := sub i p hp
      rw [e3]
      exact h7 i p' e1
