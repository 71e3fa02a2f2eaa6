/-! ===== the model: close ===== -/
theorem l_MO_cnt {G : sd_G} {o : Nat} {D : fx_D} {h0 : sd_H} {nx v : Nat} {S : st_S} {Q : sd_Q} (hR : mo_R S D) (htr : tr_ok (st_gl S)) (K : sd_W G mMO_close 3 0 0 Q 48 [(0, .ref (o + 0)), (1, .int (nI v))] [] (fx_h G.1.2 mo_S o D h0) nx 0 0) : ∀ (m j c : Nat), (st_gl S).length = j + m → v = c + (((st_gl S).drop j).filter cl_w).length → sd_W G mMO_close 3 0 0 Q 20 [(0, .ref (o + 0)), (1, .int (nI c)), (2, .int (nI j))] [] (fx_h G.1.2 mo_S o D h0) nx 0 0 := by
  have hgl := hR.2.2.2.2.2.1
  have h30 := hgl.1
  intro m
  induction m with
  | zero =>
    intro j c hj hv
    rw [List.drop_eq_nil_of_le (by omega)] at hv
    obtain rfl : v = c := hv
    refine sd_iload_n dMO_close_20 rfl rfl ?_
    refine sd_aload_n dMO_close_21 rfl rfl ?_
    refine fx_getiv (v := (nI ((st_gl S).length))) 10 27 dMO_close_22 fMO_270 rfl rfl (hgl.2.1) ?_
    refine nn_icmp_ge 48 dMO_close_25 (by decide) (by omega) (by omega) (fun c25 => ?_) (fun c25 => ?_)
    ·
      refine sd_locp (al' := [(0, .ref (o + (0))), (1, .int (nI (v)))]) [0, 1] rfl ?_
      exact K
    ·
      exact absurd c25 (by omega)
  | succ m ih =>
    intro j c hj hv
    have hx : (st_gl S)[j]? = some (st_gl S)[j] := List.getElem?_eq_getElem (by omega)
    have hdr : (st_gl S).drop j = (st_gl S)[j] :: (st_gl S).drop (j + 1) := List.drop_eq_getElem_cons (by omega)
    generalize (st_gl S)[j] = q at hx hdr
    obtain ⟨k, x, n, hw, hk, hgn, hN⟩ := htr.1 j q hx
    have q16 : D.1 16 j = nI k := by
      have h := (hgl.2.2 j q hx).2.2.2.2
      rw [hw] at h
      exact h.1
    rw [hdr, List.filter_cons] at hv
    have ew : cl_w q = !(k == 8) := by unfold cl_w; rw [hw]
    rw [ew] at hv
    by_cases h8 : k = 8
    · subst h8
      simp at hv
      refine sd_iload_n dMO_close_20 rfl rfl ?_
      refine sd_aload_n dMO_close_21 rfl rfl ?_
      refine fx_getiv (v := (nI ((st_gl S).length))) 10 27 dMO_close_22 fMO_270 rfl rfl (hgl.2.1) ?_
      refine nn_icmp_ge 48 dMO_close_25 (by decide) (by omega) (by omega) (fun c25 => ?_) (fun c25 => ?_)
      ·
        exact absurd c25 (by omega)
      ·
        refine sd_aload_n dMO_close_28 rfl rfl ?_
        refine fx_getr 10 20 (16) dMO_close_29 fMO_55 rfl rfl ?_
        refine sd_iload_n dMO_close_32 rfl rfl ?_
        refine fx_ialdv (v := (nI (8))) (j) dMO_close_33 rfl rfl (by omega) (by decide) (q16) ?_
        refine sd_bipush (v := nI 8) dMO_close_34 (by decide) ?_
        refine nn_icmp_eq 42 dMO_close_36 (by decide) (by decide) (by decide) (fun _ => ?_) (fun c => absurd c (by decide))
        refine nn_iinc 1 dMO_close_42 rfl (by decide) ?_
        refine sd_goto 20 dMO_close_45 (by decide) ?_
        refine sd_locp (al' := [(0, .ref (o + (0))), (1, .int (nI (c))), (2, .int (nI (j + 1)))]) [1, 2, 0] rfl ?_
        exact ih (j + 1) c (by omega) hv
    · simp [h8] at hv
      refine sd_iload_n dMO_close_20 rfl rfl ?_
      refine sd_aload_n dMO_close_21 rfl rfl ?_
      refine fx_getiv (v := (nI ((st_gl S).length))) 10 27 dMO_close_22 fMO_270 rfl rfl (hgl.2.1) ?_
      refine nn_icmp_ge 48 dMO_close_25 (by decide) (by omega) (by omega) (fun c25 => ?_) (fun c25 => ?_)
      ·
        exact absurd c25 (by omega)
      ·
        refine sd_aload_n dMO_close_28 rfl rfl ?_
        refine fx_getr 10 20 (16) dMO_close_29 fMO_55 rfl rfl ?_
        refine sd_iload_n dMO_close_32 rfl rfl ?_
        refine fx_ialdv (v := (nI (k))) (j) dMO_close_33 rfl rfl (by omega) (by decide) (q16) ?_
        refine sd_bipush (v := nI 8) dMO_close_34 (by decide) ?_
        refine nn_icmp_eq 42 dMO_close_36 (by decide) (by omega) (by omega) (fun c36 => ?_) (fun c36 => ?_)
        ·
          exact absurd c36 h8
        ·
          refine nn_iinc 1 dMO_close_39 rfl (by decide) ?_
          refine nn_iinc 1 dMO_close_42 rfl (by decide) ?_
          refine sd_goto 20 dMO_close_45 (by decide) ?_
          refine sd_locp (al' := [(0, .ref (o + (0))), (1, .int (nI (c + 1))), (2, .int (nI (j + 1)))]) [2, 1, 0] rfl ?_
          exact ih (j + 1) (c + 1) (by omega) (by omega)
theorem e_MO_close {G : sd_G} {o : Nat} {D : fx_D} {h0 : sd_H} {nx v : Nat} {S : st_S} {th : List st_Th} (hB : G.2.1 ≤ o) (hop : st_op S = []) (hR : mo_R (st_th' S th) D) (hv : D.1 22 0 = nI v) : sd_W G mMO_close 3 0 0 (fx_is G.1.2 mo_S o h0 nx (some (.int (nI v))) (mo_R (S.1, S.2.1, S.2.2.1, th, [], [], []))) 74 [(0, .ref (o + 0)), (2, .int (nI 0))] [] (fx_h G.1.2 mo_S o D h0) nx 0 0 := by
  have ho := hR.2.2.2.2.2.2.1
  have ho2 : mo_op D [] := by
    have e : st_op (st_th' S th) = [] := hop
    rw [e] at ho
    exact ho
  refine sd_iload_n dMO_close_74 rfl rfl ?_
  refine nn_if_le 193 dMO_close_75 (by decide) (by decide) (fun _ => ?_) (fun c => absurd c (by decide))
  refine sd_aload_n dMO_close_193 rfl rfl ?_
  refine sd_iconst (v := nI 0) dMO_close_194 (by decide) ?_
  refine fx_puti 10 27 dMO_close_195 fMO_270 rfl rfl rfl rfl hB ?_
  refine sd_aload_n dMO_close_198 rfl rfl ?_
  refine sd_iconst (v := nI 0) dMO_close_199 (by decide) ?_
  refine fx_puti 10 29 dMO_close_200 fMO_275 rfl rfl rfl rfl hB ?_
  refine sd_aload_n dMO_close_203 rfl rfl ?_
  refine fx_getr 10 26 (22) dMO_close_204 fMO_73 rfl rfl ?_
  refine sd_iconst (v := nI 0) dMO_close_207 (by decide) ?_
  refine fx_ialdv (v := (nI (v))) (0) dMO_close_208 rfl rfl (by omega) (by decide) ((by simpa [fx_uf] using hv)) ?_
  refine sd_iret dMO_close_209 rfl (Nat.le_refl _) (Nat.le_refl _) ⟨rfl, rfl, _, rfl, mo_R_goals (S := st_th' S th) hR ((mo_fg.uf _ (by omega) (by omega)).tr (mo_fg.uf _ (by omega) (by omega))) ⟨by simp, by simp [fx_uf, upd], fun g q h ↦ by simp at h⟩ ⟨by simp, ?_, fun g q h ↦ by simp at h⟩ ⟨by simp, by simp [fx_uf, upd], fun g q h ↦ by simp at h⟩⟩
  simpa [fx_uf, upd] using ho2.2.1
theorem c_MO_close {G : sd_G} {o : Nat} {D : fx_D} {h0 : sd_H} {nx : Nat} {ans : Int32} {S S' : st_S} (hB : G.2.1 ≤ o) (hR : mo_R S D) (hH : st_okH S) (hgi : gi (st_T S).length (st_th S) (st_gl S) (st_op S) (st_dn S)) (hs : sp_close S ans S') : sd_Ct G mMO_close 3 0 0 [.ref (o + 0)] (fx_h G.1.2 mo_S o D h0) nx (fx_is G.1.2 mo_S o h0 nx (some (.int ans)) (mo_R S')) := by
  refine sd_Ct_of (by decide) (Nat.le_of_ble_eq_true rfl) ?_
  have hgl := hR.2.2.2.2.2.1
  have hopd := hR.2.2.2.2.2.2.1
  have g30 := hgl.1
  have o30 := hopd.1
  have h40 : (st_th S).length ≤ 40 := hR.2.2.2.2.1.1
  have cl30 : cl_n (st_gl S) ≤ (st_gl S).length := List.length_filter_le ..
  rcases hs with ⟨hno, rfl, rfl⟩ | ⟨hg, ho, hf, rfl, rfl⟩ | ⟨hg, ho, hf, rfl, rfl⟩
  · by_cases h1 : (st_gl S').length = 0
    · have d27 : D.2.1 0 27 = nI 0 := by rw [hgl.2.1, h1]
      refine sd_aload_n dMO_close_0 rfl rfl ?_
      refine fx_getiv (v := (nI (0))) 10 27 dMO_close_1 fMO_270 rfl rfl (d27) ?_
      refine nn_if_eq 14 dMO_close_4 (by decide) (by decide) (fun _ => ?_) (fun c => absurd c (by decide))
      refine sd_iconst (v := (-1)) dMO_close_14 (by decide) ?_
      exact sd_iret dMO_close_15 rfl (Nat.le_refl _) (Nat.le_refl _) ⟨rfl, rfl, _, rfl, hR⟩
    · have h2 : (st_op S').length ≠ 0 := fun e => by
        rcases hno with z | z
        · rw [z] at h1; exact h1 rfl
        · exact z (List.length_eq_zero_iff.mp e)
      refine sd_aload_n dMO_close_0 rfl rfl ?_
      refine fx_getiv (v := (nI ((st_gl S').length))) 10 27 dMO_close_1 fMO_270 rfl rfl (hgl.2.1) ?_
      refine nn_if_eq 14 dMO_close_4 (by decide) (by omega) (fun c4 => ?_) (fun c4 => ?_)
      ·
        exact absurd c4 h1
      ·
        refine sd_aload_n dMO_close_7 rfl rfl ?_
        refine fx_getiv (v := (nI ((st_op S').length))) 10 28 dMO_close_8 fMO_273 rfl rfl (hopd.2.1) ?_
        refine nn_if_le 16 dMO_close_11 (by decide) (by omega) (fun c11 => ?_) (fun c11 => ?_)
        ·
          exact absurd c11 h2
        ·
          refine sd_iconst (v := (-1)) dMO_close_14 (by decide) ?_
          exact sd_iret dMO_close_15 rfl (Nat.le_refl _) (Nat.le_refl _) ⟨rfl, rfl, _, rfl, hR⟩
  · have h1 : (st_gl S').length ≠ 0 := fun e => hg (List.length_eq_zero_iff.mp e)
    have d28 : D.2.1 0 28 = nI 0 := by rw [hopd.2.1, ho]; rfl
    rw [ho] at hgi
    have kk : sd_W G mMO_close 3 0 0 (fx_is G.1.2 mo_S o h0 nx (some (.int (-6))) (mo_R S')) 48 [(0, .ref (o + 0)), (1, .int (nI (cl_n (st_gl S'))))] [] (fx_h G.1.2 mo_S o D h0) nx 0 0 := by
      refine sd_aload_n dMO_close_48 rfl rfl ?_
      refine fx_getiv (v := (nI ((st_th S').length))) 10 14 dMO_close_49 fMO_148 rfl rfl (hR.2.2.2.2.1.2.1) ?_
      refine sd_iload_n dMO_close_52 rfl rfl ?_
      refine nn_iadd dMO_close_53 ?_
      refine sd_bipush (v := nI 40) dMO_close_54 (by decide) ?_
      refine nn_icmp_le 62 dMO_close_56 (by decide) (by omega) (by omega) (fun c56 => ?_) (fun c56 => ?_)
      ·
        exact absurd c56 (by omega)
      ·
        refine sd_bipush (v := (-6)) dMO_close_59 (by decide) ?_
        exact sd_iret dMO_close_61 rfl (Nat.le_refl _) (Nat.le_refl _) ⟨rfl, rfl, _, rfl, hR⟩
    refine sd_aload_n dMO_close_0 rfl rfl ?_
    refine fx_getiv (v := (nI ((st_gl S').length))) 10 27 dMO_close_1 fMO_270 rfl rfl (hgl.2.1) ?_
    refine nn_if_eq 14 dMO_close_4 (by decide) (by omega) (fun c4 => ?_) (fun c4 => ?_)
    ·
      exact absurd c4 h1
    ·
      refine sd_aload_n dMO_close_7 rfl rfl ?_
      refine fx_getiv (v := (nI (0))) 10 28 dMO_close_8 fMO_273 rfl rfl (d28) ?_
      refine nn_if_le 16 dMO_close_11 (by decide) (by decide) (fun _ => ?_) (fun c => absurd c (by decide))
      refine sd_iconst (v := nI 0) dMO_close_16 (by decide) ?_
      refine sd_istore_n dMO_close_17 rfl (by decide) ?_
      refine sd_iconst (v := nI 0) dMO_close_18 (by decide) ?_
      refine sd_istore_n dMO_close_19 rfl (by decide) ?_
      refine sd_locp (al' := [(0, .ref (o + (0))), (1, .int (nI (0))), (2, .int (nI (0)))]) [2, 1, 0] rfl ?_
      exact l_MO_cnt hR hgi.tr kk (st_gl S').length 0 0 (by omega) (by rw [List.drop_zero, Nat.zero_add]; rfl)
  · have h1 : (st_gl S).length ≠ 0 := fun e => hg (List.length_eq_zero_iff.mp e)
    have d28 : D.2.1 0 28 = nI 0 := by rw [hopd.2.1, ho]; rfl
    rw [ho] at hgi
    have hq : (st_gl S)[0]? = some (st_gl S)[0] := List.getElem?_eq_getElem (by omega)
    have hle := cl_go_le hgi.tr 30 0 (st_th S)
    have kk : sd_W G mMO_close 3 0 0 (fx_is G.1.2 mo_S o h0 nx (some (.int (nI (cl_go (st_gl S) 30 0 (st_th S)).2))) (mo_R (S.1, S.2.1, S.2.2.1, (cl_go (st_gl S) 30 0 (st_th S)).1, [], [], []))) 48 [(0, .ref (o + 0)), (1, .int (nI (cl_n (st_gl S))))] [] (fx_h G.1.2 mo_S o D h0) nx 0 0 := by
      refine sd_aload_n dMO_close_48 rfl rfl ?_
      refine fx_getiv (v := (nI ((st_th S).length))) 10 14 dMO_close_49 fMO_148 rfl rfl (hR.2.2.2.2.1.2.1) ?_
      refine sd_iload_n dMO_close_52 rfl rfl ?_
      refine nn_iadd dMO_close_53 ?_
      refine sd_bipush (v := nI 40) dMO_close_54 (by decide) ?_
      refine nn_icmp_le 62 dMO_close_56 (by decide) (by omega) (by omega) (fun c56 => ?_) (fun c56 => ?_)
      ·
        refine sd_iconst (v := nI 0) dMO_close_62 (by decide) ?_
        refine sd_istore_n dMO_close_63 rfl (by decide) ?_
        refine sd_aload_n dMO_close_64 rfl rfl ?_
        refine fx_getr 10 36 (29) dMO_close_65 fMO_94 rfl rfl ?_
        refine sd_iload_n dMO_close_68 rfl rfl ?_
        refine nn_iinc 1 dMO_close_69 rfl (by decide) ?_
        refine sd_iconst (v := nI 0) dMO_close_72 (by decide) ?_
        refine fx_iast (0) dMO_close_73 rfl rfl (by omega) (by decide) hB ?_
        refine sd_locp (al' := [(0, .ref (o + (0))), (2, .int (nI (0 + 1)))]) [1, 0] rfl ?_
        refine l_MO_close hB hR.2.1.1 hgi g30 30 0 (st_th S) [] _ _ hq (by omega) ⟨[], by simp⟩ hH (by simp) (by omega) (mo_R_arr (D := D) hR (fun y hy ↦ by simp [fx_ua, show ¬ y = 29 by omega]) rfl) (sk_push (l := []) (fun i v h ↦ by simp at h)) (fun D' a1 a2 a3 a4 ↦ ?_)
        exact e_MO_close hB ho a1 a3
      ·
        exact absurd c56 (by omega)
    refine sd_aload_n dMO_close_0 rfl rfl ?_
    refine fx_getiv (v := (nI ((st_gl S).length))) 10 27 dMO_close_1 fMO_270 rfl rfl (hgl.2.1) ?_
    refine nn_if_eq 14 dMO_close_4 (by decide) (by omega) (fun c4 => ?_) (fun c4 => ?_)
    ·
      exact absurd c4 h1
    ·
      refine sd_aload_n dMO_close_7 rfl rfl ?_
      refine fx_getiv (v := (nI (0))) 10 28 dMO_close_8 fMO_273 rfl rfl (d28) ?_
      refine nn_if_le 16 dMO_close_11 (by decide) (by decide) (fun _ => ?_) (fun c => absurd c (by decide))
      refine sd_iconst (v := nI 0) dMO_close_16 (by decide) ?_
      refine sd_istore_n dMO_close_17 rfl (by decide) ?_
      refine sd_iconst (v := nI 0) dMO_close_18 (by decide) ?_
      refine sd_istore_n dMO_close_19 rfl (by decide) ?_
      refine sd_locp (al' := [(0, .ref (o + (0))), (1, .int (nI (0))), (2, .int (nI (0)))]) [2, 1, 0] rfl ?_
      exact l_MO_cnt hR hgi.tr kk (st_gl S).length 0 0 (by omega) (by rw [List.drop_zero, Nat.zero_add]; rfl)
