/-! ===== a model's heap for every state; the class's undo and repeat ===== -/
def mx_D (S : st_S) : fx_D := (fun x i => match x with
  | 1 => nI (((((st_T S)[i / 24]?).getD [])[i % 24]?).getD (0, 0)).1
  | 2 => nI (((((st_T S)[i / 24]?).getD [])[i % 24]?).getD (0, 0)).2
  | 3 => nI (((st_T S)[i]?).getD []).length
  | 4 => nI (st_nt S i)
  | 5 => nI (((st_dr S)[i]?).getD 0)
  | 6 => nI (st_cn S i)
  | 7 => nI (st_hy S i).length
  | 8 => nI (((st_hy S (i / 6))[i % 6]?).getD 0)
  | 9 => nI ((((st_th S)[i]?).map (·.2.2.1)).getD 0)
  | 10 => oi_I ((((st_th S)[i]?).map (·.2.2.2.1)).getD none)
  | 11 => oi_I ((((st_th S)[i]?).map (·.2.2.2.2)).getD none)
  | 13 => nI (st_gt S i)
  | 14 => nI (st_gh S i).length
  | 15 => nI (((st_gh S (i / 6))[i % 6]?).getD 0)
  | 16 => match (((st_gl S)[i]?).map (·.2.2)).getD none with | some w => nI w.1 | none => -1
  | 17 => match (((st_gl S)[i]?).map (·.2.2)).getD none with | some w => nI w.2.1 | none => 0
  | 18 => match (((st_gl S)[i]?).map (·.2.2)).getD none with | some w => nI w.2.2 | none => 0
  | 19 => match (((st_gl S)[i]?).map (·.2.2)).getD none with | some w => nI (gk w.1) | none => 0
  | 20 => nI (((st_op S)[i]?).getD 0)
  | 21 => nI (((st_dn S).reverse[i]?).getD 0)
  | _ => 0, fun _ j => match j with
  | 5 => nI (st_T S).length
  | 6 => nI (st_dr S).length
  | 14 => nI (st_th S).length
  | 27 => nI (st_gl S).length
  | 28 => nI (st_op S).length
  | 29 => nI (st_dn S).length
  | _ => 0, fun _ => 0)
theorem mo_ex {S : st_S} {D : fx_D} (h : dk_R S D) : ∃ Dm, mo_R S Dm := by
  obtain ⟨r1, r2, r3, r4, r5, r6, r7⟩ := h
  have d24 : ∀ r k : Nat, k < 24 → (24 * r + k) / 24 = r ∧ (24 * r + k) % 24 = k := fun r k h => by omega
  have d6 : ∀ r k : Nat, k < 6 → (6 * r + k) / 6 = r ∧ (6 * r + k) % 6 = k := fun r k h => by omega
  refine ⟨mx_D S, fun v hv => ⟨rfl, (r1 v hv).2⟩, ⟨r2.1, rfl, fun t l hl => ?_⟩, fun q h1 h2 => ⟨0, by omega, ?_⟩, ⟨r3.1, rfl, fun k x hx => ⟨?_, (r3.2.2 k x hx).2⟩⟩, ⟨r4.1, rfl, fun p h hp => ?_⟩, ⟨r5.1, rfl, fun g q hq => ?_⟩, ⟨r6.1, rfl, fun k g hk => ?_⟩, ⟨r7.1, rfl, fun k g hk => ?_⟩⟩
  · obtain ⟨a, b, c⟩ := r2.2.2.2 t l hl
    refine ⟨⟨a.1, ?_, fun k x hx => ?_⟩, c⟩
    · show nI (((st_T S)[t]?).getD []).length = _
      rw [hl]
      rfl
    · have hk := getE_lt hx
      have a1 := a.1
      obtain ⟨e1, e2⟩ := d24 t k (by omega)
      obtain ⟨-, -, q3, q4⟩ := a.2.2 k x hx
      refine ⟨?_, ?_, q3, q4⟩
      · show nI (((((st_T S)[(24 * t + k) / 24]?).getD [])[(24 * t + k) % 24]?).getD (0, 0)).1 = _
        rw [e1, e2, hl, Option.getD_some, hx]
        rfl
      · show nI (((((st_T S)[(24 * t + k) / 24]?).getD [])[(24 * t + k) % 24]?).getD (0, 0)).2 = _
        rw [e1, e2, hl, Option.getD_some, hx]
        rfl
  · show nI (((st_T S)[q]?).getD []).length = _
    have := r2.1
    rw [List.getElem?_eq_none_iff.mpr (by omega)]
    rfl
  · show nI (((st_dr S)[k]?).getD 0) = _
    rw [hx]
    rfl
  · obtain ⟨a, -⟩ := r4.2.2 p h hp
    refine ⟨?_, ?_, a.1, fun k t hk => ?_, ?_, ?_, ?_⟩
    · show nI (st_cn S p) = _
      simp [st_cn, hp]
    · show nI (st_hy S p).length = _
      simp [st_hy, hp]
    · have hk6 := getE_lt hk
      have a1 := a.1
      obtain ⟨e1, e2⟩ := d6 p k (by omega)
      show nI (((st_hy S ((6 * p + k) / 6))[(6 * p + k) % 6]?).getD 0) = _
      rw [e1, e2, show st_hy S p = h.2.1 by simp [st_hy, hp], hk]
      rfl
    · show nI ((((st_th S)[p]?).map (·.2.2.1)).getD 0) = _
      simp [hp]
    · show oi_I ((((st_th S)[p]?).map (·.2.2.2.1)).getD none) = _
      simp [hp]
    · show oi_I ((((st_th S)[p]?).map (·.2.2.2.2)).getD none) = _
      simp [hp]
  · obtain ⟨a, -⟩ := r5.2.2 g q hq
    refine ⟨?_, ?_, a.1, fun k t hk => ?_, ?_⟩
    · show nI (st_gt S g) = _
      simp [st_gt, hq]
    · show nI (st_gh S g).length = _
      simp [st_gh, hq]
    · have hk6 := getE_lt hk
      have a1 := a.1
      obtain ⟨e1, e2⟩ := d6 g k (by omega)
      show nI (((st_gh S ((6 * g + k) / 6))[(6 * g + k) % 6]?).getD 0) = _
      rw [e1, e2, show st_gh S g = q.2.1 by simp [st_gh, hq], hk]
      rfl
    · have e : (((st_gl S)[g]?).map (·.2.2)).getD none = q.2.2 := by simp [hq]
      have e16 : (mx_D S).1 16 g = (match (((st_gl S)[g]?).map (·.2.2)).getD none with | some w => nI w.1 | none => -1) := rfl
      have e17 : (mx_D S).1 17 g = (match (((st_gl S)[g]?).map (·.2.2)).getD none with | some w => nI w.2.1 | none => 0) := rfl
      have e18 : (mx_D S).1 18 g = (match (((st_gl S)[g]?).map (·.2.2)).getD none with | some w => nI w.2.2 | none => 0) := rfl
      have e19 : (mx_D S).1 19 g = (match (((st_gl S)[g]?).map (·.2.2)).getD none with | some w => nI (gk w.1) | none => 0) := rfl
      rw [e] at e16 e17 e18 e19
      cases hw : q.2.2 with
      | none =>
        simp only [hw] at e16
        exact e16
      | some w =>
        simp only [hw] at e16 e17 e18 e19
        exact ⟨e16, fun _ => e17, e18, e19⟩
  · show nI (((st_op S)[k]?).getD 0) = _
    rw [hk]
    rfl
  · show nI (((st_dn S).reverse[k]?).getD 0) = _
    rw [hk]
    rfl
theorem opn_drop {D D' : fx_D} {L : List Nat} {m : Nat} (h : dk_opn D L) (hm : m ≤ L.length) (hc : D'.2.1 432 5 = nI (L.length - m)) (hs : ∀ j, j < L.length - m → D'.1 434 j = D.1 434 j) : dk_opn D' (L.drop m) := by
  have h1 := h.1
  refine ⟨by simp only [List.length_drop]; omega, by rw [List.length_drop]; exact hc, fun k u hu => ?_⟩
  have hk := getE_lt hu
  simp only [List.length_reverse, List.length_drop] at hk
  rw [hs k hk]
  refine h.2.2 k u ?_
  rw [List.getElem?_reverse (by omega)]
  rw [List.getElem?_reverse (by simp only [List.length_drop]; omega), List.getElem?_drop, List.length_drop] at hu
  rw [← hu]
  congr 1
  omega
theorem dGS_takeBack_0 : decode prog_4_method_17_code 0 = .ok (.aload_n 0, 1) := by decide +kernel
theorem dGS_takeBack_1 : decode prog_4_method_17_code 1 = .ok (.getfield 40, 3) := by decide +kernel
theorem dGS_takeBack_4 : decode prog_4_method_17_code 4 = .ok (.ifCond .ne (5), 3) := by decide +kernel
theorem dGS_takeBack_7 : decode prog_4_method_17_code 7 = .ok (.iconst (-1), 1) := by decide +kernel
theorem dGS_takeBack_8 : decode prog_4_method_17_code 8 = .ok (.ireturn, 1) := by decide +kernel
theorem dGS_takeBack_9 : decode prog_4_method_17_code 9 = .ok (.aload_n 0, 1) := by decide +kernel
theorem dGS_takeBack_10 : decode prog_4_method_17_code 10 = .ok (.dup, 1) := by decide +kernel
theorem dGS_takeBack_11 : decode prog_4_method_17_code 11 = .ok (.getfield 40, 3) := by decide +kernel
theorem dGS_takeBack_14 : decode prog_4_method_17_code 14 = .ok (.iconst 1, 1) := by decide +kernel
theorem dGS_takeBack_15 : decode prog_4_method_17_code 15 = .ok (.isub, 1) := by decide +kernel
theorem dGS_takeBack_16 : decode prog_4_method_17_code 16 = .ok (.putfield 40, 3) := by decide +kernel
theorem dGS_takeBack_19 : decode prog_4_method_17_code 19 = .ok (.aload_n 0, 1) := by decide +kernel
theorem dGS_takeBack_20 : decode prog_4_method_17_code 20 = .ok (.getfield 21, 3) := by decide +kernel
theorem dGS_takeBack_23 : decode prog_4_method_17_code 23 = .ok (.aload_n 0, 1) := by decide +kernel
theorem dGS_takeBack_24 : decode prog_4_method_17_code 24 = .ok (.getfield 40, 3) := by decide +kernel
theorem dGS_takeBack_27 : decode prog_4_method_17_code 27 = .ok (.iaload, 1) := by decide +kernel
theorem dGS_takeBack_28 : decode prog_4_method_17_code 28 = .ok (.istore_n 1, 1) := by decide +kernel
theorem dGS_takeBack_29 : decode prog_4_method_17_code 29 = .ok (.aload_n 0, 1) := by decide +kernel
theorem dGS_takeBack_30 : decode prog_4_method_17_code 30 = .ok (.dup, 1) := by decide +kernel
theorem dGS_takeBack_31 : decode prog_4_method_17_code 31 = .ok (.getfield 33, 3) := by decide +kernel
theorem dGS_takeBack_34 : decode prog_4_method_17_code 34 = .ok (.getstatic 86, 3) := by decide +kernel
theorem dGS_takeBack_37 : decode prog_4_method_17_code 37 = .ok (.aload_n 0, 1) := by decide +kernel
theorem dGS_takeBack_38 : decode prog_4_method_17_code 38 = .ok (.getfield 11, 3) := by decide +kernel
theorem dGS_takeBack_41 : decode prog_4_method_17_code 41 = .ok (.iload_n 1, 1) := by decide +kernel
theorem dGS_takeBack_42 : decode prog_4_method_17_code 42 = .ok (.aaload, 1) := by decide +kernel
theorem dGS_takeBack_43 : decode prog_4_method_17_code 43 = .ok (.getfield 228, 3) := by decide +kernel
theorem dGS_takeBack_46 : decode prog_4_method_17_code 46 = .ok (.iaload, 1) := by decide +kernel
theorem dGS_takeBack_47 : decode prog_4_method_17_code 47 = .ok (.isub, 1) := by decide +kernel
theorem dGS_takeBack_48 : decode prog_4_method_17_code 48 = .ok (.putfield 33, 3) := by decide +kernel
theorem dGS_takeBack_51 : decode prog_4_method_17_code 51 = .ok (.aload_n 0, 1) := by decide +kernel
theorem dGS_takeBack_52 : decode prog_4_method_17_code 52 = .ok (.dup, 1) := by decide +kernel
theorem dGS_takeBack_53 : decode prog_4_method_17_code 53 = .ok (.getfield 37, 3) := by decide +kernel
theorem dGS_takeBack_56 : decode prog_4_method_17_code 56 = .ok (.getstatic 86, 3) := by decide +kernel
theorem dGS_takeBack_59 : decode prog_4_method_17_code 59 = .ok (.aload_n 0, 1) := by decide +kernel
theorem dGS_takeBack_60 : decode prog_4_method_17_code 60 = .ok (.getfield 11, 3) := by decide +kernel
theorem dGS_takeBack_63 : decode prog_4_method_17_code 63 = .ok (.iload_n 1, 1) := by decide +kernel
theorem dGS_takeBack_64 : decode prog_4_method_17_code 64 = .ok (.aaload, 1) := by decide +kernel
theorem dGS_takeBack_65 : decode prog_4_method_17_code 65 = .ok (.getfield 228, 3) := by decide +kernel
theorem dGS_takeBack_68 : decode prog_4_method_17_code 68 = .ok (.iaload, 1) := by decide +kernel
theorem dGS_takeBack_69 : decode prog_4_method_17_code 69 = .ok (.isub, 1) := by decide +kernel
theorem dGS_takeBack_70 : decode prog_4_method_17_code 70 = .ok (.putfield 37, 3) := by decide +kernel
theorem dGS_takeBack_73 : decode prog_4_method_17_code 73 = .ok (.aload_n 0, 1) := by decide +kernel
theorem dGS_takeBack_74 : decode prog_4_method_17_code 74 = .ok (.getfield 17, 3) := by decide +kernel
theorem dGS_takeBack_77 : decode prog_4_method_17_code 77 = .ok (.aload_n 0, 1) := by decide +kernel
theorem dGS_takeBack_78 : decode prog_4_method_17_code 78 = .ok (.getfield 37, 3) := by decide +kernel
theorem dGS_takeBack_81 : decode prog_4_method_17_code 81 = .ok (.iload_n 1, 1) := by decide +kernel
theorem dGS_takeBack_82 : decode prog_4_method_17_code 82 = .ok (.iastore, 1) := by decide +kernel
theorem dGS_takeBack_83 : decode prog_4_method_17_code 83 = .ok (.aload_n 0, 1) := by decide +kernel
theorem dGS_takeBack_84 : decode prog_4_method_17_code 84 = .ok (.dup, 1) := by decide +kernel
theorem dGS_takeBack_85 : decode prog_4_method_17_code 85 = .ok (.getfield 37, 3) := by decide +kernel
theorem dGS_takeBack_88 : decode prog_4_method_17_code 88 = .ok (.iconst 1, 1) := by decide +kernel
theorem dGS_takeBack_89 : decode prog_4_method_17_code 89 = .ok (.iadd, 1) := by decide +kernel
theorem dGS_takeBack_90 : decode prog_4_method_17_code 90 = .ok (.putfield 37, 3) := by decide +kernel
theorem dGS_takeBack_93 : decode prog_4_method_17_code 93 = .ok (.aload_n 0, 1) := by decide +kernel
theorem dGS_takeBack_94 : decode prog_4_method_17_code 94 = .ok (.getfield 37, 3) := by decide +kernel
theorem dGS_takeBack_97 : decode prog_4_method_17_code 97 = .ok (.ireturn, 1) := by decide +kernel
theorem c_GS_takeBack {G : sd_G} {o : Nat} {D : fx_D} {h0 : sd_H} {nx : Nat} {S S' : st_S} {ans : Int32} (hB : G.2.1 ≤ o) (hR : dk_R S D) (hX : st_okX S) (hs : sp_undo S ans S') : sd_Ct G mGS_takeBack 0 0 0 [.ref (o + 432)] (fx_h G.1.2 dk_S o D h0) nx (fx_is G.1.2 dk_S o h0 nx (some (.int ans)) (dk_R S')) := by
  refine sd_Ct_of (by decide) (Nat.le_of_ble_eq_true rfl) ?_
  obtain ⟨r1, r2, r3, r4, r5, r6, r7⟩ := id hR
  rcases hs with ⟨hd, rfl, hS⟩ | ⟨g, dn, q, w, hd, hq, hw, rfl, hS⟩
  · rw [hS]
    have t0 := r7.2.1
    rw [hd] at t0
    refine sd_aload_n dGS_takeBack_0 rfl rfl ?_
    refine fx_getiv (v := (nI (0))) 3 7 dGS_takeBack_1 fGS_40 rfl rfl (t0) ?_
    refine nn_if_ne 9 dGS_takeBack_4 (by decide) (by decide) (fun c => absurd c (by decide)) (fun _ => ?_)
    refine sd_iconst (v := (-1)) dGS_takeBack_7 (by decide) ?_
    exact sd_iret dGS_takeBack_8 rfl (Nat.le_refl _) (Nat.le_refl _) ⟨rfl, rfl, D, rfl, hR⟩
  · rw [hS]
    have hU := hX.U g dn hd
    obtain ⟨q', w', hq', hw', hgk⟩ := hU
    rw [hq] at hq'
    cases hq'
    rw [hw] at hw'
    cases hw'
    have hgi := (un_ok.gi hX).1
    obtain ⟨k9, gn, -, -⟩ := hgi.2.2.2.2.1 g q w.1 w.2.1 w.2.2 hq hw
    have hN : (st_op S).length + (st_dn S).length = (st_gl S).length := hX.N
    rw [hd] at hN
    simp only [List.length_cons] at hN
    have g30 := r5.1
    have hgl := getE_lt hq
    have gm := gk_le w.1
    obtain ⟨b1, b2, b3⟩ := r5.2.2 g q hq
    obtain ⟨c1, -, -⟩ := b3 w hw
    have t0 : D.2.1 432 7 = nI (dn.length + 1) := by have := r7.2.1; rw [hd] at this; exact this
    have tk := r7
    rw [hd] at tk
    obtain ⟨-, t2, -⟩ := tkn_pop (D' := fx_uf D 432 7 (nI dn.length)) tk (by simp [fx_uf, upd]) rfl
    have e1 : 436 + 3 * g ≠ 432 := by omega
    have hQ : dk_R (S.1, S.2.1, S.2.2.1, S.2.2.2.1, ((st_gl S).take ((st_gl S).length - gk w.1)).set g (q.1, q.2.1, none), g :: (st_op S).drop (gk w.1), dn) (fx_uf (fx_ua (fx_uf (fx_uf (fx_uf D 432 7 (nI dn.length)) 432 3 (nI ((st_gl S).length - gk w.1))) 432 5 (nI ((st_op S).length - gk w.1))) 434 ((st_op S).length - gk w.1) (nI g)) 432 5 (nI ((st_op S).length - gk w.1 + 1))) := by
      have a : ∀ x, x ≠ 432 → x ≠ 434 → ag D (fx_uf (fx_ua (fx_uf (fx_uf (fx_uf D 432 7 (nI dn.length)) 432 3 (nI ((st_gl S).length - gk w.1))) 432 5 (nI ((st_op S).length - gk w.1))) 434 ((st_op S).length - gk w.1) (nI g)) 432 5 (nI ((st_op S).length - gk w.1 + 1))) x := fun x h1 h2 => (((ag_uf h1).tr (ag_uf h1)).tr (ag_uf h1)).tr ((ag_ua h2).tr (ag_uf h1))
      refine dk_R_gl hR (fun x hx => a x (by omega) (by omega)) ⟨?_, ?_, fun i p hp => ?_⟩ ?_ (tkn_pop tk (by simp [fx_uf, fx_ua, upd]) (by simp [fx_uf, fx_ua])).1
      · rw [List.length_set, List.length_take]
        omega
      · rw [List.length_set, List.length_take, Nat.min_eq_left (by omega)]
        simp [fx_uf, fx_ua, upd]
      · have c0 := a (436 + 3 * i) (by omega) (by omega)
        have c1 := a (436 + 3 * i + 1) (by omega) (by omega)
        have c2 := a (436 + 3 * i + 1 + 1) (by omega) (by omega)
        by_cases hi : i = g
        · subst hi
          have hl := getE_lt hp
          rw [List.length_set] at hl
          rw [List.getElem?_set_self hl] at hp
          cases hp
          exact ⟨so_r_ag c1 c2 b1, by rw [c1.2.1]; exact b2, fun w hw => by cases hw⟩
        · rw [List.getElem?_set_ne (fun e => hi e.symm), List.getElem?_take] at hp
          split at hp
          · obtain ⟨d1, d2, d3⟩ := r5.2.2 i p hp
            exact ⟨so_r_ag c1 c2 d1, by rw [c1.2.1]; exact d2, fun w hw => by rw [c0.2.1]; exact d3 w hw⟩
          · cases hp
      · have hd2 := opn_drop (D' := fx_uf (fx_uf (fx_uf D 432 7 (nI dn.length)) 432 3 (nI ((st_gl S).length - gk w.1))) 432 5 (nI ((st_op S).length - gk w.1))) r6 hgk (by simp [fx_uf, upd]) (fun j hj => by simp [fx_uf])
        have hl : ((st_op S).drop (gk w.1)).length = (st_op S).length - gk w.1 := List.length_drop ..
        refine opn_push hd2 (by omega) (by rw [hl]; simp [fx_uf, upd]) (by rw [hl]; simp [fx_uf, fx_ua, upd]) (fun j hj => ?_)
        rw [hl] at hj
        simp [fx_uf, fx_ua, upd, show j ≠ (st_op S).length - gk w.1 by omega]
    refine sd_aload_n dGS_takeBack_0 rfl rfl ?_
    refine fx_getiv (v := (nI (dn.length + 1))) 3 7 dGS_takeBack_1 fGS_40 rfl rfl (t0) ?_
    refine nn_if_ne 9 dGS_takeBack_4 (by decide) (by omega) (fun c4 => ?_) (fun c4 => ?_)
    ·
      refine sd_aload_n dGS_takeBack_9 rfl rfl ?_
      refine sd_dup dGS_takeBack_10 rfl ?_
      refine fx_getiv (v := (nI (dn.length + 1))) 3 7 dGS_takeBack_11 fGS_40 rfl rfl (t0) ?_
      refine sd_iconst (v := nI 1) dGS_takeBack_14 (by decide) ?_
      refine nn_isub dGS_takeBack_15 (by omega) ?_
      refine fx_puti 3 7 dGS_takeBack_16 fGS_40 rfl rfl rfl rfl hB ?_
      rw [show (fx_uf (D) (432) 7 ((nI ((dn.length + 1) - 1)))) = fx_uf D 432 7 (nI dn.length) from rfl]
      refine sd_aload_n dGS_takeBack_19 rfl rfl ?_
      refine fx_getr 3 6 (435) dGS_takeBack_20 fGS_21 rfl rfl ?_
      refine sd_aload_n dGS_takeBack_23 rfl rfl ?_
      refine fx_getiv (v := (nI (dn.length))) 3 7 dGS_takeBack_24 fGS_40 rfl rfl ((by simp [fx_uf, upd])) ?_
      refine fx_ialdv (v := (nI (g))) (dn.length) dGS_takeBack_27 rfl rfl (by omega) (by decide) (t2) ?_
      refine sd_istore_n dGS_takeBack_28 rfl (by decide) ?_
      refine sd_aload_n dGS_takeBack_29 rfl rfl ?_
      refine sd_dup dGS_takeBack_30 rfl ?_
      refine fx_getiv (v := (nI ((st_gl S).length))) 3 3 dGS_takeBack_31 fGS_33 rfl rfl ((by rw [← r5.2.1]; simp [fx_uf, upd])) ?_
      refine sd_gets sz_LEFT dGS_takeBack_34 (by decide) (Or.inr ⟨"SequentDesk", (sd_nT (sd_in4 (List.mem_of_getElem? (i := 21) rfl)) rfl)⟩) ?_
      refine sd_aload_n dGS_takeBack_37 rfl rfl ?_
      refine fx_getr 3 2 (433) dGS_takeBack_38 fGS_11 rfl rfl ?_
      refine sd_iload_n dGS_takeBack_41 rfl rfl ?_
      refine fx_aald (g) dGS_takeBack_42 rfl rfl rfl (by omega) (by decide) ?_
      refine fx_getiv (v := (nI (w.1))) 2 1 dGS_takeBack_43 fGS_228 (dk_gl (by omega)) rfl ((by rw [← c1]; simp [fx_uf, upd, e1])) ?_
      refine sd_tald sz_LEFT (v := (nI (gk w.1))) dGS_takeBack_46 (by decide) (vp_in_nI (by show _ < 9; omega) (by decide)) (left_tab w.1 k9) ?_
      refine nn_isub dGS_takeBack_47 (by omega) ?_
      refine fx_puti 3 3 dGS_takeBack_48 fGS_33 rfl rfl rfl rfl hB ?_
      refine sd_aload_n dGS_takeBack_51 rfl rfl ?_
      refine sd_dup dGS_takeBack_52 rfl ?_
      refine fx_getiv (v := (nI ((st_op S).length))) 3 5 dGS_takeBack_53 fGS_37 rfl rfl ((by rw [← r6.2.1]; simp [fx_uf, upd])) ?_
      refine sd_gets sz_LEFT dGS_takeBack_56 (by decide) (Or.inr ⟨"SequentDesk", (sd_nT (sd_in4 (List.mem_of_getElem? (i := 21) rfl)) rfl)⟩) ?_
      refine sd_aload_n dGS_takeBack_59 rfl rfl ?_
      refine fx_getr 3 2 (433) dGS_takeBack_60 fGS_11 rfl rfl ?_
      refine sd_iload_n dGS_takeBack_63 rfl rfl ?_
      refine fx_aald (g) dGS_takeBack_64 rfl rfl rfl (by omega) (by decide) ?_
      refine fx_getiv (v := (nI (w.1))) 2 1 dGS_takeBack_65 fGS_228 (dk_gl (by omega)) rfl ((by rw [← c1]; simp [fx_uf, upd, e1])) ?_
      refine sd_tald sz_LEFT (v := (nI (gk w.1))) dGS_takeBack_68 (by decide) (vp_in_nI (by show _ < 9; omega) (by decide)) (left_tab w.1 k9) ?_
      refine nn_isub dGS_takeBack_69 (by omega) ?_
      refine fx_puti 3 5 dGS_takeBack_70 fGS_37 rfl rfl rfl rfl hB ?_
      refine sd_aload_n dGS_takeBack_73 rfl rfl ?_
      refine fx_getr 3 4 (434) dGS_takeBack_74 fGS_17 rfl rfl ?_
      refine sd_aload_n dGS_takeBack_77 rfl rfl ?_
      refine fx_getiv (v := (nI ((st_op S).length - gk w.1))) 3 5 dGS_takeBack_78 fGS_37 rfl rfl ((by simp [fx_uf, upd])) ?_
      refine sd_iload_n dGS_takeBack_81 rfl rfl ?_
      refine fx_iast ((st_op S).length - gk w.1) dGS_takeBack_82 rfl rfl (by omega) (by decide) hB ?_
      refine sd_aload_n dGS_takeBack_83 rfl rfl ?_
      refine sd_dup dGS_takeBack_84 rfl ?_
      refine fx_getiv (v := (nI ((st_op S).length - gk w.1))) 3 5 dGS_takeBack_85 fGS_37 rfl rfl ((by simp [fx_uf, fx_ua, upd])) ?_
      refine sd_iconst (v := nI 1) dGS_takeBack_88 (by decide) ?_
      refine nn_iadd dGS_takeBack_89 ?_
      refine fx_puti 3 5 dGS_takeBack_90 fGS_37 rfl rfl rfl rfl hB ?_
      refine sd_aload_n dGS_takeBack_93 rfl rfl ?_
      refine fx_getiv (v := (nI ((st_op S).length - gk w.1 + 1))) 3 5 dGS_takeBack_94 fGS_37 rfl rfl ((by simp [fx_uf, fx_ua, upd])) ?_
      exact sd_iret dGS_takeBack_97 rfl (Nat.le_refl _) (Nat.le_refl _) ⟨rfl, rfl, _, rfl, hQ⟩
    ·
      exact absurd c4 (by omega)
theorem dDK_undo_0 : decode prog_1_method_14_code 0 = .ok (.aload_n 0, 1) := by decide +kernel
theorem dDK_undo_1 : decode prog_1_method_14_code 1 = .ok (.getfield 44, 3) := by decide +kernel
theorem dDK_undo_4 : decode prog_1_method_14_code 4 = .ok (.invokevirtual 177, 3) := by decide +kernel
theorem dDK_undo_7 : decode prog_1_method_14_code 7 = .ok (.ireturn, 1) := by decide +kernel
theorem c_DK_undo {G : sd_G} {o : Nat} {D : fx_D} {h0 : sd_H} {nx : Nat} {S S' : st_S} {ans : Int32} (hB : G.2.1 ≤ o) (hR : dk_R S D) (hX : st_okX S) (hs : sp_undo S ans S') : sd_Ct G mDK_undo 1 0 0 [.ref (o + 0)] (fx_h G.1.2 dk_S o D h0) nx (fx_is G.1.2 dk_S o h0 nx (some (.int ans)) (dk_R S')) := by
  refine sd_Ct_of (by decide) (Nat.le_of_ble_eq_true rfl) ?_
  refine sd_aload_n dDK_undo_0 rfl rfl ?_
  refine fx_getr 0 4 (432) dDK_undo_1 fDK_44 rfl rfl ?_
  refine fx_cP 3 sR_GS [] [] dDK_undo_4 kDK_177 rfl rfl mGS_takeBack_v (c_GS_takeBack hB hR hX hs) (by decide) (Nat.le_refl _) (Nat.le_refl _) (Nat.le_of_ble_eq_true rfl) rfl (fun D1 h1 => ?_)
  exact sd_iret dDK_undo_7 rfl (Nat.le_refl _) (Nat.le_refl _) ⟨rfl, rfl, _, rfl, h1⟩
/-- what the class asks of a state for its tactics -/
def st_okC (S : st_S) : Prop := st_okT S ∧ st_okH S ∧ st_okG S ∧ st_okO S ∧ st_okN S ∧ (st_T S).Nodup ∧ st_okD S ∧ st_okV S
theorem rep_tab : ∀ w, w < 12 → sz_REPEATED.2.2.2.getD (nI w).toNatClampNeg 0 = nI (rp_kind w) ∧ sz_WITH.2.2.2.getD (nI w).toNatClampNeg 0 = nI (rp_arg w) := by decide
theorem rp_k9 : ∀ w, w < 12 → ((rp_kind w = 0 ∨ rp_kind w = 1 ∨ rp_kind w = 3 ∨ rp_kind w = 5 ∨ rp_kind w = 7) ∧ rp_arg w = 0) ∨ (rp_kind w = 4 ∧ rp_arg w < 8) := by decide
theorem rp_sp2 {S : st_S} {w : Nat} (hw : w < 12) : sp_tactic S (nI (rp_kind w)) (nI (rp_arg w)) (rp_try S w).1 (rp_try S w).2 := by
  cases e : (st_op S).head? with
  | none =>
    refine Or.inl ⟨fun ⟨g, k, a, q, _⟩ => (by rw [e] at q; cases q), ?_, ?_⟩ <;> (unfold rp_try; rw [e])
  | some g =>
    refine Or.inr ⟨g, rp_kind w, rp_arg w, e, ⟨rfl, ?_⟩, ?_⟩
    · rcases rp_k9 w hw with ⟨h1, h2⟩ | ⟨h1, h2⟩
      · exact Or.inl ⟨h1, h2⟩
      · exact Or.inr (Or.inr (Or.inl ⟨h1, rfl, h2⟩))
    · unfold rp_try
      rw [e]
theorem dDK_advance_0 : decode prog_1_method_16_code 0 = .ok (.iconst 0, 1) := by decide +kernel
theorem dDK_advance_1 : decode prog_1_method_16_code 1 = .ok (.istore_n 1, 1) := by decide +kernel
theorem dDK_advance_2 : decode prog_1_method_16_code 2 = .ok (.iload_n 1, 1) := by decide +kernel
theorem dDK_advance_3 : decode prog_1_method_16_code 3 = .ok (.getstatic 183, 3) := by decide +kernel
theorem dDK_advance_6 : decode prog_1_method_16_code 6 = .ok (.arraylength, 1) := by decide +kernel
theorem dDK_advance_7 : decode prog_1_method_16_code 7 = .ok (.if_icmp .ge (31), 3) := by decide +kernel
theorem dDK_advance_10 : decode prog_1_method_16_code 10 = .ok (.aload_n 0, 1) := by decide +kernel
theorem dDK_advance_11 : decode prog_1_method_16_code 11 = .ok (.getfield 44, 3) := by decide +kernel
theorem dDK_advance_14 : decode prog_1_method_16_code 14 = .ok (.getstatic 183, 3) := by decide +kernel
theorem dDK_advance_17 : decode prog_1_method_16_code 17 = .ok (.iload_n 1, 1) := by decide +kernel
theorem dDK_advance_18 : decode prog_1_method_16_code 18 = .ok (.iaload, 1) := by decide +kernel
theorem dDK_advance_19 : decode prog_1_method_16_code 19 = .ok (.getstatic 186, 3) := by decide +kernel
theorem dDK_advance_22 : decode prog_1_method_16_code 22 = .ok (.iload_n 1, 1) := by decide +kernel
theorem dDK_advance_23 : decode prog_1_method_16_code 23 = .ok (.iaload, 1) := by decide +kernel
theorem dDK_advance_24 : decode prog_1_method_16_code 24 = .ok (.invokevirtual 174, 3) := by decide +kernel
theorem dDK_advance_27 : decode prog_1_method_16_code 27 = .ok (.ifCond .lt (5), 3) := by decide +kernel
theorem dDK_advance_30 : decode prog_1_method_16_code 30 = .ok (.iconst 1, 1) := by decide +kernel
theorem dDK_advance_31 : decode prog_1_method_16_code 31 = .ok (.ireturn, 1) := by decide +kernel
theorem dDK_advance_32 : decode prog_1_method_16_code 32 = .ok (.iinc 1 (1), 3) := by decide +kernel
theorem dDK_advance_35 : decode prog_1_method_16_code 35 = .ok (.goto (-33), 3) := by decide +kernel
theorem dDK_advance_38 : decode prog_1_method_16_code 38 = .ok (.iconst 0, 1) := by decide +kernel
theorem dDK_advance_39 : decode prog_1_method_16_code 39 = .ok (.ireturn, 1) := by decide +kernel
theorem l_DK_advance {G : sd_G} {o : Nat} {h0 : sd_H} {nx v : Nat} {S S1 : st_S} (hB : G.2.1 ≤ o) (hC : st_okC S) : ∀ (m w : Nat) (D : fx_D), w + m = 12 → dk_R S D → ((rp_first S m w = none ∧ v = 0 ∧ S1 = S) ∨ (rp_first S m w = some S1 ∧ v = 1)) → sd_W G mDK_advance 6 0 0 (fx_is G.1.2 dk_S o h0 nx (some (.int (nI v))) (dk_R S1)) 2 [(0, .ref (o + 0)), (1, .int (nI w))] [] (fx_h G.1.2 dk_S o D h0) nx 0 0 := by
  obtain ⟨c1, c2, c3, c4, c5, c6, c7, c8⟩ := hC
  have z12 : sz_REPEATED.2.2.2.length = 12 := rfl
  intro m
  induction m with
  | zero =>
    intro w D hw hR h
    rcases h with ⟨-, rfl, rfl⟩ | ⟨h, -⟩
    · skip
      refine sd_iload_n dDK_advance_2 rfl rfl ?_
      refine sd_gets sz_REPEATED dDK_advance_3 (by decide) (Or.inl (sd_memT (sd_in4 (List.mem_of_getElem? (i := 44) rfl)) rfl)) ?_
      refine sd_tlen sz_REPEATED dDK_advance_6 (by decide) ?_
      refine nn_icmp_ge 38 dDK_advance_7 (by decide) (by omega) (by omega) (fun c7 => ?_) (fun c7 => ?_)
      ·
        refine sd_iconst (v := nI 0) dDK_advance_38 (by decide) ?_
        exact sd_zret dDK_advance_39 rfl (Or.inl rfl) (Nat.le_refl _) (Nat.le_refl _) ⟨rfl, rfl, _, rfl, hR⟩
      ·
        exact absurd c7 (by omega)
    · cases h
  | succ m ih =>
    intro w D hw hR h
    obtain ⟨Dm, hM⟩ := mo_ex hR
    have hs := rp_sp2 (S := S) (show w < 12 by omega)
    have o30 := hR.2.2.2.2.2.1.1
    obtain ⟨t1, t2⟩ := rep_tab w (by omega)
    have ct := c_GS_attempt (G := G) (o := o) (h0 := h0) (nx := nx) hB hR hM c1 c2 c3 c4 c5 c6 c7 c8 hs
    by_cases hneg : (rp_try S w).1 < 0
    · have hst : (rp_try S w).2 = S := by
        unfold rp_try
        cases e : (st_op S).head? with
        | none => rfl
        | some g =>
          rcases tc_do_or (S := S) (k := rp_kind w) (a := rp_arg w) (g := g) o30 with ⟨-, q⟩ | ⟨q, -⟩
          · exact q
          · unfold rp_try at hneg
            rw [e] at hneg
            exact absurd hneg q
      rw [hst] at ct
      rw [rp_first, if_pos hneg] at h
      refine sd_iload_n dDK_advance_2 rfl rfl ?_
      refine sd_gets sz_REPEATED dDK_advance_3 (by decide) (Or.inl (sd_memT (sd_in4 (List.mem_of_getElem? (i := 44) rfl)) rfl)) ?_
      refine sd_tlen sz_REPEATED dDK_advance_6 (by decide) ?_
      refine nn_icmp_ge 38 dDK_advance_7 (by decide) (by omega) (by omega) (fun c7 => ?_) (fun c7 => ?_)
      ·
        exact absurd c7 (by omega)
      ·
        refine sd_aload_n dDK_advance_10 rfl rfl ?_
        refine fx_getr 0 4 (432) dDK_advance_11 fDK_44 rfl rfl ?_
        refine sd_gets sz_REPEATED dDK_advance_14 (by decide) (Or.inl (sd_memT (sd_in4 (List.mem_of_getElem? (i := 44) rfl)) rfl)) ?_
        refine sd_iload_n dDK_advance_17 rfl rfl ?_
        refine sd_tald sz_REPEATED (v := (nI (rp_kind w))) dDK_advance_18 (by decide) (vp_in_nI (by show _ < 12; omega) (by decide)) (t1) ?_
        refine sd_gets sz_WITH dDK_advance_19 (by decide) (Or.inl (sd_memT (sd_in4 (List.mem_of_getElem? (i := 46) rfl)) rfl)) ?_
        refine sd_iload_n dDK_advance_22 rfl rfl ?_
        refine sd_tald sz_WITH (v := (nI (rp_arg w))) dDK_advance_23 (by decide) (vp_in_nI (by show _ < 12; omega) (by decide)) (t2) ?_
        refine fx_cP 3 sR_GS [.int (nI (rp_kind w)), .int (nI (rp_arg w))] [] dDK_advance_24 kDK_174 rfl rfl mGS_attempt_v (ct) (by decide) (Nat.le_refl _) (Nat.le_refl _) (Nat.le_of_ble_eq_true rfl) rfl (fun D1 h1 => ?_)
        refine sd_if_lt 32 dDK_advance_27 (by decide) (fun c27 => ?_) (fun c27 => ?_)
        ·
          refine nn_iinc 1 dDK_advance_32 rfl (by decide) ?_
          refine sd_goto 2 dDK_advance_35 (by decide) ?_
          refine sd_locp (al' := [(0, .ref (o + (0))), (1, .int (nI (w + 1)))]) [1, 0] rfl ?_
          exact ih (w + 1) D1 (by omega) h1 h
        ·
          exact absurd hneg c27
    · rw [rp_first, if_neg hneg] at h
      rcases h with ⟨h, -⟩ | ⟨h, rfl⟩
      · cases h
      · cases h
        refine sd_iload_n dDK_advance_2 rfl rfl ?_
        refine sd_gets sz_REPEATED dDK_advance_3 (by decide) (Or.inl (sd_memT (sd_in4 (List.mem_of_getElem? (i := 44) rfl)) rfl)) ?_
        refine sd_tlen sz_REPEATED dDK_advance_6 (by decide) ?_
        refine nn_icmp_ge 38 dDK_advance_7 (by decide) (by omega) (by omega) (fun c7 => ?_) (fun c7 => ?_)
        ·
          exact absurd c7 (by omega)
        ·
          refine sd_aload_n dDK_advance_10 rfl rfl ?_
          refine fx_getr 0 4 (432) dDK_advance_11 fDK_44 rfl rfl ?_
          refine sd_gets sz_REPEATED dDK_advance_14 (by decide) (Or.inl (sd_memT (sd_in4 (List.mem_of_getElem? (i := 44) rfl)) rfl)) ?_
          refine sd_iload_n dDK_advance_17 rfl rfl ?_
          refine sd_tald sz_REPEATED (v := (nI (rp_kind w))) dDK_advance_18 (by decide) (vp_in_nI (by show _ < 12; omega) (by decide)) (t1) ?_
          refine sd_gets sz_WITH dDK_advance_19 (by decide) (Or.inl (sd_memT (sd_in4 (List.mem_of_getElem? (i := 46) rfl)) rfl)) ?_
          refine sd_iload_n dDK_advance_22 rfl rfl ?_
          refine sd_tald sz_WITH (v := (nI (rp_arg w))) dDK_advance_23 (by decide) (vp_in_nI (by show _ < 12; omega) (by decide)) (t2) ?_
          refine fx_cP 3 sR_GS [.int (nI (rp_kind w)), .int (nI (rp_arg w))] [] dDK_advance_24 kDK_174 rfl rfl mGS_attempt_v (ct) (by decide) (Nat.le_refl _) (Nat.le_refl _) (Nat.le_of_ble_eq_true rfl) rfl (fun D1 h1 => ?_)
          refine sd_if_lt 32 dDK_advance_27 (by decide) (fun c27 => ?_) (fun c27 => ?_)
          ·
            exact absurd c27 hneg
          ·
            refine sd_iconst (v := nI 1) dDK_advance_30 (by decide) ?_
            exact sd_zret dDK_advance_31 rfl (Or.inr rfl) (Nat.le_refl _) (Nat.le_refl _) ⟨rfl, rfl, _, rfl, h1⟩
theorem c_DK_advance {G : sd_G} {o : Nat} {D : fx_D} {h0 : sd_H} {nx v : Nat} {S S1 : st_S} (hB : G.2.1 ≤ o) (hR : dk_R S D) (hC : st_okC S) (h : (rp_first S 12 0 = none ∧ v = 0 ∧ S1 = S) ∨ (rp_first S 12 0 = some S1 ∧ v = 1)) : sd_Ct G mDK_advance 6 0 0 [.ref (o + 0)] (fx_h G.1.2 dk_S o D h0) nx (fx_is G.1.2 dk_S o h0 nx (some (.int (nI v))) (dk_R S1)) := by
  refine sd_Ct_of (by decide) (Nat.le_of_ble_eq_true rfl) ?_
  refine sd_iconst (v := nI 0) dDK_advance_0 (by decide) ?_
  refine sd_istore_n dDK_advance_1 rfl (by decide) ?_
  refine sd_locp (al' := [(0, .ref (o + (0))), (1, .int (nI (0)))]) [1, 0] rfl ?_
  exact l_DK_advance hB hC 12 0 D (by omega) hR h
theorem rp_rng {x : Int32} (h1 : ¬ x < nI 1) (h2' : x ≤ nI 8) : ∃ n : Nat, 1 ≤ n ∧ n ≤ 8 ∧ x = nI n := by
  have h2 : ¬ nI 8 < x := fun z => by
    rw [Int32.lt_iff_toInt_lt] at z
    rw [Int32.le_iff_toInt_le] at h2'
    omega
  have h0 : ¬ x < 0 := fun z => by
    rw [Int32.lt_iff_toInt_lt] at h1 z
    have e0 : (0 : Int32).toInt = 0 := rfl
    have e1 : (nI 1).toInt = 1 := rfl
    omega
  obtain ⟨t, ht, rfl⟩ := nI_of h0
  have g1 : 1 ≤ t := Nat.le_of_not_lt (fun z => h1 ((nI_ltI ht (by omega)).mpr z))
  have g8 : t ≤ 8 := Nat.le_of_not_lt (fun z => h2 ((nI_ltI (by omega) ht).mpr z))
  exact ⟨t, g1, g8, rfl⟩
theorem dDK_repeat_0 : decode prog_1_method_15_code 0 = .ok (.iload_n 1, 1) := by decide +kernel
theorem dDK_repeat_1 : decode prog_1_method_15_code 1 = .ok (.iconst 1, 1) := by decide +kernel
theorem dDK_repeat_2 : decode prog_1_method_15_code 2 = .ok (.if_icmp .lt (9), 3) := by decide +kernel
theorem dDK_repeat_5 : decode prog_1_method_15_code 5 = .ok (.iload_n 1, 1) := by decide +kernel
theorem dDK_repeat_6 : decode prog_1_method_15_code 6 = .ok (.bipush (8), 2) := by decide +kernel
theorem dDK_repeat_8 : decode prog_1_method_15_code 8 = .ok (.if_icmp .le (5), 3) := by decide +kernel
theorem dDK_repeat_11 : decode prog_1_method_15_code 11 = .ok (.iconst (-1), 1) := by decide +kernel
theorem dDK_repeat_12 : decode prog_1_method_15_code 12 = .ok (.ireturn, 1) := by decide +kernel
theorem dDK_repeat_13 : decode prog_1_method_15_code 13 = .ok (.iconst 0, 1) := by decide +kernel
theorem dDK_repeat_14 : decode prog_1_method_15_code 14 = .ok (.istore_n 2, 1) := by decide +kernel
theorem dDK_repeat_15 : decode prog_1_method_15_code 15 = .ok (.iload_n 2, 1) := by decide +kernel
theorem dDK_repeat_16 : decode prog_1_method_15_code 16 = .ok (.iload_n 1, 1) := by decide +kernel
theorem dDK_repeat_17 : decode prog_1_method_15_code 17 = .ok (.if_icmp .ge (18), 3) := by decide +kernel
theorem dDK_repeat_20 : decode prog_1_method_15_code 20 = .ok (.aload_n 0, 1) := by decide +kernel
theorem dDK_repeat_21 : decode prog_1_method_15_code 21 = .ok (.invokevirtual 180, 3) := by decide +kernel
theorem dDK_repeat_24 : decode prog_1_method_15_code 24 = .ok (.ifCond .ne (5), 3) := by decide +kernel
theorem dDK_repeat_27 : decode prog_1_method_15_code 27 = .ok (.iload_n 2, 1) := by decide +kernel
theorem dDK_repeat_28 : decode prog_1_method_15_code 28 = .ok (.ireturn, 1) := by decide +kernel
theorem dDK_repeat_29 : decode prog_1_method_15_code 29 = .ok (.iinc 2 (1), 3) := by decide +kernel
theorem dDK_repeat_32 : decode prog_1_method_15_code 32 = .ok (.goto (-17), 3) := by decide +kernel
theorem dDK_repeat_35 : decode prog_1_method_15_code 35 = .ok (.iload_n 1, 1) := by decide +kernel
theorem dDK_repeat_36 : decode prog_1_method_15_code 36 = .ok (.ireturn, 1) := by decide +kernel
theorem l_DK_repeat {G : sd_G} {o : Nat} {h0 : sd_H} {nx n : Nat} {Inv : st_S → Prop} {S1 : st_S} {a : Nat} (hB : G.2.1 ≤ o) (hn : n ≤ 8) (hI : ∀ S, Inv S → st_okC S) (hP : ∀ S D S', Inv S → dk_R S D → rp_first S 12 0 = some S' → Inv S') : ∀ (m k : Nat) (S : st_S) (D : fx_D), k + m = n → Inv S → dk_R S D → S1 = (rp_n S m).2 → a = k + (rp_n S m).1 → sd_W G mDK_repeat 7 0 0 (fx_is G.1.2 dk_S o h0 nx (some (.int (nI a))) (fun D' => dk_R S1 D' ∧ Inv S1)) 15 [(0, .ref (o + 0)), (1, .int (nI n)), (2, .int (nI k))] [] (fx_h G.1.2 dk_S o D h0) nx 0 0 := by
  intro m
  induction m with
  | zero =>
    intro k S D hk hi hR h1 h2
    have e1 : S1 = S := h1
    have e2 : a = k := h2
    subst e1 e2
    refine sd_iload_n dDK_repeat_15 rfl rfl ?_
    refine sd_iload_n dDK_repeat_16 rfl rfl ?_
    refine nn_icmp_ge 35 dDK_repeat_17 (by decide) (by omega) (by omega) (fun c17 => ?_) (fun c17 => ?_)
    ·
      refine sd_iload_n dDK_repeat_35 rfl rfl ?_
      exact sd_iret dDK_repeat_36 rfl (Nat.le_refl _) (Nat.le_refl _) ⟨by rw [show n = a by omega], rfl, _, rfl, hR, hi⟩
    ·
      exact absurd c17 (by omega)
  | succ m ih =>
    intro k S D hk hi hR h1 h2
    cases e : rp_first S 12 0 with
    | none =>
      rw [rp_n, e] at h1 h2
      have e1 : S1 = S := h1
      have e2 : a = k := h2
      subst e1 e2
      refine sd_iload_n dDK_repeat_15 rfl rfl ?_
      refine sd_iload_n dDK_repeat_16 rfl rfl ?_
      refine nn_icmp_ge 35 dDK_repeat_17 (by decide) (by omega) (by omega) (fun c17 => ?_) (fun c17 => ?_)
      ·
        exact absurd c17 (by omega)
      ·
        refine sd_aload_n dDK_repeat_20 rfl rfl ?_
        refine fx_cP 0 sR_DK [] [] dDK_repeat_21 kDK_180 rfl rfl mDK_advance_v (c_DK_advance (v := 0) hB hR (hI _ hi) (Or.inl ⟨e, rfl, rfl⟩)) (by decide) (Nat.le_refl _) (Nat.le_refl _) (Nat.le_of_ble_eq_true rfl) rfl (fun D1 h3 => ?_)
        refine nn_if_ne 29 dDK_repeat_24 (by decide) (by decide) (fun c => absurd c (by decide)) (fun _ => ?_)
        refine sd_iload_n dDK_repeat_27 rfl rfl ?_
        exact sd_iret dDK_repeat_28 rfl (Nat.le_refl _) (Nat.le_refl _) ⟨rfl, rfl, _, rfl, h3, hi⟩
    | some S2 =>
      rw [rp_n, e] at h1 h2
      have h2' : a = k + 1 + (rp_n S2 m).1 := by
        have : a = k + ((rp_n S2 m).1 + 1) := h2
        omega
      refine sd_iload_n dDK_repeat_15 rfl rfl ?_
      refine sd_iload_n dDK_repeat_16 rfl rfl ?_
      refine nn_icmp_ge 35 dDK_repeat_17 (by decide) (by omega) (by omega) (fun c17 => ?_) (fun c17 => ?_)
      ·
        exact absurd c17 (by omega)
      ·
        refine sd_aload_n dDK_repeat_20 rfl rfl ?_
        refine fx_cP 0 sR_DK [] [] dDK_repeat_21 kDK_180 rfl rfl mDK_advance_v (c_DK_advance (v := 1) hB hR (hI _ hi) (Or.inr ⟨e, rfl⟩)) (by decide) (Nat.le_refl _) (Nat.le_refl _) (Nat.le_of_ble_eq_true rfl) rfl (fun D1 h3 => ?_)
        refine nn_if_ne 29 dDK_repeat_24 (by decide) (by decide) (fun _ => ?_) (fun c => absurd c (by decide))
        refine nn_iinc 1 dDK_repeat_29 rfl (by decide) ?_
        refine sd_goto 15 dDK_repeat_32 (by decide) ?_
        refine sd_locp (al' := [(0, .ref (o + (0))), (1, .int (nI (n))), (2, .int (nI (k + 1)))]) [1, 2, 0] rfl ?_
        exact ih (k + 1) S2 D1 (by omega) (hP S D S2 hi hR e) h3 h1 h2'
theorem c_DK_repeat {G : sd_G} {o : Nat} {D : fx_D} {h0 : sd_H} {nx : Nat} {Inv : st_S → Prop} {S S' : st_S} {x ans : Int32} (hB : G.2.1 ≤ o) (hR : dk_R S D) (hi : Inv S) (hI : ∀ S, Inv S → st_okC S) (hP : ∀ S D S', Inv S → dk_R S D → rp_first S 12 0 = some S' → Inv S') (hs : sp_repeat S x ans S') : sd_Ct G mDK_repeat 7 0 0 [.ref (o + 0), .int x] (fx_h G.1.2 dk_S o D h0) nx (fx_is G.1.2 dk_S o h0 nx (some (.int ans)) (fun D' => dk_R S' D' ∧ Inv S')) := by
  refine sd_Ct_of (by decide) (Nat.le_of_ble_eq_true rfl) ?_
  rcases hs with ⟨hno, rfl, hS⟩ | ⟨n, n1, n8, rfl, rfl, hS⟩
  · rw [hS]
    refine sd_iload_n dDK_repeat_0 rfl rfl ?_
    refine sd_iconst (v := nI 1) dDK_repeat_1 (by decide) ?_
    refine sd_icmp_lt 11 dDK_repeat_2 (by decide) (fun c2 => ?_) (fun c2 => ?_)
    ·
      refine sd_iconst (v := (-1)) dDK_repeat_11 (by decide) ?_
      exact sd_iret dDK_repeat_12 rfl (Nat.le_refl _) (Nat.le_refl _) ⟨rfl, rfl, _, rfl, hR, hi⟩
    ·
      refine sd_iload_n dDK_repeat_5 rfl rfl ?_
      refine sd_bipush (v := nI 8) dDK_repeat_6 (by decide) ?_
      refine sd_icmp_le 13 dDK_repeat_8 (by decide) (fun c8 => ?_) (fun c8 => ?_)
      ·
        exact absurd (rp_rng c2 c8) hno
      ·
        refine sd_iconst (v := (-1)) dDK_repeat_11 (by decide) ?_
        exact sd_iret dDK_repeat_12 rfl (Nat.le_refl _) (Nat.le_refl _) ⟨rfl, rfl, _, rfl, hR, hi⟩
  · rw [hS]
    refine sd_iload_n dDK_repeat_0 rfl rfl ?_
    refine sd_iconst (v := nI 1) dDK_repeat_1 (by decide) ?_
    refine nn_icmp_lt 11 dDK_repeat_2 (by decide) (by omega) (by omega) (fun c2 => ?_) (fun c2 => ?_)
    ·
      exact absurd c2 (by omega)
    ·
      refine sd_iload_n dDK_repeat_5 rfl rfl ?_
      refine sd_bipush (v := nI 8) dDK_repeat_6 (by decide) ?_
      refine nn_icmp_le 13 dDK_repeat_8 (by decide) (by omega) (by omega) (fun c8 => ?_) (fun c8 => ?_)
      ·
        refine sd_iconst (v := nI 0) dDK_repeat_13 (by decide) ?_
        refine sd_istore_n dDK_repeat_14 rfl (by decide) ?_
        refine sd_locp (al' := [(0, .ref (o + (0))), (1, .int (nI (n))), (2, .int (nI (0)))]) [1, 2, 0] rfl ?_
        exact l_DK_repeat hB n8 hI hP n 0 S D (by omega) hi hR rfl (by omega)
      ·
        exact absurd c8 (by omega)
