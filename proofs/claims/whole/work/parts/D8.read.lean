/-! ===== the desk's read ===== -/
theorem sp_l_sym {dr : List Nat} {i : Nat} (hi : i < dr.length) : (tl_at (sp_l dr) i).1 = sp_s dr i dr[i] ∧ (sp_l dr).length = dr.length := by
  have e := List.getElem?_eq_getElem hi
  have g : (sp_l dr)[i]? = some (if i < dr.length then sp_s dr i dr[i] else dk_s dr[i], 1) := sp_p_get e
  refine ⟨?_, sp_p_len dr _⟩
  unfold tl_at
  rw [g, if_pos hi]
  rfl
theorem sp_bn {dr : List Nat} (h18 : ∀ (k x : Nat), dr[k]? = some x → x < 18) (h24 : dr.length ≤ 24) {i : Nat} (hi : i < dr.length) : (∀ j, bn_O dr i = some j → 10 < (tl_at (sp_l dr) i).1 ∧ bd (sp_l dr) i = j) ∧ (bn_O dr i = none → (tl_at (sp_l dr) i).1 < 11) := by
  have e := List.getElem?_eq_getElem hi
  have t18 := h18 i _ e
  have ed : dr.getD i 0 = dr[i] := by rw [List.getD_eq_getElem?_getD, e]; rfl
  obtain ⟨es, -⟩ := sp_l_sym hi
  unfold bn_O
  rw [ed]
  by_cases h8 : dr[i] < 8
  · rw [if_pos h8]
    have h7 : ¬ 7 < dr[i] := by omega
    cases hb : sp_b dr i i 0 with
    | none =>
      refine ⟨fun j q => (by cases q), fun _ => ?_⟩
      rw [es]
      unfold sp_s
      rw [if_neg h7, hb]
      simp only
      omega
    | some p =>
      have s : (tl_at (sp_l dr) i).1 = 11 + p.2 := by
        rw [es]
        unfold sp_s
        rw [if_neg h7, hb]
      refine ⟨fun j q => ?_, fun q => by cases q⟩
      have qj : p.1 = j := Option.some.inj q
      obtain ⟨-, q2⟩ := sp_bdr (sp_l_lam h18 h24) i 0 p (by omega) hb
      refine ⟨by omega, ?_⟩
      unfold bd
      rw [s, show 11 + p.2 - 11 = p.2 - 0 by omega, q2]
      exact qj
  · rw [if_neg h8]
    refine ⟨fun j q => (by cases q), fun _ => ?_⟩
    rw [es]
    unfold sp_s
    rw [if_pos (by omega)]
    exact (dk_s_lt t18).1
theorem dk_R_rd {S : st_S} {D D' : fx_D} {T : List tl_T} {dr : List Nat} (hR : dk_R S D) (a : ∀ x, ¬ (8 ≤ x ∧ x < 296) → x ≠ 1 → ¬ (296 ≤ x ∧ x ≤ 306) → ag D D' x) (h1 : dk_tms D' T) (h2 : dd_R D' dr) : dk_R (S.1, T, dr, S.2.2.2) D' := by
  obtain ⟨r1, -, -, r4, r5, r6, r7⟩ := hR
  exact ⟨dk_nt_ag (a 2 (by omega) (by omega) (by omega)) r1, h1, h2, dk_thm_ag (a 307 (by omega) (by omega) (by omega)) (fun x _ _ => a x (by omega) (by omega) (by omega)) r4, dk_glL_ag (a 432 (by omega) (by omega) (by omega)) (fun x _ _ => a x (by omega) (by omega) (by omega)) r5, dk_opn_ag (a 432 (by omega) (by omega) (by omega)) (a 434 (by omega) (by omega) (by omega)) r6, dk_tkn_ag (a 432 (by omega) (by omega) (by omega)) (a 435 (by omega) (by omega) (by omega)) r7⟩
theorem dDK_read_0 : decode prog_1_method_6_code 0 = .ok (.aload_n 0, 1) := by decide +kernel
theorem dDK_read_1 : decode prog_1_method_6_code 1 = .ok (.getfield 19, 3) := by decide +kernel
theorem dDK_read_4 : decode prog_1_method_6_code 4 = .ok (.invokevirtual 75, 3) := by decide +kernel
theorem dDK_read_7 : decode prog_1_method_6_code 7 = .ok (.ifCond .ne (6), 3) := by decide +kernel
theorem dDK_read_10 : decode prog_1_method_6_code 10 = .ok (.bipush (-2), 2) := by decide +kernel
theorem dDK_read_12 : decode prog_1_method_6_code 12 = .ok (.ireturn, 1) := by decide +kernel
theorem dDK_read_13 : decode prog_1_method_6_code 13 = .ok (.aload_n 0, 1) := by decide +kernel
theorem dDK_read_14 : decode prog_1_method_6_code 14 = .ok (.getfield 10, 3) := by decide +kernel
theorem dDK_read_17 : decode prog_1_method_6_code 17 = .ok (.invokevirtual 79, 3) := by decide +kernel
theorem dDK_read_20 : decode prog_1_method_6_code 20 = .ok (.astore_n 1, 1) := by decide +kernel
theorem dDK_read_21 : decode prog_1_method_6_code 21 = .ok (.aload_n 0, 1) := by decide +kernel
theorem dDK_read_22 : decode prog_1_method_6_code 22 = .ok (.getfield 19, 3) := by decide +kernel
theorem dDK_read_25 : decode prog_1_method_6_code 25 = .ok (.aload_n 1, 1) := by decide +kernel
theorem dDK_read_26 : decode prog_1_method_6_code 26 = .ok (.invokevirtual 83, 3) := by decide +kernel
theorem dDK_read_29 : decode prog_1_method_6_code 29 = .ok (.aload_n 0, 1) := by decide +kernel
theorem dDK_read_30 : decode prog_1_method_6_code 30 = .ok (.getfield 26, 3) := by decide +kernel
theorem dDK_read_33 : decode prog_1_method_6_code 33 = .ok (.aload_n 1, 1) := by decide +kernel
theorem dDK_read_34 : decode prog_1_method_6_code 34 = .ok (.aload_n 0, 1) := by decide +kernel
theorem dDK_read_35 : decode prog_1_method_6_code 35 = .ok (.getfield 19, 3) := by decide +kernel
theorem dDK_read_38 : decode prog_1_method_6_code 38 = .ok (.getfield 87, 3) := by decide +kernel
theorem dDK_read_41 : decode prog_1_method_6_code 41 = .ok (.aload_n 0, 1) := by decide +kernel
theorem dDK_read_42 : decode prog_1_method_6_code 42 = .ok (.getfield 10, 3) := by decide +kernel
theorem dDK_read_45 : decode prog_1_method_6_code 45 = .ok (.getfield 65, 3) := by decide +kernel
theorem dDK_read_48 : decode prog_1_method_6_code 48 = .ok (.invokevirtual 90, 3) := by decide +kernel
theorem dDK_read_51 : decode prog_1_method_6_code 51 = .ok (.istore_n 2, 1) := by decide +kernel
theorem dDK_read_52 : decode prog_1_method_6_code 52 = .ok (.iload_n 2, 1) := by decide +kernel
theorem dDK_read_53 : decode prog_1_method_6_code 53 = .ok (.ifCond .ge (5), 3) := by decide +kernel
theorem dDK_read_56 : decode prog_1_method_6_code 56 = .ok (.iload_n 2, 1) := by decide +kernel
theorem dDK_read_57 : decode prog_1_method_6_code 57 = .ok (.ireturn, 1) := by decide +kernel
theorem dDK_read_58 : decode prog_1_method_6_code 58 = .ok (.aload_n 0, 1) := by decide +kernel
theorem dDK_read_59 : decode prog_1_method_6_code 59 = .ok (.getfield 10, 3) := by decide +kernel
theorem dDK_read_62 : decode prog_1_method_6_code 62 = .ok (.getfield 61, 3) := by decide +kernel
theorem dDK_read_65 : decode prog_1_method_6_code 65 = .ok (.istore_n 3, 1) := by decide +kernel
theorem dDK_read_66 : decode prog_1_method_6_code 66 = .ok (.aload_n 0, 1) := by decide +kernel
theorem dDK_read_67 : decode prog_1_method_6_code 67 = .ok (.getfield 10, 3) := by decide +kernel
theorem dDK_read_70 : decode prog_1_method_6_code 70 = .ok (.invokevirtual 94, 3) := by decide +kernel
theorem dDK_read_73 : decode prog_1_method_6_code 73 = .ok (.istore 4, 2) := by decide +kernel
theorem dDK_read_75 : decode prog_1_method_6_code 75 = .ok (.aload_n 0, 1) := by decide +kernel
theorem dDK_read_76 : decode prog_1_method_6_code 76 = .ok (.getfield 10, 3) := by decide +kernel
theorem dDK_read_79 : decode prog_1_method_6_code 79 = .ok (.invokevirtual 98, 3) := by decide +kernel
theorem dDK_read_82 : decode prog_1_method_6_code 82 = .ok (.ifCond .eq (14), 3) := by decide +kernel
theorem dDK_read_85 : decode prog_1_method_6_code 85 = .ok (.aload_n 0, 1) := by decide +kernel
theorem dDK_read_86 : decode prog_1_method_6_code 86 = .ok (.getfield 10, 3) := by decide +kernel
theorem dDK_read_89 : decode prog_1_method_6_code 89 = .ok (.iload_n 3, 1) := by decide +kernel
theorem dDK_read_90 : decode prog_1_method_6_code 90 = .ok (.putfield 61, 3) := by decide +kernel
theorem dDK_read_93 : decode prog_1_method_6_code 93 = .ok (.bipush (-6), 2) := by decide +kernel
theorem dDK_read_95 : decode prog_1_method_6_code 95 = .ok (.ireturn, 1) := by decide +kernel
theorem dDK_read_96 : decode prog_1_method_6_code 96 = .ok (.aload_n 0, 1) := by decide +kernel
theorem dDK_read_97 : decode prog_1_method_6_code 97 = .ok (.getfield 19, 3) := by decide +kernel
theorem dDK_read_100 : decode prog_1_method_6_code 100 = .ok (.iconst 0, 1) := by decide +kernel
theorem dDK_read_101 : decode prog_1_method_6_code 101 = .ok (.putfield 69, 3) := by decide +kernel
theorem dDK_read_104 : decode prog_1_method_6_code 104 = .ok (.iload 4, 2) := by decide +kernel
theorem dDK_read_106 : decode prog_1_method_6_code 106 = .ok (.ireturn, 1) := by decide +kernel
theorem c_DK_read {G : sd_G} {o : Nat} {D : fx_D} {h0 : sd_H} {nx : Nat} {S S' : st_S} {ans : Int32} (hB : G.2.1 ≤ o) (hR : dk_R S D) (hs : sp_read S ans S') : sd_Ct G mDK_read 29 0 0 [.ref (o + 0)] (fx_h G.1.2 dk_S o D h0) nx (fx_is G.1.2 dk_S o h0 nx (some (.int ans)) (dk_R S')) := by
  refine sd_Ct_of (by decide) (Nat.le_of_ble_eq_true rfl) ?_
  have hD := hR.2.2.1
  have hT := hR.2.1
  have h64 := hT.1
  by_cases hcp : tl_cp 1 (dk_l (st_dr S))
  · have l24 := hD.1
    have h18 := fun (k x : Nat) (hx : (st_dr S)[k]? = some x) => (hD.2.2 k x hx).2
    have hwf := sp_l_wf hcp l24
    have hrow := ty_row_of hwf
    have hlen : (sp_l (st_dr S)).length = (st_dr S).length := sp_p_len _ _
    -- what giveTypes is to answer
    obtain ⟨v, hv, hvc⟩ : ∃ v, gt_v (sp_l (st_dr S)) (st_nt S) v ∧ ((v < 0 ∧ ans = v ∧ S' = S) ∨ (v = 0 ∧ ∃ σ, lst (sp_l (st_dr S)) (st_nt S) (sp_l (st_dr S)).length σ ∧ rd_big σ (sp_l (st_dr S)).length = false ∧ (ans, S') = rd_do S (sp_l (st_dr S)) σ)) := by
      rcases hs with ⟨h, -⟩ | ⟨-, h, rfl, h2⟩ | ⟨-, σ, h1, h2⟩
      · exact absurd hcp h
      · exact ⟨-3, Or.inl ⟨rfl, h⟩, Or.inl ⟨by decide, rfl, h2⟩⟩
      · by_cases hb : rd_big σ (sp_l (st_dr S)).length = true
        · unfold rd_do at h2
          rw [if_pos hb] at h2
          cases h2
          exact ⟨-5, Or.inr ⟨σ, h1, Or.inl ⟨rfl, hb⟩⟩, Or.inl ⟨by decide, rfl, rfl⟩⟩
        · have hb' : rd_big σ (sp_l (st_dr S)).length = false := by simpa using hb
          exact ⟨0, Or.inr ⟨σ, h1, Or.inr ⟨rfl, hb'⟩⟩, Or.inr ⟨rfl, σ, h1, hb', h2⟩⟩
    -- behind writeTo
    have gt : ∀ {D1 D2 : fx_D}, tm_f ((st_T S).length + 1) D D1 → wt_P ((st_T S).length + 1) (st_dr S) D1 D2 → sd_Ct G mIN_giveTypes 28 0 0 [.ref (o + 299), .ref (o + tmo ((st_T S).length + 1)), .ref (o + 298), .ref (o + 2)] (fx_h G.1.2 dk_S o D2 h0) nx (fx_is G.1.2 dk_S o h0 nx (some (.int v)) (gt_P (sp_l (st_dr S)) (st_nt S) ((st_T S).length + 1) v D2)) := by
      intro D1 D2 f1 ⟨w1, w2, w3, w4, w5⟩
      have a2 : ag D D2 2 := (f1.ag (by unfold tmo; omega) (by unfold tmo; omega) (by unfold tmo; omega) (by unfold tmo; omega)).tr (w5 2 (by unfold tmo; omega) (by unfold tmo; omega) (by unfold tmo; omega) (by unfold tmo; omega) (by omega))
      refine c_IN_giveTypes (bn := bn_O (st_dr S)) hB (by omega) hrow (by rw [hlen, ← sp_5_len (st_dr S) (st_dr S).length]; exact w1.2.1) (fun i hi => ?_) (fun i hi => ?_) (fun i hi => w4 i (by omega)) (fun i hi => sp_bn h18 l24 (by omega)) (dk_nt_ag a2 hR.1) hv
      · rw [hlen] at hi
        have e := List.getElem?_eq_getElem hi
        have q := (w1.2.2 i _ (sp_5_get e)).1
        rw [(sp_l_sym hi).1, q, if_pos hi]
      · rw [hlen] at hi
        rw [w2 i (by rw [sp_5_len]; exact hi), sp_5_end, show tl_end (sp_l (st_dr S)) i = tl_end (dk_l (st_dr S)) i from sp_p_end _ _ _]
    have fr : ∀ {D1 D2 D3 : fx_D}, tm_f ((st_T S).length + 1) D D1 → wt_P ((st_T S).length + 1) (st_dr S) D1 D2 → gt_f ((st_T S).length + 1) D2 D3 → (∀ x, ¬ (298 ≤ x ∧ x ≤ 306) → x ≠ tmo ((st_T S).length + 1) → x ≠ tmo ((st_T S).length + 1) + 1 → x ≠ tmo ((st_T S).length + 1) + 2 → x ≠ tmo ((st_T S).length + 1) + 3 → ag D D3 x) := fun f1 w g x h1 h2 h3 h4 h5 => ((f1.ag h2 h3 h4 h5).tr (w.2.2.2.2 x h2 h3 h4 h5 (by omega))).tr (g x (by omega) h4)
    have keepT : ∀ {D3 : fx_D}, (∀ x, ¬ (298 ≤ x ∧ x ≤ 306) → x ≠ tmo ((st_T S).length + 1) → x ≠ tmo ((st_T S).length + 1) + 1 → x ≠ tmo ((st_T S).length + 1) + 2 → x ≠ tmo ((st_T S).length + 1) + 3 → ag D D3 x) → ts_T D3 (st_T S) ∧ dd_R D3 (st_dr S) ∧ ∀ x, ¬ (8 ≤ x ∧ x < 296) → ¬ (298 ≤ x ∧ x ≤ 306) → ag D D3 x := fun {D3} q => by
      have lo : ∀ x, ¬ (8 ≤ x ∧ x < 296) → ¬ (298 ≤ x ∧ x ≤ 306) → ag D D3 x := fun x h1 h2 => q x h2 (by unfold tmo; omega) (by unfold tmo; omega) (by unfold tmo; omega) (by unfold tmo; omega)
      refine ⟨⟨hT.2.1, by rw [(lo 1 (by omega) (by omega)).2.1]; exact hT.2.2.1, fun t l hl => ?_⟩, dd_R_ag (lo 296 (by omega) (by omega)) (lo 297 (by omega) (by omega)) hD, lo⟩
      have ht := getE_lt hl
      obtain ⟨a, b, c⟩ := hT.2.2.2 t l hl
      have g : ∀ i, i ≤ 3 → ag D D3 (tmo (t + 1) + i) := fun i hi => q _ (by unfold tmo; omega) (by unfold tmo; omega) (by unfold tmo; omega) (by unfold tmo; omega) (by unfold tmo; omega)
      exact ⟨tm_row_ag g a, tm_set_ag g b, c⟩
    rcases hvc with ⟨hneg, rfl, hS⟩ | ⟨rfl, σ, hσ, hnb, hdo⟩
    · rw [hS]
      refine sd_aload_n dDK_read_0 rfl rfl ?_
      refine fx_getr 0 1 (296) dDK_read_1 fDK_19 rfl rfl ?_
      refine fx_cV 1 sR_DR [] [] dDK_read_4 kDK_75 rfl rfl mDR_isWhole_v (c_DR_isWhole (b := 1) hD (by omega) (by simp only [true_iff]; exact hcp)) (by omega) (Nat.le_refl _) (Nat.le_refl _) (Nat.le_of_ble_eq_true rfl) rfl ?_
      refine nn_if_ne 13 dDK_read_7 (by decide) (by decide) (fun _ => ?_) (fun c => absurd c (by decide))
      refine sd_aload_n dDK_read_13 rfl rfl ?_
      refine fx_getr 0 0 (1) dDK_read_14 fDK_10 rfl rfl ?_
      refine fx_cP 8 sR_TS [] [] dDK_read_17 kDK_79 rfl rfl mTS_fresh_v (c_TS_fresh hB (by omega) hT.2.2.1) (by omega) (Nat.le_refl _) (Nat.le_refl _) (Nat.le_of_ble_eq_true rfl) rfl (fun D1 h1 => ?_)
      refine sd_astore_n dDK_read_20 rfl (by decide) ?_
      refine sd_aload_n dDK_read_21 rfl rfl ?_
      refine fx_getr 0 1 (296) dDK_read_22 fDK_19 rfl rfl ?_
      refine sd_aload_n dDK_read_25 rfl rfl ?_
      refine fx_cP 1 sR_DR [.ref (o + (tmo (((st_T S).length + 1))))] [] dDK_read_26 kDK_83 rfl rfl mDR_writeTo_v (c_DR_writeTo hB (by omega) (dd_R_wt (by omega) (wt_f.tm h1.2) hD) hcp h1.1) (by omega) (Nat.le_refl _) (Nat.le_refl _) (Nat.le_of_ble_eq_true rfl) rfl (fun D2 h2 => ?_)
      refine sd_aload_n dDK_read_29 rfl rfl ?_
      refine fx_getr 0 2 (299) dDK_read_30 fDK_26 rfl rfl ?_
      refine sd_aload_n dDK_read_33 rfl rfl ?_
      refine sd_aload_n dDK_read_34 rfl rfl ?_
      refine fx_getr 0 1 (296) dDK_read_35 fDK_19 rfl rfl ?_
      refine fx_getr 1 1 (298) dDK_read_38 fDK_87 rfl rfl ?_
      refine sd_aload_n dDK_read_41 rfl rfl ?_
      refine fx_getr 0 0 (1) dDK_read_42 fDK_10 rfl rfl ?_
      refine fx_getr 8 0 (2) dDK_read_45 fDK_65 rfl rfl ?_
      refine fx_cP 4 sR_IN [.ref (o + (tmo (((st_T S).length + 1)))), .ref (o + (298)), .ref (o + (2))] [] dDK_read_48 kDK_90 rfl rfl mIN_giveTypes_v (gt h1.2 h2) (by decide) (Nat.le_refl _) (Nat.le_refl _) (Nat.le_of_ble_eq_true rfl) rfl (fun D3 h3 => ?_)
      refine sd_istore_n dDK_read_51 rfl (by decide) ?_
      refine sd_iload_n dDK_read_52 rfl rfl ?_
      refine sd_if_ge 58 dDK_read_53 (by decide) (fun c53 => ?_) (fun c53 => ?_)
      ·
        exact absurd hneg (by rw [Int32.lt_iff_toInt_lt]; rw [Int32.le_iff_toInt_le] at c53; omega)
      ·
        refine sd_iload_n dDK_read_56 rfl rfl ?_
        obtain ⟨k1, k2, k3⟩ := keepT (fr h1.2 h2 h3.1)
        exact sd_iret dDK_read_57 rfl (Nat.le_refl _) (Nat.le_refl _) ⟨rfl, rfl, _, rfl, dk_R_rd hR (fun x q1 q2 q3 => k3 x q1 (by omega)) ⟨h64, k1⟩ k2⟩
    · unfold rd_do at hdo
      rw [if_neg (by rw [hnb]; decide)] at hdo
      have hsmall : ∀ k, k < (sp_l (st_dr S)).length → tt_len (σ k) ≤ 24 := fun k hk => by
        by_cases z : tt_len (σ k) ≤ 24
        · exact z
        · have : rd_big σ (sp_l (st_dr S)).length = true := by
            unfold rd_big
            exact List.any_eq_true.mpr ⟨k, List.mem_range.mpr hk, by simp; omega⟩
          rw [hnb] at this
          cases this
      have hwf2 : tl_wf (rd_row (sp_l (st_dr S)) σ) := wf_ar (rd_p_ar _ _ _) hwf
      have hl2 : (rd_row (sp_l (st_dr S)) σ).length = (st_dr S).length := (rd_p_len _ _ _).trans hlen
      have rowOf : ∀ {D1 D2 D3 : fx_D}, wt_P ((st_T S).length + 1) (st_dr S) D1 D2 → gt_P (sp_l (st_dr S)) (st_nt S) ((st_T S).length + 1) 0 D2 D3 → tw D3 ((st_T S).length + 1) (rd_row (sp_l (st_dr S)) σ) := by
        intro D1 D2 D3 ⟨w1, w2, w3, w4, w5⟩ ⟨g1, g2⟩
        have g2 := g2 rfl σ hσ
        have a0 := g1 (tmo ((st_T S).length + 1)) (by unfold tmo; omega) (by omega)
        have a1 := g1 (tmo ((st_T S).length + 1) + 1) (by unfold tmo; omega) (by omega)
        refine Or.inl ⟨by omega, ⟨by omega, ?_, fun k x hx => ?_⟩, by rw [a0.2.1]; exact w3⟩
        · rw [a0.2.1, hl2, ← sp_5_len (st_dr S) (st_dr S).length]
          exact w1.2.1
        · have hk : k < (st_dr S).length := by rw [← hl2]; exact getE_lt hx
          have e := List.getElem?_eq_getElem hk
          have g : (sp_l (st_dr S))[k]? = some (if k < (st_dr S).length then sp_s (st_dr S) k (st_dr S)[k] else dk_s (st_dr S)[k], 1) := sp_p_get e
          have hx2 : x = (sp_s (st_dr S) k (st_dr S)[k], tt_n (σ k)) := by
            have := rd_p_get (σ := σ) (m := (sp_l (st_dr S)).length) g
            rw [if_pos hk, if_pos (by omega)] at this
            exact (Option.some.inj (this.symm.trans hx)).symm
          subst hx2
          obtain ⟨q1, -, q3, -⟩ := w1.2.2 k _ (sp_5_get e)
          rw [if_pos hk] at q1 q3
          exact ⟨by rw [a1.1]; exact q1, g2 k (by omega), q3, tt_n_lt (hσ.2.1 k (by omega)) (hsmall k (by omega))⟩
      obtain ⟨X, x1, x2⟩ := tl_ku_pre (st_T S) (rd_row (sp_l (st_dr S)) σ)
      have kle := tl_kp_lle (st_T S) (rd_row (sp_l (st_dr S)) σ)
      have klen := tl_ku_le (st_T S) (rd_row (sp_l (st_dr S)) σ)
      by_cases hk : tl_kp (st_T S) (rd_row (sp_l (st_dr S)) σ) < 64
      · rw [if_pos hk] at hdo
        obtain ⟨rfl, hS⟩ := Prod.mk.inj hdo
        rw [hS]
        obtain ⟨e1, e2⟩ := tl_kp_lt64 h64 hk
        refine sd_aload_n dDK_read_0 rfl rfl ?_
        refine fx_getr 0 1 (296) dDK_read_1 fDK_19 rfl rfl ?_
        refine fx_cV 1 sR_DR [] [] dDK_read_4 kDK_75 rfl rfl mDR_isWhole_v (c_DR_isWhole (b := 1) hD (by omega) (by simp only [true_iff]; exact hcp)) (by omega) (Nat.le_refl _) (Nat.le_refl _) (Nat.le_of_ble_eq_true rfl) rfl ?_
        refine nn_if_ne 13 dDK_read_7 (by decide) (by decide) (fun _ => ?_) (fun c => absurd c (by decide))
        refine sd_aload_n dDK_read_13 rfl rfl ?_
        refine fx_getr 0 0 (1) dDK_read_14 fDK_10 rfl rfl ?_
        refine fx_cP 8 sR_TS [] [] dDK_read_17 kDK_79 rfl rfl mTS_fresh_v (c_TS_fresh hB (by omega) hT.2.2.1) (by omega) (Nat.le_refl _) (Nat.le_refl _) (Nat.le_of_ble_eq_true rfl) rfl (fun D1 h1 => ?_)
        refine sd_astore_n dDK_read_20 rfl (by decide) ?_
        refine sd_aload_n dDK_read_21 rfl rfl ?_
        refine fx_getr 0 1 (296) dDK_read_22 fDK_19 rfl rfl ?_
        refine sd_aload_n dDK_read_25 rfl rfl ?_
        refine fx_cP 1 sR_DR [.ref (o + (tmo (((st_T S).length + 1))))] [] dDK_read_26 kDK_83 rfl rfl mDR_writeTo_v (c_DR_writeTo hB (by omega) (dd_R_wt (by omega) (wt_f.tm h1.2) hD) hcp h1.1) (by omega) (Nat.le_refl _) (Nat.le_refl _) (Nat.le_of_ble_eq_true rfl) rfl (fun D2 h2 => ?_)
        refine sd_aload_n dDK_read_29 rfl rfl ?_
        refine fx_getr 0 2 (299) dDK_read_30 fDK_26 rfl rfl ?_
        refine sd_aload_n dDK_read_33 rfl rfl ?_
        refine sd_aload_n dDK_read_34 rfl rfl ?_
        refine fx_getr 0 1 (296) dDK_read_35 fDK_19 rfl rfl ?_
        refine fx_getr 1 1 (298) dDK_read_38 fDK_87 rfl rfl ?_
        refine sd_aload_n dDK_read_41 rfl rfl ?_
        refine fx_getr 0 0 (1) dDK_read_42 fDK_10 rfl rfl ?_
        refine fx_getr 8 0 (2) dDK_read_45 fDK_65 rfl rfl ?_
        refine fx_cP 4 sR_IN [.ref (o + (tmo (((st_T S).length + 1)))), .ref (o + (298)), .ref (o + (2))] [] dDK_read_48 kDK_90 rfl rfl mIN_giveTypes_v (gt h1.2 h2) (by decide) (Nat.le_refl _) (Nat.le_refl _) (Nat.le_of_ble_eq_true rfl) rfl (fun D3 h3 => ?_)
        refine sd_istore_n dDK_read_51 rfl (by decide) ?_
        obtain ⟨k1, k2, k3⟩ := keepT (fr h1.2 h2 h3.1)
        refine sd_iload_n dDK_read_52 rfl rfl ?_
        refine nn_if_ge dDK_read_53 58 (by decide) (Nat.two_pow_pos 31) ?_
        refine sd_aload_n dDK_read_58 rfl rfl ?_
        refine fx_getr 0 0 (1) dDK_read_59 fDK_10 rfl rfl ?_
        refine fx_getiv (v := (nI ((st_T S).length))) 8 2 dDK_read_62 fDK_61 rfl rfl (k1.2.1) ?_
        refine sd_istore_n dDK_read_65 rfl (by decide) ?_
        refine sd_aload_n dDK_read_66 rfl rfl ?_
        refine fx_getr 0 0 (1) dDK_read_67 fDK_10 rfl rfl ?_
        refine fx_cP 8 sR_TS [] [] dDK_read_70 kDK_94 rfl rfl mTS_keep_v (c_TS_keep hB k1 (by omega) (rowOf h2 h3) hwf2) (by omega) (Nat.le_refl _) (Nat.le_refl _) (Nat.le_of_ble_eq_true rfl) rfl (fun D4 h4 => ?_)
        refine sd_istore dDK_read_73 (by decide) ?_
        refine sd_aload_n dDK_read_75 rfl rfl ?_
        refine fx_getr 0 0 (1) dDK_read_76 fDK_10 rfl rfl ?_
        refine fx_cV 8 sR_TS [] [] dDK_read_79 kDK_98 rfl rfl mTS_overfull_v (c_TS_overfull (b := 0) (n := (tl_ku (st_T S) (rd_row (sp_l (st_dr S)) σ)).length) (by omega) h4.1.2.1 (by omega) ⟨fun e ↦ absurd e (by decide), fun e ↦ by rw [e1] at e; omega⟩) (by omega) (Nat.le_refl _) (Nat.le_refl _) (Nat.le_of_ble_eq_true rfl) rfl ?_
        refine nn_if_eq 96 dDK_read_82 (by decide) (by decide) (fun _ => ?_) (fun c => absurd c (by decide))
        refine sd_aload_n dDK_read_96 rfl rfl ?_
        refine fx_getr 0 1 (296) dDK_read_97 fDK_19 rfl rfl ?_
        refine sd_iconst (v := nI 0) dDK_read_100 (by decide) ?_
        refine fx_puti 1 2 dDK_read_101 fDK_69 rfl rfl rfl rfl hB ?_
        refine sd_iload dDK_read_104 rfl ?_
        have lo : ∀ x, ¬ (8 ≤ x ∧ x < 296) → x ≠ 1 → ¬ (298 ≤ x ∧ x ≤ 306) → ag D D4 x := fun x q1 q2 q3 => (k3 x q1 q3).tr (h4.2.ag q1 q2)
        refine sd_iret dDK_read_106 rfl (Nat.le_refl _) (Nat.le_refl _) ⟨rfl, rfl, _, rfl, dk_R_rd hR (fun x q1 q2 q3 => (lo x q1 q2 (by omega)).tr (ag_uf (by omega))) ⟨e2, ?_⟩ ⟨by simp, by simp [fx_uf, upd], fun k x hx => by simp at hx⟩⟩
        rw [← e1]
        exact ts_T_uf (by omega) h4.1
      · rw [if_neg hk] at hdo
        obtain ⟨rfl, hS⟩ := Prod.mk.inj hdo
        rw [hS]
        have e65 := tl_kp_64 h64 hk
        refine sd_aload_n dDK_read_0 rfl rfl ?_
        refine fx_getr 0 1 (296) dDK_read_1 fDK_19 rfl rfl ?_
        refine fx_cV 1 sR_DR [] [] dDK_read_4 kDK_75 rfl rfl mDR_isWhole_v (c_DR_isWhole (b := 1) hD (by omega) (by simp only [true_iff]; exact hcp)) (by omega) (Nat.le_refl _) (Nat.le_refl _) (Nat.le_of_ble_eq_true rfl) rfl ?_
        refine nn_if_ne 13 dDK_read_7 (by decide) (by decide) (fun _ => ?_) (fun c => absurd c (by decide))
        refine sd_aload_n dDK_read_13 rfl rfl ?_
        refine fx_getr 0 0 (1) dDK_read_14 fDK_10 rfl rfl ?_
        refine fx_cP 8 sR_TS [] [] dDK_read_17 kDK_79 rfl rfl mTS_fresh_v (c_TS_fresh hB (by omega) hT.2.2.1) (by omega) (Nat.le_refl _) (Nat.le_refl _) (Nat.le_of_ble_eq_true rfl) rfl (fun D1 h1 => ?_)
        refine sd_astore_n dDK_read_20 rfl (by decide) ?_
        refine sd_aload_n dDK_read_21 rfl rfl ?_
        refine fx_getr 0 1 (296) dDK_read_22 fDK_19 rfl rfl ?_
        refine sd_aload_n dDK_read_25 rfl rfl ?_
        refine fx_cP 1 sR_DR [.ref (o + (tmo (((st_T S).length + 1))))] [] dDK_read_26 kDK_83 rfl rfl mDR_writeTo_v (c_DR_writeTo hB (by omega) (dd_R_wt (by omega) (wt_f.tm h1.2) hD) hcp h1.1) (by omega) (Nat.le_refl _) (Nat.le_refl _) (Nat.le_of_ble_eq_true rfl) rfl (fun D2 h2 => ?_)
        refine sd_aload_n dDK_read_29 rfl rfl ?_
        refine fx_getr 0 2 (299) dDK_read_30 fDK_26 rfl rfl ?_
        refine sd_aload_n dDK_read_33 rfl rfl ?_
        refine sd_aload_n dDK_read_34 rfl rfl ?_
        refine fx_getr 0 1 (296) dDK_read_35 fDK_19 rfl rfl ?_
        refine fx_getr 1 1 (298) dDK_read_38 fDK_87 rfl rfl ?_
        refine sd_aload_n dDK_read_41 rfl rfl ?_
        refine fx_getr 0 0 (1) dDK_read_42 fDK_10 rfl rfl ?_
        refine fx_getr 8 0 (2) dDK_read_45 fDK_65 rfl rfl ?_
        refine fx_cP 4 sR_IN [.ref (o + (tmo (((st_T S).length + 1)))), .ref (o + (298)), .ref (o + (2))] [] dDK_read_48 kDK_90 rfl rfl mIN_giveTypes_v (gt h1.2 h2) (by decide) (Nat.le_refl _) (Nat.le_refl _) (Nat.le_of_ble_eq_true rfl) rfl (fun D3 h3 => ?_)
        refine sd_istore_n dDK_read_51 rfl (by decide) ?_
        obtain ⟨k1, k2, k3⟩ := keepT (fr h1.2 h2 h3.1)
        refine sd_iload_n dDK_read_52 rfl rfl ?_
        refine nn_if_ge dDK_read_53 58 (by decide) (Nat.two_pow_pos 31) ?_
        refine sd_aload_n dDK_read_58 rfl rfl ?_
        refine fx_getr 0 0 (1) dDK_read_59 fDK_10 rfl rfl ?_
        refine fx_getiv (v := (nI ((st_T S).length))) 8 2 dDK_read_62 fDK_61 rfl rfl (k1.2.1) ?_
        refine sd_istore_n dDK_read_65 rfl (by decide) ?_
        refine sd_aload_n dDK_read_66 rfl rfl ?_
        refine fx_getr 0 0 (1) dDK_read_67 fDK_10 rfl rfl ?_
        refine fx_cP 8 sR_TS [] [] dDK_read_70 kDK_94 rfl rfl mTS_keep_v (c_TS_keep hB k1 (by omega) (rowOf h2 h3) hwf2) (by omega) (Nat.le_refl _) (Nat.le_refl _) (Nat.le_of_ble_eq_true rfl) rfl (fun D4 h4 => ?_)
        refine sd_istore dDK_read_73 (by decide) ?_
        refine sd_aload_n dDK_read_75 rfl rfl ?_
        refine fx_getr 0 0 (1) dDK_read_76 fDK_10 rfl rfl ?_
        refine fx_cV 8 sR_TS [] [] dDK_read_79 kDK_98 rfl rfl mTS_overfull_v (c_TS_overfull (b := 1) (n := (tl_ku (st_T S) (rd_row (sp_l (st_dr S)) σ)).length) (by omega) h4.1.2.1 (by omega) (by simp only [true_iff]; omega)) (by omega) (Nat.le_refl _) (Nat.le_refl _) (Nat.le_of_ble_eq_true rfl) rfl ?_
        refine nn_if_eq 96 dDK_read_82 (by decide) (by decide) (fun c => absurd c (by decide)) (fun _ => ?_)
        refine sd_aload_n dDK_read_85 rfl rfl ?_
        refine fx_getr 0 0 (1) dDK_read_86 fDK_10 rfl rfl ?_
        refine sd_iload_n dDK_read_89 rfl rfl ?_
        refine fx_puti 8 2 dDK_read_90 fDK_61 rfl rfl rfl rfl hB ?_
        refine sd_bipush (v := (-6)) dDK_read_93 (by decide) ?_
        have lo : ∀ x, ¬ (8 ≤ x ∧ x < 296) → x ≠ 1 → ¬ (298 ≤ x ∧ x ≤ 306) → ag D D4 x := fun x q1 q2 q3 => (k3 x q1 q3).tr (h4.2.ag q1 q2)
        refine sd_iret dDK_read_95 rfl (Nat.le_refl _) (Nat.le_refl _) ⟨rfl, rfl, _, rfl, dk_R_rd hR (fun x q1 q2 q3 => (lo x q1 q2 (by omega)).tr (ag_uf q2)) (dk_tms_back (X := X) h64 ?_) (dd_R_ag ((lo 296 (by omega) (by omega) (by omega)).tr (ag_uf (by omega))) ((lo 297 (by omega) (by omega) (by omega)).tr (ag_uf (by omega))) hD)⟩
        rw [← x1]
        exact h4.1
  · have hA : ans = -2 ∧ S' = S := by
      rcases hs with ⟨-, h1, h2⟩ | ⟨h, -⟩ | ⟨h, -⟩
      · exact ⟨h1, h2⟩
      · exact absurd h hcp
      · exact absurd h hcp
    obtain ⟨rfl, hS⟩ := hA
    rw [hS]
    refine sd_aload_n dDK_read_0 rfl rfl ?_
    refine fx_getr 0 1 (296) dDK_read_1 fDK_19 rfl rfl ?_
    refine fx_cV 1 sR_DR [] [] dDK_read_4 kDK_75 rfl rfl mDR_isWhole_v (c_DR_isWhole (b := 0) hD (by omega) ⟨fun e ↦ absurd e (by decide), fun e ↦ absurd e hcp⟩) (by omega) (Nat.le_refl _) (Nat.le_refl _) (Nat.le_of_ble_eq_true rfl) rfl ?_
    refine nn_if_ne 13 dDK_read_7 (by decide) (by decide) (fun c => absurd c (by decide)) (fun _ => ?_)
    refine sd_bipush (v := (-2)) dDK_read_10 (by decide) ?_
    exact sd_iret dDK_read_12 rfl (Nat.le_refl _) (Nat.le_refl _) ⟨rfl, rfl, _, rfl, hR⟩
