/-! ===== the model: goal ===== -/
/-- D' differs from D in goals -/
def mo_fg (D D' : fx_D) : Prop := (∀ x, (x < 13 ∨ 21 < x) → D'.1 x = D.1 x) ∧ (∀ x j, ¬ (x = 0 ∧ 27 ≤ j ∧ j ≤ 29) → D'.2.1 x j = D.2.1 x j) ∧ D'.2.2 = D.2.2
theorem mo_fg.rf (D : fx_D) : mo_fg D D := ⟨fun _ _ => rfl, fun _ _ _ => rfl, rfl⟩
theorem mo_fg.tr {D D' D2 : fx_D} (h : mo_fg D D') (h2 : mo_fg D' D2) : mo_fg D D2 := ⟨fun x a => (h2.1 x a).trans (h.1 x a), fun x j a => (h2.2.1 x j a).trans (h.2.1 x j a), h2.2.2.trans h.2.2⟩
theorem mo_fg.ua (D : fx_D) {x i : Nat} {v : Int32} (h1 : 13 ≤ x) (h2 : x ≤ 21) : mo_fg D (fx_ua D x i v) := ⟨fun y hy => by simp [fx_ua, show ¬ y = x by omega], fun _ _ _ => rfl, rfl⟩
theorem mo_fg.uf (D : fx_D) {j : Nat} {v : Int32} (h1 : 27 ≤ j) (h2 : j ≤ 29) : mo_fg D (fx_uf D 0 j v) := ⟨fun _ _ => rfl, fun y i hy => by
  by_cases h : y = 0
  · subst h
    have : ¬ i = j := fun e => hy ⟨rfl, by omega⟩
    simp [fx_uf, upd, this]
  · simp [fx_uf, h], rfl⟩
theorem mo_R_goals {S : st_S} {D D' : fx_D} {gl : List st_Gl} {op dn : List Nat} (hR : mo_R S D) (hf : mo_fg D D') (hg : mo_gl D' gl) (ho : mo_op D' op) (hd : mo_dn D' dn) : mo_R (S.1, S.2.1, S.2.2.1, S.2.2.2.1, gl, op, dn) D' := by
  obtain ⟨f1, f2, f3⟩ := hf
  obtain ⟨r1, r2, r3, r4, r5, -, -, -⟩ := hR
  have fi : ∀ j, j < 27 → D'.2.1 0 j = D.2.1 0 j := fun j hj => f2 0 j (fun z => by omega)
  have fr : ∀ q l, mo_row D q l → mo_row D' q l := fun q l h => ⟨h.1, by rw [f1 3 (by omega)]; exact h.2.1, fun k x hx => by rw [f1 1 (by omega), f1 2 (by omega)]; exact h.2.2 k x hx⟩
  refine ⟨fun v hv => ?_, ⟨r2.1, by rw [fi 5 (by decide)]; exact r2.2.1, fun t l ht => ⟨fr t l (r2.2.2 t l ht).1, (r2.2.2 t l ht).2⟩⟩, fun q h1 h2 => ?_, ⟨r4.1, by rw [fi 6 (by decide)]; exact r4.2.1, fun k x hx => ?_⟩, ⟨r5.1, by rw [fi 14 (by decide)]; exact r5.2.1, fun p h hp => ?_⟩, hg, ho, hd⟩
  · rw [f1 4 (by omega)]; exact r1 v hv
  · obtain ⟨k, k1, k2⟩ := r3 q h1 h2
    exact ⟨k, k1, by rw [f1 3 (by omega)]; exact k2⟩
  · rw [f1 5 (by omega)]; exact r4.2.2 k x hx
  · rw [f1 6 (by omega), f1 7 (by omega), f1 8 (by omega), f1 9 (by omega), f1 10 (by omega), f1 11 (by omega)]
    exact r5.2.2 p h hp
theorem dMO_goal_0 : decode prog_13_method_58_code 0 = .ok (.aload_n 0, 1) := by decide +kernel
theorem dMO_goal_1 : decode prog_13_method_58_code 1 = .ok (.iload_n 1, 1) := by decide +kernel
theorem dMO_goal_2 : decode prog_13_method_58_code 2 = .ok (.invokevirtual 200, 3) := by decide +kernel
theorem dMO_goal_5 : decode prog_13_method_58_code 5 = .ok (.ifCond .ne (5), 3) := by decide +kernel
theorem dMO_goal_8 : decode prog_13_method_58_code 8 = .ok (.iconst (-1), 1) := by decide +kernel
theorem dMO_goal_9 : decode prog_13_method_58_code 9 = .ok (.ireturn, 1) := by decide +kernel
theorem dMO_goal_10 : decode prog_13_method_58_code 10 = .ok (.aload_n 0, 1) := by decide +kernel
theorem dMO_goal_11 : decode prog_13_method_58_code 11 = .ok (.iload_n 1, 1) := by decide +kernel
theorem dMO_goal_12 : decode prog_13_method_58_code 12 = .ok (.invokevirtual 203, 3) := by decide +kernel
theorem dMO_goal_15 : decode prog_13_method_58_code 15 = .ok (.iconst 4, 1) := by decide +kernel
theorem dMO_goal_16 : decode prog_13_method_58_code 16 = .ok (.if_icmp .eq (6), 3) := by decide +kernel
theorem dMO_goal_19 : decode prog_13_method_58_code 19 = .ok (.bipush (-4), 2) := by decide +kernel
theorem dMO_goal_21 : decode prog_13_method_58_code 21 = .ok (.ireturn, 1) := by decide +kernel
theorem dMO_goal_22 : decode prog_13_method_58_code 22 = .ok (.aload_n 0, 1) := by decide +kernel
theorem dMO_goal_23 : decode prog_13_method_58_code 23 = .ok (.iconst 1, 1) := by decide +kernel
theorem dMO_goal_24 : decode prog_13_method_58_code 24 = .ok (.putfield 270, 3) := by decide +kernel
theorem dMO_goal_27 : decode prog_13_method_58_code 27 = .ok (.aload_n 0, 1) := by decide +kernel
theorem dMO_goal_28 : decode prog_13_method_58_code 28 = .ok (.getfield 46, 3) := by decide +kernel
theorem dMO_goal_31 : decode prog_13_method_58_code 31 = .ok (.iconst 0, 1) := by decide +kernel
theorem dMO_goal_32 : decode prog_13_method_58_code 32 = .ok (.iload_n 1, 1) := by decide +kernel
theorem dMO_goal_33 : decode prog_13_method_58_code 33 = .ok (.iastore, 1) := by decide +kernel
theorem dMO_goal_34 : decode prog_13_method_58_code 34 = .ok (.aload_n 0, 1) := by decide +kernel
theorem dMO_goal_35 : decode prog_13_method_58_code 35 = .ok (.getfield 49, 3) := by decide +kernel
theorem dMO_goal_38 : decode prog_13_method_58_code 38 = .ok (.iconst 0, 1) := by decide +kernel
theorem dMO_goal_39 : decode prog_13_method_58_code 39 = .ok (.iconst 0, 1) := by decide +kernel
theorem dMO_goal_40 : decode prog_13_method_58_code 40 = .ok (.iastore, 1) := by decide +kernel
theorem dMO_goal_41 : decode prog_13_method_58_code 41 = .ok (.aload_n 0, 1) := by decide +kernel
theorem dMO_goal_42 : decode prog_13_method_58_code 42 = .ok (.getfield 55, 3) := by decide +kernel
theorem dMO_goal_45 : decode prog_13_method_58_code 45 = .ok (.iconst 0, 1) := by decide +kernel
theorem dMO_goal_46 : decode prog_13_method_58_code 46 = .ok (.iconst (-1), 1) := by decide +kernel
theorem dMO_goal_47 : decode prog_13_method_58_code 47 = .ok (.iastore, 1) := by decide +kernel
theorem dMO_goal_48 : decode prog_13_method_58_code 48 = .ok (.aload_n 0, 1) := by decide +kernel
theorem dMO_goal_49 : decode prog_13_method_58_code 49 = .ok (.getfield 67, 3) := by decide +kernel
theorem dMO_goal_52 : decode prog_13_method_58_code 52 = .ok (.iconst 0, 1) := by decide +kernel
theorem dMO_goal_53 : decode prog_13_method_58_code 53 = .ok (.iconst 0, 1) := by decide +kernel
theorem dMO_goal_54 : decode prog_13_method_58_code 54 = .ok (.iastore, 1) := by decide +kernel
theorem dMO_goal_55 : decode prog_13_method_58_code 55 = .ok (.aload_n 0, 1) := by decide +kernel
theorem dMO_goal_56 : decode prog_13_method_58_code 56 = .ok (.iconst 1, 1) := by decide +kernel
theorem dMO_goal_57 : decode prog_13_method_58_code 57 = .ok (.putfield 273, 3) := by decide +kernel
theorem dMO_goal_60 : decode prog_13_method_58_code 60 = .ok (.aload_n 0, 1) := by decide +kernel
theorem dMO_goal_61 : decode prog_13_method_58_code 61 = .ok (.iconst 0, 1) := by decide +kernel
theorem dMO_goal_62 : decode prog_13_method_58_code 62 = .ok (.putfield 275, 3) := by decide +kernel
theorem dMO_goal_65 : decode prog_13_method_58_code 65 = .ok (.iconst 1, 1) := by decide +kernel
theorem dMO_goal_66 : decode prog_13_method_58_code 66 = .ok (.ireturn, 1) := by decide +kernel
theorem c_MO_goal {G : sd_G} {o : Nat} {D : fx_D} {h0 : sd_H} {nx : Nat} {S S' : st_S} {x a : Int32} (hB : G.2.1 ≤ o) (hR : mo_R S D) (hs : sp_goal S x a S') : sd_Ct G mMO_goal 2 0 0 [.ref (o + 0), .int x] (fx_h G.1.2 mo_S o D h0) nx (fx_is G.1.2 mo_S o h0 nx (some (.int a)) (mo_R S')) := by
  refine sd_Ct_of (by decide) (Nat.le_of_ble_eq_true rfl) ?_
  have h64 := hR.2.1.1
  have ht5 := hR.2.1.2.1
  rcases hs with ⟨hn, rfl, rfl⟩ | ⟨t, ht, rfl, hs⟩
  ·
    refine sd_aload_n dMO_goal_0 rfl rfl ?_
    refine sd_iload_n dMO_goal_1 rfl rfl ?_
    refine fx_cV 10 sR_MO [.int (x)] [] dMO_goal_2 kMO_200 rfl rfl mMO_isTerm_v (c_MO_isTerm (b := 0) h64 ht5 (by omega) (by constructor; intro e; cases e; intro e; exact absurd e hn)) (by decide) (Nat.le_refl _) (Nat.le_refl _) (Nat.le_of_ble_eq_true rfl) rfl ?_
    refine nn_if_ne 10 dMO_goal_5 (by decide) (by decide) (fun c => absurd c (by decide)) (fun _ => ?_)
    refine sd_iconst (v := (-1)) dMO_goal_8 (by decide) ?_
    exact sd_iret dMO_goal_9 rfl (Nat.le_refl _) (Nat.le_refl _) ⟨rfl, rfl, D, rfl, hR⟩
  · obtain ⟨-, m1, m2, m3⟩ := mo_tm hR ht
    have p0 := m2.hd
    have q4 := (m1.2.2 0 _ p0).2.2.2
    rcases hs with ⟨h4, rfl, rfl⟩ | ⟨h4, rfl, rfl⟩
    ·
      refine sd_aload_n dMO_goal_0 rfl rfl ?_
      refine sd_iload_n dMO_goal_1 rfl rfl ?_
      refine fx_cV 10 sR_MO [.int (nI (t))] [] dMO_goal_2 kMO_200 rfl rfl mMO_isTerm_v (c_MO_isTerm (b := 1) h64 ht5 (by omega) (by simp only [true_iff]; exact ⟨t, ht, rfl⟩)) (by decide) (Nat.le_refl _) (Nat.le_refl _) (Nat.le_of_ble_eq_true rfl) rfl ?_
      refine nn_if_ne 10 dMO_goal_5 (by decide) (by decide) (fun _ => ?_) (fun c => absurd c (by decide))
      refine sd_aload_n dMO_goal_10 rfl rfl ?_
      refine sd_iload_n dMO_goal_11 rfl rfl ?_
      refine fx_cV 10 sR_MO [.int (nI (t))] [] dMO_goal_12 kMO_203 rfl rfl mMO_typeOf_v (c_MO_typ0 (by omega) m1 p0) (by decide) (Nat.le_refl _) (Nat.le_refl _) (Nat.le_of_ble_eq_true rfl) rfl ?_
      refine sd_iconst (v := nI 4) dMO_goal_15 (by decide) ?_
      refine nn_icmp_eq 22 dMO_goal_16 (by decide) (by omega) (by omega) (fun c16 => ?_) (fun c16 => ?_)
      ·
        exact absurd c16 (by omega)
      ·
        refine sd_bipush (v := (-4)) dMO_goal_19 (by decide) ?_
        exact sd_iret dMO_goal_21 rfl (Nat.le_refl _) (Nat.le_refl _) ⟨rfl, rfl, D, rfl, hR⟩
    ·
      refine sd_aload_n dMO_goal_0 rfl rfl ?_
      refine sd_iload_n dMO_goal_1 rfl rfl ?_
      refine fx_cV 10 sR_MO [.int (nI (t))] [] dMO_goal_2 kMO_200 rfl rfl mMO_isTerm_v (c_MO_isTerm (b := 1) h64 ht5 (by omega) (by simp only [true_iff]; exact ⟨t, ht, rfl⟩)) (by decide) (Nat.le_refl _) (Nat.le_refl _) (Nat.le_of_ble_eq_true rfl) rfl ?_
      refine nn_if_ne 10 dMO_goal_5 (by decide) (by decide) (fun _ => ?_) (fun c => absurd c (by decide))
      refine sd_aload_n dMO_goal_10 rfl rfl ?_
      refine sd_iload_n dMO_goal_11 rfl rfl ?_
      refine fx_cV 10 sR_MO [.int (nI (t))] [] dMO_goal_12 kMO_203 rfl rfl mMO_typeOf_v (c_MO_typ0 (by omega) m1 p0) (by decide) (Nat.le_refl _) (Nat.le_refl _) (Nat.le_of_ble_eq_true rfl) rfl ?_
      refine sd_iconst (v := nI 4) dMO_goal_15 (by decide) ?_
      refine nn_icmp_eq 22 dMO_goal_16 (by decide) (by omega) (by omega) (fun c16 => ?_) (fun c16 => ?_)
      ·
        refine sd_aload_n dMO_goal_22 rfl rfl ?_
        refine sd_iconst (v := nI 1) dMO_goal_23 (by decide) ?_
        refine fx_puti 10 27 dMO_goal_24 fMO_270 rfl rfl rfl rfl hB ?_
        refine sd_aload_n dMO_goal_27 rfl rfl ?_
        refine fx_getr 10 17 (13) dMO_goal_28 fMO_46 rfl rfl ?_
        refine sd_iconst (v := nI 0) dMO_goal_31 (by decide) ?_
        refine sd_iload_n dMO_goal_32 rfl rfl ?_
        refine fx_iast (0) dMO_goal_33 rfl rfl (by omega) (by decide) hB ?_
        refine sd_aload_n dMO_goal_34 rfl rfl ?_
        refine fx_getr 10 18 (14) dMO_goal_35 fMO_49 rfl rfl ?_
        refine sd_iconst (v := nI 0) dMO_goal_38 (by decide) ?_
        refine sd_iconst (v := nI 0) dMO_goal_39 (by decide) ?_
        refine fx_iast (0) dMO_goal_40 rfl rfl (by omega) (by decide) hB ?_
        refine sd_aload_n dMO_goal_41 rfl rfl ?_
        refine fx_getr 10 20 (16) dMO_goal_42 fMO_55 rfl rfl ?_
        refine sd_iconst (v := nI 0) dMO_goal_45 (by decide) ?_
        refine sd_iconst (v := (-1)) dMO_goal_46 (by decide) ?_
        refine fx_iast (0) dMO_goal_47 rfl rfl (by omega) (by decide) hB ?_
        refine sd_aload_n dMO_goal_48 rfl rfl ?_
        refine fx_getr 10 24 (20) dMO_goal_49 fMO_67 rfl rfl ?_
        refine sd_iconst (v := nI 0) dMO_goal_52 (by decide) ?_
        refine sd_iconst (v := nI 0) dMO_goal_53 (by decide) ?_
        refine fx_iast (0) dMO_goal_54 rfl rfl (by omega) (by decide) hB ?_
        refine sd_aload_n dMO_goal_55 rfl rfl ?_
        refine sd_iconst (v := nI 1) dMO_goal_56 (by decide) ?_
        refine fx_puti 10 28 dMO_goal_57 fMO_273 rfl rfl rfl rfl hB ?_
        refine sd_aload_n dMO_goal_60 rfl rfl ?_
        refine sd_iconst (v := nI 0) dMO_goal_61 (by decide) ?_
        refine fx_puti 10 29 dMO_goal_62 fMO_275 rfl rfl rfl rfl hB ?_
        refine sd_iconst (v := nI 1) dMO_goal_65 (by decide) ?_
        refine sd_iret dMO_goal_66 rfl (Nat.le_refl _) (Nat.le_refl _) ⟨rfl, rfl, _, rfl, mo_R_goals hR ?_ ⟨by simp, by simp [fx_uf, fx_ua, upd], fun g q hg => ?_⟩ ⟨by simp, by simp [fx_uf, fx_ua, upd], fun k g hk => ?_⟩ ⟨by simp, by simp [fx_uf, fx_ua, upd], fun k g hk => by simp at hk⟩⟩
        · exact ((((((mo_fg.uf D (by omega) (by omega)).tr (mo_fg.ua _ (by omega) (by omega))).tr (mo_fg.ua _ (by omega) (by omega))).tr (mo_fg.ua _ (by omega) (by omega))).tr (mo_fg.ua _ (by omega) (by omega))).tr (mo_fg.uf _ (by omega) (by omega))).tr (mo_fg.uf _ (by omega) (by omega))
        · have hg0 : g < 1 := getE_lt hg
          obtain rfl : g = 0 := by omega
          simp at hg
          subst hg
          exact ⟨by simp [fx_uf, fx_ua, upd], by simp [fx_uf, fx_ua, upd], by simp, fun k t h => by simp at h, by simp [fx_uf, fx_ua, upd]⟩
        · have hg0 : k < 1 := getE_lt hk
          obtain rfl : k = 0 := by omega
          simp at hk
          subst hk
          simp [fx_uf, fx_ua, upd]
      ·
        exact absurd c16 (by omega)
