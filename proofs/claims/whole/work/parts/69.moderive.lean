/-! ===== the model: derive ===== -/
def dv_P (S : st_S) (D : fx_D) (h : st_Th) (D' : fx_D) : Prop := mo_R (S.1, S.2.1, S.2.2.1, st_th S ++ [h], S.2.2.2.2) D' ∧ D'.1 22 = D.1 22 ∧ D'.1 29 = D.1 29
theorem rw_nil (D : fx_D) : mo_rw (fx_uf D 0 16 (nI 0)) [] := ⟨by simp, by simp [fx_uf, upd], fun k t h => by simp at h⟩
theorem dv_fin {S : st_S} {D D1 D2 D3 : fx_D} {h : st_Th} (hR2 : mo_R S D2) (e22 : D2.1 22 = D.1 22) (e29 : D2.1 29 = D.1 29) (h3 : mo_th D3 (st_th S ++ [h]) ∧ mo_fn D2 D3) : dv_P S D h D3 := ⟨mo_R_note hR2 h3.1 h3.2, (h3.2.1 22 (by omega)).trans e22, (h3.2.1 29 (by omega)).trans e29⟩
theorem mo_hyL {S : st_S} {D : fx_D} {p : Nat} (hR : mo_R S D) (hH : st_okH S) (hp : p < (st_th S).length) : p < 40 ∧ (hyL (st_th S) p).length ≤ 6 ∧ D.1 7 p = nI (hyL (st_th S) p).length ∧ (∀ (k t : Nat), (hyL (st_th S) p)[k]? = some t → D.1 8 (6 * p + k) = nI t ∧ t < 2 ^ 30) ∧ D.1 6 p = nI (cnL (st_th S) p) := by
  obtain ⟨a1, a2, a3, a4, a5, a6⟩ := mo_cn hR hH hp
  have h64 := hR.2.1.1
  exact ⟨a3, a5, a4, fun k t ht => ⟨(a6 k t ht).1, by have := (a6 k t ht).2; omega⟩, a1⟩
theorem dMO_derive_0 : decode prog_13_method_69_code 0 = .ok (.aload_n 0, 1) := by decide +kernel
theorem dMO_derive_1 : decode prog_13_method_69_code 1 = .ok (.getfield 55, 3) := by decide +kernel
theorem dMO_derive_4 : decode prog_13_method_69_code 4 = .ok (.iload_n 1, 1) := by decide +kernel
theorem dMO_derive_5 : decode prog_13_method_69_code 5 = .ok (.iaload, 1) := by decide +kernel
theorem dMO_derive_6 : decode prog_13_method_69_code 6 = .ok (.istore_n 2, 1) := by decide +kernel
theorem dMO_derive_7 : decode prog_13_method_69_code 7 = .ok (.aload_n 0, 1) := by decide +kernel
theorem dMO_derive_8 : decode prog_13_method_69_code 8 = .ok (.getfield 64, 3) := by decide +kernel
theorem dMO_derive_11 : decode prog_13_method_69_code 11 = .ok (.iload_n 1, 1) := by decide +kernel
theorem dMO_derive_12 : decode prog_13_method_69_code 12 = .ok (.iaload, 1) := by decide +kernel
theorem dMO_derive_13 : decode prog_13_method_69_code 13 = .ok (.ifCond .le (17), 3) := by decide +kernel
theorem dMO_derive_16 : decode prog_13_method_69_code 16 = .ok (.aload_n 0, 1) := by decide +kernel
theorem dMO_derive_17 : decode prog_13_method_69_code 17 = .ok (.getfield 73, 3) := by decide +kernel
theorem dMO_derive_20 : decode prog_13_method_69_code 20 = .ok (.aload_n 0, 1) := by decide +kernel
theorem dMO_derive_21 : decode prog_13_method_69_code 21 = .ok (.getfield 61, 3) := by decide +kernel
theorem dMO_derive_24 : decode prog_13_method_69_code 24 = .ok (.iload_n 1, 1) := by decide +kernel
theorem dMO_derive_25 : decode prog_13_method_69_code 25 = .ok (.iaload, 1) := by decide +kernel
theorem dMO_derive_26 : decode prog_13_method_69_code 26 = .ok (.iaload, 1) := by decide +kernel
theorem dMO_derive_27 : decode prog_13_method_69_code 27 = .ok (.goto (4), 3) := by decide +kernel
theorem dMO_derive_30 : decode prog_13_method_69_code 30 = .ok (.iconst (-1), 1) := by decide +kernel
theorem dMO_derive_31 : decode prog_13_method_69_code 31 = .ok (.istore_n 3, 1) := by decide +kernel
theorem dMO_derive_32 : decode prog_13_method_69_code 32 = .ok (.aload_n 0, 1) := by decide +kernel
theorem dMO_derive_33 : decode prog_13_method_69_code 33 = .ok (.getfield 64, 3) := by decide +kernel
theorem dMO_derive_36 : decode prog_13_method_69_code 36 = .ok (.iload_n 1, 1) := by decide +kernel
theorem dMO_derive_37 : decode prog_13_method_69_code 37 = .ok (.iaload, 1) := by decide +kernel
theorem dMO_derive_38 : decode prog_13_method_69_code 38 = .ok (.iconst 1, 1) := by decide +kernel
theorem dMO_derive_39 : decode prog_13_method_69_code 39 = .ok (.if_icmp .le (19), 3) := by decide +kernel
theorem dMO_derive_42 : decode prog_13_method_69_code 42 = .ok (.aload_n 0, 1) := by decide +kernel
theorem dMO_derive_43 : decode prog_13_method_69_code 43 = .ok (.getfield 73, 3) := by decide +kernel
theorem dMO_derive_46 : decode prog_13_method_69_code 46 = .ok (.aload_n 0, 1) := by decide +kernel
theorem dMO_derive_47 : decode prog_13_method_69_code 47 = .ok (.getfield 61, 3) := by decide +kernel
theorem dMO_derive_50 : decode prog_13_method_69_code 50 = .ok (.iload_n 1, 1) := by decide +kernel
theorem dMO_derive_51 : decode prog_13_method_69_code 51 = .ok (.iaload, 1) := by decide +kernel
theorem dMO_derive_52 : decode prog_13_method_69_code 52 = .ok (.iconst 1, 1) := by decide +kernel
theorem dMO_derive_53 : decode prog_13_method_69_code 53 = .ok (.iadd, 1) := by decide +kernel
theorem dMO_derive_54 : decode prog_13_method_69_code 54 = .ok (.iaload, 1) := by decide +kernel
theorem dMO_derive_55 : decode prog_13_method_69_code 55 = .ok (.goto (4), 3) := by decide +kernel
theorem dMO_derive_58 : decode prog_13_method_69_code 58 = .ok (.iconst (-1), 1) := by decide +kernel
theorem dMO_derive_59 : decode prog_13_method_69_code 59 = .ok (.istore 4, 2) := by decide +kernel
theorem dMO_derive_61 : decode prog_13_method_69_code 61 = .ok (.aload_n 0, 1) := by decide +kernel
theorem dMO_derive_62 : decode prog_13_method_69_code 62 = .ok (.iconst 0, 1) := by decide +kernel
theorem dMO_derive_63 : decode prog_13_method_69_code 63 = .ok (.putfield 213, 3) := by decide +kernel
theorem dMO_derive_66 : decode prog_13_method_69_code 66 = .ok (.iload_n 2, 1) := by decide +kernel
theorem dMO_derive_67 : decode prog_13_method_69_code 67 = .ok (.iconst 1, 1) := by decide +kernel
theorem dMO_derive_68 : decode prog_13_method_69_code 68 = .ok (.if_icmp .ne (13), 3) := by decide +kernel
theorem dMO_derive_71 : decode prog_13_method_69_code 71 = .ok (.aload_n 0, 1) := by decide +kernel
theorem dMO_derive_72 : decode prog_13_method_69_code 72 = .ok (.aload_n 0, 1) := by decide +kernel
theorem dMO_derive_73 : decode prog_13_method_69_code 73 = .ok (.getfield 46, 3) := by decide +kernel
theorem dMO_derive_76 : decode prog_13_method_69_code 76 = .ok (.iload_n 1, 1) := by decide +kernel
theorem dMO_derive_77 : decode prog_13_method_69_code 77 = .ok (.iaload, 1) := by decide +kernel
theorem dMO_derive_78 : decode prog_13_method_69_code 78 = .ok (.invokevirtual 216, 3) := by decide +kernel
theorem dMO_derive_81 : decode prog_13_method_69_code 81 = .ok (.iload_n 3, 1) := by decide +kernel
theorem dMO_derive_82 : decode prog_13_method_69_code 82 = .ok (.ifCond .lt (25), 3) := by decide +kernel
theorem dMO_derive_85 : decode prog_13_method_69_code 85 = .ok (.aload_n 0, 1) := by decide +kernel
theorem dMO_derive_86 : decode prog_13_method_69_code 86 = .ok (.iload_n 3, 1) := by decide +kernel
theorem dMO_derive_87 : decode prog_13_method_69_code 87 = .ok (.iload_n 2, 1) := by decide +kernel
theorem dMO_derive_88 : decode prog_13_method_69_code 88 = .ok (.bipush (7), 2) := by decide +kernel
theorem dMO_derive_90 : decode prog_13_method_69_code 90 = .ok (.if_icmp .ne (13), 3) := by decide +kernel
theorem dMO_derive_93 : decode prog_13_method_69_code 93 = .ok (.aload_n 0, 1) := by decide +kernel
theorem dMO_derive_94 : decode prog_13_method_69_code 94 = .ok (.getfield 25, 3) := by decide +kernel
theorem dMO_derive_97 : decode prog_13_method_69_code 97 = .ok (.iload 4, 2) := by decide +kernel
theorem dMO_derive_99 : decode prog_13_method_69_code 99 = .ok (.iaload, 1) := by decide +kernel
theorem dMO_derive_100 : decode prog_13_method_69_code 100 = .ok (.goto (4), 3) := by decide +kernel
theorem dMO_derive_103 : decode prog_13_method_69_code 103 = .ok (.iconst (-1), 1) := by decide +kernel
theorem dMO_derive_104 : decode prog_13_method_69_code 104 = .ok (.invokevirtual 249, 3) := by decide +kernel
theorem dMO_derive_107 : decode prog_13_method_69_code 107 = .ok (.iload 4, 2) := by decide +kernel
theorem dMO_derive_109 : decode prog_13_method_69_code 109 = .ok (.ifCond .lt (25), 3) := by decide +kernel
theorem dMO_derive_112 : decode prog_13_method_69_code 112 = .ok (.aload_n 0, 1) := by decide +kernel
theorem dMO_derive_113 : decode prog_13_method_69_code 113 = .ok (.iload 4, 2) := by decide +kernel
theorem dMO_derive_115 : decode prog_13_method_69_code 115 = .ok (.iload_n 2, 1) := by decide +kernel
theorem dMO_derive_116 : decode prog_13_method_69_code 116 = .ok (.bipush (7), 2) := by decide +kernel
theorem dMO_derive_118 : decode prog_13_method_69_code 118 = .ok (.if_icmp .ne (12), 3) := by decide +kernel
theorem dMO_derive_121 : decode prog_13_method_69_code 121 = .ok (.aload_n 0, 1) := by decide +kernel
theorem dMO_derive_122 : decode prog_13_method_69_code 122 = .ok (.getfield 25, 3) := by decide +kernel
theorem dMO_derive_125 : decode prog_13_method_69_code 125 = .ok (.iload_n 3, 1) := by decide +kernel
theorem dMO_derive_126 : decode prog_13_method_69_code 126 = .ok (.iaload, 1) := by decide +kernel
theorem dMO_derive_127 : decode prog_13_method_69_code 127 = .ok (.goto (4), 3) := by decide +kernel
theorem dMO_derive_130 : decode prog_13_method_69_code 130 = .ok (.iconst (-1), 1) := by decide +kernel
theorem dMO_derive_131 : decode prog_13_method_69_code 131 = .ok (.invokevirtual 249, 3) := by decide +kernel
theorem dMO_derive_134 : decode prog_13_method_69_code 134 = .ok (.aload_n 0, 1) := by decide +kernel
theorem dMO_derive_135 : decode prog_13_method_69_code 135 = .ok (.iload_n 2, 1) := by decide +kernel
theorem dMO_derive_136 : decode prog_13_method_69_code 136 = .ok (.aload_n 0, 1) := by decide +kernel
theorem dMO_derive_137 : decode prog_13_method_69_code 137 = .ok (.getfield 46, 3) := by decide +kernel
theorem dMO_derive_140 : decode prog_13_method_69_code 140 = .ok (.iload_n 1, 1) := by decide +kernel
theorem dMO_derive_141 : decode prog_13_method_69_code 141 = .ok (.iaload, 1) := by decide +kernel
theorem dMO_derive_142 : decode prog_13_method_69_code 142 = .ok (.iload_n 3, 1) := by decide +kernel
theorem dMO_derive_143 : decode prog_13_method_69_code 143 = .ok (.iload 4, 2) := by decide +kernel
theorem dMO_derive_145 : decode prog_13_method_69_code 145 = .ok (.invokevirtual 263, 3) := by decide +kernel
theorem dMO_derive_148 : decode prog_13_method_69_code 148 = .ok (.ireturn, 1) := by decide +kernel
theorem c_MO_derive0 {G : sd_G} {o : Nat} {D : fx_D} {h0 : sd_H} {nx g t k x n : Nat} {S : st_S} {hs : List Nat} (hB : G.2.1 ≤ o) (hR : mo_R S D) (hq : (st_gl S)[g]? = some (t, hs, some (k, x, n))) (ht : t < 2 ^ 30) (hk : k = 0 ∨ k = 5) (hg : gk k = 0) (h40 : (st_th S).length < 40) (h6 : (dv_hyp (st_th S) k t none none).length ≤ 6) : sd_Ct G mMO_derive 2 0 0 [.ref (o + 0), .int (nI g)] (fx_h G.1.2 mo_S o D h0) nx (fx_is G.1.2 mo_S o h0 nx (some (.int (nI (st_th S).length))) (dv_P S D (t, dv_hyp (st_th S) k t none none, k, none, none))) := by
  refine sd_Ct_of (by decide) (Nat.le_of_ble_eq_true rfl) ?_
  obtain ⟨q1, -, -, -, q2, -, q3, q4⟩ := hR.2.2.2.2.2.1.2.2 g _ hq
  have hgN := getE_lt hq
  have g30 := hR.2.2.2.2.2.1.1
  have q5 : D.1 19 g = nI 0 := by rw [← hg]; exact q4
  have hR1 : mo_R S (fx_uf D 0 16 (nI 0)) := mo_R_f hR (Or.inr rfl)
  have e : dv_hyp (st_th S) k t none none = [] := by
    unfold dv_hyp
    simp only
    rw [if_neg (by omega)]
  rw [e]
  refine sd_aload_n dMO_derive_0 rfl rfl ?_
  refine fx_getr 10 20 (16) dMO_derive_1 fMO_55 rfl rfl ?_
  refine sd_iload_n dMO_derive_4 rfl rfl ?_
  refine fx_ialdv (v := (nI (k))) (g) dMO_derive_5 rfl rfl (by omega) (by decide) (q2) ?_
  refine sd_istore_n dMO_derive_6 rfl (by decide) ?_
  refine sd_aload_n dMO_derive_7 rfl rfl ?_
  refine fx_getr 10 23 (19) dMO_derive_8 fMO_64 rfl rfl ?_
  refine sd_iload_n dMO_derive_11 rfl rfl ?_
  refine fx_ialdv (v := (nI (0))) (g) dMO_derive_12 rfl rfl (by omega) (by decide) (q5) ?_
  refine nn_if_le 30 dMO_derive_13 (by decide) (by decide) (fun _ => ?_) (fun c => absurd c (by decide))
  refine sd_iconst (v := (-1)) dMO_derive_30 (by decide) ?_
  refine sd_istore_n dMO_derive_31 rfl (by decide) ?_
  refine sd_aload_n dMO_derive_32 rfl rfl ?_
  refine fx_getr 10 23 (19) dMO_derive_33 fMO_64 rfl rfl ?_
  refine sd_iload_n dMO_derive_36 rfl rfl ?_
  refine fx_ialdv (v := (nI (0))) (g) dMO_derive_37 rfl rfl (by omega) (by decide) (q5) ?_
  refine sd_iconst (v := nI 1) dMO_derive_38 (by decide) ?_
  refine nn_icmp_le 58 dMO_derive_39 (by decide) (by decide) (by decide) (fun _ => ?_) (fun c => absurd c (by decide))
  refine sd_iconst (v := (-1)) dMO_derive_58 (by decide) ?_
  refine sd_istore dMO_derive_59 (by decide) ?_
  refine sd_aload_n dMO_derive_61 rfl rfl ?_
  refine sd_iconst (v := nI 0) dMO_derive_62 (by decide) ?_
  refine fx_puti 10 16 dMO_derive_63 fMO_213 rfl rfl rfl rfl hB ?_
  refine sd_iload_n dMO_derive_66 rfl rfl ?_
  refine sd_iconst (v := nI 1) dMO_derive_67 (by decide) ?_
  refine nn_icmp_ne 81 dMO_derive_68 (by decide) (by omega) (by omega) (fun c68 => ?_) (fun c68 => ?_)
  ·
    refine sd_iload_n dMO_derive_81 rfl rfl ?_
    refine sd_if_lt 107 dMO_derive_82 (by decide) (fun c82 => ?_) (fun c82 => ?_)
    ·
      refine sd_iload dMO_derive_107 rfl ?_
      refine sd_if_lt 134 dMO_derive_109 (by decide) (fun c109 => ?_) (fun c109 => ?_)
      ·
        refine sd_aload_n dMO_derive_134 rfl rfl ?_
        refine sd_iload_n dMO_derive_135 rfl rfl ?_
        refine sd_aload_n dMO_derive_136 rfl rfl ?_
        refine fx_getr 10 17 (13) dMO_derive_137 fMO_46 rfl rfl ?_
        refine sd_iload_n dMO_derive_140 rfl rfl ?_
        refine fx_ialdv (v := (nI (t))) (g) dMO_derive_141 rfl rfl (by omega) (by decide) (q1) ?_
        refine sd_iload_n dMO_derive_142 rfl rfl ?_
        refine sd_iload dMO_derive_143 rfl ?_
        refine fx_cP 10 sR_MO [.int (nI (k)), .int (nI (t)), .int ((-1)), .int ((-1))] [] dMO_derive_145 kMO_263 rfl rfl mMO_note_v (c_MO_note (k := k) (t := t) (fa := none) (fb := none) hB hR1.2.2.2.2.1 h40 (by simp) (rw_nil D)) (by decide) (Nat.le_refl _) (Nat.le_refl _) (Nat.le_of_ble_eq_true rfl) rfl (fun D3 hD3 => ?_)
        exact sd_iret dMO_derive_148 rfl (Nat.le_refl _) (Nat.le_refl _) ⟨rfl, rfl, _, rfl, dv_fin (D1 := D) hR1 rfl rfl hD3⟩
      ·
        exact absurd (show (-1 : Int32) < 0 by decide) c109
    ·
      exact absurd (show (-1 : Int32) < 0 by decide) c82
  ·
    exact absurd c68 (by omega)
theorem c_MO_derive1 {G : sd_G} {o : Nat} {D : fx_D} {h0 : sd_H} {nx g t k x n : Nat} {S : st_S} {hs : List Nat} (hB : G.2.1 ≤ o) (hR : mo_R S D) (hq : (st_gl S)[g]? = some (t, hs, some (k, x, n))) (ht : t < 2 ^ 30) (hk : k = 1) (hg : gk k = 0) (h40 : (st_th S).length < 40) (h6 : (dv_hyp (st_th S) k t none none).length ≤ 6) : sd_Ct G mMO_derive 2 0 0 [.ref (o + 0), .int (nI g)] (fx_h G.1.2 mo_S o D h0) nx (fx_is G.1.2 mo_S o h0 nx (some (.int (nI (st_th S).length))) (dv_P S D (t, dv_hyp (st_th S) k t none none, k, none, none))) := by
  refine sd_Ct_of (by decide) (Nat.le_of_ble_eq_true rfl) ?_
  obtain ⟨q1, -, -, -, q2, -, q3, q4⟩ := hR.2.2.2.2.2.1.2.2 g _ hq
  have hgN := getE_lt hq
  have g30 := hR.2.2.2.2.2.1.1
  have q5 : D.1 19 g = nI 0 := by rw [← hg]; exact q4
  have hR1 : mo_R S (fx_uf D 0 16 (nI 0)) := mo_R_f hR (Or.inr rfl)
  subst hk
  have e : dv_hyp (st_th S) 1 t none none = ls_h [] t := rfl
  rw [e]
  refine sd_aload_n dMO_derive_0 rfl rfl ?_
  refine fx_getr 10 20 (16) dMO_derive_1 fMO_55 rfl rfl ?_
  refine sd_iload_n dMO_derive_4 rfl rfl ?_
  refine fx_ialdv (v := (nI (1))) (g) dMO_derive_5 rfl rfl (by omega) (by decide) (q2) ?_
  refine sd_istore_n dMO_derive_6 rfl (by decide) ?_
  refine sd_aload_n dMO_derive_7 rfl rfl ?_
  refine fx_getr 10 23 (19) dMO_derive_8 fMO_64 rfl rfl ?_
  refine sd_iload_n dMO_derive_11 rfl rfl ?_
  refine fx_ialdv (v := (nI (0))) (g) dMO_derive_12 rfl rfl (by omega) (by decide) (q5) ?_
  refine nn_if_le 30 dMO_derive_13 (by decide) (by decide) (fun _ => ?_) (fun c => absurd c (by decide))
  refine sd_iconst (v := (-1)) dMO_derive_30 (by decide) ?_
  refine sd_istore_n dMO_derive_31 rfl (by decide) ?_
  refine sd_aload_n dMO_derive_32 rfl rfl ?_
  refine fx_getr 10 23 (19) dMO_derive_33 fMO_64 rfl rfl ?_
  refine sd_iload_n dMO_derive_36 rfl rfl ?_
  refine fx_ialdv (v := (nI (0))) (g) dMO_derive_37 rfl rfl (by omega) (by decide) (q5) ?_
  refine sd_iconst (v := nI 1) dMO_derive_38 (by decide) ?_
  refine nn_icmp_le 58 dMO_derive_39 (by decide) (by decide) (by decide) (fun _ => ?_) (fun c => absurd c (by decide))
  refine sd_iconst (v := (-1)) dMO_derive_58 (by decide) ?_
  refine sd_istore dMO_derive_59 (by decide) ?_
  refine sd_aload_n dMO_derive_61 rfl rfl ?_
  refine sd_iconst (v := nI 0) dMO_derive_62 (by decide) ?_
  refine fx_puti 10 16 dMO_derive_63 fMO_213 rfl rfl rfl rfl hB ?_
  refine sd_iload_n dMO_derive_66 rfl rfl ?_
  refine sd_iconst (v := nI 1) dMO_derive_67 (by decide) ?_
  refine nn_icmp_ne 81 dMO_derive_68 (by decide) (by decide) (by decide) (fun c => absurd c (by decide)) (fun _ => ?_)
  refine sd_aload_n dMO_derive_71 rfl rfl ?_
  refine sd_aload_n dMO_derive_72 rfl rfl ?_
  refine fx_getr 10 17 (13) dMO_derive_73 fMO_46 rfl rfl ?_
  refine sd_iload_n dMO_derive_76 rfl rfl ?_
  refine fx_ialdv (v := (nI (t))) (g) dMO_derive_77 rfl rfl (by omega) (by decide) (q1) ?_
  refine fx_cP 10 sR_MO [.int (nI (t))] [] dMO_derive_78 kMO_216 rfl rfl mMO_hold_v (c_MO_hold (t := t) hB (rw_nil D) (by simp) ht) (by decide) (Nat.le_refl _) (Nat.le_refl _) (Nat.le_of_ble_eq_true rfl) rfl (fun D2 hD2 => ?_)
  refine sd_iload_n dMO_derive_81 rfl rfl ?_
  refine sd_if_lt 107 dMO_derive_82 (by decide) (fun c82 => ?_) (fun c82 => ?_)
  ·
    refine sd_iload dMO_derive_107 rfl ?_
    refine sd_if_lt 134 dMO_derive_109 (by decide) (fun c109 => ?_) (fun c109 => ?_)
    ·
      refine sd_aload_n dMO_derive_134 rfl rfl ?_
      refine sd_iload_n dMO_derive_135 rfl rfl ?_
      refine sd_aload_n dMO_derive_136 rfl rfl ?_
      refine fx_getr 10 17 (13) dMO_derive_137 fMO_46 rfl rfl ?_
      refine sd_iload_n dMO_derive_140 rfl rfl ?_
      refine fx_ialdv (v := (nI (t))) (g) dMO_derive_141 rfl rfl (by omega) (by decide) ((by rw [hD2.2.1 13 (by decide)]; exact q1)) ?_
      refine sd_iload_n dMO_derive_142 rfl rfl ?_
      refine sd_iload dMO_derive_143 rfl ?_
      refine fx_cP 10 sR_MO [.int (nI (1)), .int (nI (t)), .int ((-1)), .int ((-1))] [] dMO_derive_145 kMO_263 rfl rfl mMO_note_v (c_MO_note (k := 1) (t := t) (fa := none) (fb := none) hB (mo_R_fw hR1 hD2.2).2.2.2.2.1 h40 (by simp [ls_h]) hD2.1) (by decide) (Nat.le_refl _) (Nat.le_refl _) (Nat.le_of_ble_eq_true rfl) rfl (fun D3 hD3 => ?_)
      exact sd_iret dMO_derive_148 rfl (Nat.le_refl _) (Nat.le_refl _) ⟨rfl, rfl, _, rfl, dv_fin (D1 := D) (mo_R_fw hR1 hD2.2) (hD2.2.1 22 (by decide)) (hD2.2.1 29 (by decide)) hD3⟩
    ·
      exact absurd (show (-1 : Int32) < 0 by decide) c109
  ·
    exact absurd (show (-1 : Int32) < 0 by decide) c82
theorem c_MO_derive4 {G : sd_G} {o : Nat} {D : fx_D} {h0 : sd_H} {nx g t k x n p : Nat} {S : st_S} {hs : List Nat} (hB : G.2.1 ≤ o) (hR : mo_R S D) (hH : st_okH S) (hq : (st_gl S)[g]? = some (t, hs, some (k, x, n))) (ht : t < 2 ^ 30) (hk : k = 4) (hg : gk k = 1) (hn : n < 30) (hp : p < (st_th S).length) (dp : D.1 22 n = nI p) (h40 : (st_th S).length < 40) (h6 : (dv_hyp (st_th S) k t (some p) none).length ≤ 6) : sd_Ct G mMO_derive 2 0 0 [.ref (o + 0), .int (nI g)] (fx_h G.1.2 mo_S o D h0) nx (fx_is G.1.2 mo_S o h0 nx (some (.int (nI (st_th S).length))) (dv_P S D (t, dv_hyp (st_th S) k t (some p) none, k, some p, none))) := by
  refine sd_Ct_of (by decide) (Nat.le_of_ble_eq_true rfl) ?_
  obtain ⟨q1, -, -, -, q2, -, q3, q4⟩ := hR.2.2.2.2.2.1.2.2 g _ hq
  have hgN := getE_lt hq
  have g30 := hR.2.2.2.2.2.1.1
  have q5 : D.1 19 g = nI 1 := by rw [← hg]; exact q4
  have hR1 : mo_R S (fx_uf D 0 16 (nI 0)) := mo_R_f hR (Or.inr rfl)
  subst hk
  obtain ⟨p40, p6, p7, p8, -⟩ := mo_hyL hR1 hH hp
  have e : dv_hyp (st_th S) 4 t (some p) none = ls_g [] (-1) (hyL (st_th S) p) := rfl
  rw [e] at h6 ⊢
  refine sd_aload_n dMO_derive_0 rfl rfl ?_
  refine fx_getr 10 20 (16) dMO_derive_1 fMO_55 rfl rfl ?_
  refine sd_iload_n dMO_derive_4 rfl rfl ?_
  refine fx_ialdv (v := (nI (4))) (g) dMO_derive_5 rfl rfl (by omega) (by decide) (q2) ?_
  refine sd_istore_n dMO_derive_6 rfl (by decide) ?_
  refine sd_aload_n dMO_derive_7 rfl rfl ?_
  refine fx_getr 10 23 (19) dMO_derive_8 fMO_64 rfl rfl ?_
  refine sd_iload_n dMO_derive_11 rfl rfl ?_
  refine fx_ialdv (v := (nI (1))) (g) dMO_derive_12 rfl rfl (by omega) (by decide) (q5) ?_
  refine nn_if_le 30 dMO_derive_13 (by decide) (by decide) (fun c => absurd c (by decide)) (fun _ => ?_)
  refine sd_aload_n dMO_derive_16 rfl rfl ?_
  refine fx_getr 10 26 (22) dMO_derive_17 fMO_73 rfl rfl ?_
  refine sd_aload_n dMO_derive_20 rfl rfl ?_
  refine fx_getr 10 22 (18) dMO_derive_21 fMO_61 rfl rfl ?_
  refine sd_iload_n dMO_derive_24 rfl rfl ?_
  refine fx_ialdv (v := (nI (n))) (g) dMO_derive_25 rfl rfl (by omega) (by decide) (q3) ?_
  refine fx_ialdv (v := (nI (p))) (n) dMO_derive_26 rfl rfl (by omega) (by decide) (dp) ?_
  refine sd_goto 31 dMO_derive_27 (by decide) ?_
  refine sd_istore_n dMO_derive_31 rfl (by decide) ?_
  refine sd_aload_n dMO_derive_32 rfl rfl ?_
  refine fx_getr 10 23 (19) dMO_derive_33 fMO_64 rfl rfl ?_
  refine sd_iload_n dMO_derive_36 rfl rfl ?_
  refine fx_ialdv (v := (nI (1))) (g) dMO_derive_37 rfl rfl (by omega) (by decide) (q5) ?_
  refine sd_iconst (v := nI 1) dMO_derive_38 (by decide) ?_
  refine nn_icmp_le 58 dMO_derive_39 (by decide) (by decide) (by decide) (fun _ => ?_) (fun c => absurd c (by decide))
  refine sd_iconst (v := (-1)) dMO_derive_58 (by decide) ?_
  refine sd_istore dMO_derive_59 (by decide) ?_
  refine sd_aload_n dMO_derive_61 rfl rfl ?_
  refine sd_iconst (v := nI 0) dMO_derive_62 (by decide) ?_
  refine fx_puti 10 16 dMO_derive_63 fMO_213 rfl rfl rfl rfl hB ?_
  refine sd_iload_n dMO_derive_66 rfl rfl ?_
  refine sd_iconst (v := nI 1) dMO_derive_67 (by decide) ?_
  refine nn_icmp_ne 81 dMO_derive_68 (by decide) (by decide) (by decide) (fun _ => ?_) (fun c => absurd c (by decide))
  refine sd_iload_n dMO_derive_81 rfl rfl ?_
  refine nn_if_lt dMO_derive_82 107 (by decide) (by omega) ?_
  refine sd_aload_n dMO_derive_85 rfl rfl ?_
  refine sd_iload_n dMO_derive_86 rfl rfl ?_
  refine sd_iload_n dMO_derive_87 rfl rfl ?_
  refine sd_bipush (v := nI 7) dMO_derive_88 (by decide) ?_
  refine nn_icmp_ne 103 dMO_derive_90 (by decide) (by decide) (by decide) (fun _ => ?_) (fun c => absurd c (by decide))
  refine sd_iconst (v := (-1)) dMO_derive_103 (by decide) ?_
  refine fx_cP 10 sR_MO [.int (nI (p)), .int ((-1))] [] dMO_derive_104 kMO_249 rfl rfl mMO_gather_v (c_MO_gather (hs := hyL (st_th S) p) (but := -1) hB p40 p6 p7 p8 (rw_nil D) (by simp; omega)) (by decide) (Nat.le_refl _) (Nat.le_refl _) (Nat.le_of_ble_eq_true rfl) rfl (fun D2 hD2 => ?_)
  refine sd_iload dMO_derive_107 rfl ?_
  refine sd_if_lt 134 dMO_derive_109 (by decide) (fun c109 => ?_) (fun c109 => ?_)
  ·
    refine sd_aload_n dMO_derive_134 rfl rfl ?_
    refine sd_iload_n dMO_derive_135 rfl rfl ?_
    refine sd_aload_n dMO_derive_136 rfl rfl ?_
    refine fx_getr 10 17 (13) dMO_derive_137 fMO_46 rfl rfl ?_
    refine sd_iload_n dMO_derive_140 rfl rfl ?_
    refine fx_ialdv (v := (nI (t))) (g) dMO_derive_141 rfl rfl (by omega) (by decide) ((by rw [hD2.2.1 13 (by decide)]; exact q1)) ?_
    refine sd_iload_n dMO_derive_142 rfl rfl ?_
    refine sd_iload dMO_derive_143 rfl ?_
    refine fx_cP 10 sR_MO [.int (nI (4)), .int (nI (t)), .int (nI (p)), .int ((-1))] [] dMO_derive_145 kMO_263 rfl rfl mMO_note_v (c_MO_note (k := 4) (t := t) (fa := some p) (fb := none) hB (mo_R_fw hR1 hD2.2).2.2.2.2.1 h40 h6 hD2.1) (by decide) (Nat.le_refl _) (Nat.le_refl _) (Nat.le_of_ble_eq_true rfl) rfl (fun D3 hD3 => ?_)
    exact sd_iret dMO_derive_148 rfl (Nat.le_refl _) (Nat.le_refl _) ⟨rfl, rfl, _, rfl, dv_fin (D1 := D) (mo_R_fw hR1 hD2.2) (hD2.2.1 22 (by decide)) (hD2.2.1 29 (by decide)) hD3⟩
  ·
    exact absurd (show (-1 : Int32) < 0 by decide) c109
theorem c_MO_derive2 {G : sd_G} {o : Nat} {D : fx_D} {h0 : sd_H} {nx g t k x n p r : Nat} {S : st_S} {hs : List Nat} (hB : G.2.1 ≤ o) (hR : mo_R S D) (hH : st_okH S) (hq : (st_gl S)[g]? = some (t, hs, some (k, x, n))) (ht : t < 2 ^ 30) (hk : k = 2 ∨ k = 3 ∨ k = 6) (hg : gk k = 2) (hn : n + 1 < 30) (hp : p < (st_th S).length) (hr : r < (st_th S).length) (dp : D.1 22 n = nI p) (dr : D.1 22 (n + 1) = nI r) (h40 : (st_th S).length < 40) (h6 : (dv_hyp (st_th S) k t (some p) (some r)).length ≤ 6) : sd_Ct G mMO_derive 2 0 0 [.ref (o + 0), .int (nI g)] (fx_h G.1.2 mo_S o D h0) nx (fx_is G.1.2 mo_S o h0 nx (some (.int (nI (st_th S).length))) (dv_P S D (t, dv_hyp (st_th S) k t (some p) (some r), k, some p, some r))) := by
  refine sd_Ct_of (by decide) (Nat.le_of_ble_eq_true rfl) ?_
  obtain ⟨q1, -, -, -, q2, -, q3, q4⟩ := hR.2.2.2.2.2.1.2.2 g _ hq
  have hgN := getE_lt hq
  have g30 := hR.2.2.2.2.2.1.1
  have q5 : D.1 19 g = nI 2 := by rw [← hg]; exact q4
  have hR1 : mo_R S (fx_uf D 0 16 (nI 0)) := mo_R_f hR (Or.inr rfl)
  have hR1' := hR1
  obtain ⟨p40, p6, p7, p8, -⟩ := mo_hyL hR1 hH hp
  have e : dv_hyp (st_th S) k t (some p) (some r) = ls_g (ls_g [] (-1) (hyL (st_th S) p)) (-1) (hyL (st_th S) r) := by
    unfold dv_hyp
    simp only
    rw [if_neg (by omega)]
  rw [e] at h6 ⊢
  have l1 := ls_g_len (hyL (st_th S) p) [] (-1)
  rw [List.length_nil] at l1
  refine sd_aload_n dMO_derive_0 rfl rfl ?_
  refine fx_getr 10 20 (16) dMO_derive_1 fMO_55 rfl rfl ?_
  refine sd_iload_n dMO_derive_4 rfl rfl ?_
  refine fx_ialdv (v := (nI (k))) (g) dMO_derive_5 rfl rfl (by omega) (by decide) (q2) ?_
  refine sd_istore_n dMO_derive_6 rfl (by decide) ?_
  refine sd_aload_n dMO_derive_7 rfl rfl ?_
  refine fx_getr 10 23 (19) dMO_derive_8 fMO_64 rfl rfl ?_
  refine sd_iload_n dMO_derive_11 rfl rfl ?_
  refine fx_ialdv (v := (nI (2))) (g) dMO_derive_12 rfl rfl (by omega) (by decide) (q5) ?_
  refine nn_if_le 30 dMO_derive_13 (by decide) (by decide) (fun c => absurd c (by decide)) (fun _ => ?_)
  refine sd_aload_n dMO_derive_16 rfl rfl ?_
  refine fx_getr 10 26 (22) dMO_derive_17 fMO_73 rfl rfl ?_
  refine sd_aload_n dMO_derive_20 rfl rfl ?_
  refine fx_getr 10 22 (18) dMO_derive_21 fMO_61 rfl rfl ?_
  refine sd_iload_n dMO_derive_24 rfl rfl ?_
  refine fx_ialdv (v := (nI (n))) (g) dMO_derive_25 rfl rfl (by omega) (by decide) (q3) ?_
  refine fx_ialdv (v := (nI (p))) (n) dMO_derive_26 rfl rfl (by omega) (by decide) (dp) ?_
  refine sd_goto 31 dMO_derive_27 (by decide) ?_
  refine sd_istore_n dMO_derive_31 rfl (by decide) ?_
  refine sd_aload_n dMO_derive_32 rfl rfl ?_
  refine fx_getr 10 23 (19) dMO_derive_33 fMO_64 rfl rfl ?_
  refine sd_iload_n dMO_derive_36 rfl rfl ?_
  refine fx_ialdv (v := (nI (2))) (g) dMO_derive_37 rfl rfl (by omega) (by decide) (q5) ?_
  refine sd_iconst (v := nI 1) dMO_derive_38 (by decide) ?_
  refine nn_icmp_le 58 dMO_derive_39 (by decide) (by decide) (by decide) (fun c => absurd c (by decide)) (fun _ => ?_)
  refine sd_aload_n dMO_derive_42 rfl rfl ?_
  refine fx_getr 10 26 (22) dMO_derive_43 fMO_73 rfl rfl ?_
  refine sd_aload_n dMO_derive_46 rfl rfl ?_
  refine fx_getr 10 22 (18) dMO_derive_47 fMO_61 rfl rfl ?_
  refine sd_iload_n dMO_derive_50 rfl rfl ?_
  refine fx_ialdv (v := (nI (n))) (g) dMO_derive_51 rfl rfl (by omega) (by decide) (q3) ?_
  refine sd_iconst (v := nI 1) dMO_derive_52 (by decide) ?_
  refine nn_iadd dMO_derive_53 ?_
  refine fx_ialdv (v := (nI (r))) (n + 1) dMO_derive_54 rfl rfl (by omega) (by decide) (dr) ?_
  refine sd_goto 59 dMO_derive_55 (by decide) ?_
  refine sd_istore dMO_derive_59 (by decide) ?_
  refine sd_aload_n dMO_derive_61 rfl rfl ?_
  refine sd_iconst (v := nI 0) dMO_derive_62 (by decide) ?_
  refine fx_puti 10 16 dMO_derive_63 fMO_213 rfl rfl rfl rfl hB ?_
  refine sd_iload_n dMO_derive_66 rfl rfl ?_
  refine sd_iconst (v := nI 1) dMO_derive_67 (by decide) ?_
  refine nn_icmp_ne 81 dMO_derive_68 (by decide) (by omega) (by omega) (fun c68 => ?_) (fun c68 => ?_)
  ·
    refine sd_iload_n dMO_derive_81 rfl rfl ?_
    refine nn_if_lt dMO_derive_82 107 (by decide) (by omega) ?_
    refine sd_aload_n dMO_derive_85 rfl rfl ?_
    refine sd_iload_n dMO_derive_86 rfl rfl ?_
    refine sd_iload_n dMO_derive_87 rfl rfl ?_
    refine sd_bipush (v := nI 7) dMO_derive_88 (by decide) ?_
    refine nn_icmp_ne 103 dMO_derive_90 (by decide) (by omega) (by omega) (fun c90 => ?_) (fun c90 => ?_)
    ·
      refine sd_iconst (v := (-1)) dMO_derive_103 (by decide) ?_
      refine fx_cP 10 sR_MO [.int (nI (p)), .int ((-1))] [] dMO_derive_104 kMO_249 rfl rfl mMO_gather_v (c_MO_gather (hs := hyL (st_th S) p) (but := -1) hB p40 p6 p7 p8 (rw_nil D) (by simp; omega)) (by decide) (Nat.le_refl _) (Nat.le_refl _) (Nat.le_of_ble_eq_true rfl) rfl (fun D2 hD2 => ?_)
      obtain ⟨r40, r6, r7, r8, -⟩ := mo_hyL (mo_R_fw hR1 hD2.2) hH hr
      refine sd_iload dMO_derive_107 rfl ?_
      refine nn_if_lt dMO_derive_109 134 (by decide) (by omega) ?_
      refine sd_aload_n dMO_derive_112 rfl rfl ?_
      refine sd_iload dMO_derive_113 rfl ?_
      refine sd_iload_n dMO_derive_115 rfl rfl ?_
      refine sd_bipush (v := nI 7) dMO_derive_116 (by decide) ?_
      refine nn_icmp_ne 130 dMO_derive_118 (by decide) (by omega) (by omega) (fun c118 => ?_) (fun c118 => ?_)
      ·
        refine sd_iconst (v := (-1)) dMO_derive_130 (by decide) ?_
        refine fx_cP 10 sR_MO [.int (nI (r)), .int ((-1))] [] dMO_derive_131 kMO_249 rfl rfl mMO_gather_v (c_MO_gather (hs := hyL (st_th S) r) (but := -1) hB r40 r6 r7 r8 hD2.1 (by omega)) (by decide) (Nat.le_refl _) (Nat.le_refl _) (Nat.le_of_ble_eq_true rfl) rfl (fun D4 hD4 => ?_)
        refine sd_aload_n dMO_derive_134 rfl rfl ?_
        refine sd_iload_n dMO_derive_135 rfl rfl ?_
        refine sd_aload_n dMO_derive_136 rfl rfl ?_
        refine fx_getr 10 17 (13) dMO_derive_137 fMO_46 rfl rfl ?_
        refine sd_iload_n dMO_derive_140 rfl rfl ?_
        refine fx_ialdv (v := (nI (t))) (g) dMO_derive_141 rfl rfl (by omega) (by decide) ((by rw [hD4.2.1 13 (by decide), hD2.2.1 13 (by decide)]; exact q1)) ?_
        refine sd_iload_n dMO_derive_142 rfl rfl ?_
        refine sd_iload dMO_derive_143 rfl ?_
        refine fx_cP 10 sR_MO [.int (nI (k)), .int (nI (t)), .int (nI (p)), .int (nI (r))] [] dMO_derive_145 kMO_263 rfl rfl mMO_note_v (c_MO_note (k := k) (t := t) (fa := some p) (fb := some r) hB (mo_R_fw (mo_R_fw hR1 hD2.2) hD4.2).2.2.2.2.1 h40 h6 hD4.1) (by decide) (Nat.le_refl _) (Nat.le_refl _) (Nat.le_of_ble_eq_true rfl) rfl (fun D3 hD3 => ?_)
        exact sd_iret dMO_derive_148 rfl (Nat.le_refl _) (Nat.le_refl _) ⟨rfl, rfl, _, rfl, dv_fin (D1 := D) (mo_R_fw (mo_R_fw hR1 hD2.2) hD4.2) ((hD4.2.1 22 (by decide)).trans (hD2.2.1 22 (by decide))) ((hD4.2.1 29 (by decide)).trans (hD2.2.1 29 (by decide))) hD3⟩
      ·
        exact absurd c118 (by omega)
    ·
      exact absurd c90 (by omega)
  ·
    exact absurd c68 (by omega)
theorem c_MO_derive7 {G : sd_G} {o : Nat} {D : fx_D} {h0 : sd_H} {nx g t k x n p r : Nat} {S : st_S} {hs : List Nat} (hB : G.2.1 ≤ o) (hR : mo_R S D) (hH : st_okH S) (hq : (st_gl S)[g]? = some (t, hs, some (k, x, n))) (ht : t < 2 ^ 30) (hk : k = 7) (hg : gk k = 2) (hn : n + 1 < 30) (hp : p < (st_th S).length) (hr : r < (st_th S).length) (dp : D.1 22 n = nI p) (dr : D.1 22 (n + 1) = nI r) (h40 : (st_th S).length < 40) (h6 : (dv_hyp (st_th S) k t (some p) (some r)).length ≤ 6) : sd_Ct G mMO_derive 2 0 0 [.ref (o + 0), .int (nI g)] (fx_h G.1.2 mo_S o D h0) nx (fx_is G.1.2 mo_S o h0 nx (some (.int (nI (st_th S).length))) (dv_P S D (t, dv_hyp (st_th S) k t (some p) (some r), k, some p, some r))) := by
  refine sd_Ct_of (by decide) (Nat.le_of_ble_eq_true rfl) ?_
  obtain ⟨q1, -, -, -, q2, -, q3, q4⟩ := hR.2.2.2.2.2.1.2.2 g _ hq
  have hgN := getE_lt hq
  have g30 := hR.2.2.2.2.2.1.1
  have q5 : D.1 19 g = nI 2 := by rw [← hg]; exact q4
  have hR1 : mo_R S (fx_uf D 0 16 (nI 0)) := mo_R_f hR (Or.inr rfl)
  subst hk
  obtain ⟨p40, p6, p7, p8, pc⟩ := mo_hyL hR1 hH hp
  obtain ⟨r40', -, -, -, rc⟩ := mo_hyL hR1 hH hr
  have e : dv_hyp (st_th S) 7 t (some p) (some r) = ls_g (ls_g [] (nI (cnL (st_th S) r)) (hyL (st_th S) p)) (nI (cnL (st_th S) p)) (hyL (st_th S) r) := rfl
  rw [e] at h6 ⊢
  have l1 := ls_g_len (hyL (st_th S) p) [] (nI (cnL (st_th S) r))
  rw [List.length_nil] at l1
  refine sd_aload_n dMO_derive_0 rfl rfl ?_
  refine fx_getr 10 20 (16) dMO_derive_1 fMO_55 rfl rfl ?_
  refine sd_iload_n dMO_derive_4 rfl rfl ?_
  refine fx_ialdv (v := (nI (7))) (g) dMO_derive_5 rfl rfl (by omega) (by decide) (q2) ?_
  refine sd_istore_n dMO_derive_6 rfl (by decide) ?_
  refine sd_aload_n dMO_derive_7 rfl rfl ?_
  refine fx_getr 10 23 (19) dMO_derive_8 fMO_64 rfl rfl ?_
  refine sd_iload_n dMO_derive_11 rfl rfl ?_
  refine fx_ialdv (v := (nI (2))) (g) dMO_derive_12 rfl rfl (by omega) (by decide) (q5) ?_
  refine nn_if_le 30 dMO_derive_13 (by decide) (by decide) (fun c => absurd c (by decide)) (fun _ => ?_)
  refine sd_aload_n dMO_derive_16 rfl rfl ?_
  refine fx_getr 10 26 (22) dMO_derive_17 fMO_73 rfl rfl ?_
  refine sd_aload_n dMO_derive_20 rfl rfl ?_
  refine fx_getr 10 22 (18) dMO_derive_21 fMO_61 rfl rfl ?_
  refine sd_iload_n dMO_derive_24 rfl rfl ?_
  refine fx_ialdv (v := (nI (n))) (g) dMO_derive_25 rfl rfl (by omega) (by decide) (q3) ?_
  refine fx_ialdv (v := (nI (p))) (n) dMO_derive_26 rfl rfl (by omega) (by decide) (dp) ?_
  refine sd_goto 31 dMO_derive_27 (by decide) ?_
  refine sd_istore_n dMO_derive_31 rfl (by decide) ?_
  refine sd_aload_n dMO_derive_32 rfl rfl ?_
  refine fx_getr 10 23 (19) dMO_derive_33 fMO_64 rfl rfl ?_
  refine sd_iload_n dMO_derive_36 rfl rfl ?_
  refine fx_ialdv (v := (nI (2))) (g) dMO_derive_37 rfl rfl (by omega) (by decide) (q5) ?_
  refine sd_iconst (v := nI 1) dMO_derive_38 (by decide) ?_
  refine nn_icmp_le 58 dMO_derive_39 (by decide) (by decide) (by decide) (fun c => absurd c (by decide)) (fun _ => ?_)
  refine sd_aload_n dMO_derive_42 rfl rfl ?_
  refine fx_getr 10 26 (22) dMO_derive_43 fMO_73 rfl rfl ?_
  refine sd_aload_n dMO_derive_46 rfl rfl ?_
  refine fx_getr 10 22 (18) dMO_derive_47 fMO_61 rfl rfl ?_
  refine sd_iload_n dMO_derive_50 rfl rfl ?_
  refine fx_ialdv (v := (nI (n))) (g) dMO_derive_51 rfl rfl (by omega) (by decide) (q3) ?_
  refine sd_iconst (v := nI 1) dMO_derive_52 (by decide) ?_
  refine nn_iadd dMO_derive_53 ?_
  refine fx_ialdv (v := (nI (r))) (n + 1) dMO_derive_54 rfl rfl (by omega) (by decide) (dr) ?_
  refine sd_goto 59 dMO_derive_55 (by decide) ?_
  refine sd_istore dMO_derive_59 (by decide) ?_
  refine sd_aload_n dMO_derive_61 rfl rfl ?_
  refine sd_iconst (v := nI 0) dMO_derive_62 (by decide) ?_
  refine fx_puti 10 16 dMO_derive_63 fMO_213 rfl rfl rfl rfl hB ?_
  refine sd_iload_n dMO_derive_66 rfl rfl ?_
  refine sd_iconst (v := nI 1) dMO_derive_67 (by decide) ?_
  refine nn_icmp_ne 81 dMO_derive_68 (by decide) (by decide) (by decide) (fun _ => ?_) (fun c => absurd c (by decide))
  refine sd_iload_n dMO_derive_81 rfl rfl ?_
  refine nn_if_lt dMO_derive_82 107 (by decide) (by omega) ?_
  refine sd_aload_n dMO_derive_85 rfl rfl ?_
  refine sd_iload_n dMO_derive_86 rfl rfl ?_
  refine sd_iload_n dMO_derive_87 rfl rfl ?_
  refine sd_bipush (v := nI 7) dMO_derive_88 (by decide) ?_
  refine nn_icmp_ne 103 dMO_derive_90 (by decide) (by decide) (by decide) (fun c => absurd c (by decide)) (fun _ => ?_)
  refine sd_aload_n dMO_derive_93 rfl rfl ?_
  refine fx_getr 10 8 (6) dMO_derive_94 fMO_25 rfl rfl ?_
  refine sd_iload dMO_derive_97 rfl ?_
  refine fx_ialdv (v := (nI (cnL (st_th S) r))) (r) dMO_derive_99 rfl rfl (by omega) (by decide) (rc) ?_
  refine sd_goto 104 dMO_derive_100 (by decide) ?_
  refine fx_cP 10 sR_MO [.int (nI (p)), .int (nI (cnL (st_th S) r))] [] dMO_derive_104 kMO_249 rfl rfl mMO_gather_v (c_MO_gather (hs := hyL (st_th S) p) (but := nI (cnL (st_th S) r)) hB p40 p6 p7 p8 (rw_nil D) (by simp; omega)) (by decide) (Nat.le_refl _) (Nat.le_refl _) (Nat.le_of_ble_eq_true rfl) rfl (fun D2 hD2 => ?_)
  obtain ⟨r40, r6, r7, r8, -⟩ := mo_hyL (mo_R_fw hR1 hD2.2) hH hr
  refine sd_iload dMO_derive_107 rfl ?_
  refine nn_if_lt dMO_derive_109 134 (by decide) (by omega) ?_
  refine sd_aload_n dMO_derive_112 rfl rfl ?_
  refine sd_iload dMO_derive_113 rfl ?_
  refine sd_iload_n dMO_derive_115 rfl rfl ?_
  refine sd_bipush (v := nI 7) dMO_derive_116 (by decide) ?_
  refine nn_icmp_ne 130 dMO_derive_118 (by decide) (by decide) (by decide) (fun c => absurd c (by decide)) (fun _ => ?_)
  refine sd_aload_n dMO_derive_121 rfl rfl ?_
  refine fx_getr 10 8 (6) dMO_derive_122 fMO_25 rfl rfl ?_
  refine sd_iload_n dMO_derive_125 rfl rfl ?_
  refine fx_ialdv (v := (nI (cnL (st_th S) p))) (p) dMO_derive_126 rfl rfl (by omega) (by decide) ((by rw [hD2.2.1 6 (by decide)]; exact pc)) ?_
  refine sd_goto 131 dMO_derive_127 (by decide) ?_
  refine fx_cP 10 sR_MO [.int (nI (r)), .int (nI (cnL (st_th S) p))] [] dMO_derive_131 kMO_249 rfl rfl mMO_gather_v (c_MO_gather (hs := hyL (st_th S) r) (but := nI (cnL (st_th S) p)) hB r40 r6 r7 r8 hD2.1 (by omega)) (by decide) (Nat.le_refl _) (Nat.le_refl _) (Nat.le_of_ble_eq_true rfl) rfl (fun D4 hD4 => ?_)
  refine sd_aload_n dMO_derive_134 rfl rfl ?_
  refine sd_iload_n dMO_derive_135 rfl rfl ?_
  refine sd_aload_n dMO_derive_136 rfl rfl ?_
  refine fx_getr 10 17 (13) dMO_derive_137 fMO_46 rfl rfl ?_
  refine sd_iload_n dMO_derive_140 rfl rfl ?_
  refine fx_ialdv (v := (nI (t))) (g) dMO_derive_141 rfl rfl (by omega) (by decide) ((by rw [hD4.2.1 13 (by decide), hD2.2.1 13 (by decide)]; exact q1)) ?_
  refine sd_iload_n dMO_derive_142 rfl rfl ?_
  refine sd_iload dMO_derive_143 rfl ?_
  refine fx_cP 10 sR_MO [.int (nI (7)), .int (nI (t)), .int (nI (p)), .int (nI (r))] [] dMO_derive_145 kMO_263 rfl rfl mMO_note_v (c_MO_note (k := 7) (t := t) (fa := some p) (fb := some r) hB (mo_R_fw (mo_R_fw hR1 hD2.2) hD4.2).2.2.2.2.1 h40 h6 hD4.1) (by decide) (Nat.le_refl _) (Nat.le_refl _) (Nat.le_of_ble_eq_true rfl) rfl (fun D3 hD3 => ?_)
  exact sd_iret dMO_derive_148 rfl (Nat.le_refl _) (Nat.le_refl _) ⟨rfl, rfl, _, rfl, dv_fin (D1 := D) (mo_R_fw (mo_R_fw hR1 hD2.2) hD4.2) ((hD4.2.1 22 (by decide)).trans (hD2.2.1 22 (by decide))) ((hD4.2.1 29 (by decide)).trans (hD2.2.1 29 (by decide))) hD3⟩
