/-! ===== the class's Rules: write ===== -/
theorem so_w_uf2 {D : fx_D} {s : Nat} {v : Int32} {L : List Nat} (h : so_w D s L) : so_w (fx_uf D s 2 v) s L := by
  have e : ∀ j, j ≠ 2 → (fx_uf D s 2 v).2.1 s j = D.2.1 s j := fun j hj => by simp [fx_uf, upd, hj]
  have r : ∀ {R}, so_r D s R → so_r (fx_uf D s 2 v) s R := fun {R} q => ⟨q.1, by rw [e 1 (by decide)]; exact q.2.1, q.2.2⟩
  rcases h with ⟨h1, h2, h3⟩ | ⟨h1, h2, R, h3⟩
  · exact Or.inl ⟨h1, r h2, by rw [e 3 (by decide)]; exact h3⟩
  · exact Or.inr ⟨h1, by rw [e 3 (by decide)]; exact h2, R, r h3⟩
theorem ls_g_ge : ∀ (hs rs : List Nat) (but : Int32), rs.length ≤ (ls_g rs but hs).length
  | [], rs, but => Nat.le_refl _
  | t :: hs, rs, but => by
    unfold ls_g
    split
    · exact ls_g_ge hs _ _
    · exact Nat.le_trans (ls_h_ge rs t) (ls_g_ge hs _ _)
/-- the hypotheses that a rule takes over -/
def ga_L (S : st_S) (k a b : Nat) (M : List Nat) (t : Nat) : List Nat := match k with
  | 1 => ls_h M t
  | 7 => ls_g (ls_g M (nI (st_cn S b)) (st_hy S a)) (nI (st_cn S a)) (st_hy S b)
  | 8 => M
  | k => ga_1 (st_th S) (ga_1 (st_th S) M (ru_fst k a)) (ru_snd k b)
theorem ga_1_ge (L : List st_Th) (M : List Nat) (p : Option Nat) : M.length ≤ (ga_1 L M p).length := by
  cases p with
  | none => exact Nat.le_refl _
  | some a => exact ls_g_ge _ _ _
theorem ga_L_ge (S : st_S) (k a b : Nat) (M : List Nat) (t : Nat) : M.length ≤ (ga_L S k a b M t).length := by
  unfold ga_L
  split
  · exact ls_h_ge _ _
  · exact Nat.le_trans (ls_g_ge _ _ _) (ls_g_ge _ _ _)
  · exact Nat.le_refl _
  · exact Nat.le_trans (ga_1_ge _ _ _) (ga_1_ge _ _ _)
theorem c_RU_gat {G : sd_G} {o : Nat} {D : fx_D} {h0 : sd_H} {nx k a b c t s : Nat} {S : st_S} {M : List Nat} (hB : G.2.1 ≤ o) (hT : dk_thm D (st_th S)) (hH : st_okH S) (h64 : (st_T S).length ≤ 71) (hi : ru_in S k a b c) (hse : s = 309 + 3 * (st_th S).length + 1) (hs : so_w D s M) (h1 : k = 1 → D.2.1 s 2 = nI t ∧ t < 2 ^ 30) : sd_Ct G mRU_gather 3 0 0 [.ref (o + 307), .int (nI k), .int (oi_I (ru_fst k a)), .int (oi_I (ru_snd k b))] (fx_h G.1.2 dk_S o D h0) nx (fx_is G.1.2 dk_S o h0 nx none (fun D' => so_w D' s (ga_L S k a b M t) ∧ so_f s D D')) := by
  subst hse
  have no : ∀ a, (none : Option Nat) = some a → a < (st_th S).length := fun a e => by cases e
  have so : ∀ {p}, p < (st_th S).length → ∀ a, some p = some a → a < (st_th S).length := fun h a e => by cases e; exact h
  have cn : ∀ {p}, p < (st_th S).length → ∃ x : st_Th, (st_th S)[p]? = some x ∧ x.1 = st_cn S p ∧ x.2.1 = st_hy S p ∧ x.1 < 2 ^ 30 := fun {p} h => by
    have e := List.getElem?_eq_getElem h
    have := (hH p _ e).1
    exact ⟨_, e, by simp [st_cn, e], by simp [st_hy, e], by omega⟩
  rcases hi with ⟨rfl | rfl | rfl, ha⟩ | ⟨rfl | rfl | rfl | rfl, ha, hb⟩ | ⟨rfl, ha, hb⟩ | ⟨rfl, ha, hb, hc⟩
  · exact c_RU_gather (p := none) (q := none) hB hT (by omega) (by omega) (by omega) (by omega) no no hs
  · obtain ⟨q1, q2⟩ := h1 rfl
    exact c_RU_gather1 hB hT.1 hT.2.1 hs q1 q2
  · exact c_RU_gather (p := none) (q := none) hB hT (by omega) (by omega) (by omega) (by omega) no no hs
  · exact c_RU_gather (p := some a) (q := some b) hB hT (by omega) (by omega) (by omega) (by omega) (so ha) (so hb) hs
  · exact c_RU_gather (p := some a) (q := some b) hB hT (by omega) (by omega) (by omega) (by omega) (so ha) (so hb) hs
  · exact c_RU_gather (p := some a) (q := some b) hB hT (by omega) (by omega) (by omega) (by omega) (so ha) (so hb) hs
  · obtain ⟨x, x1, x2, x3, x4⟩ := cn ha
    obtain ⟨y, y1, y2, y3, y4⟩ := cn hb
    have q := c_RU_gather7 (G := G) (o := o) (h0 := h0) (nx := nx) hB hT x1 y1 x4 y4 hs
    rw [x2, x3, y2, y3] at q
    exact q
  · exact c_RU_gather (p := some a) (q := none) hB hT (by omega) (by omega) (by omega) (by omega) (so ha) no hs
  · exact fx_mono (c_RU_gather8 hT.1 hT.2.1) (fun D' e => by rw [e]; exact ⟨hs, so_f.rf _ _⟩)
def w9_P (S : st_S) (k a b s : Nat) (T1 : List tl_T) (L1 : List Nat) (X : tl_T) (D' : fx_D) : Prop := (X.length ≤ 24 ∧ ts_T D' (tl_ku T1 X) ∧ D'.2.1 s 2 = nI (tl_kp T1 X) ∧ so_w D' s (ga_L S k a b L1 (tl_kp T1 X))) ∨ (24 < X.length ∧ ts_T D' T1 ∧ ∃ H, 6 < H.length ∧ so_w D' s H)
theorem dRU_write_0 : decode prog_6_method_10_code 0 = .ok (.getstatic 118, 3) := by decide +kernel
theorem dRU_write_3 : decode prog_6_method_10_code 3 = .ok (.iload_n 1, 1) := by decide +kernel
theorem dRU_write_4 : decode prog_6_method_10_code 4 = .ok (.iaload, 1) := by decide +kernel
theorem dRU_write_5 : decode prog_6_method_10_code 5 = .ok (.ifCond .le (7), 3) := by decide +kernel
theorem dRU_write_8 : decode prog_6_method_10_code 8 = .ok (.iload_n 2, 1) := by decide +kernel
theorem dRU_write_9 : decode prog_6_method_10_code 9 = .ok (.goto (4), 3) := by decide +kernel
theorem dRU_write_12 : decode prog_6_method_10_code 12 = .ok (.iconst (-1), 1) := by decide +kernel
theorem dRU_write_13 : decode prog_6_method_10_code 13 = .ok (.istore 5, 2) := by decide +kernel
theorem dRU_write_15 : decode prog_6_method_10_code 15 = .ok (.getstatic 118, 3) := by decide +kernel
theorem dRU_write_18 : decode prog_6_method_10_code 18 = .ok (.iload_n 1, 1) := by decide +kernel
theorem dRU_write_19 : decode prog_6_method_10_code 19 = .ok (.iaload, 1) := by decide +kernel
theorem dRU_write_20 : decode prog_6_method_10_code 20 = .ok (.iconst 1, 1) := by decide +kernel
theorem dRU_write_21 : decode prog_6_method_10_code 21 = .ok (.if_icmp .le (7), 3) := by decide +kernel
theorem dRU_write_24 : decode prog_6_method_10_code 24 = .ok (.iload_n 3, 1) := by decide +kernel
theorem dRU_write_25 : decode prog_6_method_10_code 25 = .ok (.goto (4), 3) := by decide +kernel
theorem dRU_write_28 : decode prog_6_method_10_code 28 = .ok (.iconst (-1), 1) := by decide +kernel
theorem dRU_write_29 : decode prog_6_method_10_code 29 = .ok (.istore 6, 2) := by decide +kernel
theorem dRU_write_31 : decode prog_6_method_10_code 31 = .ok (.aload_n 0, 1) := by decide +kernel
theorem dRU_write_32 : decode prog_6_method_10_code 32 = .ok (.iload_n 1, 1) := by decide +kernel
theorem dRU_write_33 : decode prog_6_method_10_code 33 = .ok (.iload 5, 2) := by decide +kernel
theorem dRU_write_35 : decode prog_6_method_10_code 35 = .ok (.iload 6, 2) := by decide +kernel
theorem dRU_write_37 : decode prog_6_method_10_code 37 = .ok (.invokevirtual 121, 3) := by decide +kernel
theorem dRU_write_40 : decode prog_6_method_10_code 40 = .ok (.aload_n 0, 1) := by decide +kernel
theorem dRU_write_41 : decode prog_6_method_10_code 41 = .ok (.getfield 11, 3) := by decide +kernel
theorem dRU_write_44 : decode prog_6_method_10_code 44 = .ok (.aload_n 0, 1) := by decide +kernel
theorem dRU_write_45 : decode prog_6_method_10_code 45 = .ok (.getfield 22, 3) := by decide +kernel
theorem dRU_write_48 : decode prog_6_method_10_code 48 = .ok (.aaload, 1) := by decide +kernel
theorem dRU_write_49 : decode prog_6_method_10_code 49 = .ok (.getfield 40, 3) := by decide +kernel
theorem dRU_write_52 : decode prog_6_method_10_code 52 = .ok (.astore 7, 2) := by decide +kernel
theorem dRU_write_54 : decode prog_6_method_10_code 54 = .ok (.iload_n 1, 1) := by decide +kernel
theorem dRU_write_55 : decode prog_6_method_10_code 55 = .ok (.bipush (8), 2) := by decide +kernel
theorem dRU_write_57 : decode prog_6_method_10_code 57 = .ok (.if_icmp .ne (21), 3) := by decide +kernel
theorem dRU_write_60 : decode prog_6_method_10_code 60 = .ok (.aload_n 0, 1) := by decide +kernel
theorem dRU_write_61 : decode prog_6_method_10_code 61 = .ok (.aload 7, 2) := by decide +kernel
theorem dRU_write_63 : decode prog_6_method_10_code 63 = .ok (.aload_n 0, 1) := by decide +kernel
theorem dRU_write_64 : decode prog_6_method_10_code 64 = .ok (.getfield 11, 3) := by decide +kernel
theorem dRU_write_67 : decode prog_6_method_10_code 67 = .ok (.iload_n 2, 1) := by decide +kernel
theorem dRU_write_68 : decode prog_6_method_10_code 68 = .ok (.aaload, 1) := by decide +kernel
theorem dRU_write_69 : decode prog_6_method_10_code 69 = .ok (.getfield 40, 3) := by decide +kernel
theorem dRU_write_72 : decode prog_6_method_10_code 72 = .ok (.iload_n 3, 1) := by decide +kernel
theorem dRU_write_73 : decode prog_6_method_10_code 73 = .ok (.iload 4, 2) := by decide +kernel
theorem dRU_write_75 : decode prog_6_method_10_code 75 = .ok (.invokevirtual 125, 3) := by decide +kernel
theorem dRU_write_78 : decode prog_6_method_10_code 78 = .ok (.aload_n 0, 1) := by decide +kernel
theorem dRU_write_79 : decode prog_6_method_10_code 79 = .ok (.aload_n 0, 1) := by decide +kernel
theorem dRU_write_80 : decode prog_6_method_10_code 80 = .ok (.getfield 17, 3) := by decide +kernel
theorem dRU_write_83 : decode prog_6_method_10_code 83 = .ok (.invokevirtual 129, 3) := by decide +kernel
theorem dRU_write_86 : decode prog_6_method_10_code 86 = .ok (.iload_n 1, 1) := by decide +kernel
theorem dRU_write_87 : decode prog_6_method_10_code 87 = .ok (.iload_n 2, 1) := by decide +kernel
theorem dRU_write_88 : decode prog_6_method_10_code 88 = .ok (.iload_n 3, 1) := by decide +kernel
theorem dRU_write_89 : decode prog_6_method_10_code 89 = .ok (.iload 4, 2) := by decide +kernel
theorem dRU_write_91 : decode prog_6_method_10_code 91 = .ok (.invokevirtual 133, 3) := by decide +kernel
theorem dRU_write_94 : decode prog_6_method_10_code 94 = .ok (.aload 7, 2) := by decide +kernel
theorem dRU_write_96 : decode prog_6_method_10_code 96 = .ok (.aload_n 0, 1) := by decide +kernel
theorem dRU_write_97 : decode prog_6_method_10_code 97 = .ok (.getfield 17, 3) := by decide +kernel
theorem dRU_write_100 : decode prog_6_method_10_code 100 = .ok (.invokevirtual 137, 3) := by decide +kernel
theorem dRU_write_103 : decode prog_6_method_10_code 103 = .ok (.invokevirtual 140, 3) := by decide +kernel
theorem dRU_write_106 : decode prog_6_method_10_code 106 = .ok (.aload_n 0, 1) := by decide +kernel
theorem dRU_write_107 : decode prog_6_method_10_code 107 = .ok (.iload_n 1, 1) := by decide +kernel
theorem dRU_write_108 : decode prog_6_method_10_code 108 = .ok (.iload 5, 2) := by decide +kernel
theorem dRU_write_110 : decode prog_6_method_10_code 110 = .ok (.iload 6, 2) := by decide +kernel
theorem dRU_write_112 : decode prog_6_method_10_code 112 = .ok (.invokevirtual 144, 3) := by decide +kernel
theorem dRU_write_115 : decode prog_6_method_10_code 115 = .ok (.return_, 1) := by decide +kernel
theorem l_RU_write94 {G : sd_G} {o : Nat} {D : fx_D} {h0 : sd_H} {nx k a b c s : Nat} {S : st_S} {T1 : List tl_T} {L1 : List Nat} {X : tl_T} {y z w : Int32} {Qp : fx_D → Prop} (hB : G.2.1 ≤ o) (hH : st_okH S) (hi : ru_in S k a b c) (hse : s = 309 + 3 * (st_th S).length + 1) (hso_s : dk_so s) (hW : dk_W S T1 D) (h70 : T1.length ≤ 70) (hX : tw D (T1.length + 1) X) (hwf : X.length ≤ 24 → tl_wf X) (hk1 : k = 1 → X.length ≤ 24) (hso : so_w D s L1) (hQ : ∀ D', ruf s D D' → w9_P S k a b s T1 L1 X D' → Qp D') : sd_W G mRU_write 5 0 0 (fx_is G.1.2 dk_S o h0 nx none Qp) 94 [(0, .ref (o + 307)), (1, .int (nI k)), (2, .int y), (3, .int z), (4, .int w), (5, .int (oi_I (ru_fst k a))), (6, .int (oi_I (ru_snd k b))), (7, .ref (o + s))] [] (fx_h G.1.2 dk_S o D h0) nx 0 0 := by
  have hlt : (st_T S).length ≤ 71 := by
    obtain ⟨-, -, -, X, rfl⟩ := hW
    simp only [List.length_append] at h70
    omega
  obtain ⟨Z, hZ⟩ := hW.2.2.2
  by_cases h24 : X.length ≤ 24
  · have kle := tl_kp_lle T1 X
    obtain ⟨Y, hY1, hY2⟩ := tl_ku_pre T1 X
    refine sd_aload dRU_write_94 rfl ?_
    refine sd_aload_n dRU_write_96 rfl rfl ?_
    refine fx_getr 5 0 (1) dRU_write_97 fRU_17 rfl rfl ?_
    refine fx_cP 8 sR_TS [] [.ref (o + (s))] dRU_write_100 kRU_137 rfl rfl mTS_keep_v (c_TS_keep (T := T1) hB hW.2.1 h70 hX (hwf h24)) (by decide) (Nat.le_refl _) (Nat.le_refl _) (Nat.le_of_ble_eq_true rfl) rfl (fun D1 h1 => ?_)
    refine fx_cV 6 sR_ST [.int (nI (tl_kp T1 X))] [] dRU_write_103 kRU_140 rfl hso_s.1 mST_conclude_v (c_ST_conclude hB hso_s (by omega)) (by decide) (Nat.le_refl _) (Nat.le_refl _) (Nat.le_of_ble_eq_true rfl) rfl ?_
    have hf2 : ruf s D (fx_uf D1 s 2 (nI (tl_kp T1 X))) := (ruf.ts h1.2).tr ruf.uf
    have hW2 : dk_W S (tl_ku T1 X) (fx_uf D1 s 2 (nI (tl_kp T1 X))) := hW.rf (by rw [← hse]; exact hf2) (ts_T_uf (by omega) h1.1) ⟨Z ++ Y, by rw [hY1, hZ, List.append_assoc]⟩
    have hs2 : so_w (fx_uf D1 s 2 (nI (tl_kp T1 X))) s L1 := so_w_uf2 (so_w_ag (h1.2.ag (by omega) (by omega)) (h1.2.ag (by omega) (by omega)) hso)
    have hc2 : (fx_uf D1 s 2 (nI (tl_kp T1 X))).2.1 s 2 = nI (tl_kp T1 X) := by simp [fx_uf, upd]
    refine sd_aload_n dRU_write_106 rfl rfl ?_
    refine sd_iload_n dRU_write_107 rfl rfl ?_
    refine sd_iload dRU_write_108 rfl ?_
    refine sd_iload dRU_write_110 rfl ?_
    refine fx_cP 5 sR_RU [.int (nI (k)), .int (oi_I (ru_fst k a)), .int (oi_I (ru_snd k b))] [] dRU_write_112 kRU_144 rfl rfl mRU_gather_v (c_RU_gat (t := tl_kp T1 X) hB hW2.2.2.1 hH hlt hi hse hs2 (fun _ => ⟨hc2, by omega⟩)) (by decide) (Nat.le_refl _) (Nat.le_refl _) (Nat.le_of_ble_eq_true rfl) rfl (fun D3 h3 => ?_)
    exact sd_vret dRU_write_115 rfl (Nat.le_refl _) (Nat.le_refl _) ⟨rfl, rfl, _, rfl, hQ D3 (hf2.tr (ruf.so h3.2)) (Or.inl ⟨h24, ts_T_so (by omega) h3.2 (ts_T_uf (by omega) h1.1), by rw [h3.2.2.1 s 2 (by omega)]; exact hc2, h3.1⟩)⟩
  · have hk1' : k ≠ 1 := fun e => h24 (hk1 e)
    refine sd_aload dRU_write_94 rfl ?_
    refine sd_aload_n dRU_write_96 rfl rfl ?_
    refine fx_getr 5 0 (1) dRU_write_97 fRU_17 rfl rfl ?_
    refine fx_cV 8 sR_TS [] [.ref (o + (s))] dRU_write_100 kRU_137 rfl rfl mTS_keep_v (c_TS_keepBig (n := T1.length) (L := []) (by omega) hW.2.1.2.1 (tw_big hX (by omega))) (by decide) (Nat.le_refl _) (Nat.le_refl _) (Nat.le_of_ble_eq_true rfl) rfl ?_
    refine fx_cV 6 sR_ST [.int ((-5))] [] dRU_write_103 kRU_140 rfl hso_s.1 mST_conclude_v (c_ST_concludeBig (x := -5) hB hso_s (by decide)) (by decide) (Nat.le_refl _) (Nat.le_refl _) (Nat.le_of_ble_eq_true rfl) rfl ?_
    have hf2 : ruf s D (fx_uf (fx_uf D s 2 (-5)) s 3 (nI 1)) := ruf.uf.tr ruf.uf
    have hW2 : dk_W S T1 (fx_uf (fx_uf D s 2 (-5)) s 3 (nI 1)) := hW.rf (by rw [← hse]; exact hf2) (ts_T_uf (by omega) (ts_T_uf (by omega) hW.2.1)) hW.2.2.2
    have hs2 : so_w (fx_uf (fx_uf D s 2 (-5)) s 3 (nI 1)) s so_long := so_w_long (so_w_uf2 hso)
    refine sd_aload_n dRU_write_106 rfl rfl ?_
    refine sd_iload_n dRU_write_107 rfl rfl ?_
    refine sd_iload dRU_write_108 rfl ?_
    refine sd_iload dRU_write_110 rfl ?_
    refine fx_cP 5 sR_RU [.int (nI (k)), .int (oi_I (ru_fst k a)), .int (oi_I (ru_snd k b))] [] dRU_write_112 kRU_144 rfl rfl mRU_gather_v (c_RU_gat (t := 0) hB hW2.2.2.1 hH hlt hi hse hs2 (fun e => absurd e hk1')) (by decide) (Nat.le_refl _) (Nat.le_refl _) (Nat.le_of_ble_eq_true rfl) rfl (fun D3 h3 => ?_)
    exact sd_vret dRU_write_115 rfl (Nat.le_refl _) (Nat.le_refl _) ⟨rfl, rfl, _, rfl, hQ D3 (hf2.tr (ruf.so h3.2)) (Or.inr ⟨by omega, ts_T_so (by omega) h3.2 hW2.2.1, _, Nat.lt_of_lt_of_le (show 6 < so_long.length by decide) (ga_L_ge S k a b so_long 0), h3.1⟩)⟩
theorem l_RU_write78 {G : sd_G} {o : Nat} {D0 D : fx_D} {h0 : sd_H} {nx k a b c s : Nat} {S : st_S} {T1 : List tl_T} {L1 : List Nat} {x y z w : Int32} {Qp : fx_D → Prop} (hB : G.2.1 ≤ o) (hT : st_okT S) (hH : st_okH S) (ht : ru_there S x y z w k a b c) (hfit : ru_fit S k a b c = true) (hcp : ∀ L, ru_row S k a b c = some L → tl_cp 1 L) (hk1 : ∀ L, k = 1 → ru_row S k a b c = some L → L.length ≤ 24) (hse : s = 309 + 3 * (st_th S).length + 1) (hso_s : dk_so s) (hW : dk_W S T1 D) (h70 : T1.length ≤ 70) (hso : so_w D s L1) (hf0 : ruf s D0 D) (hQ : ∀ D' X, ruf s D0 D' → wc_P S k a b c X → w9_P S k a b s T1 L1 X D' → Qp D') : sd_W G mRU_write 5 0 0 (fx_is G.1.2 dk_S o h0 nx none Qp) 78 [(0, .ref (o + 307)), (1, .int x), (2, .int y), (3, .int z), (4, .int w), (5, .int (oi_I (ru_fst k a))), (6, .int (oi_I (ru_snd k b))), (7, .ref (o + s))] [] (fx_h G.1.2 dk_S o D h0) nx 0 0 := by
  have hxk := ht.1
  subst hxk
  refine sd_aload_n dRU_write_78 rfl rfl ?_
  refine sd_aload_n dRU_write_79 rfl rfl ?_
  refine fx_getr 5 0 (1) dRU_write_80 fRU_17 rfl rfl ?_
  refine fx_cP 8 sR_TS [] [.ref (o + (307))] dRU_write_83 kRU_129 rfl rfl mTS_fresh_v (c_TS_fresh hB (by omega) hW.2.1.2.1) (by decide) (Nat.le_refl _) (Nat.le_refl _) (Nat.le_of_ble_eq_true rfl) rfl (fun D1 h1 => ?_)
  refine sd_iload_n dRU_write_86 rfl rfl ?_
  refine sd_iload_n dRU_write_87 rfl rfl ?_
  refine sd_iload_n dRU_write_88 rfl rfl ?_
  refine sd_iload dRU_write_89 rfl ?_
  refine fx_cP 5 sR_RU [.ref (o + (tmo ((T1.length + 1)))), .int (nI (k)), .int (y), .int (z), .int (w)] [] dRU_write_91 kRU_133 rfl rfl mRU_writeConclusion_v (c_RU_writeConclusion hB (hW.tmf (Nat.lt_succ_self _) (by omega) h1.2) hT hH ht hfit rfl h1.1) (by decide) (Nat.le_refl _) (Nat.le_refl _) (Nat.le_of_ble_eq_true rfl) rfl (fun D2 h2 => ?_)
  refine sd_locp (al' := [(0, .ref (o + (307))), (1, .int (nI (k))), (2, .int (y)), (3, .int (z)), (4, .int (w)), (5, .int (oi_I (ru_fst k a))), (6, .int (oi_I (ru_snd k b))), (7, .ref (o + (s)))]) [0, 1, 2, 3, 4, 5, 6, 7] rfl ?_
  obtain ⟨⟨X, hX1, hX2⟩, hf⟩ := h2
  have hff := h1.2.tr hf
  have hwf : X.length ≤ 24 → tl_wf X := fun q => by
    unfold wc_P at hX1
    cases e : ru_row S k a b c with
    | none => simp only [e] at hX1; omega
    | some L =>
      simp only [e] at hX1
      subst hX1
      have := hcp X e
      exact ⟨this.1, this.2, q⟩
  have hk2 : k = 1 → X.length ≤ 24 := fun q => by
    unfold wc_P at hX1
    cases e : ru_row S k a b c with
    | none => subst q; cases e
    | some L =>
      simp only [e] at hX1
      subst hX1
      exact hk1 X q e
  have z : ∀ y, 309 ≤ y → ag D D2 y := fun y hy => hff.ag (by unfold tmo; omega) (by unfold tmo; omega) (by unfold tmo; omega) (by unfold tmo; omega)
  have hf1 : ruf s D D2 := ruf.ts (ts_f.row (by omega) (by omega) hff)
  exact l_RU_write94 hB hH ht.in hse hso_s (hW.tmf (Nat.lt_succ_self _) (by omega) hff) h70 hX2 hwf hk2 (so_w_ag (z _ (by omega)) (z _ (by omega)) hso) (fun D' q1 q2 => hQ D' X (hf0.tr (hf1.tr q1)) hX1 q2)
/-- behind write -/
def wr_P (S : st_S) (k a b c : Nat) (D D' : fx_D) : Prop := (∀ x, ¬ (8 ≤ x ∧ x < 296) → x ≠ 1 → ¬ (309 + 3 * (st_th S).length ≤ x ∧ x < 309 + 3 * (st_th S).length + 3) → ag D D' x) ∧ (D'.2.1 (309 + 3 * (st_th S).length) 1 = nI k ∧ D'.2.1 (309 + 3 * (st_th S).length) 2 = oi_I (ru_fst k a) ∧ D'.2.1 (309 + 3 * (st_th S).length) 3 = oi_I (ru_snd k b)) ∧ D'.2.2 (309 + 3 * (st_th S).length) = lI (2 ^ (st_th S).length ||| rr_1 (st_th S) (ru_fst k a) ||| rr_1 (st_th S) (ru_snd k b)) ∧ ∃ X, wc_P S k a b c X ∧ w9_P S k a b (309 + 3 * (st_th S).length + 1) (ku_i (st_T S) [] (ru_hr S k a b c)).1 (ku_i (st_T S) [] (ru_hr S k a b c)).2 X D'
theorem wr_of {S : st_S} {k a b c : Nat} {D D' : fx_D} {X : tl_T} (h : ruf (309 + 3 * (st_th S).length + 1) (bg_D D (st_th S).length (nI k) (oi_I (ru_fst k a)) (oi_I (ru_snd k b)) (lI (2 ^ (st_th S).length ||| rr_1 (st_th S) (ru_fst k a) ||| rr_1 (st_th S) (ru_snd k b)))) D') (hX : wc_P S k a b c X) (hp : w9_P S k a b (309 + 3 * (st_th S).length + 1) (ku_i (st_T S) [] (ru_hr S k a b c)).1 (ku_i (st_T S) [] (ru_hr S k a b c)).2 X D') : wr_P S k a b c D D' := by
  have a0 := h.ag (x := 309 + 3 * (st_th S).length) (by omega) (by omega) (by omega) (by omega)
  refine ⟨fun x h1 h2 h3 => (bg_ag (by omega) (by omega)).tr (h.ag h1 h2 (by omega) (by omega)), ?_, ?_, X, hX, hp⟩
  · rw [a0.2.1]
    exact bg_1
  · rw [a0.2.2]
    exact bg_l
theorem dk_W_bg {S : st_S} {T : List tl_T} {D : fx_D} {k p q : Int32} {m : Int64} (h : dk_W S T D) : dk_W S T (bg_D D (st_th S).length k p q m) := by
  refine h.ag (bg_ag (by omega) (by omega)) (bg_ag (by omega) (by omega)) (fun x h1 h2 => bg_ag (by omega) (by omega)) ?_
  have h71 := h.2.1.1
  have e : ∀ x, x < 296 → ag D (bg_D D (st_th S).length k p q m) x := fun x hx => bg_ag (by omega) (by omega)
  refine ⟨h.2.1.1, by rw [(e 1 (by omega)).2.1]; exact h.2.1.2.1, fun t l hl => ?_⟩
  have ht := getE_lt hl
  obtain ⟨a, b, c⟩ := h.2.1.2.2 t l hl
  have g : ∀ i, i ≤ 3 → ag D (bg_D D (st_th S).length k p q m) (tmo (t + 1) + i) := fun i hi => e _ (by unfold tmo; omega)
  exact ⟨tm_row_ag g a, tm_set_ag g b, c⟩
theorem c_RU_write {G : sd_G} {o : Nat} {D : fx_D} {h0 : sd_H} {nx k a b c : Nat} {S : st_S} {x y z w : Int32} (hB : G.2.1 ≤ o) (hT : st_okT S) (hH : st_okH S) (ht : ru_there S x y z w k a b c) (hfit : ru_fit S k a b c = true) (hcp : ∀ L, ru_row S k a b c = some L → tl_cp 1 L) (hW : dk_W S (st_T S) D) (h64 : (st_T S).length ≤ 64) : sd_Ct G mRU_write 5 0 0 [.ref (o + 307), .int x, .int y, .int z, .int w] (fx_h G.1.2 dk_S o D h0) nx (fx_is G.1.2 dk_S o h0 nx none (wr_P S k a b c D)) := by
  refine sd_Ct_of (by decide) (Nat.le_of_ble_eq_true rfl) ?_
  have h40 := hW.2.2.1.1
  have htt := ht
  have hk1 : ∀ L, k = 1 → ru_row S k a b c = some L → L.length ≤ 24 := fun L q e => by
    subst q
    cases e
    obtain ⟨e1, e2⟩ := ht
    rcases e2 with ⟨-, -, q⟩ | ⟨q, -⟩ | ⟨q, -⟩ | ⟨q, -⟩
    · exact (hW.tm q).2.2.1.2.2
    · omega
    · omega
    · omega
  have hso := dk_ths (p := (st_th S).length) (by omega)
  have h7 : ∀ {k p q m}, (bg_D D (st_th S).length k p q m).2.1 307 2 = nI (st_th S).length := by
    intro k p q m
    rw [(bg_ag (D := D) (x := 307) (by omega) (by omega)).2.1]
    exact hW.2.2.1.2.1
  have no : ∀ a, (none : Option Nat) = some a → a < (st_th S).length := fun a e => by cases e
  have so : ∀ {p}, p < (st_th S).length → ∀ a, some p = some a → a < (st_th S).length := fun h a e => by cases e; exact h
  obtain ⟨rfl, hh⟩ := ht
  rcases hh with ⟨rfl | rfl | rfl, rfl, ha⟩ | ⟨rfl | rfl | rfl | rfl, rfl, ha, rfl, hb⟩ | ⟨rfl, rfl, ha, rfl, hb⟩ | ⟨rfl, rfl, ha, rfl, hb, rfl, hc⟩
  · skip
    refine sd_gets sz_USED dRU_write_0 (by decide) (Or.inr ⟨"SequentDesk", (sd_nT (sd_in3 (List.mem_of_getElem? (i := 57) rfl)) rfl)⟩) ?_
    refine sd_iload_n dRU_write_3 rfl rfl ?_
    refine sd_tald sz_USED (v := (nI (0))) dRU_write_4 (by decide) (vp_in_nI (by show _ < 9; omega) (by decide)) ((by decide)) ?_
    refine nn_if_le 12 dRU_write_5 (by decide) (by decide) (fun _ => ?_) (fun c => absurd c (by decide))
    refine sd_iconst (v := (-1)) dRU_write_12 (by decide) ?_
    refine sd_istore dRU_write_13 (by decide) ?_
    refine sd_gets sz_USED dRU_write_15 (by decide) (Or.inr ⟨"SequentDesk", (sd_nT (sd_in3 (List.mem_of_getElem? (i := 57) rfl)) rfl)⟩) ?_
    refine sd_iload_n dRU_write_18 rfl rfl ?_
    refine sd_tald sz_USED (v := (nI (0))) dRU_write_19 (by decide) (vp_in_nI (by show _ < 9; omega) (by decide)) ((by decide)) ?_
    refine sd_iconst (v := nI 1) dRU_write_20 (by decide) ?_
    refine nn_icmp_le 28 dRU_write_21 (by decide) (by decide) (by decide) (fun _ => ?_) (fun c => absurd c (by decide))
    refine sd_iconst (v := (-1)) dRU_write_28 (by decide) ?_
    refine sd_istore dRU_write_29 (by decide) ?_
    refine sd_aload_n dRU_write_31 rfl rfl ?_
    refine sd_iload_n dRU_write_32 rfl rfl ?_
    refine sd_iload dRU_write_33 rfl ?_
    refine sd_iload dRU_write_35 rfl ?_
    refine fx_cV 5 sR_RU [.int (nI (0)), .int ((-1)), .int ((-1))] [] dRU_write_37 kRU_121 rfl rfl mRU_begin_v (c_RU_begin (p := none) (q := none) hB hW.2.2.1 (by omega) no no) (by decide) (Nat.le_refl _) (Nat.le_refl _) (Nat.le_of_ble_eq_true rfl) rfl ?_
    refine sd_aload_n dRU_write_40 rfl rfl ?_
    refine fx_getr 5 1 (308) dRU_write_41 fRU_11 rfl rfl ?_
    refine sd_aload_n dRU_write_44 rfl rfl ?_
    refine fx_getiv (v := (nI ((st_th S).length))) 5 2 dRU_write_45 fRU_22 rfl rfl (h7) ?_
    refine fx_aald ((st_th S).length) dRU_write_48 rfl rfl rfl (by omega) (by decide) ?_
    refine fx_getr 9 0 (309 + 3 * ((st_th S).length) + 1) dRU_write_49 fRU_40 (dk_th (by omega)) rfl ?_
    refine sd_astore dRU_write_52 (by decide) ?_
    refine sd_iload_n dRU_write_54 rfl rfl ?_
    refine sd_bipush (v := nI 8) dRU_write_55 (by decide) ?_
    refine nn_icmp_ne 78 dRU_write_57 (by decide) (by decide) (by decide) (fun _ => ?_) (fun c => absurd c (by decide))
    refine sd_locp (al' := [(0, .ref (o + (307))), (1, .int (nI (0))), (2, .int (nI (a))), (3, .int (z)), (4, .int (w)), (5, .int ((-1))), (6, .int ((-1))), (7, .ref (o + (309 + 3 * ((st_th S).length) + 1)))]) [3, 4, 5, 6, 7, 2, 1, 0] rfl ?_
    exact l_RU_write78 hB hT hH htt hfit hcp hk1 rfl hso (dk_W_bg hW) (by omega) bg_s (ruf.rf _ _) (fun D' X q1 q2 q3 => wr_of q1 q2 q3)
  · skip
    refine sd_gets sz_USED dRU_write_0 (by decide) (Or.inr ⟨"SequentDesk", (sd_nT (sd_in3 (List.mem_of_getElem? (i := 57) rfl)) rfl)⟩) ?_
    refine sd_iload_n dRU_write_3 rfl rfl ?_
    refine sd_tald sz_USED (v := (nI (0))) dRU_write_4 (by decide) (vp_in_nI (by show _ < 9; omega) (by decide)) ((by decide)) ?_
    refine nn_if_le 12 dRU_write_5 (by decide) (by decide) (fun _ => ?_) (fun c => absurd c (by decide))
    refine sd_iconst (v := (-1)) dRU_write_12 (by decide) ?_
    refine sd_istore dRU_write_13 (by decide) ?_
    refine sd_gets sz_USED dRU_write_15 (by decide) (Or.inr ⟨"SequentDesk", (sd_nT (sd_in3 (List.mem_of_getElem? (i := 57) rfl)) rfl)⟩) ?_
    refine sd_iload_n dRU_write_18 rfl rfl ?_
    refine sd_tald sz_USED (v := (nI (0))) dRU_write_19 (by decide) (vp_in_nI (by show _ < 9; omega) (by decide)) ((by decide)) ?_
    refine sd_iconst (v := nI 1) dRU_write_20 (by decide) ?_
    refine nn_icmp_le 28 dRU_write_21 (by decide) (by decide) (by decide) (fun _ => ?_) (fun c => absurd c (by decide))
    refine sd_iconst (v := (-1)) dRU_write_28 (by decide) ?_
    refine sd_istore dRU_write_29 (by decide) ?_
    refine sd_aload_n dRU_write_31 rfl rfl ?_
    refine sd_iload_n dRU_write_32 rfl rfl ?_
    refine sd_iload dRU_write_33 rfl ?_
    refine sd_iload dRU_write_35 rfl ?_
    refine fx_cV 5 sR_RU [.int (nI (1)), .int ((-1)), .int ((-1))] [] dRU_write_37 kRU_121 rfl rfl mRU_begin_v (c_RU_begin (p := none) (q := none) hB hW.2.2.1 (by omega) no no) (by decide) (Nat.le_refl _) (Nat.le_refl _) (Nat.le_of_ble_eq_true rfl) rfl ?_
    refine sd_aload_n dRU_write_40 rfl rfl ?_
    refine fx_getr 5 1 (308) dRU_write_41 fRU_11 rfl rfl ?_
    refine sd_aload_n dRU_write_44 rfl rfl ?_
    refine fx_getiv (v := (nI ((st_th S).length))) 5 2 dRU_write_45 fRU_22 rfl rfl (h7) ?_
    refine fx_aald ((st_th S).length) dRU_write_48 rfl rfl rfl (by omega) (by decide) ?_
    refine fx_getr 9 0 (309 + 3 * ((st_th S).length) + 1) dRU_write_49 fRU_40 (dk_th (by omega)) rfl ?_
    refine sd_astore dRU_write_52 (by decide) ?_
    refine sd_iload_n dRU_write_54 rfl rfl ?_
    refine sd_bipush (v := nI 8) dRU_write_55 (by decide) ?_
    refine nn_icmp_ne 78 dRU_write_57 (by decide) (by decide) (by decide) (fun _ => ?_) (fun c => absurd c (by decide))
    refine sd_locp (al' := [(0, .ref (o + (307))), (1, .int (nI (1))), (2, .int (nI (a))), (3, .int (z)), (4, .int (w)), (5, .int ((-1))), (6, .int ((-1))), (7, .ref (o + (309 + 3 * ((st_th S).length) + 1)))]) [3, 4, 5, 6, 7, 2, 1, 0] rfl ?_
    exact l_RU_write78 hB hT hH htt hfit hcp hk1 rfl hso (dk_W_bg hW) (by omega) bg_s (ruf.rf _ _) (fun D' X q1 q2 q3 => wr_of q1 q2 q3)
  · skip
    refine sd_gets sz_USED dRU_write_0 (by decide) (Or.inr ⟨"SequentDesk", (sd_nT (sd_in3 (List.mem_of_getElem? (i := 57) rfl)) rfl)⟩) ?_
    refine sd_iload_n dRU_write_3 rfl rfl ?_
    refine sd_tald sz_USED (v := (nI (0))) dRU_write_4 (by decide) (vp_in_nI (by show _ < 9; omega) (by decide)) ((by decide)) ?_
    refine nn_if_le 12 dRU_write_5 (by decide) (by decide) (fun _ => ?_) (fun c => absurd c (by decide))
    refine sd_iconst (v := (-1)) dRU_write_12 (by decide) ?_
    refine sd_istore dRU_write_13 (by decide) ?_
    refine sd_gets sz_USED dRU_write_15 (by decide) (Or.inr ⟨"SequentDesk", (sd_nT (sd_in3 (List.mem_of_getElem? (i := 57) rfl)) rfl)⟩) ?_
    refine sd_iload_n dRU_write_18 rfl rfl ?_
    refine sd_tald sz_USED (v := (nI (0))) dRU_write_19 (by decide) (vp_in_nI (by show _ < 9; omega) (by decide)) ((by decide)) ?_
    refine sd_iconst (v := nI 1) dRU_write_20 (by decide) ?_
    refine nn_icmp_le 28 dRU_write_21 (by decide) (by decide) (by decide) (fun _ => ?_) (fun c => absurd c (by decide))
    refine sd_iconst (v := (-1)) dRU_write_28 (by decide) ?_
    refine sd_istore dRU_write_29 (by decide) ?_
    refine sd_aload_n dRU_write_31 rfl rfl ?_
    refine sd_iload_n dRU_write_32 rfl rfl ?_
    refine sd_iload dRU_write_33 rfl ?_
    refine sd_iload dRU_write_35 rfl ?_
    refine fx_cV 5 sR_RU [.int (nI (5)), .int ((-1)), .int ((-1))] [] dRU_write_37 kRU_121 rfl rfl mRU_begin_v (c_RU_begin (p := none) (q := none) hB hW.2.2.1 (by omega) no no) (by decide) (Nat.le_refl _) (Nat.le_refl _) (Nat.le_of_ble_eq_true rfl) rfl ?_
    refine sd_aload_n dRU_write_40 rfl rfl ?_
    refine fx_getr 5 1 (308) dRU_write_41 fRU_11 rfl rfl ?_
    refine sd_aload_n dRU_write_44 rfl rfl ?_
    refine fx_getiv (v := (nI ((st_th S).length))) 5 2 dRU_write_45 fRU_22 rfl rfl (h7) ?_
    refine fx_aald ((st_th S).length) dRU_write_48 rfl rfl rfl (by omega) (by decide) ?_
    refine fx_getr 9 0 (309 + 3 * ((st_th S).length) + 1) dRU_write_49 fRU_40 (dk_th (by omega)) rfl ?_
    refine sd_astore dRU_write_52 (by decide) ?_
    refine sd_iload_n dRU_write_54 rfl rfl ?_
    refine sd_bipush (v := nI 8) dRU_write_55 (by decide) ?_
    refine nn_icmp_ne 78 dRU_write_57 (by decide) (by decide) (by decide) (fun _ => ?_) (fun c => absurd c (by decide))
    refine sd_locp (al' := [(0, .ref (o + (307))), (1, .int (nI (5))), (2, .int (nI (a))), (3, .int (z)), (4, .int (w)), (5, .int ((-1))), (6, .int ((-1))), (7, .ref (o + (309 + 3 * ((st_th S).length) + 1)))]) [3, 4, 5, 6, 7, 2, 1, 0] rfl ?_
    exact l_RU_write78 hB hT hH htt hfit hcp hk1 rfl hso (dk_W_bg hW) (by omega) bg_s (ruf.rf _ _) (fun D' X q1 q2 q3 => wr_of q1 q2 q3)
  · skip
    refine sd_gets sz_USED dRU_write_0 (by decide) (Or.inr ⟨"SequentDesk", (sd_nT (sd_in3 (List.mem_of_getElem? (i := 57) rfl)) rfl)⟩) ?_
    refine sd_iload_n dRU_write_3 rfl rfl ?_
    refine sd_tald sz_USED (v := (nI (2))) dRU_write_4 (by decide) (vp_in_nI (by show _ < 9; omega) (by decide)) ((by decide)) ?_
    refine nn_if_le 12 dRU_write_5 (by decide) (by decide) (fun c => absurd c (by decide)) (fun _ => ?_)
    refine sd_iload_n dRU_write_8 rfl rfl ?_
    refine sd_goto 13 dRU_write_9 (by decide) ?_
    refine sd_istore dRU_write_13 (by decide) ?_
    refine sd_gets sz_USED dRU_write_15 (by decide) (Or.inr ⟨"SequentDesk", (sd_nT (sd_in3 (List.mem_of_getElem? (i := 57) rfl)) rfl)⟩) ?_
    refine sd_iload_n dRU_write_18 rfl rfl ?_
    refine sd_tald sz_USED (v := (nI (2))) dRU_write_19 (by decide) (vp_in_nI (by show _ < 9; omega) (by decide)) ((by decide)) ?_
    refine sd_iconst (v := nI 1) dRU_write_20 (by decide) ?_
    refine nn_icmp_le 28 dRU_write_21 (by decide) (by decide) (by decide) (fun c => absurd c (by decide)) (fun _ => ?_)
    refine sd_iload_n dRU_write_24 rfl rfl ?_
    refine sd_goto 29 dRU_write_25 (by decide) ?_
    refine sd_istore dRU_write_29 (by decide) ?_
    refine sd_aload_n dRU_write_31 rfl rfl ?_
    refine sd_iload_n dRU_write_32 rfl rfl ?_
    refine sd_iload dRU_write_33 rfl ?_
    refine sd_iload dRU_write_35 rfl ?_
    refine fx_cV 5 sR_RU [.int (nI (2)), .int (nI (a)), .int (nI (b))] [] dRU_write_37 kRU_121 rfl rfl mRU_begin_v (c_RU_begin (p := (some a)) (q := (some b)) hB hW.2.2.1 (by omega) (so ha) (so hb)) (by decide) (Nat.le_refl _) (Nat.le_refl _) (Nat.le_of_ble_eq_true rfl) rfl ?_
    refine sd_aload_n dRU_write_40 rfl rfl ?_
    refine fx_getr 5 1 (308) dRU_write_41 fRU_11 rfl rfl ?_
    refine sd_aload_n dRU_write_44 rfl rfl ?_
    refine fx_getiv (v := (nI ((st_th S).length))) 5 2 dRU_write_45 fRU_22 rfl rfl (h7) ?_
    refine fx_aald ((st_th S).length) dRU_write_48 rfl rfl rfl (by omega) (by decide) ?_
    refine fx_getr 9 0 (309 + 3 * ((st_th S).length) + 1) dRU_write_49 fRU_40 (dk_th (by omega)) rfl ?_
    refine sd_astore dRU_write_52 (by decide) ?_
    refine sd_iload_n dRU_write_54 rfl rfl ?_
    refine sd_bipush (v := nI 8) dRU_write_55 (by decide) ?_
    refine nn_icmp_ne 78 dRU_write_57 (by decide) (by decide) (by decide) (fun _ => ?_) (fun c => absurd c (by decide))
    refine sd_locp (al' := [(0, .ref (o + (307))), (1, .int (nI (2))), (2, .int (nI (a))), (3, .int (nI (b))), (4, .int (w)), (5, .int (nI (a))), (6, .int (nI (b))), (7, .ref (o + (309 + 3 * ((st_th S).length) + 1)))]) [3, 4, 5, 6, 7, 2, 1, 0] rfl ?_
    exact l_RU_write78 hB hT hH htt hfit hcp hk1 rfl hso (dk_W_bg hW) (by omega) bg_s (ruf.rf _ _) (fun D' X q1 q2 q3 => wr_of q1 q2 q3)
  · skip
    refine sd_gets sz_USED dRU_write_0 (by decide) (Or.inr ⟨"SequentDesk", (sd_nT (sd_in3 (List.mem_of_getElem? (i := 57) rfl)) rfl)⟩) ?_
    refine sd_iload_n dRU_write_3 rfl rfl ?_
    refine sd_tald sz_USED (v := (nI (2))) dRU_write_4 (by decide) (vp_in_nI (by show _ < 9; omega) (by decide)) ((by decide)) ?_
    refine nn_if_le 12 dRU_write_5 (by decide) (by decide) (fun c => absurd c (by decide)) (fun _ => ?_)
    refine sd_iload_n dRU_write_8 rfl rfl ?_
    refine sd_goto 13 dRU_write_9 (by decide) ?_
    refine sd_istore dRU_write_13 (by decide) ?_
    refine sd_gets sz_USED dRU_write_15 (by decide) (Or.inr ⟨"SequentDesk", (sd_nT (sd_in3 (List.mem_of_getElem? (i := 57) rfl)) rfl)⟩) ?_
    refine sd_iload_n dRU_write_18 rfl rfl ?_
    refine sd_tald sz_USED (v := (nI (2))) dRU_write_19 (by decide) (vp_in_nI (by show _ < 9; omega) (by decide)) ((by decide)) ?_
    refine sd_iconst (v := nI 1) dRU_write_20 (by decide) ?_
    refine nn_icmp_le 28 dRU_write_21 (by decide) (by decide) (by decide) (fun c => absurd c (by decide)) (fun _ => ?_)
    refine sd_iload_n dRU_write_24 rfl rfl ?_
    refine sd_goto 29 dRU_write_25 (by decide) ?_
    refine sd_istore dRU_write_29 (by decide) ?_
    refine sd_aload_n dRU_write_31 rfl rfl ?_
    refine sd_iload_n dRU_write_32 rfl rfl ?_
    refine sd_iload dRU_write_33 rfl ?_
    refine sd_iload dRU_write_35 rfl ?_
    refine fx_cV 5 sR_RU [.int (nI (3)), .int (nI (a)), .int (nI (b))] [] dRU_write_37 kRU_121 rfl rfl mRU_begin_v (c_RU_begin (p := (some a)) (q := (some b)) hB hW.2.2.1 (by omega) (so ha) (so hb)) (by decide) (Nat.le_refl _) (Nat.le_refl _) (Nat.le_of_ble_eq_true rfl) rfl ?_
    refine sd_aload_n dRU_write_40 rfl rfl ?_
    refine fx_getr 5 1 (308) dRU_write_41 fRU_11 rfl rfl ?_
    refine sd_aload_n dRU_write_44 rfl rfl ?_
    refine fx_getiv (v := (nI ((st_th S).length))) 5 2 dRU_write_45 fRU_22 rfl rfl (h7) ?_
    refine fx_aald ((st_th S).length) dRU_write_48 rfl rfl rfl (by omega) (by decide) ?_
    refine fx_getr 9 0 (309 + 3 * ((st_th S).length) + 1) dRU_write_49 fRU_40 (dk_th (by omega)) rfl ?_
    refine sd_astore dRU_write_52 (by decide) ?_
    refine sd_iload_n dRU_write_54 rfl rfl ?_
    refine sd_bipush (v := nI 8) dRU_write_55 (by decide) ?_
    refine nn_icmp_ne 78 dRU_write_57 (by decide) (by decide) (by decide) (fun _ => ?_) (fun c => absurd c (by decide))
    refine sd_locp (al' := [(0, .ref (o + (307))), (1, .int (nI (3))), (2, .int (nI (a))), (3, .int (nI (b))), (4, .int (w)), (5, .int (nI (a))), (6, .int (nI (b))), (7, .ref (o + (309 + 3 * ((st_th S).length) + 1)))]) [3, 4, 5, 6, 7, 2, 1, 0] rfl ?_
    exact l_RU_write78 hB hT hH htt hfit hcp hk1 rfl hso (dk_W_bg hW) (by omega) bg_s (ruf.rf _ _) (fun D' X q1 q2 q3 => wr_of q1 q2 q3)
  · skip
    refine sd_gets sz_USED dRU_write_0 (by decide) (Or.inr ⟨"SequentDesk", (sd_nT (sd_in3 (List.mem_of_getElem? (i := 57) rfl)) rfl)⟩) ?_
    refine sd_iload_n dRU_write_3 rfl rfl ?_
    refine sd_tald sz_USED (v := (nI (2))) dRU_write_4 (by decide) (vp_in_nI (by show _ < 9; omega) (by decide)) ((by decide)) ?_
    refine nn_if_le 12 dRU_write_5 (by decide) (by decide) (fun c => absurd c (by decide)) (fun _ => ?_)
    refine sd_iload_n dRU_write_8 rfl rfl ?_
    refine sd_goto 13 dRU_write_9 (by decide) ?_
    refine sd_istore dRU_write_13 (by decide) ?_
    refine sd_gets sz_USED dRU_write_15 (by decide) (Or.inr ⟨"SequentDesk", (sd_nT (sd_in3 (List.mem_of_getElem? (i := 57) rfl)) rfl)⟩) ?_
    refine sd_iload_n dRU_write_18 rfl rfl ?_
    refine sd_tald sz_USED (v := (nI (2))) dRU_write_19 (by decide) (vp_in_nI (by show _ < 9; omega) (by decide)) ((by decide)) ?_
    refine sd_iconst (v := nI 1) dRU_write_20 (by decide) ?_
    refine nn_icmp_le 28 dRU_write_21 (by decide) (by decide) (by decide) (fun c => absurd c (by decide)) (fun _ => ?_)
    refine sd_iload_n dRU_write_24 rfl rfl ?_
    refine sd_goto 29 dRU_write_25 (by decide) ?_
    refine sd_istore dRU_write_29 (by decide) ?_
    refine sd_aload_n dRU_write_31 rfl rfl ?_
    refine sd_iload_n dRU_write_32 rfl rfl ?_
    refine sd_iload dRU_write_33 rfl ?_
    refine sd_iload dRU_write_35 rfl ?_
    refine fx_cV 5 sR_RU [.int (nI (6)), .int (nI (a)), .int (nI (b))] [] dRU_write_37 kRU_121 rfl rfl mRU_begin_v (c_RU_begin (p := (some a)) (q := (some b)) hB hW.2.2.1 (by omega) (so ha) (so hb)) (by decide) (Nat.le_refl _) (Nat.le_refl _) (Nat.le_of_ble_eq_true rfl) rfl ?_
    refine sd_aload_n dRU_write_40 rfl rfl ?_
    refine fx_getr 5 1 (308) dRU_write_41 fRU_11 rfl rfl ?_
    refine sd_aload_n dRU_write_44 rfl rfl ?_
    refine fx_getiv (v := (nI ((st_th S).length))) 5 2 dRU_write_45 fRU_22 rfl rfl (h7) ?_
    refine fx_aald ((st_th S).length) dRU_write_48 rfl rfl rfl (by omega) (by decide) ?_
    refine fx_getr 9 0 (309 + 3 * ((st_th S).length) + 1) dRU_write_49 fRU_40 (dk_th (by omega)) rfl ?_
    refine sd_astore dRU_write_52 (by decide) ?_
    refine sd_iload_n dRU_write_54 rfl rfl ?_
    refine sd_bipush (v := nI 8) dRU_write_55 (by decide) ?_
    refine nn_icmp_ne 78 dRU_write_57 (by decide) (by decide) (by decide) (fun _ => ?_) (fun c => absurd c (by decide))
    refine sd_locp (al' := [(0, .ref (o + (307))), (1, .int (nI (6))), (2, .int (nI (a))), (3, .int (nI (b))), (4, .int (w)), (5, .int (nI (a))), (6, .int (nI (b))), (7, .ref (o + (309 + 3 * ((st_th S).length) + 1)))]) [3, 4, 5, 6, 7, 2, 1, 0] rfl ?_
    exact l_RU_write78 hB hT hH htt hfit hcp hk1 rfl hso (dk_W_bg hW) (by omega) bg_s (ruf.rf _ _) (fun D' X q1 q2 q3 => wr_of q1 q2 q3)
  · skip
    refine sd_gets sz_USED dRU_write_0 (by decide) (Or.inr ⟨"SequentDesk", (sd_nT (sd_in3 (List.mem_of_getElem? (i := 57) rfl)) rfl)⟩) ?_
    refine sd_iload_n dRU_write_3 rfl rfl ?_
    refine sd_tald sz_USED (v := (nI (2))) dRU_write_4 (by decide) (vp_in_nI (by show _ < 9; omega) (by decide)) ((by decide)) ?_
    refine nn_if_le 12 dRU_write_5 (by decide) (by decide) (fun c => absurd c (by decide)) (fun _ => ?_)
    refine sd_iload_n dRU_write_8 rfl rfl ?_
    refine sd_goto 13 dRU_write_9 (by decide) ?_
    refine sd_istore dRU_write_13 (by decide) ?_
    refine sd_gets sz_USED dRU_write_15 (by decide) (Or.inr ⟨"SequentDesk", (sd_nT (sd_in3 (List.mem_of_getElem? (i := 57) rfl)) rfl)⟩) ?_
    refine sd_iload_n dRU_write_18 rfl rfl ?_
    refine sd_tald sz_USED (v := (nI (2))) dRU_write_19 (by decide) (vp_in_nI (by show _ < 9; omega) (by decide)) ((by decide)) ?_
    refine sd_iconst (v := nI 1) dRU_write_20 (by decide) ?_
    refine nn_icmp_le 28 dRU_write_21 (by decide) (by decide) (by decide) (fun c => absurd c (by decide)) (fun _ => ?_)
    refine sd_iload_n dRU_write_24 rfl rfl ?_
    refine sd_goto 29 dRU_write_25 (by decide) ?_
    refine sd_istore dRU_write_29 (by decide) ?_
    refine sd_aload_n dRU_write_31 rfl rfl ?_
    refine sd_iload_n dRU_write_32 rfl rfl ?_
    refine sd_iload dRU_write_33 rfl ?_
    refine sd_iload dRU_write_35 rfl ?_
    refine fx_cV 5 sR_RU [.int (nI (7)), .int (nI (a)), .int (nI (b))] [] dRU_write_37 kRU_121 rfl rfl mRU_begin_v (c_RU_begin (p := (some a)) (q := (some b)) hB hW.2.2.1 (by omega) (so ha) (so hb)) (by decide) (Nat.le_refl _) (Nat.le_refl _) (Nat.le_of_ble_eq_true rfl) rfl ?_
    refine sd_aload_n dRU_write_40 rfl rfl ?_
    refine fx_getr 5 1 (308) dRU_write_41 fRU_11 rfl rfl ?_
    refine sd_aload_n dRU_write_44 rfl rfl ?_
    refine fx_getiv (v := (nI ((st_th S).length))) 5 2 dRU_write_45 fRU_22 rfl rfl (h7) ?_
    refine fx_aald ((st_th S).length) dRU_write_48 rfl rfl rfl (by omega) (by decide) ?_
    refine fx_getr 9 0 (309 + 3 * ((st_th S).length) + 1) dRU_write_49 fRU_40 (dk_th (by omega)) rfl ?_
    refine sd_astore dRU_write_52 (by decide) ?_
    refine sd_iload_n dRU_write_54 rfl rfl ?_
    refine sd_bipush (v := nI 8) dRU_write_55 (by decide) ?_
    refine nn_icmp_ne 78 dRU_write_57 (by decide) (by decide) (by decide) (fun _ => ?_) (fun c => absurd c (by decide))
    refine sd_locp (al' := [(0, .ref (o + (307))), (1, .int (nI (7))), (2, .int (nI (a))), (3, .int (nI (b))), (4, .int (w)), (5, .int (nI (a))), (6, .int (nI (b))), (7, .ref (o + (309 + 3 * ((st_th S).length) + 1)))]) [3, 4, 5, 6, 7, 2, 1, 0] rfl ?_
    exact l_RU_write78 hB hT hH htt hfit hcp hk1 rfl hso (dk_W_bg hW) (by omega) bg_s (ruf.rf _ _) (fun D' X q1 q2 q3 => wr_of q1 q2 q3)
  · skip
    refine sd_gets sz_USED dRU_write_0 (by decide) (Or.inr ⟨"SequentDesk", (sd_nT (sd_in3 (List.mem_of_getElem? (i := 57) rfl)) rfl)⟩) ?_
    refine sd_iload_n dRU_write_3 rfl rfl ?_
    refine sd_tald sz_USED (v := (nI (1))) dRU_write_4 (by decide) (vp_in_nI (by show _ < 9; omega) (by decide)) ((by decide)) ?_
    refine nn_if_le 12 dRU_write_5 (by decide) (by decide) (fun c => absurd c (by decide)) (fun _ => ?_)
    refine sd_iload_n dRU_write_8 rfl rfl ?_
    refine sd_goto 13 dRU_write_9 (by decide) ?_
    refine sd_istore dRU_write_13 (by decide) ?_
    refine sd_gets sz_USED dRU_write_15 (by decide) (Or.inr ⟨"SequentDesk", (sd_nT (sd_in3 (List.mem_of_getElem? (i := 57) rfl)) rfl)⟩) ?_
    refine sd_iload_n dRU_write_18 rfl rfl ?_
    refine sd_tald sz_USED (v := (nI (1))) dRU_write_19 (by decide) (vp_in_nI (by show _ < 9; omega) (by decide)) ((by decide)) ?_
    refine sd_iconst (v := nI 1) dRU_write_20 (by decide) ?_
    refine nn_icmp_le 28 dRU_write_21 (by decide) (by decide) (by decide) (fun _ => ?_) (fun c => absurd c (by decide))
    refine sd_iconst (v := (-1)) dRU_write_28 (by decide) ?_
    refine sd_istore dRU_write_29 (by decide) ?_
    refine sd_aload_n dRU_write_31 rfl rfl ?_
    refine sd_iload_n dRU_write_32 rfl rfl ?_
    refine sd_iload dRU_write_33 rfl ?_
    refine sd_iload dRU_write_35 rfl ?_
    refine fx_cV 5 sR_RU [.int (nI (4)), .int (nI (a)), .int ((-1))] [] dRU_write_37 kRU_121 rfl rfl mRU_begin_v (c_RU_begin (p := (some a)) (q := none) hB hW.2.2.1 (by omega) (so ha) no) (by decide) (Nat.le_refl _) (Nat.le_refl _) (Nat.le_of_ble_eq_true rfl) rfl ?_
    refine sd_aload_n dRU_write_40 rfl rfl ?_
    refine fx_getr 5 1 (308) dRU_write_41 fRU_11 rfl rfl ?_
    refine sd_aload_n dRU_write_44 rfl rfl ?_
    refine fx_getiv (v := (nI ((st_th S).length))) 5 2 dRU_write_45 fRU_22 rfl rfl (h7) ?_
    refine fx_aald ((st_th S).length) dRU_write_48 rfl rfl rfl (by omega) (by decide) ?_
    refine fx_getr 9 0 (309 + 3 * ((st_th S).length) + 1) dRU_write_49 fRU_40 (dk_th (by omega)) rfl ?_
    refine sd_astore dRU_write_52 (by decide) ?_
    refine sd_iload_n dRU_write_54 rfl rfl ?_
    refine sd_bipush (v := nI 8) dRU_write_55 (by decide) ?_
    refine nn_icmp_ne 78 dRU_write_57 (by decide) (by decide) (by decide) (fun _ => ?_) (fun c => absurd c (by decide))
    refine sd_locp (al' := [(0, .ref (o + (307))), (1, .int (nI (4))), (2, .int (nI (a))), (3, .int (nI (b))), (4, .int (w)), (5, .int (nI (a))), (6, .int ((-1))), (7, .ref (o + (309 + 3 * ((st_th S).length) + 1)))]) [3, 4, 5, 6, 7, 2, 1, 0] rfl ?_
    exact l_RU_write78 hB hT hH htt hfit hcp hk1 rfl hso (dk_W_bg hW) (by omega) bg_s (ruf.rf _ _) (fun D' X q1 q2 q3 => wr_of q1 q2 q3)
  · skip
    obtain ⟨ta, ea, -, cy, -, ly, -, -⟩ := hW.cn hH ha
    have s1 := (hW.2.2.1.2.2 a ta ea).1
    rw [cy] at s1
    have so2 := dk_ths (p := a) (by omega)
    refine sd_gets sz_USED dRU_write_0 (by decide) (Or.inr ⟨"SequentDesk", (sd_nT (sd_in3 (List.mem_of_getElem? (i := 57) rfl)) rfl)⟩) ?_
    refine sd_iload_n dRU_write_3 rfl rfl ?_
    refine sd_tald sz_USED (v := (nI (1))) dRU_write_4 (by decide) (vp_in_nI (by show _ < 9; omega) (by decide)) ((by decide)) ?_
    refine nn_if_le 12 dRU_write_5 (by decide) (by decide) (fun c => absurd c (by decide)) (fun _ => ?_)
    refine sd_iload_n dRU_write_8 rfl rfl ?_
    refine sd_goto 13 dRU_write_9 (by decide) ?_
    refine sd_istore dRU_write_13 (by decide) ?_
    refine sd_gets sz_USED dRU_write_15 (by decide) (Or.inr ⟨"SequentDesk", (sd_nT (sd_in3 (List.mem_of_getElem? (i := 57) rfl)) rfl)⟩) ?_
    refine sd_iload_n dRU_write_18 rfl rfl ?_
    refine sd_tald sz_USED (v := (nI (1))) dRU_write_19 (by decide) (vp_in_nI (by show _ < 9; omega) (by decide)) ((by decide)) ?_
    refine sd_iconst (v := nI 1) dRU_write_20 (by decide) ?_
    refine nn_icmp_le 28 dRU_write_21 (by decide) (by decide) (by decide) (fun _ => ?_) (fun c => absurd c (by decide))
    refine sd_iconst (v := (-1)) dRU_write_28 (by decide) ?_
    refine sd_istore dRU_write_29 (by decide) ?_
    refine sd_aload_n dRU_write_31 rfl rfl ?_
    refine sd_iload_n dRU_write_32 rfl rfl ?_
    refine sd_iload dRU_write_33 rfl ?_
    refine sd_iload dRU_write_35 rfl ?_
    refine fx_cV 5 sR_RU [.int (nI (8)), .int (nI (a)), .int ((-1))] [] dRU_write_37 kRU_121 rfl rfl mRU_begin_v (c_RU_begin (p := (some a)) (q := none) hB hW.2.2.1 (by omega) (so ha) no) (by decide) (Nat.le_refl _) (Nat.le_refl _) (Nat.le_of_ble_eq_true rfl) rfl ?_
    refine sd_aload_n dRU_write_40 rfl rfl ?_
    refine fx_getr 5 1 (308) dRU_write_41 fRU_11 rfl rfl ?_
    refine sd_aload_n dRU_write_44 rfl rfl ?_
    refine fx_getiv (v := (nI ((st_th S).length))) 5 2 dRU_write_45 fRU_22 rfl rfl (h7) ?_
    refine fx_aald ((st_th S).length) dRU_write_48 rfl rfl rfl (by omega) (by decide) ?_
    refine fx_getr 9 0 (309 + 3 * ((st_th S).length) + 1) dRU_write_49 fRU_40 (dk_th (by omega)) rfl ?_
    refine sd_astore dRU_write_52 (by decide) ?_
    refine sd_iload_n dRU_write_54 rfl rfl ?_
    refine sd_bipush (v := nI 8) dRU_write_55 (by decide) ?_
    refine nn_icmp_ne 78 dRU_write_57 (by decide) (by decide) (by decide) (fun c => absurd c (by decide)) (fun _ => ?_)
    refine sd_aload_n dRU_write_60 rfl rfl ?_
    refine sd_aload dRU_write_61 rfl ?_
    refine sd_aload_n dRU_write_63 rfl rfl ?_
    refine fx_getr 5 1 (308) dRU_write_64 fRU_11 rfl rfl ?_
    refine sd_iload_n dRU_write_67 rfl rfl ?_
    refine fx_aald (a) dRU_write_68 rfl rfl rfl (by omega) (by decide) ?_
    refine fx_getr 9 0 (309 + 3 * (a) + 1) dRU_write_69 fRU_40 (dk_th (by omega)) rfl ?_
    refine sd_iload_n dRU_write_72 rfl rfl ?_
    refine sd_iload dRU_write_73 rfl ?_
    refine fx_cP 5 sR_RU [.ref (o + (309 + 3 * ((st_th S).length) + 1)), .ref (o + (309 + 3 * (a) + 1)), .int (nI (b)), .int (nI (c))] [] dRU_write_75 kRU_125 rfl rfl mRU_replaceHypotheses_v (c_RU_replaceHypotheses (S := S) (T := st_T S) (M := st_hy S a) (L := []) hB (by omega) (by omega) hso so2 (by omega) (so_r_ag (bg_ag (by omega) (by omega)) (bg_ag (by omega) (by omega)) s1) ly hc hb (dk_W_bg hW).2.1 ⟨[], by simp⟩ h64 bg_s) (by decide) (Nat.le_refl _) (Nat.le_refl _) (Nat.le_of_ble_eq_true rfl) rfl (fun D1 h1 => ?_)
    refine sd_locp (al' := [(0, .ref (o + (307))), (1, .int (nI (8))), (2, .int (nI (a))), (3, .int (nI (b))), (4, .int (nI (c))), (5, .int (nI (a))), (6, .int ((-1))), (7, .ref (o + (309 + 3 * ((st_th S).length) + 1)))]) [3, 4, 5, 6, 7, 2, 1, 0] rfl ?_
    obtain ⟨X, hX1, hX2⟩ := ku_i_pre (ru_hr S 8 a b c) (st_T S) []
    have l6 : (ru_hr S 8 a b c).length ≤ 6 := by
      show ((st_hy S a).map _).length ≤ 6
      rw [List.length_map]
      exact s1.1
    exact l_RU_write78 hB hT hH htt hfit hcp hk1 rfl hso ((dk_W_bg hW).rf h1.2.2 h1.1 ⟨X, hX1⟩) (by show (ku_i (st_T S) [] (ru_hr S 8 a b c)).1.length ≤ 70; rw [hX1, List.length_append]; omega) h1.2.1 h1.2.2 (fun D' X q1 q2 q3 => wr_of q1 q2 q3)
