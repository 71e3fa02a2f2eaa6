/-! ===== the class's close ===== -/
def dv_case (k : Nat) (p q : Option Nat) : Prop := (p = none ∧ q = none ∧ (k = 0 ∨ k = 1 ∨ k = 5)) ∨ (∃ a, p = some a ∧ q = none ∧ k = 4) ∨ ∃ a b, p = some a ∧ q = some b ∧ (k = 2 ∨ k = 3 ∨ k = 6 ∨ k = 7)
theorem c_RU_gat2 {G : sd_G} {o : Nat} {D : fx_D} {h0 : sd_H} {nx k t s : Nat} {th : List st_Th} {p q : Option Nat} (hB : G.2.1 ≤ o) (hT : dk_thm D th) (hth : ∀ (p : Nat) (h : st_Th), th[p]? = some h → h.1 < 2 ^ 30) (hse : s = 309 + 3 * th.length + 1) (hs : so_w D s []) (hc : D.2.1 s 2 = nI t) (ht : t < 2 ^ 30) (hd : dv_case k p q) (hp : ∀ a, p = some a → a < th.length) (hq : ∀ a, q = some a → a < th.length) : sd_Ct G mRU_gather 3 0 0 [.ref (o + 307), .int (nI k), .int (oi_I p), .int (oi_I q)] (fx_h G.1.2 dk_S o D h0) nx (fx_is G.1.2 dk_S o h0 nx none (fun D' => so_w D' s (dv_hyp th k t p q) ∧ so_f s D D')) := by
  subst hse
  rcases hd with ⟨rfl, rfl, rfl | rfl | rfl⟩ | ⟨a, rfl, rfl, rfl⟩ | ⟨a, b, rfl, rfl, rfl | rfl | rfl | rfl⟩
  · exact c_RU_gather (p := none) (q := none) hB hT (by omega) (by omega) (by omega) (by omega) hp hq hs
  · exact c_RU_gather1 hB hT.1 hT.2.1 hs hc ht
  · exact c_RU_gather (p := none) (q := none) hB hT (by omega) (by omega) (by omega) (by omega) hp hq hs
  · exact c_RU_gather (p := some a) (q := none) hB hT (by omega) (by omega) (by omega) (by omega) hp hq hs
  · exact c_RU_gather (p := some a) (q := some b) hB hT (by omega) (by omega) (by omega) (by omega) hp hq hs
  · exact c_RU_gather (p := some a) (q := some b) hB hT (by omega) (by omega) (by omega) (by omega) hp hq hs
  · exact c_RU_gather (p := some a) (q := some b) hB hT (by omega) (by omega) (by omega) (by omega) hp hq hs
  · have ea := List.getElem?_eq_getElem (hp a rfl)
    have eb := List.getElem?_eq_getElem (hq b rfl)
    have z := c_RU_gather7 (G := G) (o := o) (h0 := h0) (nx := nx) hB hT ea eb (hth _ _ ea) (hth _ _ eb) hs
    obtain ⟨y1, y2⟩ := hyL_of ea
    obtain ⟨z1, z2⟩ := hyL_of eb
    rw [← y1, ← y2, ← z1, ← z2] at z
    exact z
theorem dRU_makeFor_0 : decode prog_6_method_18_code 0 = .ok (.aload_n 0, 1) := by decide +kernel
theorem dRU_makeFor_1 : decode prog_6_method_18_code 1 = .ok (.getfield 22, 3) := by decide +kernel
theorem dRU_makeFor_4 : decode prog_6_method_18_code 4 = .ok (.bipush (40), 2) := by decide +kernel
theorem dRU_makeFor_6 : decode prog_6_method_18_code 6 = .ok (.if_icmp .lt (6), 3) := by decide +kernel
theorem dRU_makeFor_9 : decode prog_6_method_18_code 9 = .ok (.bipush (-6), 2) := by decide +kernel
theorem dRU_makeFor_11 : decode prog_6_method_18_code 11 = .ok (.ireturn, 1) := by decide +kernel
theorem dRU_makeFor_12 : decode prog_6_method_18_code 12 = .ok (.aload_n 0, 1) := by decide +kernel
theorem dRU_makeFor_13 : decode prog_6_method_18_code 13 = .ok (.aload_n 1, 1) := by decide +kernel
theorem dRU_makeFor_14 : decode prog_6_method_18_code 14 = .ok (.getfield 228, 3) := by decide +kernel
theorem dRU_makeFor_17 : decode prog_6_method_18_code 17 = .ok (.iload_n 2, 1) := by decide +kernel
theorem dRU_makeFor_18 : decode prog_6_method_18_code 18 = .ok (.iload_n 3, 1) := by decide +kernel
theorem dRU_makeFor_19 : decode prog_6_method_18_code 19 = .ok (.invokevirtual 121, 3) := by decide +kernel
theorem dRU_makeFor_22 : decode prog_6_method_18_code 22 = .ok (.aload_n 0, 1) := by decide +kernel
theorem dRU_makeFor_23 : decode prog_6_method_18_code 23 = .ok (.getfield 11, 3) := by decide +kernel
theorem dRU_makeFor_26 : decode prog_6_method_18_code 26 = .ok (.aload_n 0, 1) := by decide +kernel
theorem dRU_makeFor_27 : decode prog_6_method_18_code 27 = .ok (.getfield 22, 3) := by decide +kernel
theorem dRU_makeFor_30 : decode prog_6_method_18_code 30 = .ok (.aaload, 1) := by decide +kernel
theorem dRU_makeFor_31 : decode prog_6_method_18_code 31 = .ok (.getfield 40, 3) := by decide +kernel
theorem dRU_makeFor_34 : decode prog_6_method_18_code 34 = .ok (.aload_n 1, 1) := by decide +kernel
theorem dRU_makeFor_35 : decode prog_6_method_18_code 35 = .ok (.getfield 233, 3) := by decide +kernel
theorem dRU_makeFor_38 : decode prog_6_method_18_code 38 = .ok (.getfield 65, 3) := by decide +kernel
theorem dRU_makeFor_41 : decode prog_6_method_18_code 41 = .ok (.invokevirtual 140, 3) := by decide +kernel
theorem dRU_makeFor_44 : decode prog_6_method_18_code 44 = .ok (.aload_n 0, 1) := by decide +kernel
theorem dRU_makeFor_45 : decode prog_6_method_18_code 45 = .ok (.aload_n 1, 1) := by decide +kernel
theorem dRU_makeFor_46 : decode prog_6_method_18_code 46 = .ok (.getfield 228, 3) := by decide +kernel
theorem dRU_makeFor_49 : decode prog_6_method_18_code 49 = .ok (.iload_n 2, 1) := by decide +kernel
theorem dRU_makeFor_50 : decode prog_6_method_18_code 50 = .ok (.iload_n 3, 1) := by decide +kernel
theorem dRU_makeFor_51 : decode prog_6_method_18_code 51 = .ok (.invokevirtual 144, 3) := by decide +kernel
theorem dRU_makeFor_54 : decode prog_6_method_18_code 54 = .ok (.aload_n 0, 1) := by decide +kernel
theorem dRU_makeFor_55 : decode prog_6_method_18_code 55 = .ok (.dup, 1) := by decide +kernel
theorem dRU_makeFor_56 : decode prog_6_method_18_code 56 = .ok (.getfield 22, 3) := by decide +kernel
theorem dRU_makeFor_59 : decode prog_6_method_18_code 59 = .ok (.iconst 1, 1) := by decide +kernel
theorem dRU_makeFor_60 : decode prog_6_method_18_code 60 = .ok (.iadd, 1) := by decide +kernel
theorem dRU_makeFor_61 : decode prog_6_method_18_code 61 = .ok (.putfield 22, 3) := by decide +kernel
theorem dRU_makeFor_64 : decode prog_6_method_18_code 64 = .ok (.aload_n 0, 1) := by decide +kernel
theorem dRU_makeFor_65 : decode prog_6_method_18_code 65 = .ok (.getfield 22, 3) := by decide +kernel
theorem dRU_makeFor_68 : decode prog_6_method_18_code 68 = .ok (.iconst 1, 1) := by decide +kernel
theorem dRU_makeFor_69 : decode prog_6_method_18_code 69 = .ok (.isub, 1) := by decide +kernel
theorem dRU_makeFor_70 : decode prog_6_method_18_code 70 = .ok (.ireturn, 1) := by decide +kernel
theorem c_RU_makeFor {G : sd_G} {o : Nat} {D : fx_D} {h0 : sd_H} {nx g t k x n : Nat} {S : st_S} {hs : List Nat} {p q : Option Nat} (hB : G.2.1 ≤ o) (hR : dk_R S D) (hF : st_okF S) (hth : thi (st_T S).length (st_th S)) (hq : (st_gl S)[g]? = some (t, hs, some (k, x, n))) (ht : t < (st_T S).length) (hd : dv_case k p q) (hp : ∀ a, p = some a → a < (st_th S).length) (hr : ∀ a, q = some a → a < (st_th S).length) (h40 : (st_th S).length < 40) (h6 : (dv_hyp (st_th S) k t p q).length ≤ 6) : sd_Ct G mRU_makeFor 4 0 0 [.ref (o + 307), .ref (o + (436 + 3 * g)), .int (oi_I p), .int (oi_I q)] (fx_h G.1.2 dk_S o D h0) nx (fx_is G.1.2 dk_S o h0 nx (some (.int (nI (st_th S).length))) (dk_R (st_th' S (st_th S ++ [(t, dv_hyp (st_th S) k t p q, k, p, q)])))) := by
  refine sd_Ct_of (by decide) (Nat.le_of_ble_eq_true rfl) ?_
  have h64 := hR.2.1.1
  have g30 := hR.2.2.2.2.1.1
  have hgl := getE_lt hq
  have hW := hR.W
  obtain ⟨s, hse⟩ : ∃ s, s = 309 + 3 * (st_th S).length + 1 := ⟨_, rfl⟩
  have hso : dk_so s := by rw [hse]; exact dk_ths (by omega)
  obtain ⟨-, b2, b3⟩ := hR.2.2.2.2.1.2.2 g _ hq
  obtain ⟨c1, -, -⟩ := b3 _ rfl
  have k9 : k < 9 := by rcases hd with ⟨-, -, h⟩ | ⟨-, -, -, h⟩ | ⟨-, -, -, -, h⟩ <;> omega
  obtain ⟨Db, hDb⟩ : ∃ Db, Db = bg_D D (st_th S).length (nI k) (oi_I p) (oi_I q) (lI (2 ^ (st_th S).length ||| rr_1 (st_th S) p ||| rr_1 (st_th S) q)) := ⟨_, rfl⟩
  have hWb : dk_W S (st_T S) Db := by rw [hDb]; exact dk_W_bg hW
  have ab : ∀ x, x ≠ 309 + 3 * (st_th S).length → x ≠ s → ag D Db x := fun x h1 h2 => by rw [hDb]; exact bg_ag h1 (by omega)
  have sb : so_w Db s [] := by rw [hDb, hse]; exact bg_s
  have fb : Db.2.1 (309 + 3 * (st_th S).length) 1 = nI k ∧ Db.2.1 (309 + 3 * (st_th S).length) 2 = oi_I p ∧ Db.2.1 (309 + 3 * (st_th S).length) 3 = oi_I q := by rw [hDb]; exact bg_1
  have lb : Db.2.2 (309 + 3 * (st_th S).length) = lI (2 ^ (st_th S).length ||| rr_1 (st_th S) p ||| rr_1 (st_th S) q) := by rw [hDb]; exact bg_l
  have hbeg := c_RU_begin (G := G) (o := o) (h0 := h0) (nx := nx) (k := k) hB hW.2.2.1 (by omega) hp hr
  rw [← hDb] at hbeg
  have ac : ∀ x, x ≠ s → ag Db (fx_uf Db s 2 (nI t)) x := fun x hx => ag_uf hx
  have hTc : dk_thm (fx_uf Db s 2 (nI t)) (st_th S) := (hWb.ag (ac 2 (by omega)) (ac 307 (by omega)) (fun x h1 h2 => ac x (by omega)) (ts_T_uf (by omega) hWb.2.1)).2.2.1
  have hct := c_RU_gat2 (G := G) (o := o) (h0 := h0) (nx := nx) (k := k) (t := t) hB hTc (fun p h e => by have := (hth p h e).1; omega) hse (so_w_uf2 sb) (by simp [fx_uf, upd]) (by omega) hd hp hr
  refine sd_aload_n dRU_makeFor_0 rfl rfl ?_
  refine fx_getiv (v := (nI ((st_th S).length))) 5 2 dRU_makeFor_1 fRU_22 rfl rfl (hW.2.2.1.2.1) ?_
  refine sd_bipush (v := nI 40) dRU_makeFor_4 (by decide) ?_
  refine nn_icmp_lt 12 dRU_makeFor_6 (by decide) (by omega) (by omega) (fun c6 => ?_) (fun c6 => ?_)
  ·
    refine sd_aload_n dRU_makeFor_12 rfl rfl ?_
    refine sd_aload_n dRU_makeFor_13 rfl rfl ?_
    refine fx_getiv (v := (nI (k))) 2 1 dRU_makeFor_14 fRU_228 (dk_gl (by omega)) rfl (c1) ?_
    refine sd_iload_n dRU_makeFor_17 rfl rfl ?_
    refine sd_iload_n dRU_makeFor_18 rfl rfl ?_
    refine fx_cV 5 sR_RU [.int (nI (k)), .int (oi_I p), .int (oi_I q)] [] dRU_makeFor_19 kRU_121 rfl rfl mRU_begin_v (hbeg) (by decide) (Nat.le_refl _) (Nat.le_refl _) (Nat.le_of_ble_eq_true rfl) rfl ?_
    refine sd_aload_n dRU_makeFor_22 rfl rfl ?_
    refine fx_getr 5 1 (308) dRU_makeFor_23 fRU_11 rfl rfl ?_
    refine sd_aload_n dRU_makeFor_26 rfl rfl ?_
    refine fx_getiv (v := (nI ((st_th S).length))) 5 2 dRU_makeFor_27 fRU_22 rfl rfl (hWb.2.2.1.2.1) ?_
    refine fx_aald ((st_th S).length) dRU_makeFor_30 rfl rfl rfl (by omega) (by decide) ?_
    refine fx_getr 9 0 (309 + 3 * ((st_th S).length) + 1) dRU_makeFor_31 fRU_40 (dk_th (by omega)) rfl ?_
    refine sd_aload_n dRU_makeFor_34 rfl rfl ?_
    refine fx_getr 2 0 (436 + 3 * (g) + 1) dRU_makeFor_35 fRU_233 (dk_gl (by omega)) rfl ?_
    refine fx_getiv (v := (nI (t))) 6 2 dRU_makeFor_38 fRU_65 (dk_gls (g := g) (by omega)).1 rfl ((by rw [(ab _ (by omega) (by omega)).2.1]; exact b2)) ?_
    refine fx_cV 6 sR_ST [.int (nI (t))] [] dRU_makeFor_41 kRU_140 rfl (dk_ths (p := (st_th S).length) (by omega)).1 mST_conclude_v (c_ST_conclude (s := 309 + 3 * (st_th S).length + 1) hB (by rw [← hse]; exact hso) (by omega)) (by decide) (Nat.le_refl _) (Nat.le_refl _) (Nat.le_of_ble_eq_true rfl) rfl ?_
    rw [← hse]
    refine sd_aload_n dRU_makeFor_44 rfl rfl ?_
    refine sd_aload_n dRU_makeFor_45 rfl rfl ?_
    refine fx_getiv (v := (nI (k))) 2 1 dRU_makeFor_46 fRU_228 (dk_gl (by omega)) rfl ((by rw [(ac _ (by omega)).2.1, (ab _ (by omega) (by omega)).2.1]; exact c1)) ?_
    refine sd_iload_n dRU_makeFor_49 rfl rfl ?_
    refine sd_iload_n dRU_makeFor_50 rfl rfl ?_
    refine fx_cP 5 sR_RU [.int (nI (k)), .int (oi_I p), .int (oi_I q)] [] dRU_makeFor_51 kRU_144 rfl rfl mRU_gather_v (hct) (by decide) (Nat.le_refl _) (Nat.le_refl _) (Nat.le_of_ble_eq_true rfl) rfl (fun D3 h3 => ?_)
    obtain ⟨q1, q2⟩ := h3
    have a3 : ∀ x, x ≠ s → x ≠ s + 1 → ag Db D3 x := fun x h1 h2 => (ac x h1).tr (q2.ag h1 h2)
    refine sd_aload_n dRU_makeFor_54 rfl rfl ?_
    refine sd_dup dRU_makeFor_55 rfl ?_
    refine fx_getiv (v := (nI ((st_th S).length))) 5 2 dRU_makeFor_56 fRU_22 rfl rfl ((by rw [(a3 307 (by omega) (by omega)).2.1]; exact hWb.2.2.1.2.1)) ?_
    refine sd_iconst (v := nI 1) dRU_makeFor_59 (by decide) ?_
    refine nn_iadd dRU_makeFor_60 ?_
    refine fx_puti 5 2 dRU_makeFor_61 fRU_22 rfl rfl rfl rfl hB ?_
    refine sd_aload_n dRU_makeFor_64 rfl rfl ?_
    refine fx_getiv (v := (nI ((st_th S).length + 1))) 5 2 dRU_makeFor_65 fRU_22 rfl rfl ((by simp [fx_uf, upd])) ?_
    refine sd_iconst (v := nI 1) dRU_makeFor_68 (by decide) ?_
    refine nn_isub dRU_makeFor_69 (by omega) ?_
    obtain ⟨R, r1, r2, -⟩ := so_w.ln q1
    obtain ⟨r3, -⟩ := r2 h6
    subst r3
    have u : ∀ x, x ≠ 307 → ag D3 (fx_uf D3 307 2 (nI ((st_th S).length + 1))) x := fun x hx => ag_uf hx
    have all : ∀ x, x ≠ 307 → x ≠ 309 + 3 * (st_th S).length → x ≠ s → x ≠ s + 1 → ag D (fx_uf D3 307 2 (nI ((st_th S).length + 1))) x := fun x h1 h2 h3 h4 => ((ab x h2 h3).tr (a3 x h3 h4)).tr (u x h1)
    refine sd_iret dRU_makeFor_70 rfl (Nat.le_refl _) (Nat.le_refl _) ⟨rfl, rfl, _, rfl, dk_R_ru hR (fun x q1 q2 q3 => all x (by omega) (by omega) (by omega) (by omega)) ⟨h64, ts_T_lo (fun x hx => all x (by omega) (by omega) (by omega) (by omega)) hW.2.1⟩ ?_⟩
    have w0 : ag Db (fx_uf D3 307 2 (nI ((st_th S).length + 1))) (309 + 3 * (st_th S).length) := (a3 _ (by omega) (by omega)).tr (u _ (by omega))
    refine dk_thm_new (S' := st_th' S (st_th S ++ [(t, dv_hyp (st_th S) k t p q, k, p, q)])) hF hW.2.2.1 h40 rfl hp hr (fun x q1 q2 => all x (by omega) (by omega) (by omega) (by omega)) (by simp [fx_uf, upd]) ?_ ?_ ?_ ?_
    · rw [← hse]
      exact so_r_ag (u _ (by omega)) (u _ (by omega)) r1
    · rw [← hse, (u _ (by omega)).2.1, q2.2.1 s 2 (by omega)]
      simp [fx_uf, upd]
    · rw [w0.2.1]
      exact fb
    · rw [w0.2.2]
      exact lb
  ·
    exact absurd c6 (by omega)
theorem dGS_prove_0 : decode prog_4_method_19_code 0 = .ok (.aload_n 0, 1) := by decide +kernel
theorem dGS_prove_1 : decode prog_4_method_19_code 1 = .ok (.getfield 11, 3) := by decide +kernel
theorem dGS_prove_4 : decode prog_4_method_19_code 4 = .ok (.iload_n 1, 1) := by decide +kernel
theorem dGS_prove_5 : decode prog_4_method_19_code 5 = .ok (.aaload, 1) := by decide +kernel
theorem dGS_prove_6 : decode prog_4_method_19_code 6 = .ok (.astore_n 3, 1) := by decide +kernel
theorem dGS_prove_7 : decode prog_4_method_19_code 7 = .ok (.aload_n 3, 1) := by decide +kernel
theorem dGS_prove_8 : decode prog_4_method_19_code 8 = .ok (.getfield 228, 3) := by decide +kernel
theorem dGS_prove_11 : decode prog_4_method_19_code 11 = .ok (.bipush (8), 2) := by decide +kernel
theorem dGS_prove_13 : decode prog_4_method_19_code 13 = .ok (.if_icmp .eq (9), 3) := by decide +kernel
theorem dGS_prove_16 : decode prog_4_method_19_code 16 = .ok (.iload_n 2, 1) := by decide +kernel
theorem dGS_prove_17 : decode prog_4_method_19_code 17 = .ok (.bipush (30), 2) := by decide +kernel
theorem dGS_prove_19 : decode prog_4_method_19_code 19 = .ok (.if_icmp .lt (8), 3) := by decide +kernel
theorem dGS_prove_22 : decode prog_4_method_19_code 22 = .ok (.aload_n 3, 1) := by decide +kernel
theorem dGS_prove_23 : decode prog_4_method_19_code 23 = .ok (.getfield 231, 3) := by decide +kernel
theorem dGS_prove_26 : decode prog_4_method_19_code 26 = .ok (.ireturn, 1) := by decide +kernel
theorem dGS_prove_27 : decode prog_4_method_19_code 27 = .ok (.getstatic 86, 3) := by decide +kernel
theorem dGS_prove_30 : decode prog_4_method_19_code 30 = .ok (.aload_n 3, 1) := by decide +kernel
theorem dGS_prove_31 : decode prog_4_method_19_code 31 = .ok (.getfield 228, 3) := by decide +kernel
theorem dGS_prove_34 : decode prog_4_method_19_code 34 = .ok (.iaload, 1) := by decide +kernel
theorem dGS_prove_35 : decode prog_4_method_19_code 35 = .ok (.istore 4, 2) := by decide +kernel
theorem dGS_prove_37 : decode prog_4_method_19_code 37 = .ok (.iload 4, 2) := by decide +kernel
theorem dGS_prove_39 : decode prog_4_method_19_code 39 = .ok (.ifCond .le (17), 3) := by decide +kernel
theorem dGS_prove_42 : decode prog_4_method_19_code 42 = .ok (.aload_n 0, 1) := by decide +kernel
theorem dGS_prove_43 : decode prog_4_method_19_code 43 = .ok (.aload_n 3, 1) := by decide +kernel
theorem dGS_prove_44 : decode prog_4_method_19_code 44 = .ok (.getfield 234, 3) := by decide +kernel
theorem dGS_prove_47 : decode prog_4_method_19_code 47 = .ok (.iload_n 2, 1) := by decide +kernel
theorem dGS_prove_48 : decode prog_4_method_19_code 48 = .ok (.iconst 1, 1) := by decide +kernel
theorem dGS_prove_49 : decode prog_4_method_19_code 49 = .ok (.iadd, 1) := by decide +kernel
theorem dGS_prove_50 : decode prog_4_method_19_code 50 = .ok (.invokevirtual 238, 3) := by decide +kernel
theorem dGS_prove_53 : decode prog_4_method_19_code 53 = .ok (.goto (4), 3) := by decide +kernel
theorem dGS_prove_56 : decode prog_4_method_19_code 56 = .ok (.iconst (-1), 1) := by decide +kernel
theorem dGS_prove_57 : decode prog_4_method_19_code 57 = .ok (.istore 5, 2) := by decide +kernel
theorem dGS_prove_59 : decode prog_4_method_19_code 59 = .ok (.iload 4, 2) := by decide +kernel
theorem dGS_prove_61 : decode prog_4_method_19_code 61 = .ok (.iconst 1, 1) := by decide +kernel
theorem dGS_prove_62 : decode prog_4_method_19_code 62 = .ok (.if_icmp .le (19), 3) := by decide +kernel
theorem dGS_prove_65 : decode prog_4_method_19_code 65 = .ok (.aload_n 0, 1) := by decide +kernel
theorem dGS_prove_66 : decode prog_4_method_19_code 66 = .ok (.aload_n 3, 1) := by decide +kernel
theorem dGS_prove_67 : decode prog_4_method_19_code 67 = .ok (.getfield 234, 3) := by decide +kernel
theorem dGS_prove_70 : decode prog_4_method_19_code 70 = .ok (.iconst 1, 1) := by decide +kernel
theorem dGS_prove_71 : decode prog_4_method_19_code 71 = .ok (.iadd, 1) := by decide +kernel
theorem dGS_prove_72 : decode prog_4_method_19_code 72 = .ok (.iload_n 2, 1) := by decide +kernel
theorem dGS_prove_73 : decode prog_4_method_19_code 73 = .ok (.iconst 1, 1) := by decide +kernel
theorem dGS_prove_74 : decode prog_4_method_19_code 74 = .ok (.iadd, 1) := by decide +kernel
theorem dGS_prove_75 : decode prog_4_method_19_code 75 = .ok (.invokevirtual 238, 3) := by decide +kernel
theorem dGS_prove_78 : decode prog_4_method_19_code 78 = .ok (.goto (4), 3) := by decide +kernel
theorem dGS_prove_81 : decode prog_4_method_19_code 81 = .ok (.iconst (-1), 1) := by decide +kernel
theorem dGS_prove_82 : decode prog_4_method_19_code 82 = .ok (.istore 6, 2) := by decide +kernel
theorem dGS_prove_84 : decode prog_4_method_19_code 84 = .ok (.aload_n 0, 1) := by decide +kernel
theorem dGS_prove_85 : decode prog_4_method_19_code 85 = .ok (.getfield 28, 3) := by decide +kernel
theorem dGS_prove_88 : decode prog_4_method_19_code 88 = .ok (.aload_n 3, 1) := by decide +kernel
theorem dGS_prove_89 : decode prog_4_method_19_code 89 = .ok (.iload 5, 2) := by decide +kernel
theorem dGS_prove_91 : decode prog_4_method_19_code 91 = .ok (.iload 6, 2) := by decide +kernel
theorem dGS_prove_93 : decode prog_4_method_19_code 93 = .ok (.invokevirtual 242, 3) := by decide +kernel
theorem dGS_prove_96 : decode prog_4_method_19_code 96 = .ok (.ireturn, 1) := by decide +kernel
theorem c_GS_prove {G : sd_G} {o : Nat} {h0 : sd_H} {nx : Nat} {S : st_S} {dn : List Nat} (hB : G.2.1 ≤ o) (hgi : gi (st_T S).length (st_th S) (st_gl S) [] dn) (h30 : (st_gl S).length ≤ 30) : ∀ (f g dp : Nat) (th : List st_Th) (D : fx_D) (q : st_Gl), (st_gl S)[g]? = some q → (st_gl S).length ≤ g + f → dp ≤ g → (∃ X, th = st_th S ++ X) → thi (st_T S).length th → st_okF (st_th' S th) → (cl_go (st_gl S) f g th).1.length ≤ 40 → dk_R (st_th' S th) D → sd_Ct G mGS_prove (f + 4) 0 0 [.ref (o + 432), .int (nI g), .int (nI dp)] (fx_h G.1.2 dk_S o D h0) nx (fx_is G.1.2 dk_S o h0 nx (some (.int (nI (cl_go (st_gl S) f g th).2))) (fun D' => dk_R (st_th' S (cl_go (st_gl S) f g th).1) D' ∧ st_okF (st_th' S (cl_go (st_gl S) f g th).1))) := by
  intro f
  induction f with
  | zero =>
    intro g dp th D q hq hf
    have := getE_lt hq
    omega
  | succ f ih =>
    intro g dp th D q hq hf hdp hX hth hF h40 hR
    refine sd_Ct_of (by decide) (Nat.le_of_ble_eq_true rfl) ?_
    have htr := hgi.tr
    obtain ⟨k, x, n, hw, hk, hgn, hN⟩ := htr.1 g q hq
    obtain ⟨b1, b2, b3⟩ := hgi.1 g q hq
    have hgN := getE_lt hq
    have good := cl_good hgi (f + 1) g th q hq hf hX hth
    obtain ⟨t, hs, w⟩ := q
    simp only at hw
    subst hw
    have hql : ∀ {D' : fx_D} {th' : List st_Th}, dk_R (st_th' S th') D' → D'.2.1 (436 + 3 * g) 1 = nI k ∧ (k = 8 → D'.2.1 (436 + 3 * g) 2 = nI x) ∧ D'.2.1 (436 + 3 * g) 3 = nI n := fun h => (h.2.2.2.2.1.2.2 g _ hq).2.2 _ rfl
    obtain ⟨q1, q2, q3⟩ := hql hR
    by_cases h8 : k = 8
    · subst h8
      rw [cl_go_8 hq]
      refine sd_aload_n dGS_prove_0 rfl rfl ?_
      refine fx_getr 3 2 (433) dGS_prove_1 fGS_11 rfl rfl ?_
      refine sd_iload_n dGS_prove_4 rfl rfl ?_
      refine fx_aald (g) dGS_prove_5 rfl rfl rfl (by omega) (by decide) ?_
      refine sd_astore_n dGS_prove_6 rfl (by decide) ?_
      refine sd_aload_n dGS_prove_7 rfl rfl ?_
      refine fx_getiv (v := (nI (8))) 2 1 dGS_prove_8 fGS_228 (dk_gl (by omega)) rfl (q1) ?_
      refine sd_bipush (v := nI 8) dGS_prove_11 (by decide) ?_
      refine nn_icmp_eq 22 dGS_prove_13 (by decide) (by decide) (by decide) (fun _ => ?_) (fun c => absurd c (by decide))
      refine sd_aload_n dGS_prove_22 rfl rfl ?_
      refine fx_getiv (v := (nI (x))) 2 2 dGS_prove_23 fGS_231 (dk_gl (by omega)) rfl (q2 rfl) ?_
      exact sd_iret dGS_prove_26 rfl (Nat.le_refl _) (Nat.le_refl _) ⟨rfl, rfl, _, rfl, hR, hF⟩
    · -- a theorem is made at last
      have mk : ∀ {D' : fx_D} {th' : List st_Th} {p r : Option Nat}, cl_go (st_gl S) (f + 1) g th = (th' ++ [(t, dv_hyp th' k t p r, k, p, r)], th'.length) → dk_R (st_th' S th') D' → thi (st_T S).length th' → st_okF (st_th' S th') → dv_case k p r → (∀ a, p = some a → a < th'.length) → (∀ a, r = some a → a < th'.length) → sd_Ct G mRU_makeFor 4 0 0 [.ref (o + 307), .ref (o + (436 + 3 * g)), .int (oi_I p), .int (oi_I r)] (fx_h G.1.2 dk_S o D' h0) nx (fx_is G.1.2 dk_S o h0 nx (some (.int (nI th'.length))) (fun D2 => dk_R (st_th' S (th' ++ [(t, dv_hyp th' k t p r, k, p, r)])) D2 ∧ st_okF (st_th' S (th' ++ [(t, dv_hyp th' k t p r, k, p, r)])))) := by
        intro D' th' p r hgo hR' hth' hF' hd hp hr
        rw [hgo] at good h40
        have h6 : (dv_hyp th' k t p r).length ≤ 6 := by
          have := (good.2.1 th'.length (t, dv_hyp th' k t p r, k, p, r) (by simp)).2.2
          exact this
        have l40 : th'.length < 40 := by
          have : (th' ++ [(t, dv_hyp th' k t p r, k, p, r)]).length ≤ 40 := h40
          simp at this
          omega
        have hF2 : st_okF (st_th' S (th' ++ [(t, dv_hyp th' k t p r, k, p, r)])) := st_okF_app (S := st_th' S th') hF' rfl hp hr
        exact fx_mono (c_RU_makeFor (S := st_th' S th') hB hR' hF' hth' hq b1 hd hp hr l40 h6) (fun D2 z => ⟨z, hF2⟩)
      rcases gk_cases hk with ⟨k0, hkk⟩ | ⟨k1, hkk⟩ | ⟨k2, hkk⟩
      · have hgo := cl_go_0 (f := f) (th := th) hq h8 k0
        have ct := mk (p := none) (r := none) hgo hR hth hF (Or.inl ⟨rfl, rfl, by omega⟩) (fun a e => by cases e) (fun a e => by cases e)
        rw [hgo]
        refine sd_aload_n dGS_prove_0 rfl rfl ?_
        refine fx_getr 3 2 (433) dGS_prove_1 fGS_11 rfl rfl ?_
        refine sd_iload_n dGS_prove_4 rfl rfl ?_
        refine fx_aald (g) dGS_prove_5 rfl rfl rfl (by omega) (by decide) ?_
        refine sd_astore_n dGS_prove_6 rfl (by decide) ?_
        refine sd_aload_n dGS_prove_7 rfl rfl ?_
        refine fx_getiv (v := (nI (k))) 2 1 dGS_prove_8 fGS_228 (dk_gl (by omega)) rfl (q1) ?_
        refine sd_bipush (v := nI 8) dGS_prove_11 (by decide) ?_
        refine nn_icmp_eq 22 dGS_prove_13 (by decide) (by omega) (by omega) (fun c13 => ?_) (fun c13 => ?_)
        ·
          exact absurd c13 h8
        ·
          refine sd_iload_n dGS_prove_16 rfl rfl ?_
          refine sd_bipush (v := nI 30) dGS_prove_17 (by decide) ?_
          refine nn_icmp_lt 27 dGS_prove_19 (by decide) (by omega) (by omega) (fun c19 => ?_) (fun c19 => ?_)
          ·
            refine sd_gets sz_LEFT dGS_prove_27 (by decide) (Or.inr ⟨"SequentDesk", (sd_nT (sd_in4 (List.mem_of_getElem? (i := 21) rfl)) rfl)⟩) ?_
            refine sd_aload_n dGS_prove_30 rfl rfl ?_
            refine fx_getiv (v := (nI (k))) 2 1 dGS_prove_31 fGS_228 (dk_gl (by omega)) rfl (q1) ?_
            refine sd_tald sz_LEFT (v := (nI (gk k))) dGS_prove_34 (by decide) (vp_in_nI (by show _ < 9; omega) (by decide)) (left_tab k hk) ?_
            refine sd_istore dGS_prove_35 (by decide) ?_
            refine sd_iload dGS_prove_37 rfl ?_
            refine nn_if_le 56 dGS_prove_39 (by decide) (by omega) (fun c39 => ?_) (fun c39 => ?_)
            ·
              refine sd_iconst (v := (-1)) dGS_prove_56 (by decide) ?_
              refine sd_istore dGS_prove_57 (by decide) ?_
              refine sd_iload dGS_prove_59 rfl ?_
              refine sd_iconst (v := nI 1) dGS_prove_61 (by decide) ?_
              refine nn_icmp_le 81 dGS_prove_62 (by decide) (by omega) (by omega) (fun c62 => ?_) (fun c62 => ?_)
              ·
                refine sd_iconst (v := (-1)) dGS_prove_81 (by decide) ?_
                refine sd_istore dGS_prove_82 (by decide) ?_
                refine sd_aload_n dGS_prove_84 rfl rfl ?_
                refine fx_getr 3 1 (307) dGS_prove_85 fGS_28 rfl rfl ?_
                refine sd_aload_n dGS_prove_88 rfl rfl ?_
                refine sd_iload dGS_prove_89 rfl ?_
                refine sd_iload dGS_prove_91 rfl ?_
                refine fx_cP 5 sR_RU [.ref (o + (436 + 3 * (g))), .int ((-1)), .int ((-1))] [] dGS_prove_93 kGS_242 rfl rfl mRU_makeFor_v (ct) (by omega) (Nat.le_refl _) (Nat.le_refl _) (Nat.le_of_ble_eq_true rfl) rfl (fun D1 h1 => ?_)
                exact sd_iret dGS_prove_96 rfl (Nat.le_refl _) (Nat.le_refl _) ⟨rfl, rfl, _, rfl, h1⟩
              ·
                exact absurd c62 (by omega)
            ·
              exact absurd c39 (by omega)
          ·
            exact absurd c19 (by omega)
      · have hgo := cl_go_1 (f := f) (th := th) hq h8 k1
        obtain ⟨qn, hqn⟩ : ∃ qn, (st_gl S)[n]? = some qn := ⟨_, List.getElem?_eq_getElem (by omega)⟩
        have g1 := cl_good hgi f n th qn hqn (by omega) hX hth
        obtain ⟨⟨X1, x1⟩, t1, hh1, e1, -⟩ := g1
        have l1 := getE_lt e1
        have cp := ih n (dp + 1) th D qn hqn (by omega) (by omega) hX hth hF (by rw [hgo] at h40; have : ((cl_go (st_gl S) f n th).1 ++ [_]).length ≤ 40 := h40; simp at this; omega) hR
        rw [hgo]
        refine sd_aload_n dGS_prove_0 rfl rfl ?_
        refine fx_getr 3 2 (433) dGS_prove_1 fGS_11 rfl rfl ?_
        refine sd_iload_n dGS_prove_4 rfl rfl ?_
        refine fx_aald (g) dGS_prove_5 rfl rfl rfl (by omega) (by decide) ?_
        refine sd_astore_n dGS_prove_6 rfl (by decide) ?_
        refine sd_aload_n dGS_prove_7 rfl rfl ?_
        refine fx_getiv (v := (nI (k))) 2 1 dGS_prove_8 fGS_228 (dk_gl (by omega)) rfl (q1) ?_
        refine sd_bipush (v := nI 8) dGS_prove_11 (by decide) ?_
        refine nn_icmp_eq 22 dGS_prove_13 (by decide) (by omega) (by omega) (fun c13 => ?_) (fun c13 => ?_)
        ·
          exact absurd c13 h8
        ·
          refine sd_iload_n dGS_prove_16 rfl rfl ?_
          refine sd_bipush (v := nI 30) dGS_prove_17 (by decide) ?_
          refine nn_icmp_lt 27 dGS_prove_19 (by decide) (by omega) (by omega) (fun c19 => ?_) (fun c19 => ?_)
          ·
            refine sd_gets sz_LEFT dGS_prove_27 (by decide) (Or.inr ⟨"SequentDesk", (sd_nT (sd_in4 (List.mem_of_getElem? (i := 21) rfl)) rfl)⟩) ?_
            refine sd_aload_n dGS_prove_30 rfl rfl ?_
            refine fx_getiv (v := (nI (k))) 2 1 dGS_prove_31 fGS_228 (dk_gl (by omega)) rfl (q1) ?_
            refine sd_tald sz_LEFT (v := (nI (gk k))) dGS_prove_34 (by decide) (vp_in_nI (by show _ < 9; omega) (by decide)) (left_tab k hk) ?_
            refine sd_istore dGS_prove_35 (by decide) ?_
            refine sd_iload dGS_prove_37 rfl ?_
            refine nn_if_le 56 dGS_prove_39 (by decide) (by omega) (fun c39 => ?_) (fun c39 => ?_)
            ·
              exact absurd c39 (by omega)
            ·
              refine sd_aload_n dGS_prove_42 rfl rfl ?_
              refine sd_aload_n dGS_prove_43 rfl rfl ?_
              refine fx_getiv (v := (nI (n))) 2 3 dGS_prove_44 fGS_234 (dk_gl (by omega)) rfl (q3) ?_
              refine sd_iload_n dGS_prove_47 rfl rfl ?_
              refine sd_iconst (v := nI 1) dGS_prove_48 (by decide) ?_
              refine nn_iadd dGS_prove_49 ?_
              refine fx_cP 3 sR_GS [.int (nI (n)), .int (nI (dp + 1))] [] dGS_prove_50 kGS_238 rfl rfl mGS_prove_v (cp) (by omega) (Nat.le_refl _) (Nat.le_refl _) (Nat.le_of_ble_eq_true rfl) rfl (fun D1 h1 => ?_)
              refine sd_goto 57 dGS_prove_53 (by decide) ?_
              refine sd_istore dGS_prove_57 (by decide) ?_
              refine sd_iload dGS_prove_59 rfl ?_
              refine sd_iconst (v := nI 1) dGS_prove_61 (by decide) ?_
              refine nn_icmp_le 81 dGS_prove_62 (by decide) (by omega) (by omega) (fun c62 => ?_) (fun c62 => ?_)
              ·
                refine sd_iconst (v := (-1)) dGS_prove_81 (by decide) ?_
                refine sd_istore dGS_prove_82 (by decide) ?_
                refine sd_aload_n dGS_prove_84 rfl rfl ?_
                refine fx_getr 3 1 (307) dGS_prove_85 fGS_28 rfl rfl ?_
                refine sd_aload_n dGS_prove_88 rfl rfl ?_
                refine sd_iload dGS_prove_89 rfl ?_
                refine sd_iload dGS_prove_91 rfl ?_
                refine fx_cP 5 sR_RU [.ref (o + (436 + 3 * (g))), .int (nI ((cl_go (st_gl S) f n th).2)), .int ((-1))] [] dGS_prove_93 kGS_242 rfl rfl mRU_makeFor_v (mk (p := some (cl_go (st_gl S) f n th).2) (r := none) hgo h1.1 t1 h1.2 (Or.inr (Or.inl ⟨_, rfl, rfl, hkk⟩)) (fun a e ↦ by cases e; exact l1) (fun a e ↦ by cases e)) (by omega) (Nat.le_refl _) (Nat.le_refl _) (Nat.le_of_ble_eq_true rfl) rfl (fun D2 h2 => ?_)
                exact sd_iret dGS_prove_96 rfl (Nat.le_refl _) (Nat.le_refl _) ⟨rfl, rfl, _, rfl, h2⟩
              ·
                exact absurd c62 (by omega)
          ·
            exact absurd c19 (by omega)
      · have hgo := cl_go_2 (f := f) (th := th) hq h8 k2
        obtain ⟨qn, hqn⟩ : ∃ qn, (st_gl S)[n]? = some qn := ⟨_, List.getElem?_eq_getElem (by omega)⟩
        obtain ⟨qm, hqm⟩ : ∃ qm, (st_gl S)[n + 1]? = some qm := ⟨_, List.getElem?_eq_getElem (by omega)⟩
        have g1 := cl_good hgi f n th qn hqn (by omega) hX hth
        obtain ⟨⟨X1, x1⟩, t1, hh1, e1, -⟩ := g1
        have l1 := getE_lt e1
        have hX2 : ∃ X, (cl_go (st_gl S) f n th).1 = st_th S ++ X := by
          obtain ⟨X, hX'⟩ := hX
          exact ⟨X ++ X1, by rw [x1, hX', List.append_assoc]⟩
        have g2 := cl_good hgi f (n + 1) _ qm hqm (by omega) hX2 t1
        obtain ⟨⟨X2, x2⟩, t2, hh2, e2, -⟩ := g2
        have l2 := getE_lt e2
        have len2 : (cl_go (st_gl S) f n th).1.length ≤ (cl_go (st_gl S) f (n + 1) (cl_go (st_gl S) f n th).1).1.length := by rw [x2, List.length_append]; omega
        have len40 : (cl_go (st_gl S) f (n + 1) (cl_go (st_gl S) f n th).1).1.length ≤ 40 := by
          rw [hgo] at h40
          have : ((cl_go (st_gl S) f (n + 1) (cl_go (st_gl S) f n th).1).1 ++ [_]).length ≤ 40 := h40
          simp at this
          omega
        have cp := ih n (dp + 1) th D qn hqn (by omega) (by omega) hX hth hF (by omega) hR
        rw [hgo]
        refine sd_aload_n dGS_prove_0 rfl rfl ?_
        refine fx_getr 3 2 (433) dGS_prove_1 fGS_11 rfl rfl ?_
        refine sd_iload_n dGS_prove_4 rfl rfl ?_
        refine fx_aald (g) dGS_prove_5 rfl rfl rfl (by omega) (by decide) ?_
        refine sd_astore_n dGS_prove_6 rfl (by decide) ?_
        refine sd_aload_n dGS_prove_7 rfl rfl ?_
        refine fx_getiv (v := (nI (k))) 2 1 dGS_prove_8 fGS_228 (dk_gl (by omega)) rfl (q1) ?_
        refine sd_bipush (v := nI 8) dGS_prove_11 (by decide) ?_
        refine nn_icmp_eq 22 dGS_prove_13 (by decide) (by omega) (by omega) (fun c13 => ?_) (fun c13 => ?_)
        ·
          exact absurd c13 h8
        ·
          refine sd_iload_n dGS_prove_16 rfl rfl ?_
          refine sd_bipush (v := nI 30) dGS_prove_17 (by decide) ?_
          refine nn_icmp_lt 27 dGS_prove_19 (by decide) (by omega) (by omega) (fun c19 => ?_) (fun c19 => ?_)
          ·
            refine sd_gets sz_LEFT dGS_prove_27 (by decide) (Or.inr ⟨"SequentDesk", (sd_nT (sd_in4 (List.mem_of_getElem? (i := 21) rfl)) rfl)⟩) ?_
            refine sd_aload_n dGS_prove_30 rfl rfl ?_
            refine fx_getiv (v := (nI (k))) 2 1 dGS_prove_31 fGS_228 (dk_gl (by omega)) rfl (q1) ?_
            refine sd_tald sz_LEFT (v := (nI (gk k))) dGS_prove_34 (by decide) (vp_in_nI (by show _ < 9; omega) (by decide)) (left_tab k hk) ?_
            refine sd_istore dGS_prove_35 (by decide) ?_
            refine sd_iload dGS_prove_37 rfl ?_
            refine nn_if_le 56 dGS_prove_39 (by decide) (by omega) (fun c39 => ?_) (fun c39 => ?_)
            ·
              exact absurd c39 (by omega)
            ·
              refine sd_aload_n dGS_prove_42 rfl rfl ?_
              refine sd_aload_n dGS_prove_43 rfl rfl ?_
              refine fx_getiv (v := (nI (n))) 2 3 dGS_prove_44 fGS_234 (dk_gl (by omega)) rfl (q3) ?_
              refine sd_iload_n dGS_prove_47 rfl rfl ?_
              refine sd_iconst (v := nI 1) dGS_prove_48 (by decide) ?_
              refine nn_iadd dGS_prove_49 ?_
              refine fx_cP 3 sR_GS [.int (nI (n)), .int (nI (dp + 1))] [] dGS_prove_50 kGS_238 rfl rfl mGS_prove_v (cp) (by omega) (Nat.le_refl _) (Nat.le_refl _) (Nat.le_of_ble_eq_true rfl) rfl (fun D1 h1 => ?_)
              refine sd_goto 57 dGS_prove_53 (by decide) ?_
              refine sd_istore dGS_prove_57 (by decide) ?_
              refine sd_iload dGS_prove_59 rfl ?_
              refine sd_iconst (v := nI 1) dGS_prove_61 (by decide) ?_
              refine nn_icmp_le 81 dGS_prove_62 (by decide) (by omega) (by omega) (fun c62 => ?_) (fun c62 => ?_)
              ·
                exact absurd c62 (by omega)
              ·
                refine sd_aload_n dGS_prove_65 rfl rfl ?_
                refine sd_aload_n dGS_prove_66 rfl rfl ?_
                refine fx_getiv (v := (nI (n))) 2 3 dGS_prove_67 fGS_234 (dk_gl (by omega)) rfl ((hql h1.1).2.2) ?_
                refine sd_iconst (v := nI 1) dGS_prove_70 (by decide) ?_
                refine nn_iadd dGS_prove_71 ?_
                refine sd_iload_n dGS_prove_72 rfl rfl ?_
                refine sd_iconst (v := nI 1) dGS_prove_73 (by decide) ?_
                refine nn_iadd dGS_prove_74 ?_
                refine fx_cP 3 sR_GS [.int (nI (n + 1)), .int (nI (dp + 1))] [] dGS_prove_75 kGS_238 rfl rfl mGS_prove_v (ih (n + 1) (dp + 1) _ D1 qm hqm (by omega) (by omega) hX2 t1 h1.2 len40 h1.1) (by omega) (Nat.le_refl _) (Nat.le_refl _) (Nat.le_of_ble_eq_true rfl) rfl (fun D2 h2 => ?_)
                refine sd_goto 82 dGS_prove_78 (by decide) ?_
                refine sd_istore dGS_prove_82 (by decide) ?_
                refine sd_aload_n dGS_prove_84 rfl rfl ?_
                refine fx_getr 3 1 (307) dGS_prove_85 fGS_28 rfl rfl ?_
                refine sd_aload_n dGS_prove_88 rfl rfl ?_
                refine sd_iload dGS_prove_89 rfl ?_
                refine sd_iload dGS_prove_91 rfl ?_
                refine fx_cP 5 sR_RU [.ref (o + (436 + 3 * (g))), .int (nI ((cl_go (st_gl S) f n th).2)), .int (nI ((cl_go (st_gl S) f (n + 1) (cl_go (st_gl S) f n th).1).2))] [] dGS_prove_93 kGS_242 rfl rfl mRU_makeFor_v (mk (p := some (cl_go (st_gl S) f n th).2) (r := some (cl_go (st_gl S) f (n + 1) (cl_go (st_gl S) f n th).1).2) hgo h2.1 t2 h2.2 (Or.inr (Or.inr ⟨_, _, rfl, rfl, hkk⟩)) (fun a e ↦ by cases e; omega) (fun a e ↦ by cases e; exact l2)) (by omega) (Nat.le_refl _) (Nat.le_refl _) (Nat.le_of_ble_eq_true rfl) rfl (fun D3 h3 => ?_)
                exact sd_iret dGS_prove_96 rfl (Nat.le_refl _) (Nat.le_refl _) ⟨rfl, rfl, _, rfl, h3⟩
          ·
            exact absurd c19 (by omega)
theorem dGS_finish_0 : decode prog_4_method_18_code 0 = .ok (.aload_n 0, 1) := by decide +kernel
theorem dGS_finish_1 : decode prog_4_method_18_code 1 = .ok (.getfield 33, 3) := by decide +kernel
theorem dGS_finish_4 : decode prog_4_method_18_code 4 = .ok (.ifCond .eq (10), 3) := by decide +kernel
theorem dGS_finish_7 : decode prog_4_method_18_code 7 = .ok (.aload_n 0, 1) := by decide +kernel
theorem dGS_finish_8 : decode prog_4_method_18_code 8 = .ok (.getfield 37, 3) := by decide +kernel
theorem dGS_finish_11 : decode prog_4_method_18_code 11 = .ok (.ifCond .le (5), 3) := by decide +kernel
theorem dGS_finish_14 : decode prog_4_method_18_code 14 = .ok (.iconst (-1), 1) := by decide +kernel
theorem dGS_finish_15 : decode prog_4_method_18_code 15 = .ok (.ireturn, 1) := by decide +kernel
theorem dGS_finish_16 : decode prog_4_method_18_code 16 = .ok (.iconst 0, 1) := by decide +kernel
theorem dGS_finish_17 : decode prog_4_method_18_code 17 = .ok (.istore_n 1, 1) := by decide +kernel
theorem dGS_finish_18 : decode prog_4_method_18_code 18 = .ok (.iconst 0, 1) := by decide +kernel
theorem dGS_finish_19 : decode prog_4_method_18_code 19 = .ok (.istore_n 2, 1) := by decide +kernel
theorem dGS_finish_20 : decode prog_4_method_18_code 20 = .ok (.iload_n 2, 1) := by decide +kernel
theorem dGS_finish_21 : decode prog_4_method_18_code 21 = .ok (.aload_n 0, 1) := by decide +kernel
theorem dGS_finish_22 : decode prog_4_method_18_code 22 = .ok (.getfield 33, 3) := by decide +kernel
theorem dGS_finish_25 : decode prog_4_method_18_code 25 = .ok (.if_icmp .ge (26), 3) := by decide +kernel
theorem dGS_finish_28 : decode prog_4_method_18_code 28 = .ok (.aload_n 0, 1) := by decide +kernel
theorem dGS_finish_29 : decode prog_4_method_18_code 29 = .ok (.getfield 11, 3) := by decide +kernel
theorem dGS_finish_32 : decode prog_4_method_18_code 32 = .ok (.iload_n 2, 1) := by decide +kernel
theorem dGS_finish_33 : decode prog_4_method_18_code 33 = .ok (.aaload, 1) := by decide +kernel
theorem dGS_finish_34 : decode prog_4_method_18_code 34 = .ok (.getfield 228, 3) := by decide +kernel
theorem dGS_finish_37 : decode prog_4_method_18_code 37 = .ok (.bipush (8), 2) := by decide +kernel
theorem dGS_finish_39 : decode prog_4_method_18_code 39 = .ok (.if_icmp .eq (6), 3) := by decide +kernel
theorem dGS_finish_42 : decode prog_4_method_18_code 42 = .ok (.iinc 1 (1), 3) := by decide +kernel
theorem dGS_finish_45 : decode prog_4_method_18_code 45 = .ok (.iinc 2 (1), 3) := by decide +kernel
theorem dGS_finish_48 : decode prog_4_method_18_code 48 = .ok (.goto (-28), 3) := by decide +kernel
theorem dGS_finish_51 : decode prog_4_method_18_code 51 = .ok (.aload_n 0, 1) := by decide +kernel
theorem dGS_finish_52 : decode prog_4_method_18_code 52 = .ok (.getfield 28, 3) := by decide +kernel
theorem dGS_finish_55 : decode prog_4_method_18_code 55 = .ok (.getfield 237, 3) := by decide +kernel
theorem dGS_finish_58 : decode prog_4_method_18_code 58 = .ok (.iload_n 1, 1) := by decide +kernel
theorem dGS_finish_59 : decode prog_4_method_18_code 59 = .ok (.iadd, 1) := by decide +kernel
theorem dGS_finish_60 : decode prog_4_method_18_code 60 = .ok (.bipush (40), 2) := by decide +kernel
theorem dGS_finish_62 : decode prog_4_method_18_code 62 = .ok (.if_icmp .le (6), 3) := by decide +kernel
theorem dGS_finish_65 : decode prog_4_method_18_code 65 = .ok (.bipush (-6), 2) := by decide +kernel
theorem dGS_finish_67 : decode prog_4_method_18_code 67 = .ok (.ireturn, 1) := by decide +kernel
theorem dGS_finish_68 : decode prog_4_method_18_code 68 = .ok (.aload_n 0, 1) := by decide +kernel
theorem dGS_finish_69 : decode prog_4_method_18_code 69 = .ok (.iconst 0, 1) := by decide +kernel
theorem dGS_finish_70 : decode prog_4_method_18_code 70 = .ok (.iconst 0, 1) := by decide +kernel
theorem dGS_finish_71 : decode prog_4_method_18_code 71 = .ok (.invokevirtual 238, 3) := by decide +kernel
theorem dGS_finish_74 : decode prog_4_method_18_code 74 = .ok (.istore_n 2, 1) := by decide +kernel
theorem dGS_finish_75 : decode prog_4_method_18_code 75 = .ok (.aload_n 0, 1) := by decide +kernel
theorem dGS_finish_76 : decode prog_4_method_18_code 76 = .ok (.invokevirtual 43, 3) := by decide +kernel
theorem dGS_finish_79 : decode prog_4_method_18_code 79 = .ok (.iload_n 2, 1) := by decide +kernel
theorem dGS_finish_80 : decode prog_4_method_18_code 80 = .ok (.ireturn, 1) := by decide +kernel
theorem l_GS_cnt {G : sd_G} {o : Nat} {D : fx_D} {h0 : sd_H} {nx v : Nat} {S : st_S} {Q : sd_Q} (hR : dk_R S D) (htr : tr_ok (st_gl S)) (K : sd_W G mGS_finish 35 0 0 Q 51 [(0, .ref (o + 432)), (1, .int (nI v))] [] (fx_h G.1.2 dk_S o D h0) nx 0 0) : ∀ (m j c : Nat), (st_gl S).length = j + m → v = c + (((st_gl S).drop j).filter cl_w).length → sd_W G mGS_finish 35 0 0 Q 20 [(0, .ref (o + 432)), (1, .int (nI c)), (2, .int (nI j))] [] (fx_h G.1.2 dk_S o D h0) nx 0 0 := by
  have hgl := hR.2.2.2.2.1
  have h30 := hgl.1
  intro m
  induction m with
  | zero =>
    intro j c hj hv
    rw [List.drop_eq_nil_of_le (by omega)] at hv
    obtain rfl : v = c := hv
    refine sd_iload_n dGS_finish_20 rfl rfl ?_
    refine sd_aload_n dGS_finish_21 rfl rfl ?_
    refine fx_getiv (v := (nI ((st_gl S).length))) 3 3 dGS_finish_22 fGS_33 rfl rfl (hgl.2.1) ?_
    refine nn_icmp_ge 51 dGS_finish_25 (by decide) (by omega) (by omega) (fun c25 => ?_) (fun c25 => ?_)
    ·
      refine sd_locp (al' := [(0, .ref (o + (432))), (1, .int (nI (v)))]) [0, 1] rfl ?_
      exact K
    ·
      exact absurd c25 (by omega)
  | succ m ih =>
    intro j c hj hv
    have hx : (st_gl S)[j]? = some (st_gl S)[j] := List.getElem?_eq_getElem (by omega)
    have hdr : (st_gl S).drop j = (st_gl S)[j] :: (st_gl S).drop (j + 1) := List.drop_eq_getElem_cons (by omega)
    generalize (st_gl S)[j] = q at hx hdr
    obtain ⟨k, x, n, hw, hk, hgn, hN⟩ := htr.1 j q hx
    have q16 : D.2.1 (436 + 3 * j) 1 = nI k := ((hgl.2.2 j q hx).2.2 _ hw).1
    rw [hdr, List.filter_cons] at hv
    have ew : cl_w q = !(k == 8) := by unfold cl_w; rw [hw]
    rw [ew] at hv
    by_cases h8 : k = 8
    · subst h8
      simp at hv
      refine sd_iload_n dGS_finish_20 rfl rfl ?_
      refine sd_aload_n dGS_finish_21 rfl rfl ?_
      refine fx_getiv (v := (nI ((st_gl S).length))) 3 3 dGS_finish_22 fGS_33 rfl rfl (hgl.2.1) ?_
      refine nn_icmp_ge 51 dGS_finish_25 (by decide) (by omega) (by omega) (fun c25 => ?_) (fun c25 => ?_)
      ·
        exact absurd c25 (by omega)
      ·
        refine sd_aload_n dGS_finish_28 rfl rfl ?_
        refine fx_getr 3 2 (433) dGS_finish_29 fGS_11 rfl rfl ?_
        refine sd_iload_n dGS_finish_32 rfl rfl ?_
        refine fx_aald (j) dGS_finish_33 rfl rfl rfl (by omega) (by decide) ?_
        refine fx_getiv (v := (nI (8))) 2 1 dGS_finish_34 fGS_228 (dk_gl (by omega)) rfl (q16) ?_
        refine sd_bipush (v := nI 8) dGS_finish_37 (by decide) ?_
        refine nn_icmp_eq 45 dGS_finish_39 (by decide) (by decide) (by decide) (fun _ => ?_) (fun c => absurd c (by decide))
        refine nn_iinc 1 dGS_finish_45 rfl (by decide) ?_
        refine sd_goto 20 dGS_finish_48 (by decide) ?_
        refine sd_locp (al' := [(0, .ref (o + (432))), (1, .int (nI (c))), (2, .int (nI (j + 1)))]) [1, 2, 0] rfl ?_
        exact ih (j + 1) c (by omega) hv
    · simp [h8] at hv
      refine sd_iload_n dGS_finish_20 rfl rfl ?_
      refine sd_aload_n dGS_finish_21 rfl rfl ?_
      refine fx_getiv (v := (nI ((st_gl S).length))) 3 3 dGS_finish_22 fGS_33 rfl rfl (hgl.2.1) ?_
      refine nn_icmp_ge 51 dGS_finish_25 (by decide) (by omega) (by omega) (fun c25 => ?_) (fun c25 => ?_)
      ·
        exact absurd c25 (by omega)
      ·
        refine sd_aload_n dGS_finish_28 rfl rfl ?_
        refine fx_getr 3 2 (433) dGS_finish_29 fGS_11 rfl rfl ?_
        refine sd_iload_n dGS_finish_32 rfl rfl ?_
        refine fx_aald (j) dGS_finish_33 rfl rfl rfl (by omega) (by decide) ?_
        refine fx_getiv (v := (nI (k))) 2 1 dGS_finish_34 fGS_228 (dk_gl (by omega)) rfl (q16) ?_
        refine sd_bipush (v := nI 8) dGS_finish_37 (by decide) ?_
        refine nn_icmp_eq 45 dGS_finish_39 (by decide) (by omega) (by omega) (fun c39 => ?_) (fun c39 => ?_)
        ·
          exact absurd c39 h8
        ·
          refine nn_iinc 1 dGS_finish_42 rfl (by decide) ?_
          refine nn_iinc 1 dGS_finish_45 rfl (by decide) ?_
          refine sd_goto 20 dGS_finish_48 (by decide) ?_
          refine sd_locp (al' := [(0, .ref (o + (432))), (1, .int (nI (c + 1))), (2, .int (nI (j + 1)))]) [2, 1, 0] rfl ?_
          exact ih (j + 1) (c + 1) (by omega) (by omega)
theorem gd_ok {S : st_S} {D : fx_D} (h : dk_R S D) : dk_R (S.1, S.2.1, S.2.2.1, S.2.2.2.1, [], [], []) (gd_D D) := by
  refine dk_R_gl h (fun x hx => ((ag_uf (by omega)).tr (ag_uf (by omega))).tr (ag_uf (by omega))) ⟨by simp, by simp [gd_D, fx_uf, upd], fun g q hq => by simp at hq⟩ ⟨by simp, by simp [gd_D, fx_uf, upd], fun g q hq => by simp at hq⟩ ⟨by simp, by simp [gd_D, fx_uf, upd], fun g q hq => by simp at hq⟩
theorem c_GS_finish {G : sd_G} {o : Nat} {D : fx_D} {h0 : sd_H} {nx : Nat} {ans : Int32} {S S' : st_S} (hB : G.2.1 ≤ o) (hR : dk_R S D) (hH : st_okH S) (hF : st_okF S) (hgi : gi (st_T S).length (st_th S) (st_gl S) (st_op S) (st_dn S)) (hs : sp_close S ans S') : sd_Ct G mGS_finish 35 0 0 [.ref (o + 432)] (fx_h G.1.2 dk_S o D h0) nx (fx_is G.1.2 dk_S o h0 nx (some (.int ans)) (dk_R S')) := by
  refine sd_Ct_of (by decide) (Nat.le_of_ble_eq_true rfl) ?_
  have hgl := hR.2.2.2.2.1
  have hop := hR.2.2.2.2.2.1
  have g30 := hgl.1
  have o30 := hop.1
  have th40 := hR.2.2.2.1.1
  rcases hs with ⟨hno, rfl, hS⟩ | ⟨h1, h2, h3, rfl, hS⟩ | ⟨h1, h2, h3, rfl, hS⟩
  · rw [hS]
    by_cases e : st_gl S = []
    · have e0 : D.2.1 432 3 = nI 0 := by have := hgl.2.1; rw [e] at this; exact this
      refine sd_aload_n dGS_finish_0 rfl rfl ?_
      refine fx_getiv (v := (nI (0))) 3 3 dGS_finish_1 fGS_33 rfl rfl (e0) ?_
      refine nn_if_eq 14 dGS_finish_4 (by decide) (by decide) (fun _ => ?_) (fun c => absurd c (by decide))
      refine sd_iconst (v := (-1)) dGS_finish_14 (by decide) ?_
      exact sd_iret dGS_finish_15 rfl (Nat.le_refl _) (Nat.le_refl _) ⟨rfl, rfl, _, rfl, hR⟩
    · have l1 : 0 < (st_gl S).length := List.length_pos_iff.mpr e
      have l2 : 0 < (st_op S).length := List.length_pos_iff.mpr (hno.resolve_left e)
      refine sd_aload_n dGS_finish_0 rfl rfl ?_
      refine fx_getiv (v := (nI ((st_gl S).length))) 3 3 dGS_finish_1 fGS_33 rfl rfl (hgl.2.1) ?_
      refine nn_if_eq 14 dGS_finish_4 (by decide) (by omega) (fun c4 => ?_) (fun c4 => ?_)
      ·
        exact absurd c4 (by omega)
      ·
        refine sd_aload_n dGS_finish_7 rfl rfl ?_
        refine fx_getiv (v := (nI ((st_op S).length))) 3 5 dGS_finish_8 fGS_37 rfl rfl (hop.2.1) ?_
        refine nn_if_le 16 dGS_finish_11 (by decide) (by omega) (fun c11 => ?_) (fun c11 => ?_)
        ·
          exact absurd c11 (by omega)
        ·
          refine sd_iconst (v := (-1)) dGS_finish_14 (by decide) ?_
          exact sd_iret dGS_finish_15 rfl (Nat.le_refl _) (Nat.le_refl _) ⟨rfl, rfl, _, rfl, hR⟩
  · rw [hS]
    have l1 : 0 < (st_gl S).length := List.length_pos_iff.mpr h1
    have e2 : D.2.1 432 5 = nI 0 := by have := hop.2.1; rw [h2] at this; exact this
    rw [h2] at hgi
    have hcn : cl_n (st_gl S) ≤ (st_gl S).length := List.length_filter_le ..
    have K : sd_W G mGS_finish 35 0 0 (fx_is G.1.2 dk_S o h0 nx (some (.int (-6))) (dk_R S)) 51 [(0, .ref (o + 432)), (1, .int (nI (cl_n (st_gl S))))] [] (fx_h G.1.2 dk_S o D h0) nx 0 0 := by
      refine sd_aload_n dGS_finish_51 rfl rfl ?_
      refine fx_getr 3 1 (307) dGS_finish_52 fGS_28 rfl rfl ?_
      refine fx_getiv (v := (nI ((st_th S).length))) 5 2 dGS_finish_55 fGS_237 rfl rfl (hR.2.2.2.1.2.1) ?_
      refine sd_iload_n dGS_finish_58 rfl rfl ?_
      refine nn_iadd dGS_finish_59 ?_
      refine sd_bipush (v := nI 40) dGS_finish_60 (by decide) ?_
      refine nn_icmp_le 68 dGS_finish_62 (by decide) (by omega) (by omega) (fun c62 => ?_) (fun c62 => ?_)
      ·
        exact absurd c62 (by omega)
      ·
        refine sd_bipush (v := (-6)) dGS_finish_65 (by decide) ?_
        exact sd_iret dGS_finish_67 rfl (Nat.le_refl _) (Nat.le_refl _) ⟨rfl, rfl, _, rfl, hR⟩
    refine sd_aload_n dGS_finish_0 rfl rfl ?_
    refine fx_getiv (v := (nI ((st_gl S).length))) 3 3 dGS_finish_1 fGS_33 rfl rfl (hgl.2.1) ?_
    refine nn_if_eq 14 dGS_finish_4 (by decide) (by omega) (fun c4 => ?_) (fun c4 => ?_)
    ·
      exact absurd c4 (by omega)
    ·
      refine sd_aload_n dGS_finish_7 rfl rfl ?_
      refine fx_getiv (v := (nI (0))) 3 5 dGS_finish_8 fGS_37 rfl rfl (e2) ?_
      refine nn_if_le 16 dGS_finish_11 (by decide) (by decide) (fun _ => ?_) (fun c => absurd c (by decide))
      refine sd_iconst (v := nI 0) dGS_finish_16 (by decide) ?_
      refine sd_istore_n dGS_finish_17 rfl (by decide) ?_
      refine sd_iconst (v := nI 0) dGS_finish_18 (by decide) ?_
      refine sd_istore_n dGS_finish_19 rfl (by decide) ?_
      refine sd_locp (al' := [(0, .ref (o + (432))), (1, .int (nI (0))), (2, .int (nI (0)))]) [2, 1, 0] rfl ?_
      exact l_GS_cnt hR hgi.tr K (st_gl S).length 0 0 (by omega) (by rw [List.drop_zero, Nat.zero_add]; rfl)
  · rw [hS]
    have l1 : 0 < (st_gl S).length := List.length_pos_iff.mpr h1
    have e2 : D.2.1 432 5 = nI 0 := by have := hop.2.1; rw [h2] at this; exact this
    rw [h2] at hgi
    have hcn : cl_n (st_gl S) ≤ (st_gl S).length := List.length_filter_le ..
    have hle := cl_go_le hgi.tr 30 0 (st_th S)
    have cp := c_GS_prove (G := G) (o := o) (h0 := h0) (nx := nx) (S := S) hB hgi g30 30 0 0 (st_th S) D _ (List.getElem?_eq_getElem l1) (by omega) (by omega) ⟨[], by simp⟩ hH hF (by omega) hR
    have K : sd_W G mGS_finish 35 0 0 (fx_is G.1.2 dk_S o h0 nx (some (.int (nI (cl_go (st_gl S) 30 0 (st_th S)).2))) (dk_R (S.1, S.2.1, S.2.2.1, (cl_go (st_gl S) 30 0 (st_th S)).1, [], [], []))) 51 [(0, .ref (o + 432)), (1, .int (nI (cl_n (st_gl S))))] [] (fx_h G.1.2 dk_S o D h0) nx 0 0 := by
      refine sd_aload_n dGS_finish_51 rfl rfl ?_
      refine fx_getr 3 1 (307) dGS_finish_52 fGS_28 rfl rfl ?_
      refine fx_getiv (v := (nI ((st_th S).length))) 5 2 dGS_finish_55 fGS_237 rfl rfl (hR.2.2.2.1.2.1) ?_
      refine sd_iload_n dGS_finish_58 rfl rfl ?_
      refine nn_iadd dGS_finish_59 ?_
      refine sd_bipush (v := nI 40) dGS_finish_60 (by decide) ?_
      refine nn_icmp_le 68 dGS_finish_62 (by decide) (by omega) (by omega) (fun c62 => ?_) (fun c62 => ?_)
      ·
        refine sd_aload_n dGS_finish_68 rfl rfl ?_
        refine sd_iconst (v := nI 0) dGS_finish_69 (by decide) ?_
        refine sd_iconst (v := nI 0) dGS_finish_70 (by decide) ?_
        refine fx_cP 3 sR_GS [.int (nI (0)), .int (nI (0))] [] dGS_finish_71 kGS_238 rfl rfl mGS_prove_v (cp) (by decide) (Nat.le_refl _) (Nat.le_refl _) (Nat.le_of_ble_eq_true rfl) rfl (fun D1 h1 => ?_)
        refine sd_istore_n dGS_finish_74 rfl (by decide) ?_
        refine sd_aload_n dGS_finish_75 rfl rfl ?_
        refine fx_cV 3 sR_GS [] [] dGS_finish_76 kGS_43 rfl rfl mGS_drop_v (c_GS_drop hB) (by decide) (Nat.le_refl _) (Nat.le_refl _) (Nat.le_of_ble_eq_true rfl) rfl ?_
        refine sd_iload_n dGS_finish_79 rfl rfl ?_
        exact sd_iret dGS_finish_80 rfl (Nat.le_refl _) (Nat.le_refl _) ⟨rfl, rfl, _, rfl, gd_ok h1.1⟩
      ·
        exact absurd c62 (by omega)
    refine sd_aload_n dGS_finish_0 rfl rfl ?_
    refine fx_getiv (v := (nI ((st_gl S).length))) 3 3 dGS_finish_1 fGS_33 rfl rfl (hgl.2.1) ?_
    refine nn_if_eq 14 dGS_finish_4 (by decide) (by omega) (fun c4 => ?_) (fun c4 => ?_)
    ·
      exact absurd c4 (by omega)
    ·
      refine sd_aload_n dGS_finish_7 rfl rfl ?_
      refine fx_getiv (v := (nI (0))) 3 5 dGS_finish_8 fGS_37 rfl rfl (e2) ?_
      refine nn_if_le 16 dGS_finish_11 (by decide) (by decide) (fun _ => ?_) (fun c => absurd c (by decide))
      refine sd_iconst (v := nI 0) dGS_finish_16 (by decide) ?_
      refine sd_istore_n dGS_finish_17 rfl (by decide) ?_
      refine sd_iconst (v := nI 0) dGS_finish_18 (by decide) ?_
      refine sd_istore_n dGS_finish_19 rfl (by decide) ?_
      refine sd_locp (al' := [(0, .ref (o + (432))), (1, .int (nI (0))), (2, .int (nI (0)))]) [2, 1, 0] rfl ?_
      exact l_GS_cnt hR hgi.tr K (st_gl S).length 0 0 (by omega) (by rw [List.drop_zero, Nat.zero_add]; rfl)
theorem dDK_close_0 : decode prog_1_method_18_code 0 = .ok (.aload_n 0, 1) := by decide +kernel
theorem dDK_close_1 : decode prog_1_method_18_code 1 = .ok (.getfield 44, 3) := by decide +kernel
theorem dDK_close_4 : decode prog_1_method_18_code 4 = .ok (.invokevirtual 198, 3) := by decide +kernel
theorem dDK_close_7 : decode prog_1_method_18_code 7 = .ok (.ireturn, 1) := by decide +kernel
theorem c_DK_close {G : sd_G} {o : Nat} {D : fx_D} {h0 : sd_H} {nx : Nat} {ans : Int32} {S S' : st_S} (hB : G.2.1 ≤ o) (hR : dk_R S D) (hH : st_okH S) (hF : st_okF S) (hgi : gi (st_T S).length (st_th S) (st_gl S) (st_op S) (st_dn S)) (hs : sp_close S ans S') : sd_Ct G mDK_close 36 0 0 [.ref (o + 0)] (fx_h G.1.2 dk_S o D h0) nx (fx_is G.1.2 dk_S o h0 nx (some (.int ans)) (dk_R S')) := by
  refine sd_Ct_of (by decide) (Nat.le_of_ble_eq_true rfl) ?_
  refine sd_aload_n dDK_close_0 rfl rfl ?_
  refine fx_getr 0 4 (432) dDK_close_1 fDK_44 rfl rfl ?_
  refine fx_cP 3 sR_GS [] [] dDK_close_4 kDK_198 rfl rfl mGS_finish_v (c_GS_finish hB hR hH hF hgi hs) (by decide) (Nat.le_refl _) (Nat.le_refl _) (Nat.le_of_ble_eq_true rfl) rfl (fun D1 h1 => ?_)
  exact sd_iret dDK_close_7 rfl (Nat.le_refl _) (Nat.le_refl _) ⟨rfl, rfl, _, rfl, h1⟩
