/-! ===== the class's Rules: begin, gather, replaceHypotheses ===== -/
theorem lI_one_shl41 : ∀ p, p < 41 → (1 : Int64) <<< ((nI p).toInt64 &&& 63) = lI (2 ^ p) := by decide +kernel
def bg_D (D : fx_D) (n : Nat) (k p q : Int32) (m : Int64) : fx_D := fx_ul (fx_uf (fx_uf (fx_uf (fx_uf (fx_uf (fx_uf D (309 + 3 * n + 1) 1 (nI 0)) (309 + 3 * n + 1) 2 (-1)) (309 + 3 * n + 1) 3 (nI 0)) (309 + 3 * n) 1 k) (309 + 3 * n) 2 p) (309 + 3 * n) 3 q) (309 + 3 * n) m
theorem bg_ul {D : fx_D} {n : Nat} {k p q : Int32} {m m' : Int64} : fx_ul (bg_D D n k p q m) (309 + 3 * n) m' = bg_D D n k p q m' := by
  refine Prod.ext rfl (Prod.ext rfl ?_)
  funext y
  simp only [bg_D, fx_ul]
  split <;> rfl
theorem bg_ag {D : fx_D} {n x : Nat} {k p q : Int32} {m : Int64} (h1 : x ≠ 309 + 3 * n) (h2 : x ≠ 309 + 3 * n + 1) : ag D (bg_D D n k p q m) x := ⟨rfl, by simp only [bg_D, fx_ul, fx_uf, h1, h2, if_false], by simp only [bg_D, fx_ul, fx_uf, h1, if_false]⟩
theorem bg_l {D : fx_D} {n : Nat} {k p q : Int32} {m : Int64} : (bg_D D n k p q m).2.2 (309 + 3 * n) = m := by simp only [bg_D, fx_ul, if_true]
theorem bg_1 {D : fx_D} {n : Nat} {k p q : Int32} {m : Int64} : (bg_D D n k p q m).2.1 (309 + 3 * n) 1 = k ∧ (bg_D D n k p q m).2.1 (309 + 3 * n) 2 = p ∧ (bg_D D n k p q m).2.1 (309 + 3 * n) 3 = q := by
  refine ⟨?_, ?_, ?_⟩ <;> simp [bg_D, fx_ul, fx_uf, upd]
theorem bg_s {D : fx_D} {n : Nat} {k p q : Int32} {m : Int64} : so_w (bg_D D n k p q m) (309 + 3 * n + 1) [] := by
  refine Or.inl ⟨by simp, ⟨by simp, ?_, fun k t h => by simp at h⟩, ?_⟩ <;> simp [bg_D, fx_ul, fx_uf, upd]
def rr_1 (L : List st_Th) (p : Option Nat) : Nat := match p with | some a => rl L a | none => 0
theorem nn_lt_neg {n : Nat} (hn : n ≤ 100) : ¬ nn_lt (-1) n := by
  rintro ⟨t, ht, h⟩
  exact nI_ne_m1 (by omega) h.symm
theorem th_u {x : Nat} : ∀ i : Nat, ([Sum.inl x, Sum.inr false, Sum.inr false, Sum.inr false, Sum.inr true] : List fx_E)[i]? = some (Sum.inr true) → i = 4 := by
  intro i h
  match i, h with
  | 0, h => cases h
  | 1, h => cases h
  | 2, h => cases h
  | 3, h => cases h
  | 4, _ => rfl
  | i + 5, h => simp at h
theorem dRU_begin_0 : decode prog_6_method_11_code 0 = .ok (.aload_n 0, 1) := by decide +kernel
theorem dRU_begin_1 : decode prog_6_method_11_code 1 = .ok (.getfield 11, 3) := by decide +kernel
theorem dRU_begin_4 : decode prog_6_method_11_code 4 = .ok (.aload_n 0, 1) := by decide +kernel
theorem dRU_begin_5 : decode prog_6_method_11_code 5 = .ok (.getfield 22, 3) := by decide +kernel
theorem dRU_begin_8 : decode prog_6_method_11_code 8 = .ok (.aaload, 1) := by decide +kernel
theorem dRU_begin_9 : decode prog_6_method_11_code 9 = .ok (.astore 4, 2) := by decide +kernel
theorem dRU_begin_11 : decode prog_6_method_11_code 11 = .ok (.aload 4, 2) := by decide +kernel
theorem dRU_begin_13 : decode prog_6_method_11_code 13 = .ok (.getfield 40, 3) := by decide +kernel
theorem dRU_begin_16 : decode prog_6_method_11_code 16 = .ok (.invokevirtual 147, 3) := by decide +kernel
theorem dRU_begin_19 : decode prog_6_method_11_code 19 = .ok (.aload 4, 2) := by decide +kernel
theorem dRU_begin_21 : decode prog_6_method_11_code 21 = .ok (.iload_n 1, 1) := by decide +kernel
theorem dRU_begin_22 : decode prog_6_method_11_code 22 = .ok (.putfield 149, 3) := by decide +kernel
theorem dRU_begin_25 : decode prog_6_method_11_code 25 = .ok (.aload 4, 2) := by decide +kernel
theorem dRU_begin_27 : decode prog_6_method_11_code 27 = .ok (.iload_n 2, 1) := by decide +kernel
theorem dRU_begin_28 : decode prog_6_method_11_code 28 = .ok (.putfield 152, 3) := by decide +kernel
theorem dRU_begin_31 : decode prog_6_method_11_code 31 = .ok (.aload 4, 2) := by decide +kernel
theorem dRU_begin_33 : decode prog_6_method_11_code 33 = .ok (.iload_n 3, 1) := by decide +kernel
theorem dRU_begin_34 : decode prog_6_method_11_code 34 = .ok (.putfield 155, 3) := by decide +kernel
theorem dRU_begin_37 : decode prog_6_method_11_code 37 = .ok (.aload 4, 2) := by decide +kernel
theorem dRU_begin_39 : decode prog_6_method_11_code 39 = .ok (.lconst 1, 1) := by decide +kernel
theorem dRU_begin_40 : decode prog_6_method_11_code 40 = .ok (.aload_n 0, 1) := by decide +kernel
theorem dRU_begin_41 : decode prog_6_method_11_code 41 = .ok (.getfield 22, 3) := by decide +kernel
theorem dRU_begin_44 : decode prog_6_method_11_code 44 = .ok (.lshl, 1) := by decide +kernel
theorem dRU_begin_45 : decode prog_6_method_11_code 45 = .ok (.putfield 158, 3) := by decide +kernel
theorem dRU_begin_48 : decode prog_6_method_11_code 48 = .ok (.aload_n 0, 1) := by decide +kernel
theorem dRU_begin_49 : decode prog_6_method_11_code 49 = .ok (.iload_n 2, 1) := by decide +kernel
theorem dRU_begin_50 : decode prog_6_method_11_code 50 = .ok (.invokevirtual 58, 3) := by decide +kernel
theorem dRU_begin_53 : decode prog_6_method_11_code 53 = .ok (.ifCond .eq (22), 3) := by decide +kernel
theorem dRU_begin_56 : decode prog_6_method_11_code 56 = .ok (.aload 4, 2) := by decide +kernel
theorem dRU_begin_58 : decode prog_6_method_11_code 58 = .ok (.dup, 1) := by decide +kernel
theorem dRU_begin_59 : decode prog_6_method_11_code 59 = .ok (.getfield 158, 3) := by decide +kernel
theorem dRU_begin_62 : decode prog_6_method_11_code 62 = .ok (.aload_n 0, 1) := by decide +kernel
theorem dRU_begin_63 : decode prog_6_method_11_code 63 = .ok (.getfield 11, 3) := by decide +kernel
theorem dRU_begin_66 : decode prog_6_method_11_code 66 = .ok (.iload_n 2, 1) := by decide +kernel
theorem dRU_begin_67 : decode prog_6_method_11_code 67 = .ok (.aaload, 1) := by decide +kernel
theorem dRU_begin_68 : decode prog_6_method_11_code 68 = .ok (.getfield 158, 3) := by decide +kernel
theorem dRU_begin_71 : decode prog_6_method_11_code 71 = .ok (.lor, 1) := by decide +kernel
theorem dRU_begin_72 : decode prog_6_method_11_code 72 = .ok (.putfield 158, 3) := by decide +kernel
theorem dRU_begin_75 : decode prog_6_method_11_code 75 = .ok (.aload_n 0, 1) := by decide +kernel
theorem dRU_begin_76 : decode prog_6_method_11_code 76 = .ok (.iload_n 3, 1) := by decide +kernel
theorem dRU_begin_77 : decode prog_6_method_11_code 77 = .ok (.invokevirtual 58, 3) := by decide +kernel
theorem dRU_begin_80 : decode prog_6_method_11_code 80 = .ok (.ifCond .eq (22), 3) := by decide +kernel
theorem dRU_begin_83 : decode prog_6_method_11_code 83 = .ok (.aload 4, 2) := by decide +kernel
theorem dRU_begin_85 : decode prog_6_method_11_code 85 = .ok (.dup, 1) := by decide +kernel
theorem dRU_begin_86 : decode prog_6_method_11_code 86 = .ok (.getfield 158, 3) := by decide +kernel
theorem dRU_begin_89 : decode prog_6_method_11_code 89 = .ok (.aload_n 0, 1) := by decide +kernel
theorem dRU_begin_90 : decode prog_6_method_11_code 90 = .ok (.getfield 11, 3) := by decide +kernel
theorem dRU_begin_93 : decode prog_6_method_11_code 93 = .ok (.iload_n 3, 1) := by decide +kernel
theorem dRU_begin_94 : decode prog_6_method_11_code 94 = .ok (.aaload, 1) := by decide +kernel
theorem dRU_begin_95 : decode prog_6_method_11_code 95 = .ok (.getfield 158, 3) := by decide +kernel
theorem dRU_begin_98 : decode prog_6_method_11_code 98 = .ok (.lor, 1) := by decide +kernel
theorem dRU_begin_99 : decode prog_6_method_11_code 99 = .ok (.putfield 158, 3) := by decide +kernel
theorem dRU_begin_102 : decode prog_6_method_11_code 102 = .ok (.return_, 1) := by decide +kernel
theorem c_RU_begin {G : sd_G} {o : Nat} {D : fx_D} {h0 : sd_H} {nx k : Nat} {L : List st_Th} {p q : Option Nat} (hB : G.2.1 ≤ o) (hT : dk_thm D L) (hk : k < 100) (hp : ∀ a, p = some a → a < L.length) (hq : ∀ a, q = some a → a < L.length) : sd_Ct G mRU_begin 1 0 0 [.ref (o + 307), .int (nI k), .int (oi_I p), .int (oi_I q)] (fx_h G.1.2 dk_S o D h0) nx (sd_is none (fx_h G.1.2 dk_S o (bg_D D L.length (nI k) (oi_I p) (oi_I q) (lI (2 ^ L.length ||| rr_1 L p ||| rr_1 L q))) h0) nx) := by
  refine sd_Ct_of (by decide) (Nat.le_of_ble_eq_true rfl) ?_
  have h40 := hT.1
  have hm : ∀ {k p q m}, (bg_D D L.length k p q m).2.1 307 2 = nI L.length := by
    intro k p q m
    rw [(bg_ag (D := D) (x := 307) (by omega) (by omega)).2.1]
    exact hT.2.1
  have hl : ∀ {k p q m} a, a < L.length → (bg_D D L.length k p q m).2.2 (309 + 3 * a) = lI (rl L a) := by
    intro k p q m a ha
    rw [(bg_ag (D := D) (x := 309 + 3 * a) (by omega) (by omega)).2.2]
    exact (hT.2.2 a _ (List.getElem?_eq_getElem ha)).2.2.2.2.2
  have e1 : (307 : Nat) ≠ 309 + 3 * L.length := by omega
  have e2 : (307 : Nat) ≠ 309 + 3 * L.length + 1 := by omega
  rcases p with _ | a <;> rcases q with _ | b <;> simp only [oi_I]
  · skip
    refine sd_aload_n dRU_begin_0 rfl rfl ?_
    refine fx_getr 5 1 (308) dRU_begin_1 fRU_11 rfl rfl ?_
    refine sd_aload_n dRU_begin_4 rfl rfl ?_
    refine fx_getiv (v := (nI (L.length))) 5 2 dRU_begin_5 fRU_22 rfl rfl (hT.2.1) ?_
    refine fx_aald (L.length) dRU_begin_8 rfl rfl rfl (by omega) (by decide) ?_
    refine sd_astore dRU_begin_9 (by decide) ?_
    refine sd_aload dRU_begin_11 rfl ?_
    refine fx_getr 9 0 (309 + 3 * (L.length) + 1) dRU_begin_13 fRU_40 (dk_th (by omega)) rfl ?_
    refine fx_cV 6 sR_ST [] [] dRU_begin_16 kRU_147 rfl (dk_ths (p := L.length) (by omega)).1 mST_begin_v (c_ST_begin hB (dk_ths (by omega))) (by decide) (Nat.le_refl _) (Nat.le_refl _) (Nat.le_of_ble_eq_true rfl) rfl ?_
    refine sd_aload dRU_begin_19 rfl ?_
    refine sd_iload_n dRU_begin_21 rfl rfl ?_
    refine fx_puti 9 1 dRU_begin_22 fRU_149 rfl rfl (dk_th (by omega)) rfl hB ?_
    refine sd_aload dRU_begin_25 rfl ?_
    refine sd_iload_n dRU_begin_27 rfl rfl ?_
    refine fx_puti 9 2 dRU_begin_28 fRU_152 rfl rfl (dk_th (by omega)) rfl hB ?_
    refine sd_aload dRU_begin_31 rfl ?_
    refine sd_iload_n dRU_begin_33 rfl rfl ?_
    refine fx_puti 9 3 dRU_begin_34 fRU_155 rfl rfl (dk_th (by omega)) rfl hB ?_
    refine sd_aload dRU_begin_37 rfl ?_
    refine sd_lconst (v := 1) dRU_begin_39 (by decide) ?_
    refine sd_aload_n dRU_begin_40 rfl rfl ?_
    refine fx_getiv (v := (nI (L.length))) 5 2 dRU_begin_41 fRU_22 rfl rfl ((by rw [← hT.2.1]; simp only [fx_uf, e1, e2, if_false])) ?_
    refine sd_lshl (v := lI (2 ^ L.length)) dRU_begin_44 (lI_one_shl41 _ (by omega)) ?_
    refine fx_putl 9 4 dRU_begin_45 fRU_158 rfl rfl (dk_th (by omega)) rfl th_u hB ?_
    rw [show (fx_ul (fx_uf (fx_uf (fx_uf (fx_uf (fx_uf (fx_uf D (309 + 3 * L.length + 1) 1 (nI 0)) (309 + 3 * L.length + 1) 2 (-1)) (309 + 3 * L.length + 1) 3 (nI 0)) (309 + 3 * (L.length)) 1 ((nI (k)))) (309 + 3 * (L.length)) 2 (((-1)))) (309 + 3 * (L.length)) 3 (((-1)))) (309 + 3 * (L.length)) (lI (2 ^ L.length))) = bg_D D L.length (nI k) (-1) (-1) (lI (2 ^ L.length)) from rfl]
    refine sd_aload_n dRU_begin_48 rfl rfl ?_
    refine sd_iload_n dRU_begin_49 rfl rfl ?_
    refine fx_cV 5 sR_RU [.int ((-1))] [] dRU_begin_50 kRU_58 rfl rfl mRU_has_v (c_RU_has (b := 0) (by omega) hm (by omega) (by constructor; intro e; cases e; intro e; exact absurd e (nn_lt_neg (by omega)))) (by decide) (Nat.le_refl _) (Nat.le_refl _) (Nat.le_of_ble_eq_true rfl) rfl ?_
    refine nn_if_eq 75 dRU_begin_53 (by decide) (by decide) (fun _ => ?_) (fun c => absurd c (by decide))
    refine sd_aload_n dRU_begin_75 rfl rfl ?_
    refine sd_iload_n dRU_begin_76 rfl rfl ?_
    refine fx_cV 5 sR_RU [.int ((-1))] [] dRU_begin_77 kRU_58 rfl rfl mRU_has_v (c_RU_has (b := 0) (by omega) hm (by omega) (by constructor; intro e; cases e; intro e; exact absurd e (nn_lt_neg (by omega)))) (by decide) (Nat.le_refl _) (Nat.le_refl _) (Nat.le_of_ble_eq_true rfl) rfl ?_
    refine nn_if_eq 102 dRU_begin_80 (by decide) (by decide) (fun _ => ?_) (fun c => absurd c (by decide))
    exact sd_vret dRU_begin_102 rfl (Nat.le_refl _) (Nat.le_refl _) ⟨rfl, by simp only [rr_1, oi_I, Nat.or_zero]; try rfl, rfl⟩
  · have b0 := hq b rfl
    refine sd_aload_n dRU_begin_0 rfl rfl ?_
    refine fx_getr 5 1 (308) dRU_begin_1 fRU_11 rfl rfl ?_
    refine sd_aload_n dRU_begin_4 rfl rfl ?_
    refine fx_getiv (v := (nI (L.length))) 5 2 dRU_begin_5 fRU_22 rfl rfl (hT.2.1) ?_
    refine fx_aald (L.length) dRU_begin_8 rfl rfl rfl (by omega) (by decide) ?_
    refine sd_astore dRU_begin_9 (by decide) ?_
    refine sd_aload dRU_begin_11 rfl ?_
    refine fx_getr 9 0 (309 + 3 * (L.length) + 1) dRU_begin_13 fRU_40 (dk_th (by omega)) rfl ?_
    refine fx_cV 6 sR_ST [] [] dRU_begin_16 kRU_147 rfl (dk_ths (p := L.length) (by omega)).1 mST_begin_v (c_ST_begin hB (dk_ths (by omega))) (by decide) (Nat.le_refl _) (Nat.le_refl _) (Nat.le_of_ble_eq_true rfl) rfl ?_
    refine sd_aload dRU_begin_19 rfl ?_
    refine sd_iload_n dRU_begin_21 rfl rfl ?_
    refine fx_puti 9 1 dRU_begin_22 fRU_149 rfl rfl (dk_th (by omega)) rfl hB ?_
    refine sd_aload dRU_begin_25 rfl ?_
    refine sd_iload_n dRU_begin_27 rfl rfl ?_
    refine fx_puti 9 2 dRU_begin_28 fRU_152 rfl rfl (dk_th (by omega)) rfl hB ?_
    refine sd_aload dRU_begin_31 rfl ?_
    refine sd_iload_n dRU_begin_33 rfl rfl ?_
    refine fx_puti 9 3 dRU_begin_34 fRU_155 rfl rfl (dk_th (by omega)) rfl hB ?_
    refine sd_aload dRU_begin_37 rfl ?_
    refine sd_lconst (v := 1) dRU_begin_39 (by decide) ?_
    refine sd_aload_n dRU_begin_40 rfl rfl ?_
    refine fx_getiv (v := (nI (L.length))) 5 2 dRU_begin_41 fRU_22 rfl rfl ((by rw [← hT.2.1]; simp only [fx_uf, e1, e2, if_false])) ?_
    refine sd_lshl (v := lI (2 ^ L.length)) dRU_begin_44 (lI_one_shl41 _ (by omega)) ?_
    refine fx_putl 9 4 dRU_begin_45 fRU_158 rfl rfl (dk_th (by omega)) rfl th_u hB ?_
    rw [show (fx_ul (fx_uf (fx_uf (fx_uf (fx_uf (fx_uf (fx_uf D (309 + 3 * L.length + 1) 1 (nI 0)) (309 + 3 * L.length + 1) 2 (-1)) (309 + 3 * L.length + 1) 3 (nI 0)) (309 + 3 * (L.length)) 1 ((nI (k)))) (309 + 3 * (L.length)) 2 (((-1)))) (309 + 3 * (L.length)) 3 ((nI (b)))) (309 + 3 * (L.length)) (lI (2 ^ L.length))) = bg_D D L.length (nI k) (-1) (nI b) (lI (2 ^ L.length)) from rfl]
    refine sd_aload_n dRU_begin_48 rfl rfl ?_
    refine sd_iload_n dRU_begin_49 rfl rfl ?_
    refine fx_cV 5 sR_RU [.int ((-1))] [] dRU_begin_50 kRU_58 rfl rfl mRU_has_v (c_RU_has (b := 0) (by omega) hm (by omega) (by constructor; intro e; cases e; intro e; exact absurd e (nn_lt_neg (by omega)))) (by decide) (Nat.le_refl _) (Nat.le_refl _) (Nat.le_of_ble_eq_true rfl) rfl ?_
    refine nn_if_eq 75 dRU_begin_53 (by decide) (by decide) (fun _ => ?_) (fun c => absurd c (by decide))
    refine sd_aload_n dRU_begin_75 rfl rfl ?_
    refine sd_iload_n dRU_begin_76 rfl rfl ?_
    refine fx_cV 5 sR_RU [.int (nI (b))] [] dRU_begin_77 kRU_58 rfl rfl mRU_has_v (c_RU_has (b := 1) (by omega) hm (by omega) (by simp only [true_iff]; exact ⟨b, hq b rfl, rfl⟩)) (by decide) (Nat.le_refl _) (Nat.le_refl _) (Nat.le_of_ble_eq_true rfl) rfl ?_
    refine nn_if_eq 102 dRU_begin_80 (by decide) (by decide) (fun c => absurd c (by decide)) (fun _ => ?_)
    refine sd_aload dRU_begin_83 rfl ?_
    refine sd_dup dRU_begin_85 rfl ?_
    refine fx_getl 9 4 dRU_begin_86 fRU_158 (dk_th (by omega)) rfl ?_
    refine sd_aload_n dRU_begin_89 rfl rfl ?_
    refine fx_getr 5 1 (308) dRU_begin_90 fRU_11 rfl rfl ?_
    refine sd_iload_n dRU_begin_93 rfl rfl ?_
    refine fx_aald (b) dRU_begin_94 rfl rfl rfl (by omega) (by decide) ?_
    refine fx_getl 9 4 dRU_begin_95 fRU_158 (dk_th (by omega)) rfl ?_
    refine sd_lor dRU_begin_98 ?_
    rw [show (((bg_D D L.length (nI k) (-1) (nI b) (lI (2 ^ L.length))).2.2 (309 + 3 * (L.length))) ||| ((bg_D D L.length (nI k) (-1) (nI b) (lI (2 ^ L.length))).2.2 (309 + 3 * (b)))) = (lI (2 ^ L.length ||| rl L b)) from (by rw [bg_l, hl b (hq b rfl), lI_or])]
    refine fx_putl 9 4 dRU_begin_99 fRU_158 rfl rfl (dk_th (by omega)) rfl th_u hB ?_
    rw [show (fx_ul (bg_D D L.length (nI k) (-1) (nI b) (lI (2 ^ L.length))) (309 + 3 * (L.length)) (lI (2 ^ L.length ||| rl L b))) = bg_D D L.length (nI k) (-1) (nI b) (lI (2 ^ L.length ||| rl L b)) from bg_ul]
    exact sd_vret dRU_begin_102 rfl (Nat.le_refl _) (Nat.le_refl _) ⟨rfl, by simp only [rr_1, oi_I, Nat.or_zero]; try rfl, rfl⟩
  · have a0 := hp a rfl
    refine sd_aload_n dRU_begin_0 rfl rfl ?_
    refine fx_getr 5 1 (308) dRU_begin_1 fRU_11 rfl rfl ?_
    refine sd_aload_n dRU_begin_4 rfl rfl ?_
    refine fx_getiv (v := (nI (L.length))) 5 2 dRU_begin_5 fRU_22 rfl rfl (hT.2.1) ?_
    refine fx_aald (L.length) dRU_begin_8 rfl rfl rfl (by omega) (by decide) ?_
    refine sd_astore dRU_begin_9 (by decide) ?_
    refine sd_aload dRU_begin_11 rfl ?_
    refine fx_getr 9 0 (309 + 3 * (L.length) + 1) dRU_begin_13 fRU_40 (dk_th (by omega)) rfl ?_
    refine fx_cV 6 sR_ST [] [] dRU_begin_16 kRU_147 rfl (dk_ths (p := L.length) (by omega)).1 mST_begin_v (c_ST_begin hB (dk_ths (by omega))) (by decide) (Nat.le_refl _) (Nat.le_refl _) (Nat.le_of_ble_eq_true rfl) rfl ?_
    refine sd_aload dRU_begin_19 rfl ?_
    refine sd_iload_n dRU_begin_21 rfl rfl ?_
    refine fx_puti 9 1 dRU_begin_22 fRU_149 rfl rfl (dk_th (by omega)) rfl hB ?_
    refine sd_aload dRU_begin_25 rfl ?_
    refine sd_iload_n dRU_begin_27 rfl rfl ?_
    refine fx_puti 9 2 dRU_begin_28 fRU_152 rfl rfl (dk_th (by omega)) rfl hB ?_
    refine sd_aload dRU_begin_31 rfl ?_
    refine sd_iload_n dRU_begin_33 rfl rfl ?_
    refine fx_puti 9 3 dRU_begin_34 fRU_155 rfl rfl (dk_th (by omega)) rfl hB ?_
    refine sd_aload dRU_begin_37 rfl ?_
    refine sd_lconst (v := 1) dRU_begin_39 (by decide) ?_
    refine sd_aload_n dRU_begin_40 rfl rfl ?_
    refine fx_getiv (v := (nI (L.length))) 5 2 dRU_begin_41 fRU_22 rfl rfl ((by rw [← hT.2.1]; simp only [fx_uf, e1, e2, if_false])) ?_
    refine sd_lshl (v := lI (2 ^ L.length)) dRU_begin_44 (lI_one_shl41 _ (by omega)) ?_
    refine fx_putl 9 4 dRU_begin_45 fRU_158 rfl rfl (dk_th (by omega)) rfl th_u hB ?_
    rw [show (fx_ul (fx_uf (fx_uf (fx_uf (fx_uf (fx_uf (fx_uf D (309 + 3 * L.length + 1) 1 (nI 0)) (309 + 3 * L.length + 1) 2 (-1)) (309 + 3 * L.length + 1) 3 (nI 0)) (309 + 3 * (L.length)) 1 ((nI (k)))) (309 + 3 * (L.length)) 2 ((nI (a)))) (309 + 3 * (L.length)) 3 (((-1)))) (309 + 3 * (L.length)) (lI (2 ^ L.length))) = bg_D D L.length (nI k) (nI a) (-1) (lI (2 ^ L.length)) from rfl]
    refine sd_aload_n dRU_begin_48 rfl rfl ?_
    refine sd_iload_n dRU_begin_49 rfl rfl ?_
    refine fx_cV 5 sR_RU [.int (nI (a))] [] dRU_begin_50 kRU_58 rfl rfl mRU_has_v (c_RU_has (b := 1) (by omega) hm (by omega) (by simp only [true_iff]; exact ⟨a, hp a rfl, rfl⟩)) (by decide) (Nat.le_refl _) (Nat.le_refl _) (Nat.le_of_ble_eq_true rfl) rfl ?_
    refine nn_if_eq 75 dRU_begin_53 (by decide) (by decide) (fun c => absurd c (by decide)) (fun _ => ?_)
    refine sd_aload dRU_begin_56 rfl ?_
    refine sd_dup dRU_begin_58 rfl ?_
    refine fx_getl 9 4 dRU_begin_59 fRU_158 (dk_th (by omega)) rfl ?_
    refine sd_aload_n dRU_begin_62 rfl rfl ?_
    refine fx_getr 5 1 (308) dRU_begin_63 fRU_11 rfl rfl ?_
    refine sd_iload_n dRU_begin_66 rfl rfl ?_
    refine fx_aald (a) dRU_begin_67 rfl rfl rfl (by omega) (by decide) ?_
    refine fx_getl 9 4 dRU_begin_68 fRU_158 (dk_th (by omega)) rfl ?_
    refine sd_lor dRU_begin_71 ?_
    rw [show (((bg_D D L.length (nI k) (nI a) (-1) (lI (2 ^ L.length))).2.2 (309 + 3 * (L.length))) ||| ((bg_D D L.length (nI k) (nI a) (-1) (lI (2 ^ L.length))).2.2 (309 + 3 * (a)))) = (lI (2 ^ L.length ||| rl L a)) from (by rw [bg_l, hl a (hp a rfl), lI_or])]
    refine fx_putl 9 4 dRU_begin_72 fRU_158 rfl rfl (dk_th (by omega)) rfl th_u hB ?_
    rw [show (fx_ul (bg_D D L.length (nI k) (nI a) (-1) (lI (2 ^ L.length))) (309 + 3 * (L.length)) (lI (2 ^ L.length ||| rl L a))) = bg_D D L.length (nI k) (nI a) (-1) (lI (2 ^ L.length ||| rl L a)) from bg_ul]
    refine sd_aload_n dRU_begin_75 rfl rfl ?_
    refine sd_iload_n dRU_begin_76 rfl rfl ?_
    refine fx_cV 5 sR_RU [.int ((-1))] [] dRU_begin_77 kRU_58 rfl rfl mRU_has_v (c_RU_has (b := 0) (by omega) hm (by omega) (by constructor; intro e; cases e; intro e; exact absurd e (nn_lt_neg (by omega)))) (by decide) (Nat.le_refl _) (Nat.le_refl _) (Nat.le_of_ble_eq_true rfl) rfl ?_
    refine nn_if_eq 102 dRU_begin_80 (by decide) (by decide) (fun _ => ?_) (fun c => absurd c (by decide))
    exact sd_vret dRU_begin_102 rfl (Nat.le_refl _) (Nat.le_refl _) ⟨rfl, by simp only [rr_1, oi_I, Nat.or_zero]; try rfl, rfl⟩
  · have a0 := hp a rfl
    have b0 := hq b rfl
    refine sd_aload_n dRU_begin_0 rfl rfl ?_
    refine fx_getr 5 1 (308) dRU_begin_1 fRU_11 rfl rfl ?_
    refine sd_aload_n dRU_begin_4 rfl rfl ?_
    refine fx_getiv (v := (nI (L.length))) 5 2 dRU_begin_5 fRU_22 rfl rfl (hT.2.1) ?_
    refine fx_aald (L.length) dRU_begin_8 rfl rfl rfl (by omega) (by decide) ?_
    refine sd_astore dRU_begin_9 (by decide) ?_
    refine sd_aload dRU_begin_11 rfl ?_
    refine fx_getr 9 0 (309 + 3 * (L.length) + 1) dRU_begin_13 fRU_40 (dk_th (by omega)) rfl ?_
    refine fx_cV 6 sR_ST [] [] dRU_begin_16 kRU_147 rfl (dk_ths (p := L.length) (by omega)).1 mST_begin_v (c_ST_begin hB (dk_ths (by omega))) (by decide) (Nat.le_refl _) (Nat.le_refl _) (Nat.le_of_ble_eq_true rfl) rfl ?_
    refine sd_aload dRU_begin_19 rfl ?_
    refine sd_iload_n dRU_begin_21 rfl rfl ?_
    refine fx_puti 9 1 dRU_begin_22 fRU_149 rfl rfl (dk_th (by omega)) rfl hB ?_
    refine sd_aload dRU_begin_25 rfl ?_
    refine sd_iload_n dRU_begin_27 rfl rfl ?_
    refine fx_puti 9 2 dRU_begin_28 fRU_152 rfl rfl (dk_th (by omega)) rfl hB ?_
    refine sd_aload dRU_begin_31 rfl ?_
    refine sd_iload_n dRU_begin_33 rfl rfl ?_
    refine fx_puti 9 3 dRU_begin_34 fRU_155 rfl rfl (dk_th (by omega)) rfl hB ?_
    refine sd_aload dRU_begin_37 rfl ?_
    refine sd_lconst (v := 1) dRU_begin_39 (by decide) ?_
    refine sd_aload_n dRU_begin_40 rfl rfl ?_
    refine fx_getiv (v := (nI (L.length))) 5 2 dRU_begin_41 fRU_22 rfl rfl ((by rw [← hT.2.1]; simp only [fx_uf, e1, e2, if_false])) ?_
    refine sd_lshl (v := lI (2 ^ L.length)) dRU_begin_44 (lI_one_shl41 _ (by omega)) ?_
    refine fx_putl 9 4 dRU_begin_45 fRU_158 rfl rfl (dk_th (by omega)) rfl th_u hB ?_
    rw [show (fx_ul (fx_uf (fx_uf (fx_uf (fx_uf (fx_uf (fx_uf D (309 + 3 * L.length + 1) 1 (nI 0)) (309 + 3 * L.length + 1) 2 (-1)) (309 + 3 * L.length + 1) 3 (nI 0)) (309 + 3 * (L.length)) 1 ((nI (k)))) (309 + 3 * (L.length)) 2 ((nI (a)))) (309 + 3 * (L.length)) 3 ((nI (b)))) (309 + 3 * (L.length)) (lI (2 ^ L.length))) = bg_D D L.length (nI k) (nI a) (nI b) (lI (2 ^ L.length)) from rfl]
    refine sd_aload_n dRU_begin_48 rfl rfl ?_
    refine sd_iload_n dRU_begin_49 rfl rfl ?_
    refine fx_cV 5 sR_RU [.int (nI (a))] [] dRU_begin_50 kRU_58 rfl rfl mRU_has_v (c_RU_has (b := 1) (by omega) hm (by omega) (by simp only [true_iff]; exact ⟨a, hp a rfl, rfl⟩)) (by decide) (Nat.le_refl _) (Nat.le_refl _) (Nat.le_of_ble_eq_true rfl) rfl ?_
    refine nn_if_eq 75 dRU_begin_53 (by decide) (by decide) (fun c => absurd c (by decide)) (fun _ => ?_)
    refine sd_aload dRU_begin_56 rfl ?_
    refine sd_dup dRU_begin_58 rfl ?_
    refine fx_getl 9 4 dRU_begin_59 fRU_158 (dk_th (by omega)) rfl ?_
    refine sd_aload_n dRU_begin_62 rfl rfl ?_
    refine fx_getr 5 1 (308) dRU_begin_63 fRU_11 rfl rfl ?_
    refine sd_iload_n dRU_begin_66 rfl rfl ?_
    refine fx_aald (a) dRU_begin_67 rfl rfl rfl (by omega) (by decide) ?_
    refine fx_getl 9 4 dRU_begin_68 fRU_158 (dk_th (by omega)) rfl ?_
    refine sd_lor dRU_begin_71 ?_
    rw [show (((bg_D D L.length (nI k) (nI a) (nI b) (lI (2 ^ L.length))).2.2 (309 + 3 * (L.length))) ||| ((bg_D D L.length (nI k) (nI a) (nI b) (lI (2 ^ L.length))).2.2 (309 + 3 * (a)))) = (lI (2 ^ L.length ||| rl L a)) from (by rw [bg_l, hl a (hp a rfl), lI_or])]
    refine fx_putl 9 4 dRU_begin_72 fRU_158 rfl rfl (dk_th (by omega)) rfl th_u hB ?_
    rw [show (fx_ul (bg_D D L.length (nI k) (nI a) (nI b) (lI (2 ^ L.length))) (309 + 3 * (L.length)) (lI (2 ^ L.length ||| rl L a))) = bg_D D L.length (nI k) (nI a) (nI b) (lI (2 ^ L.length ||| rl L a)) from bg_ul]
    refine sd_aload_n dRU_begin_75 rfl rfl ?_
    refine sd_iload_n dRU_begin_76 rfl rfl ?_
    refine fx_cV 5 sR_RU [.int (nI (b))] [] dRU_begin_77 kRU_58 rfl rfl mRU_has_v (c_RU_has (b := 1) (by omega) hm (by omega) (by simp only [true_iff]; exact ⟨b, hq b rfl, rfl⟩)) (by decide) (Nat.le_refl _) (Nat.le_refl _) (Nat.le_of_ble_eq_true rfl) rfl ?_
    refine nn_if_eq 102 dRU_begin_80 (by decide) (by decide) (fun c => absurd c (by decide)) (fun _ => ?_)
    refine sd_aload dRU_begin_83 rfl ?_
    refine sd_dup dRU_begin_85 rfl ?_
    refine fx_getl 9 4 dRU_begin_86 fRU_158 (dk_th (by omega)) rfl ?_
    refine sd_aload_n dRU_begin_89 rfl rfl ?_
    refine fx_getr 5 1 (308) dRU_begin_90 fRU_11 rfl rfl ?_
    refine sd_iload_n dRU_begin_93 rfl rfl ?_
    refine fx_aald (b) dRU_begin_94 rfl rfl rfl (by omega) (by decide) ?_
    refine fx_getl 9 4 dRU_begin_95 fRU_158 (dk_th (by omega)) rfl ?_
    refine sd_lor dRU_begin_98 ?_
    rw [show (((bg_D D L.length (nI k) (nI a) (nI b) (lI (2 ^ L.length ||| rl L a))).2.2 (309 + 3 * (L.length))) ||| ((bg_D D L.length (nI k) (nI a) (nI b) (lI (2 ^ L.length ||| rl L a))).2.2 (309 + 3 * (b)))) = (lI (2 ^ L.length ||| rl L a ||| rl L b)) from (by rw [bg_l, hl b (hq b rfl), lI_or])]
    refine fx_putl 9 4 dRU_begin_99 fRU_158 rfl rfl (dk_th (by omega)) rfl th_u hB ?_
    rw [show (fx_ul (bg_D D L.length (nI k) (nI a) (nI b) (lI (2 ^ L.length ||| rl L a))) (309 + 3 * (L.length)) (lI (2 ^ L.length ||| rl L a ||| rl L b))) = bg_D D L.length (nI k) (nI a) (nI b) (lI (2 ^ L.length ||| rl L a ||| rl L b)) from bg_ul]
    exact sd_vret dRU_begin_102 rfl (Nat.le_refl _) (Nat.le_refl _) ⟨rfl, by simp only [rr_1, oi_I, Nat.or_zero]; try rfl, rfl⟩
theorem dRU_gather_0 : decode prog_6_method_17_code 0 = .ok (.aload_n 0, 1) := by decide +kernel
theorem dRU_gather_1 : decode prog_6_method_17_code 1 = .ok (.getfield 11, 3) := by decide +kernel
theorem dRU_gather_4 : decode prog_6_method_17_code 4 = .ok (.aload_n 0, 1) := by decide +kernel
theorem dRU_gather_5 : decode prog_6_method_17_code 5 = .ok (.getfield 22, 3) := by decide +kernel
theorem dRU_gather_8 : decode prog_6_method_17_code 8 = .ok (.aaload, 1) := by decide +kernel
theorem dRU_gather_9 : decode prog_6_method_17_code 9 = .ok (.getfield 40, 3) := by decide +kernel
theorem dRU_gather_12 : decode prog_6_method_17_code 12 = .ok (.astore 4, 2) := by decide +kernel
theorem dRU_gather_14 : decode prog_6_method_17_code 14 = .ok (.iload_n 1, 1) := by decide +kernel
theorem dRU_gather_15 : decode prog_6_method_17_code 15 = .ok (.iconst 1, 1) := by decide +kernel
theorem dRU_gather_16 : decode prog_6_method_17_code 16 = .ok (.if_icmp .ne (16), 3) := by decide +kernel
theorem dRU_gather_19 : decode prog_6_method_17_code 19 = .ok (.aload 4, 2) := by decide +kernel
theorem dRU_gather_21 : decode prog_6_method_17_code 21 = .ok (.aload 4, 2) := by decide +kernel
theorem dRU_gather_23 : decode prog_6_method_17_code 23 = .ok (.getfield 65, 3) := by decide +kernel
theorem dRU_gather_26 : decode prog_6_method_17_code 26 = .ok (.invokevirtual 172, 3) := by decide +kernel
theorem dRU_gather_29 : decode prog_6_method_17_code 29 = .ok (.goto (114), 3) := by decide +kernel
theorem dRU_gather_32 : decode prog_6_method_17_code 32 = .ok (.iload_n 1, 1) := by decide +kernel
theorem dRU_gather_33 : decode prog_6_method_17_code 33 = .ok (.bipush (7), 2) := by decide +kernel
theorem dRU_gather_35 : decode prog_6_method_17_code 35 = .ok (.if_icmp .ne (58), 3) := by decide +kernel
theorem dRU_gather_38 : decode prog_6_method_17_code 38 = .ok (.aload 4, 2) := by decide +kernel
theorem dRU_gather_40 : decode prog_6_method_17_code 40 = .ok (.aload_n 0, 1) := by decide +kernel
theorem dRU_gather_41 : decode prog_6_method_17_code 41 = .ok (.getfield 11, 3) := by decide +kernel
theorem dRU_gather_44 : decode prog_6_method_17_code 44 = .ok (.iload_n 2, 1) := by decide +kernel
theorem dRU_gather_45 : decode prog_6_method_17_code 45 = .ok (.aaload, 1) := by decide +kernel
theorem dRU_gather_46 : decode prog_6_method_17_code 46 = .ok (.getfield 40, 3) := by decide +kernel
theorem dRU_gather_49 : decode prog_6_method_17_code 49 = .ok (.aload_n 0, 1) := by decide +kernel
theorem dRU_gather_50 : decode prog_6_method_17_code 50 = .ok (.getfield 11, 3) := by decide +kernel
theorem dRU_gather_53 : decode prog_6_method_17_code 53 = .ok (.iload_n 3, 1) := by decide +kernel
theorem dRU_gather_54 : decode prog_6_method_17_code 54 = .ok (.aaload, 1) := by decide +kernel
theorem dRU_gather_55 : decode prog_6_method_17_code 55 = .ok (.getfield 40, 3) := by decide +kernel
theorem dRU_gather_58 : decode prog_6_method_17_code 58 = .ok (.getfield 65, 3) := by decide +kernel
theorem dRU_gather_61 : decode prog_6_method_17_code 61 = .ok (.invokevirtual 220, 3) := by decide +kernel
theorem dRU_gather_64 : decode prog_6_method_17_code 64 = .ok (.aload 4, 2) := by decide +kernel
theorem dRU_gather_66 : decode prog_6_method_17_code 66 = .ok (.aload_n 0, 1) := by decide +kernel
theorem dRU_gather_67 : decode prog_6_method_17_code 67 = .ok (.getfield 11, 3) := by decide +kernel
theorem dRU_gather_70 : decode prog_6_method_17_code 70 = .ok (.iload_n 3, 1) := by decide +kernel
theorem dRU_gather_71 : decode prog_6_method_17_code 71 = .ok (.aaload, 1) := by decide +kernel
theorem dRU_gather_72 : decode prog_6_method_17_code 72 = .ok (.getfield 40, 3) := by decide +kernel
theorem dRU_gather_75 : decode prog_6_method_17_code 75 = .ok (.aload_n 0, 1) := by decide +kernel
theorem dRU_gather_76 : decode prog_6_method_17_code 76 = .ok (.getfield 11, 3) := by decide +kernel
theorem dRU_gather_79 : decode prog_6_method_17_code 79 = .ok (.iload_n 2, 1) := by decide +kernel
theorem dRU_gather_80 : decode prog_6_method_17_code 80 = .ok (.aaload, 1) := by decide +kernel
theorem dRU_gather_81 : decode prog_6_method_17_code 81 = .ok (.getfield 40, 3) := by decide +kernel
theorem dRU_gather_84 : decode prog_6_method_17_code 84 = .ok (.getfield 65, 3) := by decide +kernel
theorem dRU_gather_87 : decode prog_6_method_17_code 87 = .ok (.invokevirtual 220, 3) := by decide +kernel
theorem dRU_gather_90 : decode prog_6_method_17_code 90 = .ok (.goto (53), 3) := by decide +kernel
theorem dRU_gather_93 : decode prog_6_method_17_code 93 = .ok (.iload_n 1, 1) := by decide +kernel
theorem dRU_gather_94 : decode prog_6_method_17_code 94 = .ok (.bipush (8), 2) := by decide +kernel
theorem dRU_gather_96 : decode prog_6_method_17_code 96 = .ok (.if_icmp .eq (47), 3) := by decide +kernel
theorem dRU_gather_99 : decode prog_6_method_17_code 99 = .ok (.aload_n 0, 1) := by decide +kernel
theorem dRU_gather_100 : decode prog_6_method_17_code 100 = .ok (.iload_n 2, 1) := by decide +kernel
theorem dRU_gather_101 : decode prog_6_method_17_code 101 = .ok (.invokevirtual 58, 3) := by decide +kernel
theorem dRU_gather_104 : decode prog_6_method_17_code 104 = .ok (.ifCond .eq (17), 3) := by decide +kernel
theorem dRU_gather_107 : decode prog_6_method_17_code 107 = .ok (.aload 4, 2) := by decide +kernel
theorem dRU_gather_109 : decode prog_6_method_17_code 109 = .ok (.aload_n 0, 1) := by decide +kernel
theorem dRU_gather_110 : decode prog_6_method_17_code 110 = .ok (.getfield 11, 3) := by decide +kernel
theorem dRU_gather_113 : decode prog_6_method_17_code 113 = .ok (.iload_n 2, 1) := by decide +kernel
theorem dRU_gather_114 : decode prog_6_method_17_code 114 = .ok (.aaload, 1) := by decide +kernel
theorem dRU_gather_115 : decode prog_6_method_17_code 115 = .ok (.getfield 40, 3) := by decide +kernel
theorem dRU_gather_118 : decode prog_6_method_17_code 118 = .ok (.invokevirtual 224, 3) := by decide +kernel
theorem dRU_gather_121 : decode prog_6_method_17_code 121 = .ok (.aload_n 0, 1) := by decide +kernel
theorem dRU_gather_122 : decode prog_6_method_17_code 122 = .ok (.iload_n 3, 1) := by decide +kernel
theorem dRU_gather_123 : decode prog_6_method_17_code 123 = .ok (.invokevirtual 58, 3) := by decide +kernel
theorem dRU_gather_126 : decode prog_6_method_17_code 126 = .ok (.ifCond .eq (17), 3) := by decide +kernel
theorem dRU_gather_129 : decode prog_6_method_17_code 129 = .ok (.aload 4, 2) := by decide +kernel
theorem dRU_gather_131 : decode prog_6_method_17_code 131 = .ok (.aload_n 0, 1) := by decide +kernel
theorem dRU_gather_132 : decode prog_6_method_17_code 132 = .ok (.getfield 11, 3) := by decide +kernel
theorem dRU_gather_135 : decode prog_6_method_17_code 135 = .ok (.iload_n 3, 1) := by decide +kernel
theorem dRU_gather_136 : decode prog_6_method_17_code 136 = .ok (.aaload, 1) := by decide +kernel
theorem dRU_gather_137 : decode prog_6_method_17_code 137 = .ok (.getfield 40, 3) := by decide +kernel
theorem dRU_gather_140 : decode prog_6_method_17_code 140 = .ok (.invokevirtual 224, 3) := by decide +kernel
theorem dRU_gather_143 : decode prog_6_method_17_code 143 = .ok (.return_, 1) := by decide +kernel
theorem dk_th_so {D : fx_D} {L : List st_Th} {p : Nat} {h : st_Th} (hT : dk_thm D L) (hp : L[p]? = some h) : so_r D (309 + 3 * p + 1) h.2.1 ∧ D.2.1 (309 + 3 * p + 1) 2 = nI h.1 ∧ p < L.length ∧ L.length ≤ 40 := ⟨(hT.2.2 p h hp).1, (hT.2.2 p h hp).2.1, getE_lt hp, hT.1⟩
theorem c_RU_gather1 {G : sd_G} {o : Nat} {D : fx_D} {h0 : sd_H} {nx n t : Nat} {p q : Int32} {M : List Nat} (hB : G.2.1 ≤ o) (hn : n ≤ 40) (hm : D.2.1 307 2 = nI n) (hs : so_w D (309 + 3 * n + 1) M) (hc : D.2.1 (309 + 3 * n + 1) 2 = nI t) (ht : t < 2 ^ 30) : sd_Ct G mRU_gather 3 0 0 [.ref (o + 307), .int (nI 1), .int p, .int q] (fx_h G.1.2 dk_S o D h0) nx (fx_is G.1.2 dk_S o h0 nx none (fun D' => so_w D' (309 + 3 * n + 1) (ls_h M t) ∧ so_f (309 + 3 * n + 1) D D')) := by
  refine sd_Ct_of (by decide) (Nat.le_of_ble_eq_true rfl) ?_
  refine sd_aload_n dRU_gather_0 rfl rfl ?_
  refine fx_getr 5 1 (308) dRU_gather_1 fRU_11 rfl rfl ?_
  refine sd_aload_n dRU_gather_4 rfl rfl ?_
  refine fx_getiv (v := (nI (n))) 5 2 dRU_gather_5 fRU_22 rfl rfl (hm) ?_
  refine fx_aald (n) dRU_gather_8 rfl rfl rfl (by omega) (by decide) ?_
  refine fx_getr 9 0 (309 + 3 * (n) + 1) dRU_gather_9 fRU_40 (dk_th (by omega)) rfl ?_
  refine sd_astore dRU_gather_12 (by decide) ?_
  refine sd_iload_n dRU_gather_14 rfl rfl ?_
  refine sd_iconst (v := nI 1) dRU_gather_15 (by decide) ?_
  refine nn_icmp_ne 32 dRU_gather_16 (by decide) (by decide) (by decide) (fun c => absurd c (by decide)) (fun _ => ?_)
  refine sd_aload dRU_gather_19 rfl ?_
  refine sd_aload dRU_gather_21 rfl ?_
  refine fx_getiv (v := (nI (t))) 6 2 dRU_gather_23 fRU_65 (dk_ths (p := n) (by omega)).1 rfl (hc) ?_
  refine fx_cP 6 sR_ST [.int (nI (t))] [] dRU_gather_26 kRU_172 rfl (dk_ths (p := n) (by omega)).1 mST_assume_v (c_ST_assume hB (dk_ths (by omega)) hs ht) (by decide) (Nat.le_refl _) (Nat.le_refl _) (Nat.le_of_ble_eq_true rfl) rfl (fun D1 h1 => ?_)
  refine sd_goto 143 dRU_gather_29 (by decide) ?_
  exact sd_vret dRU_gather_143 rfl (Nat.le_refl _) (Nat.le_refl _) ⟨rfl, rfl, _, rfl, h1⟩
theorem c_RU_gather8 {G : sd_G} {o : Nat} {D : fx_D} {h0 : sd_H} {nx n : Nat} {p q : Int32} (hn : n ≤ 40) (hm : D.2.1 307 2 = nI n) : sd_Ct G mRU_gather 3 0 0 [.ref (o + 307), .int (nI 8), .int p, .int q] (fx_h G.1.2 dk_S o D h0) nx (fx_is G.1.2 dk_S o h0 nx none (fun D' => D' = D)) := by
  refine sd_Ct_of (by decide) (Nat.le_of_ble_eq_true rfl) ?_
  refine sd_aload_n dRU_gather_0 rfl rfl ?_
  refine fx_getr 5 1 (308) dRU_gather_1 fRU_11 rfl rfl ?_
  refine sd_aload_n dRU_gather_4 rfl rfl ?_
  refine fx_getiv (v := (nI (n))) 5 2 dRU_gather_5 fRU_22 rfl rfl (hm) ?_
  refine fx_aald (n) dRU_gather_8 rfl rfl rfl (by omega) (by decide) ?_
  refine fx_getr 9 0 (309 + 3 * (n) + 1) dRU_gather_9 fRU_40 (dk_th (by omega)) rfl ?_
  refine sd_astore dRU_gather_12 (by decide) ?_
  refine sd_iload_n dRU_gather_14 rfl rfl ?_
  refine sd_iconst (v := nI 1) dRU_gather_15 (by decide) ?_
  refine nn_icmp_ne 32 dRU_gather_16 (by decide) (by decide) (by decide) (fun _ => ?_) (fun c => absurd c (by decide))
  refine sd_iload_n dRU_gather_32 rfl rfl ?_
  refine sd_bipush (v := nI 7) dRU_gather_33 (by decide) ?_
  refine nn_icmp_ne 93 dRU_gather_35 (by decide) (by decide) (by decide) (fun _ => ?_) (fun c => absurd c (by decide))
  refine sd_iload_n dRU_gather_93 rfl rfl ?_
  refine sd_bipush (v := nI 8) dRU_gather_94 (by decide) ?_
  refine nn_icmp_eq 143 dRU_gather_96 (by decide) (by decide) (by decide) (fun _ => ?_) (fun c => absurd c (by decide))
  exact sd_vret dRU_gather_143 rfl (Nat.le_refl _) (Nat.le_refl _) ⟨rfl, rfl, _, rfl, rfl⟩
theorem c_RU_gather7 {G : sd_G} {o : Nat} {D : fx_D} {h0 : sd_H} {nx a b : Nat} {L : List st_Th} {x y : st_Th} {M : List Nat} (hB : G.2.1 ≤ o) (hT : dk_thm D L) (ha : L[a]? = some x) (hb : L[b]? = some y) (hx : x.1 < 2 ^ 30) (hy : y.1 < 2 ^ 30) (hs : so_w D (309 + 3 * L.length + 1) M) : sd_Ct G mRU_gather 3 0 0 [.ref (o + 307), .int (nI 7), .int (nI a), .int (nI b)] (fx_h G.1.2 dk_S o D h0) nx (fx_is G.1.2 dk_S o h0 nx none (fun D' => so_w D' (309 + 3 * L.length + 1) (ls_g (ls_g M (nI y.1) x.2.1) (nI x.1) y.2.1) ∧ so_f (309 + 3 * L.length + 1) D D')) := by
  refine sd_Ct_of (by decide) (Nat.le_of_ble_eq_true rfl) ?_
  obtain ⟨a1, a2, a3, h40⟩ := dk_th_so hT ha
  obtain ⟨b1, b2, b3, -⟩ := dk_th_so hT hb
  refine sd_aload_n dRU_gather_0 rfl rfl ?_
  refine fx_getr 5 1 (308) dRU_gather_1 fRU_11 rfl rfl ?_
  refine sd_aload_n dRU_gather_4 rfl rfl ?_
  refine fx_getiv (v := (nI (L.length))) 5 2 dRU_gather_5 fRU_22 rfl rfl (hT.2.1) ?_
  refine fx_aald (L.length) dRU_gather_8 rfl rfl rfl (by omega) (by decide) ?_
  refine fx_getr 9 0 (309 + 3 * (L.length) + 1) dRU_gather_9 fRU_40 (dk_th (by omega)) rfl ?_
  refine sd_astore dRU_gather_12 (by decide) ?_
  refine sd_iload_n dRU_gather_14 rfl rfl ?_
  refine sd_iconst (v := nI 1) dRU_gather_15 (by decide) ?_
  refine nn_icmp_ne 32 dRU_gather_16 (by decide) (by decide) (by decide) (fun _ => ?_) (fun c => absurd c (by decide))
  refine sd_iload_n dRU_gather_32 rfl rfl ?_
  refine sd_bipush (v := nI 7) dRU_gather_33 (by decide) ?_
  refine nn_icmp_ne 93 dRU_gather_35 (by decide) (by decide) (by decide) (fun c => absurd c (by decide)) (fun _ => ?_)
  refine sd_aload dRU_gather_38 rfl ?_
  refine sd_aload_n dRU_gather_40 rfl rfl ?_
  refine fx_getr 5 1 (308) dRU_gather_41 fRU_11 rfl rfl ?_
  refine sd_iload_n dRU_gather_44 rfl rfl ?_
  refine fx_aald (a) dRU_gather_45 rfl rfl rfl (by omega) (by decide) ?_
  refine fx_getr 9 0 (309 + 3 * (a) + 1) dRU_gather_46 fRU_40 (dk_th (by omega)) rfl ?_
  refine sd_aload_n dRU_gather_49 rfl rfl ?_
  refine fx_getr 5 1 (308) dRU_gather_50 fRU_11 rfl rfl ?_
  refine sd_iload_n dRU_gather_53 rfl rfl ?_
  refine fx_aald (b) dRU_gather_54 rfl rfl rfl (by omega) (by decide) ?_
  refine fx_getr 9 0 (309 + 3 * (b) + 1) dRU_gather_55 fRU_40 (dk_th (by omega)) rfl ?_
  refine fx_getiv (v := (nI (y.1))) 6 2 dRU_gather_58 fRU_65 (dk_ths (p := b) (by omega)).1 rfl (b2) ?_
  refine fx_cP 6 sR_ST [.ref (o + (309 + 3 * (a) + 1)), .int (nI (y.1))] [] dRU_gather_61 kRU_220 rfl (dk_ths (p := L.length) (by omega)).1 mST_assumeThoseBut_v (c_ST_assumeThoseBut hB (dk_ths (by omega)) (dk_ths (by omega)) (by omega) hy hs a1) (by decide) (Nat.le_refl _) (Nat.le_refl _) (Nat.le_of_ble_eq_true rfl) rfl (fun D1 h1 => ?_)
  refine sd_aload dRU_gather_64 rfl ?_
  refine sd_aload_n dRU_gather_66 rfl rfl ?_
  refine fx_getr 5 1 (308) dRU_gather_67 fRU_11 rfl rfl ?_
  refine sd_iload_n dRU_gather_70 rfl rfl ?_
  refine fx_aald (b) dRU_gather_71 rfl rfl rfl (by omega) (by decide) ?_
  refine fx_getr 9 0 (309 + 3 * (b) + 1) dRU_gather_72 fRU_40 (dk_th (by omega)) rfl ?_
  refine sd_aload_n dRU_gather_75 rfl rfl ?_
  refine fx_getr 5 1 (308) dRU_gather_76 fRU_11 rfl rfl ?_
  refine sd_iload_n dRU_gather_79 rfl rfl ?_
  refine fx_aald (a) dRU_gather_80 rfl rfl rfl (by omega) (by decide) ?_
  refine fx_getr 9 0 (309 + 3 * (a) + 1) dRU_gather_81 fRU_40 (dk_th (by omega)) rfl ?_
  refine fx_getiv (v := (nI (x.1))) 6 2 dRU_gather_84 fRU_65 (dk_ths (p := a) (by omega)).1 rfl ((by rw [h1.2.2.1 _ _ (by omega)]; exact a2)) ?_
  refine fx_cP 6 sR_ST [.ref (o + (309 + 3 * (b) + 1)), .int (nI (x.1))] [] dRU_gather_87 kRU_220 rfl (dk_ths (p := L.length) (by omega)).1 mST_assumeThoseBut_v (c_ST_assumeThoseBut hB (dk_ths (by omega)) (dk_ths (by omega)) (by omega) hx h1.1 (so_r_f h1.2 (by omega) b1)) (by decide) (Nat.le_refl _) (Nat.le_refl _) (Nat.le_of_ble_eq_true rfl) rfl (fun D2 h2 => ?_)
  refine sd_goto 143 dRU_gather_90 (by decide) ?_
  exact sd_vret dRU_gather_143 rfl (Nat.le_refl _) (Nat.le_refl _) ⟨rfl, rfl, _, rfl, h2.1, h1.2.tr h2.2⟩
def ga_1 (L : List st_Th) (M : List Nat) (p : Option Nat) : List Nat := match p with | some a => ls_g M (-1) ((L[a]?.map (·.2.1)).getD []) | none => M
theorem c_RU_gather {G : sd_G} {o : Nat} {D : fx_D} {h0 : sd_H} {nx k : Nat} {L : List st_Th} {p q : Option Nat} {M : List Nat} (hB : G.2.1 ≤ o) (hT : dk_thm D L) (hk : k < 100) (k1 : k ≠ 1) (k7 : k ≠ 7) (k8 : k ≠ 8) (hp : ∀ a, p = some a → a < L.length) (hq : ∀ a, q = some a → a < L.length) (hs : so_w D (309 + 3 * L.length + 1) M) : sd_Ct G mRU_gather 3 0 0 [.ref (o + 307), .int (nI k), .int (oi_I p), .int (oi_I q)] (fx_h G.1.2 dk_S o D h0) nx (fx_is G.1.2 dk_S o h0 nx none (fun D' => so_w D' (309 + 3 * L.length + 1) (ga_1 L (ga_1 L M p) q) ∧ so_f (309 + 3 * L.length + 1) D D')) := by
  refine sd_Ct_of (by decide) (Nat.le_of_ble_eq_true rfl) ?_
  have h40 := hT.1
  rcases p with _ | a <;> rcases q with _ | b <;> simp only [oi_I]
  · skip
    refine sd_aload_n dRU_gather_0 rfl rfl ?_
    refine fx_getr 5 1 (308) dRU_gather_1 fRU_11 rfl rfl ?_
    refine sd_aload_n dRU_gather_4 rfl rfl ?_
    refine fx_getiv (v := (nI (L.length))) 5 2 dRU_gather_5 fRU_22 rfl rfl (hT.2.1) ?_
    refine fx_aald (L.length) dRU_gather_8 rfl rfl rfl (by omega) (by decide) ?_
    refine fx_getr 9 0 (309 + 3 * (L.length) + 1) dRU_gather_9 fRU_40 (dk_th (by omega)) rfl ?_
    refine sd_astore dRU_gather_12 (by decide) ?_
    refine sd_iload_n dRU_gather_14 rfl rfl ?_
    refine sd_iconst (v := nI 1) dRU_gather_15 (by decide) ?_
    refine nn_icmp_ne 32 dRU_gather_16 (by decide) (by omega) (by omega) (fun c16 => ?_) (fun c16 => ?_)
    ·
      refine sd_iload_n dRU_gather_32 rfl rfl ?_
      refine sd_bipush (v := nI 7) dRU_gather_33 (by decide) ?_
      refine nn_icmp_ne 93 dRU_gather_35 (by decide) (by omega) (by omega) (fun c35 => ?_) (fun c35 => ?_)
      ·
        refine sd_iload_n dRU_gather_93 rfl rfl ?_
        refine sd_bipush (v := nI 8) dRU_gather_94 (by decide) ?_
        refine nn_icmp_eq 143 dRU_gather_96 (by decide) (by omega) (by omega) (fun c96 => ?_) (fun c96 => ?_)
        ·
          omega
        ·
          refine sd_aload_n dRU_gather_99 rfl rfl ?_
          refine sd_iload_n dRU_gather_100 rfl rfl ?_
          refine fx_cV 5 sR_RU [.int ((-1))] [] dRU_gather_101 kRU_58 rfl rfl mRU_has_v (c_RU_has (b := 0) (n := L.length) (by omega) hT.2.1 (by omega) (by constructor; intro e; cases e; intro e; exact absurd e (nn_lt_neg (by omega)))) (by decide) (Nat.le_refl _) (Nat.le_refl _) (Nat.le_of_ble_eq_true rfl) rfl ?_
          refine nn_if_eq 121 dRU_gather_104 (by decide) (by decide) (fun _ => ?_) (fun c => absurd c (by decide))
          refine sd_aload_n dRU_gather_121 rfl rfl ?_
          refine sd_iload_n dRU_gather_122 rfl rfl ?_
          refine fx_cV 5 sR_RU [.int ((-1))] [] dRU_gather_123 kRU_58 rfl rfl mRU_has_v (c_RU_has (b := 0) (n := L.length) (by omega) hT.2.1 (by omega) (by constructor; intro e; cases e; intro e; exact absurd e (nn_lt_neg (by omega)))) (by decide) (Nat.le_refl _) (Nat.le_refl _) (Nat.le_of_ble_eq_true rfl) rfl ?_
          refine nn_if_eq 143 dRU_gather_126 (by decide) (by decide) (fun _ => ?_) (fun c => absurd c (by decide))
          exact sd_vret dRU_gather_143 rfl (Nat.le_refl _) (Nat.le_refl _) ⟨rfl, rfl, _, rfl, hs, so_f.rf _ _⟩
      ·
        omega
    ·
      omega
  · skip
    have b0 := hq b rfl
    obtain ⟨b1, b2, b3, -⟩ := dk_th_so hT (List.getElem?_eq_getElem b0)
    refine sd_aload_n dRU_gather_0 rfl rfl ?_
    refine fx_getr 5 1 (308) dRU_gather_1 fRU_11 rfl rfl ?_
    refine sd_aload_n dRU_gather_4 rfl rfl ?_
    refine fx_getiv (v := (nI (L.length))) 5 2 dRU_gather_5 fRU_22 rfl rfl (hT.2.1) ?_
    refine fx_aald (L.length) dRU_gather_8 rfl rfl rfl (by omega) (by decide) ?_
    refine fx_getr 9 0 (309 + 3 * (L.length) + 1) dRU_gather_9 fRU_40 (dk_th (by omega)) rfl ?_
    refine sd_astore dRU_gather_12 (by decide) ?_
    refine sd_iload_n dRU_gather_14 rfl rfl ?_
    refine sd_iconst (v := nI 1) dRU_gather_15 (by decide) ?_
    refine nn_icmp_ne 32 dRU_gather_16 (by decide) (by omega) (by omega) (fun c16 => ?_) (fun c16 => ?_)
    ·
      refine sd_iload_n dRU_gather_32 rfl rfl ?_
      refine sd_bipush (v := nI 7) dRU_gather_33 (by decide) ?_
      refine nn_icmp_ne 93 dRU_gather_35 (by decide) (by omega) (by omega) (fun c35 => ?_) (fun c35 => ?_)
      ·
        refine sd_iload_n dRU_gather_93 rfl rfl ?_
        refine sd_bipush (v := nI 8) dRU_gather_94 (by decide) ?_
        refine nn_icmp_eq 143 dRU_gather_96 (by decide) (by omega) (by omega) (fun c96 => ?_) (fun c96 => ?_)
        ·
          omega
        ·
          refine sd_aload_n dRU_gather_99 rfl rfl ?_
          refine sd_iload_n dRU_gather_100 rfl rfl ?_
          refine fx_cV 5 sR_RU [.int ((-1))] [] dRU_gather_101 kRU_58 rfl rfl mRU_has_v (c_RU_has (b := 0) (n := L.length) (by omega) hT.2.1 (by omega) (by constructor; intro e; cases e; intro e; exact absurd e (nn_lt_neg (by omega)))) (by decide) (Nat.le_refl _) (Nat.le_refl _) (Nat.le_of_ble_eq_true rfl) rfl ?_
          refine nn_if_eq 121 dRU_gather_104 (by decide) (by decide) (fun _ => ?_) (fun c => absurd c (by decide))
          refine sd_aload_n dRU_gather_121 rfl rfl ?_
          refine sd_iload_n dRU_gather_122 rfl rfl ?_
          refine fx_cV 5 sR_RU [.int (nI (b))] [] dRU_gather_123 kRU_58 rfl rfl mRU_has_v (c_RU_has (b := 1) (n := L.length) (by omega) hT.2.1 (by omega) (by simp only [true_iff]; exact ⟨b, b0, rfl⟩)) (by decide) (Nat.le_refl _) (Nat.le_refl _) (Nat.le_of_ble_eq_true rfl) rfl ?_
          refine nn_if_eq 143 dRU_gather_126 (by decide) (by decide) (fun c => absurd c (by decide)) (fun _ => ?_)
          refine sd_aload dRU_gather_129 rfl ?_
          refine sd_aload_n dRU_gather_131 rfl rfl ?_
          refine fx_getr 5 1 (308) dRU_gather_132 fRU_11 rfl rfl ?_
          refine sd_iload_n dRU_gather_135 rfl rfl ?_
          refine fx_aald (b) dRU_gather_136 rfl rfl rfl (by omega) (by decide) ?_
          refine fx_getr 9 0 (309 + 3 * (b) + 1) dRU_gather_137 fRU_40 (dk_th (by omega)) rfl ?_
          refine fx_cP 6 sR_ST [.ref (o + (309 + 3 * (b) + 1))] [] dRU_gather_140 kRU_224 rfl (dk_ths (p := L.length) (by omega)).1 mST_assumeThoseOf_v (c_ST_assumeThoseOf hB (dk_ths (by omega)) (dk_ths (by omega)) (by omega) hs b1) (by decide) (Nat.le_refl _) (Nat.le_refl _) (Nat.le_of_ble_eq_true rfl) rfl (fun D2 h2 => ?_)
          exact sd_vret dRU_gather_143 rfl (Nat.le_refl _) (Nat.le_refl _) ⟨rfl, rfl, _, rfl, by simpa only [ga_1, Option.map_some, Option.getD_some, List.getElem?_eq_getElem b0] using h2.1, h2.2⟩
      ·
        omega
    ·
      omega
  · skip
    have a0 := hp a rfl
    obtain ⟨a1, a2, a3, -⟩ := dk_th_so hT (List.getElem?_eq_getElem a0)
    refine sd_aload_n dRU_gather_0 rfl rfl ?_
    refine fx_getr 5 1 (308) dRU_gather_1 fRU_11 rfl rfl ?_
    refine sd_aload_n dRU_gather_4 rfl rfl ?_
    refine fx_getiv (v := (nI (L.length))) 5 2 dRU_gather_5 fRU_22 rfl rfl (hT.2.1) ?_
    refine fx_aald (L.length) dRU_gather_8 rfl rfl rfl (by omega) (by decide) ?_
    refine fx_getr 9 0 (309 + 3 * (L.length) + 1) dRU_gather_9 fRU_40 (dk_th (by omega)) rfl ?_
    refine sd_astore dRU_gather_12 (by decide) ?_
    refine sd_iload_n dRU_gather_14 rfl rfl ?_
    refine sd_iconst (v := nI 1) dRU_gather_15 (by decide) ?_
    refine nn_icmp_ne 32 dRU_gather_16 (by decide) (by omega) (by omega) (fun c16 => ?_) (fun c16 => ?_)
    ·
      refine sd_iload_n dRU_gather_32 rfl rfl ?_
      refine sd_bipush (v := nI 7) dRU_gather_33 (by decide) ?_
      refine nn_icmp_ne 93 dRU_gather_35 (by decide) (by omega) (by omega) (fun c35 => ?_) (fun c35 => ?_)
      ·
        refine sd_iload_n dRU_gather_93 rfl rfl ?_
        refine sd_bipush (v := nI 8) dRU_gather_94 (by decide) ?_
        refine nn_icmp_eq 143 dRU_gather_96 (by decide) (by omega) (by omega) (fun c96 => ?_) (fun c96 => ?_)
        ·
          omega
        ·
          refine sd_aload_n dRU_gather_99 rfl rfl ?_
          refine sd_iload_n dRU_gather_100 rfl rfl ?_
          refine fx_cV 5 sR_RU [.int (nI (a))] [] dRU_gather_101 kRU_58 rfl rfl mRU_has_v (c_RU_has (b := 1) (n := L.length) (by omega) hT.2.1 (by omega) (by simp only [true_iff]; exact ⟨a, a0, rfl⟩)) (by decide) (Nat.le_refl _) (Nat.le_refl _) (Nat.le_of_ble_eq_true rfl) rfl ?_
          refine nn_if_eq 121 dRU_gather_104 (by decide) (by decide) (fun c => absurd c (by decide)) (fun _ => ?_)
          refine sd_aload dRU_gather_107 rfl ?_
          refine sd_aload_n dRU_gather_109 rfl rfl ?_
          refine fx_getr 5 1 (308) dRU_gather_110 fRU_11 rfl rfl ?_
          refine sd_iload_n dRU_gather_113 rfl rfl ?_
          refine fx_aald (a) dRU_gather_114 rfl rfl rfl (by omega) (by decide) ?_
          refine fx_getr 9 0 (309 + 3 * (a) + 1) dRU_gather_115 fRU_40 (dk_th (by omega)) rfl ?_
          refine fx_cP 6 sR_ST [.ref (o + (309 + 3 * (a) + 1))] [] dRU_gather_118 kRU_224 rfl (dk_ths (p := L.length) (by omega)).1 mST_assumeThoseOf_v (c_ST_assumeThoseOf hB (dk_ths (by omega)) (dk_ths (by omega)) (by omega) hs a1) (by decide) (Nat.le_refl _) (Nat.le_refl _) (Nat.le_of_ble_eq_true rfl) rfl (fun D1 h1 => ?_)
          refine sd_aload_n dRU_gather_121 rfl rfl ?_
          refine sd_iload_n dRU_gather_122 rfl rfl ?_
          refine fx_cV 5 sR_RU [.int ((-1))] [] dRU_gather_123 kRU_58 rfl rfl mRU_has_v (c_RU_has (b := 0) (n := L.length) (by omega) (by rw [h1.2.2.1 _ _ (by omega)]; exact hT.2.1) (by omega) (by constructor; intro e; cases e; intro e; exact absurd e (nn_lt_neg (by omega)))) (by decide) (Nat.le_refl _) (Nat.le_refl _) (Nat.le_of_ble_eq_true rfl) rfl ?_
          refine nn_if_eq 143 dRU_gather_126 (by decide) (by decide) (fun _ => ?_) (fun c => absurd c (by decide))
          exact sd_vret dRU_gather_143 rfl (Nat.le_refl _) (Nat.le_refl _) ⟨rfl, rfl, _, rfl, by simpa only [ga_1, Option.map_some, Option.getD_some, List.getElem?_eq_getElem a0] using h1.1, h1.2⟩
      ·
        omega
    ·
      omega
  · skip
    have a0 := hp a rfl
    obtain ⟨a1, a2, a3, -⟩ := dk_th_so hT (List.getElem?_eq_getElem a0)
    have b0 := hq b rfl
    obtain ⟨b1, b2, b3, -⟩ := dk_th_so hT (List.getElem?_eq_getElem b0)
    refine sd_aload_n dRU_gather_0 rfl rfl ?_
    refine fx_getr 5 1 (308) dRU_gather_1 fRU_11 rfl rfl ?_
    refine sd_aload_n dRU_gather_4 rfl rfl ?_
    refine fx_getiv (v := (nI (L.length))) 5 2 dRU_gather_5 fRU_22 rfl rfl (hT.2.1) ?_
    refine fx_aald (L.length) dRU_gather_8 rfl rfl rfl (by omega) (by decide) ?_
    refine fx_getr 9 0 (309 + 3 * (L.length) + 1) dRU_gather_9 fRU_40 (dk_th (by omega)) rfl ?_
    refine sd_astore dRU_gather_12 (by decide) ?_
    refine sd_iload_n dRU_gather_14 rfl rfl ?_
    refine sd_iconst (v := nI 1) dRU_gather_15 (by decide) ?_
    refine nn_icmp_ne 32 dRU_gather_16 (by decide) (by omega) (by omega) (fun c16 => ?_) (fun c16 => ?_)
    ·
      refine sd_iload_n dRU_gather_32 rfl rfl ?_
      refine sd_bipush (v := nI 7) dRU_gather_33 (by decide) ?_
      refine nn_icmp_ne 93 dRU_gather_35 (by decide) (by omega) (by omega) (fun c35 => ?_) (fun c35 => ?_)
      ·
        refine sd_iload_n dRU_gather_93 rfl rfl ?_
        refine sd_bipush (v := nI 8) dRU_gather_94 (by decide) ?_
        refine nn_icmp_eq 143 dRU_gather_96 (by decide) (by omega) (by omega) (fun c96 => ?_) (fun c96 => ?_)
        ·
          omega
        ·
          refine sd_aload_n dRU_gather_99 rfl rfl ?_
          refine sd_iload_n dRU_gather_100 rfl rfl ?_
          refine fx_cV 5 sR_RU [.int (nI (a))] [] dRU_gather_101 kRU_58 rfl rfl mRU_has_v (c_RU_has (b := 1) (n := L.length) (by omega) hT.2.1 (by omega) (by simp only [true_iff]; exact ⟨a, a0, rfl⟩)) (by decide) (Nat.le_refl _) (Nat.le_refl _) (Nat.le_of_ble_eq_true rfl) rfl ?_
          refine nn_if_eq 121 dRU_gather_104 (by decide) (by decide) (fun c => absurd c (by decide)) (fun _ => ?_)
          refine sd_aload dRU_gather_107 rfl ?_
          refine sd_aload_n dRU_gather_109 rfl rfl ?_
          refine fx_getr 5 1 (308) dRU_gather_110 fRU_11 rfl rfl ?_
          refine sd_iload_n dRU_gather_113 rfl rfl ?_
          refine fx_aald (a) dRU_gather_114 rfl rfl rfl (by omega) (by decide) ?_
          refine fx_getr 9 0 (309 + 3 * (a) + 1) dRU_gather_115 fRU_40 (dk_th (by omega)) rfl ?_
          refine fx_cP 6 sR_ST [.ref (o + (309 + 3 * (a) + 1))] [] dRU_gather_118 kRU_224 rfl (dk_ths (p := L.length) (by omega)).1 mST_assumeThoseOf_v (c_ST_assumeThoseOf hB (dk_ths (by omega)) (dk_ths (by omega)) (by omega) hs a1) (by decide) (Nat.le_refl _) (Nat.le_refl _) (Nat.le_of_ble_eq_true rfl) rfl (fun D1 h1 => ?_)
          refine sd_aload_n dRU_gather_121 rfl rfl ?_
          refine sd_iload_n dRU_gather_122 rfl rfl ?_
          refine fx_cV 5 sR_RU [.int (nI (b))] [] dRU_gather_123 kRU_58 rfl rfl mRU_has_v (c_RU_has (b := 1) (n := L.length) (by omega) (by rw [h1.2.2.1 _ _ (by omega)]; exact hT.2.1) (by omega) (by simp only [true_iff]; exact ⟨b, b0, rfl⟩)) (by decide) (Nat.le_refl _) (Nat.le_refl _) (Nat.le_of_ble_eq_true rfl) rfl ?_
          refine nn_if_eq 143 dRU_gather_126 (by decide) (by decide) (fun c => absurd c (by decide)) (fun _ => ?_)
          refine sd_aload dRU_gather_129 rfl ?_
          refine sd_aload_n dRU_gather_131 rfl rfl ?_
          refine fx_getr 5 1 (308) dRU_gather_132 fRU_11 rfl rfl ?_
          refine sd_iload_n dRU_gather_135 rfl rfl ?_
          refine fx_aald (b) dRU_gather_136 rfl rfl rfl (by omega) (by decide) ?_
          refine fx_getr 9 0 (309 + 3 * (b) + 1) dRU_gather_137 fRU_40 (dk_th (by omega)) rfl ?_
          refine fx_cP 6 sR_ST [.ref (o + (309 + 3 * (b) + 1))] [] dRU_gather_140 kRU_224 rfl (dk_ths (p := L.length) (by omega)).1 mST_assumeThoseOf_v (c_ST_assumeThoseOf hB (dk_ths (by omega)) (dk_ths (by omega)) (by omega) h1.1 (so_r_f h1.2 (by omega) b1)) (by decide) (Nat.le_refl _) (Nat.le_refl _) (Nat.le_of_ble_eq_true rfl) rfl (fun D2 h2 => ?_)
          exact sd_vret dRU_gather_143 rfl (Nat.le_refl _) (Nat.le_refl _) ⟨rfl, rfl, _, rfl, by simpa only [ga_1, Option.map_some, Option.getD_some, List.getElem?_eq_getElem a0, List.getElem?_eq_getElem b0] using h2.1, h1.2.tr h2.2⟩
      ·
        omega
    ·
      omega
/-- the class keeps rows one behind another: the terms, their numbers -/
def ku_i (T : List tl_T) (L : List Nat) : List tl_T → List tl_T × List Nat
  | [] => (T, L)
  | l :: ls => if l.length ≤ 24 then ku_i (tl_ku T l) (ls_h L (tl_kp T l)) ls else ku_i T so_long ls
theorem tl_ku_pre (T : List tl_T) (l : tl_T) : ∃ X, tl_ku T l = T ++ X ∧ X.length ≤ 1 := by
  unfold tl_ku
  cases T.idxOf? l with
  | none => exact ⟨[l], rfl, by simp⟩
  | some k => exact ⟨[], by simp, by simp⟩
theorem ku_i_pre : ∀ (ls T : List tl_T) (L : List Nat), ∃ X, (ku_i T L ls).1 = T ++ X ∧ X.length ≤ ls.length
  | [], T, L => ⟨[], by simp [ku_i], by simp⟩
  | l :: ls, T, L => by
    unfold ku_i
    split
    · obtain ⟨X, h1, h2⟩ := tl_ku_pre T l
      obtain ⟨Y, h3, h4⟩ := ku_i_pre ls (tl_ku T l) (ls_h L (tl_kp T l))
      exact ⟨X ++ Y, by rw [h3, h1, List.append_assoc], by simp; omega⟩
    · obtain ⟨Y, h3, h4⟩ := ku_i_pre ls T so_long
      exact ⟨Y, h3, by simp; omega⟩
theorem ku_i_long : ∀ (ls T : List tl_T) (L : List Nat), 6 < L.length → 6 < (ku_i T L ls).2.length
  | [], T, L, h => h
  | l :: ls, T, L, h => by
    unfold ku_i
    split
    · exact ku_i_long ls _ _ (Nat.lt_of_lt_of_le h (ls_h_ge _ _))
    · exact ku_i_long ls _ _ (by decide)
theorem ku_i_big : ∀ (ls T : List tl_T) (L : List Nat), (∃ l ∈ ls, 24 < l.length) → 6 < (ku_i T L ls).2.length
  | [], T, L, h => by obtain ⟨l, h, -⟩ := h; cases h
  | l :: ls, T, L, h => by
    unfold ku_i
    split
    · next h24 =>
      obtain ⟨m, hm, hl⟩ := h
      rcases List.mem_cons.mp hm with rfl | hm
      · omega
      · exact ku_i_big ls _ _ ⟨m, hm, hl⟩
    · exact ku_i_long ls _ _ (by decide)
theorem tl_kp_lt64 {T : List tl_T} {l : tl_T} (hT : T.length ≤ 64) (h : tl_kp T l < 64) : tl_ku T l = tl_kt T l ∧ (tl_kt T l).length ≤ 64 := by
  unfold tl_kp at h
  unfold tl_ku tl_kt
  cases e : T.idxOf? l with
  | none =>
    simp only [e] at h
    have : ¬ T.length = 64 := by omega
    simp only [this, if_false]
    exact ⟨trivial, by simp; omega⟩
  | some k => exact ⟨rfl, hT⟩
theorem tl_kp_64 {T : List tl_T} {l : tl_T} (hT : T.length ≤ 64) (h : ¬ tl_kp T l < 64) : (tl_ku T l).length = 65 := by
  unfold tl_kp at h
  unfold tl_ku
  cases e : T.idxOf? l with
  | none =>
    simp only [e] at h
    simp
    omega
  | some k =>
    simp only [e] at h
    have := List.idxOf?_eq_some_iff.mp e
    obtain ⟨q, -⟩ := this
    omega
theorem ku_i_ok : ∀ (ls T : List tl_T) (L : List Nat), (∀ l ∈ ls, l.length ≤ 24) → T.length ≤ 64 → tl_full T ls = false → ku_i T L ls = tl_keeps T L ls ∧ (tl_keeps T L ls).1.length ≤ 64
  | [], T, L, _, hT, _ => ⟨rfl, hT⟩
  | l :: ls, T, L, h, hT, hf => by
    simp only [tl_full, Bool.or_eq_false_iff, Bool.not_eq_false', decide_eq_true_eq] at hf
    obtain ⟨e1, e2⟩ := tl_kp_lt64 hT hf.1
    unfold ku_i tl_keeps
    rw [if_pos (h l (List.mem_cons_self ..)), if_pos hf.1, e1]
    exact ku_i_ok ls _ _ (fun m hm => h m (List.mem_cons_of_mem _ hm)) e2 hf.2
theorem ku_i_full : ∀ (ls T : List tl_T) (L : List Nat), (∀ l ∈ ls, l.length ≤ 24) → T.length ≤ 64 → tl_full T ls = true → 64 < (ku_i T L ls).1.length
  | [], T, L, _, hT, hf => by cases hf
  | l :: ls, T, L, h, hT, hf => by
    unfold ku_i
    rw [if_pos (h l (List.mem_cons_self ..))]
    by_cases h1 : tl_kp T l < 64
    · obtain ⟨e1, e2⟩ := tl_kp_lt64 hT h1
      simp only [tl_full, h1, decide_true, Bool.not_true, Bool.false_or] at hf
      rw [e1]
      exact ku_i_full ls _ _ (fun m hm => h m (List.mem_cons_of_mem _ hm)) e2 hf
    · obtain ⟨X, e, -⟩ := ku_i_pre ls (tl_ku T l) (ls_h L (tl_kp T l))
      rw [e, List.length_append, tl_kp_64 hT h1]
      omega
