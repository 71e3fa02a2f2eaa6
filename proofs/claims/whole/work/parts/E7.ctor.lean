/-! ===== constructors ===== -/
section BJ
variable {G : sd_G} {M : sd_M} {d mc ms : Nat} {Q : sd_Q} {pc : Nat} {al : List (Nat × Value)} {st : List Value} {h : sd_H} {nx k n : Nat} {S : fx_S} {o : Nat} {D : fx_D}
theorem bi_call {b ci i2 i3 d' mc' ms' : Nat} {fs : List Value} {F : va_E} {M' : sd_M} (av : List Value) (x y j : Nat) (C : FieldType) (hd2 : decode M.2.1 pc = .ok (.invokespecial i2, 3)) (hd3 : decode M.2.1 (pc + 3) = .ok (.putfield i3, 3)) (hml : sd_ml M.1.cls i2 M' av.length) (hi' : M'.1.name = "<init>" ∧ M'.2.2.2 = none) (hst : Cond.instanceMethod M'.1 ∈ sd_tbl)
    (hct : ∀ h1 : sd_H, h1 (o + x) = some F → sd_Ct G M' d' mc' ms' (.ref (o + x) :: av) h1 (o + (x + 1)) (sd_is none (pf G.1.2 S o D h1 x y) (o + y)))
    (hl : bi_fin M.1.cls i3 ci j) (hi : M.1.name = "<init>") (hty : sd_ty ci j = C) (hnr : narrow C (.ref (o + x)) = .ref (o + x)) (hf : fits C (.ref (o + x)) = true) (hx : b < x) (hy : x < y) (hj : j < fs.length) (hB : G.2.1 ≤ o) (hd' : d' + 1 ≤ d) (hk : k + mc' ≤ mc) (hn : n + ms' ≤ ms) (hs : st = av.reverse ++ [.ref (o + x), .ref (o + x), .ref (o + b)])
    (kk : sd_W G M d mc ms Q (pc + 3 + 3) al [] (sd_up (pf G.1.2 S o D h (b + 1) y) (o + b) (.inr (ci, fs.set j (.ref (o + x))))) (o + y) (k + mc') (n + ms')) : sd_W G M d mc ms Q pc al st (sd_up (sd_up (pf G.1.2 S o D h (b + 1) x) (o + b) (.inr (ci, fs))) (o + x) F) (o + (x + 1)) k n := by
  refine sd_callI av [.ref (o + x), .ref (o + b)] hd2 hml hi' hst (hct _ sd_up_s) hd' hk hn (by simp [Value.category]) hs ?_
  intro r h' nx' hq
  obtain ⟨rfl, rfl, rfl⟩ := hq
  refine sd_putF ci j C hd3 hl hi hty hnr hf (by rw [pf_out (by omega), sd_up_n (by omega), sd_up_s]) hj (by omega) ?_
  rw [bi_ob hx hy]
  exact kk
end BJ
theorem dk_in {x : Nat} (h1 : 300 ≤ x) (h2 : x < 305) : dk_S x = some (.inr (.inl 242)) := by
  unfold dk_S
  rw [if_neg (by omega), if_neg (by omega), if_neg (by omega), if_neg (by omega), if_neg (by omega), if_neg (by omega), if_neg (by omega), if_neg (by omega), if_pos (by omega)]
theorem dST_init_0 : decode prog_7_method_1_code 0 = .ok (.aload_n 0, 1) := by decide +kernel
theorem dST_init_1 : decode prog_7_method_1_code 1 = .ok (.invokespecial 3, 3) := by decide +kernel
theorem dST_init_4 : decode prog_7_method_1_code 4 = .ok (.aload_n 0, 1) := by decide +kernel
theorem dST_init_5 : decode prog_7_method_1_code 5 = .ok (.bipush (6), 2) := by decide +kernel
theorem dST_init_7 : decode prog_7_method_1_code 7 = .ok (.newarray .int, 2) := by decide +kernel
theorem dST_init_9 : decode prog_7_method_1_code 9 = .ok (.putfield 9, 3) := by decide +kernel
theorem dST_init_12 : decode prog_7_method_1_code 12 = .ok (.return_, 1) := by decide +kernel
theorem c_ST_init {G : sd_G} {o : Nat} {F : Nat → Int32} {h : sd_H} {x : Nat} (hB : G.2.1 ≤ o) (hs : dk_so x) (h2 : 2 < x) (hc : h (o + x) = some (.inr (6, fr_ST))) : sd_Ct G mST_init 1 1 6 [.ref (o + x)] h (o + (x + 1)) (sd_is none (pf G.1.2 dk_S o (zD 2 F) h x (x + 1 + 1)) (o + (x + 1 + 1))) := by
  refine sd_Ct_of (by decide) (Nat.le_of_ble_eq_true rfl) ?_
  refine sd_eq rfl rfl rfl (bi_0 (A := G.1.2) (S := dk_S) (D := zD 2 F) hc) rfl rfl rfl ?_
  refine sd_aload_n dST_init_0 rfl rfl ?_
  refine sd_oinit dST_init_1 OST (by decide) (by decide) ?_
  refine sd_aload_n dST_init_4 rfl rfl ?_
  refine sd_bipush (v := nI 6) dST_init_5 (by decide) ?_
  refine bi_arr (x + 1) 6 0 dST_init_7 dST_init_9 FST_9 rfl rfl (by omega) hs.2 (zD_n (by omega)) (by decide) (Nat.le_of_ble_eq_true rfl) hB (by omega) (by omega) ?_
  exact sd_vret dST_init_12 rfl (by decide) (by decide) ⟨rfl, bi_end (by omega) hs.1 rfl, rfl⟩
theorem dTM_init_0 : decode prog_8_method_1_code 0 = .ok (.aload_n 0, 1) := by decide +kernel
theorem dTM_init_1 : decode prog_8_method_1_code 1 = .ok (.invokespecial 3, 3) := by decide +kernel
theorem dTM_init_4 : decode prog_8_method_1_code 4 = .ok (.aload_n 0, 1) := by decide +kernel
theorem dTM_init_5 : decode prog_8_method_1_code 5 = .ok (.bipush (24), 2) := by decide +kernel
theorem dTM_init_7 : decode prog_8_method_1_code 7 = .ok (.newarray .int, 2) := by decide +kernel
theorem dTM_init_9 : decode prog_8_method_1_code 9 = .ok (.putfield 9, 3) := by decide +kernel
theorem dTM_init_12 : decode prog_8_method_1_code 12 = .ok (.aload_n 0, 1) := by decide +kernel
theorem dTM_init_13 : decode prog_8_method_1_code 13 = .ok (.bipush (24), 2) := by decide +kernel
theorem dTM_init_15 : decode prog_8_method_1_code 15 = .ok (.newarray .int, 2) := by decide +kernel
theorem dTM_init_17 : decode prog_8_method_1_code 17 = .ok (.putfield 15, 3) := by decide +kernel
theorem dTM_init_20 : decode prog_8_method_1_code 20 = .ok (.aload_n 0, 1) := by decide +kernel
theorem dTM_init_21 : decode prog_8_method_1_code 21 = .ok (.bipush (24), 2) := by decide +kernel
theorem dTM_init_23 : decode prog_8_method_1_code 23 = .ok (.newarray .int, 2) := by decide +kernel
theorem dTM_init_25 : decode prog_8_method_1_code 25 = .ok (.putfield 18, 3) := by decide +kernel
theorem dTM_init_28 : decode prog_8_method_1_code 28 = .ok (.return_, 1) := by decide +kernel
theorem c_TM_init {G : sd_G} {o : Nat} {F : Nat → Int32} {h : sd_H} {r : Nat} (hB : G.2.1 ≤ o) (hr : r < 73) (hc : h (o + tmo r) = some (.inr (7, fr_TM))) : sd_Ct G mTM_init 1 3 72 [.ref (o + tmo r)] h (o + (tmo r + 1)) (sd_is none (pf G.1.2 dk_S o (zD 2 F) h (tmo r) (tmo r + 1 + 1 + 1 + 1)) (o + (tmo r + 1 + 1 + 1 + 1))) := by
  have ht : 4 ≤ tmo r := by unfold tmo; omega
  refine sd_Ct_of (by decide) (Nat.le_of_ble_eq_true rfl) ?_
  refine sd_eq rfl rfl rfl (bi_0 (A := G.1.2) (S := dk_S) (D := zD 2 F) hc) rfl rfl rfl ?_
  refine sd_aload_n dTM_init_0 rfl rfl ?_
  refine sd_oinit dTM_init_1 OTM (by decide) (by decide) ?_
  refine sd_aload_n dTM_init_4 rfl rfl ?_
  refine sd_bipush (v := nI 24) dTM_init_5 (by decide) ?_
  refine bi_arr (tmo r + 1) 24 0 dTM_init_7 dTM_init_9 FTM_9 rfl rfl (by omega) (dk_tm1 hr) (zD_n (by omega)) (by decide) (Nat.le_of_ble_eq_true rfl) hB (by omega) (by omega) ?_
  refine sd_aload_n dTM_init_12 rfl rfl ?_
  refine sd_bipush (v := nI 24) dTM_init_13 (by decide) ?_
  refine bi_arr (tmo r + 2) 24 1 dTM_init_15 dTM_init_17 FTM_15 rfl rfl (by omega) (dk_tm2 hr) (zD_n (by omega)) (by decide) (Nat.le_of_ble_eq_true rfl) hB (by omega) (by omega) ?_
  refine sd_aload_n dTM_init_20 rfl rfl ?_
  refine sd_bipush (v := nI 24) dTM_init_21 (by decide) ?_
  refine bi_arr (tmo r + 3) 24 2 dTM_init_23 dTM_init_25 FTM_18 rfl rfl (by omega) (dk_tm3 hr) (zD_n (by omega)) (by decide) (Nat.le_of_ble_eq_true rfl) hB (by omega) (by omega) ?_
  exact sd_vret dTM_init_28 rfl (by decide) (by decide) ⟨rfl, bi_end (by omega) (dk_tm hr) rfl, rfl⟩
theorem dDR_init_0 : decode prog_2_method_1_code 0 = .ok (.aload_n 0, 1) := by decide +kernel
theorem dDR_init_1 : decode prog_2_method_1_code 1 = .ok (.invokespecial 3, 3) := by decide +kernel
theorem dDR_init_4 : decode prog_2_method_1_code 4 = .ok (.aload_n 0, 1) := by decide +kernel
theorem dDR_init_5 : decode prog_2_method_1_code 5 = .ok (.bipush (24), 2) := by decide +kernel
theorem dDR_init_7 : decode prog_2_method_1_code 7 = .ok (.newarray .int, 2) := by decide +kernel
theorem dDR_init_9 : decode prog_2_method_1_code 9 = .ok (.putfield 9, 3) := by decide +kernel
theorem dDR_init_12 : decode prog_2_method_1_code 12 = .ok (.aload_n 0, 1) := by decide +kernel
theorem dDR_init_13 : decode prog_2_method_1_code 13 = .ok (.bipush (24), 2) := by decide +kernel
theorem dDR_init_15 : decode prog_2_method_1_code 15 = .ok (.newarray .int, 2) := by decide +kernel
theorem dDR_init_17 : decode prog_2_method_1_code 17 = .ok (.putfield 15, 3) := by decide +kernel
theorem dDR_init_20 : decode prog_2_method_1_code 20 = .ok (.return_, 1) := by decide +kernel
theorem c_DR_init {G : sd_G} {o : Nat} {F : Nat → Int32} {h : sd_H} (hB : G.2.1 ≤ o) (hc : h (o + 296) = some (.inr (1, fr_DR))) : sd_Ct G mDR_init 1 2 48 [.ref (o + 296)] h (o + (296 + 1)) (sd_is none (pf G.1.2 dk_S o (zD 2 F) h 296 299) (o + 299)) := by
  refine sd_Ct_of (by decide) (Nat.le_of_ble_eq_true rfl) ?_
  refine sd_eq rfl rfl rfl (bi_0 (A := G.1.2) (S := dk_S) (D := zD 2 F) hc) rfl rfl rfl ?_
  refine sd_aload_n dDR_init_0 rfl rfl ?_
  refine sd_oinit dDR_init_1 ODR (by decide) (by decide) ?_
  refine sd_aload_n dDR_init_4 rfl rfl ?_
  refine sd_bipush (v := nI 24) dDR_init_5 (by decide) ?_
  refine bi_arr 297 24 0 dDR_init_7 dDR_init_9 FDR_9 rfl rfl (by omega) rfl (zD_n (by omega)) (by decide) (Nat.le_of_ble_eq_true rfl) hB (by omega) (by omega) ?_
  refine sd_aload_n dDR_init_12 rfl rfl ?_
  refine sd_bipush (v := nI 24) dDR_init_13 (by decide) ?_
  refine bi_arr 298 24 1 dDR_init_15 dDR_init_17 FDR_15 rfl rfl (by omega) rfl (zD_n (by omega)) (by decide) (Nat.le_of_ble_eq_true rfl) hB (by omega) (by omega) ?_
  exact sd_vret dDR_init_20 rfl (by decide) (by decide) ⟨rfl, bi_end (b := 296) (x := 299) (by omega) rfl rfl, rfl⟩
theorem dIN_init_0 : decode prog_5_method_1_code 0 = .ok (.aload_n 0, 1) := by decide +kernel
theorem dIN_init_1 : decode prog_5_method_1_code 1 = .ok (.invokespecial 5, 3) := by decide +kernel
theorem dIN_init_4 : decode prog_5_method_1_code 4 = .ok (.aload_n 0, 1) := by decide +kernel
theorem dIN_init_5 : decode prog_5_method_1_code 5 = .ok (.sipush (242), 3) := by decide +kernel
theorem dIN_init_8 : decode prog_5_method_1_code 8 = .ok (.newarray .int, 2) := by decide +kernel
theorem dIN_init_10 : decode prog_5_method_1_code 10 = .ok (.putfield 11, 3) := by decide +kernel
theorem dIN_init_13 : decode prog_5_method_1_code 13 = .ok (.aload_n 0, 1) := by decide +kernel
theorem dIN_init_14 : decode prog_5_method_1_code 14 = .ok (.sipush (242), 3) := by decide +kernel
theorem dIN_init_17 : decode prog_5_method_1_code 17 = .ok (.newarray .int, 2) := by decide +kernel
theorem dIN_init_19 : decode prog_5_method_1_code 19 = .ok (.putfield 15, 3) := by decide +kernel
theorem dIN_init_22 : decode prog_5_method_1_code 22 = .ok (.aload_n 0, 1) := by decide +kernel
theorem dIN_init_23 : decode prog_5_method_1_code 23 = .ok (.sipush (242), 3) := by decide +kernel
theorem dIN_init_26 : decode prog_5_method_1_code 26 = .ok (.newarray .int, 2) := by decide +kernel
theorem dIN_init_28 : decode prog_5_method_1_code 28 = .ok (.putfield 18, 3) := by decide +kernel
theorem dIN_init_31 : decode prog_5_method_1_code 31 = .ok (.aload_n 0, 1) := by decide +kernel
theorem dIN_init_32 : decode prog_5_method_1_code 32 = .ok (.sipush (242), 3) := by decide +kernel
theorem dIN_init_35 : decode prog_5_method_1_code 35 = .ok (.newarray .int, 2) := by decide +kernel
theorem dIN_init_37 : decode prog_5_method_1_code 37 = .ok (.putfield 21, 3) := by decide +kernel
theorem dIN_init_40 : decode prog_5_method_1_code 40 = .ok (.aload_n 0, 1) := by decide +kernel
theorem dIN_init_41 : decode prog_5_method_1_code 41 = .ok (.sipush (242), 3) := by decide +kernel
theorem dIN_init_44 : decode prog_5_method_1_code 44 = .ok (.newarray .int, 2) := by decide +kernel
theorem dIN_init_46 : decode prog_5_method_1_code 46 = .ok (.putfield 24, 3) := by decide +kernel
theorem dIN_init_49 : decode prog_5_method_1_code 49 = .ok (.aload_n 0, 1) := by decide +kernel
theorem dIN_init_50 : decode prog_5_method_1_code 50 = .ok (.sipush (432), 3) := by decide +kernel
theorem dIN_init_53 : decode prog_5_method_1_code 53 = .ok (.newarray .int, 2) := by decide +kernel
theorem dIN_init_55 : decode prog_5_method_1_code 55 = .ok (.putfield 27, 3) := by decide +kernel
theorem dIN_init_58 : decode prog_5_method_1_code 58 = .ok (.aload_n 0, 1) := by decide +kernel
theorem dIN_init_59 : decode prog_5_method_1_code 59 = .ok (.sipush (432), 3) := by decide +kernel
theorem dIN_init_62 : decode prog_5_method_1_code 62 = .ok (.newarray .int, 2) := by decide +kernel
theorem dIN_init_64 : decode prog_5_method_1_code 64 = .ok (.putfield 30, 3) := by decide +kernel
theorem dIN_init_67 : decode prog_5_method_1_code 67 = .ok (.return_, 1) := by decide +kernel
theorem c_IN_init {G : sd_G} {o : Nat} {F : Nat → Int32} {h : sd_H} (hB : G.2.1 ≤ o) (hc : h (o + 299) = some (.inr (4, fr_IN))) : sd_Ct G mIN_init 1 7 2074 [.ref (o + 299)] h (o + (299 + 1)) (sd_is none (pf G.1.2 dk_S o (zD 2 F) h 299 307) (o + 307)) := by
  refine sd_Ct_of (by decide) (Nat.le_of_ble_eq_true rfl) ?_
  refine sd_eq rfl rfl rfl (bi_0 (A := G.1.2) (S := dk_S) (D := zD 2 F) hc) rfl rfl rfl ?_
  refine sd_aload_n dIN_init_0 rfl rfl ?_
  refine sd_oinit dIN_init_1 OIN (by decide) (by decide) ?_
  refine sd_aload_n dIN_init_4 rfl rfl ?_
  refine sd_sipush (v := nI 242) dIN_init_5 (by decide) ?_
  refine bi_arr 300 242 0 dIN_init_8 dIN_init_10 FIN_11 rfl rfl (by omega) rfl (zD_n (by omega)) (by decide) (Nat.le_of_ble_eq_true rfl) hB (by omega) (by omega) ?_
  refine sd_aload_n dIN_init_13 rfl rfl ?_
  refine sd_sipush (v := nI 242) dIN_init_14 (by decide) ?_
  refine bi_arr 301 242 1 dIN_init_17 dIN_init_19 FIN_15 rfl rfl (by omega) rfl (zD_n (by omega)) (by decide) (Nat.le_of_ble_eq_true rfl) hB (by omega) (by omega) ?_
  refine sd_aload_n dIN_init_22 rfl rfl ?_
  refine sd_sipush (v := nI 242) dIN_init_23 (by decide) ?_
  refine bi_arr 302 242 2 dIN_init_26 dIN_init_28 FIN_18 rfl rfl (by omega) rfl (zD_n (by omega)) (by decide) (Nat.le_of_ble_eq_true rfl) hB (by omega) (by omega) ?_
  refine sd_aload_n dIN_init_31 rfl rfl ?_
  refine sd_sipush (v := nI 242) dIN_init_32 (by decide) ?_
  refine bi_arr 303 242 3 dIN_init_35 dIN_init_37 FIN_21 rfl rfl (by omega) rfl (zD_n (by omega)) (by decide) (Nat.le_of_ble_eq_true rfl) hB (by omega) (by omega) ?_
  refine sd_aload_n dIN_init_40 rfl rfl ?_
  refine sd_sipush (v := nI 242) dIN_init_41 (by decide) ?_
  refine bi_arr 304 242 4 dIN_init_44 dIN_init_46 FIN_24 rfl rfl (by omega) rfl (zD_n (by omega)) (by decide) (Nat.le_of_ble_eq_true rfl) hB (by omega) (by omega) ?_
  refine sd_aload_n dIN_init_49 rfl rfl ?_
  refine sd_sipush (v := nI 432) dIN_init_50 (by decide) ?_
  refine bi_arr 305 432 5 dIN_init_53 dIN_init_55 FIN_27 rfl rfl (by omega) rfl (zD_n (by omega)) (by decide) (Nat.le_of_ble_eq_true rfl) hB (by omega) (by omega) ?_
  refine sd_aload_n dIN_init_58 rfl rfl ?_
  refine sd_sipush (v := nI 432) dIN_init_59 (by decide) ?_
  refine bi_arr 306 432 6 dIN_init_62 dIN_init_64 FIN_30 rfl rfl (by omega) rfl (zD_n (by omega)) (by decide) (Nat.le_of_ble_eq_true rfl) hB (by omega) (by omega) ?_
  exact sd_vret dIN_init_67 rfl (by decide) (by decide) ⟨rfl, bi_end (b := 299) (x := 307) (by omega) rfl rfl, rfl⟩
theorem dTH_init_0 : decode prog_10_method_1_code 0 = .ok (.aload_n 0, 1) := by decide +kernel
theorem dTH_init_1 : decode prog_10_method_1_code 1 = .ok (.invokespecial 1, 3) := by decide +kernel
theorem dTH_init_4 : decode prog_10_method_1_code 4 = .ok (.aload_n 0, 1) := by decide +kernel
theorem dTH_init_5 : decode prog_10_method_1_code 5 = .ok (.new 7, 3) := by decide +kernel
theorem dTH_init_8 : decode prog_10_method_1_code 8 = .ok (.dup, 1) := by decide +kernel
theorem dTH_init_9 : decode prog_10_method_1_code 9 = .ok (.invokespecial 9, 3) := by decide +kernel
theorem dTH_init_12 : decode prog_10_method_1_code 12 = .ok (.putfield 10, 3) := by decide +kernel
theorem dTH_init_15 : decode prog_10_method_1_code 15 = .ok (.return_, 1) := by decide +kernel
theorem c_TH_init {G : sd_G} {o : Nat} {F : Nat → Int32} {h : sd_H} {p : Nat} (hB : G.2.1 ≤ o) (hp : p < 41) (hc : h (o + (309 + 3 * p)) = some (.inr (9, fr_TH))) : sd_Ct G mTH_init 2 2 10 [.ref (o + (309 + 3 * p))] h (o + (309 + 3 * p + 1)) (sd_is none (pf G.1.2 dk_S o (zD 2 F) h (309 + 3 * p) (309 + 3 * p + 1 + 1 + 1)) (o + (309 + 3 * p + 1 + 1 + 1))) := by
  have hx : 300 ≤ 309 + 3 * p := by omega
  have hs1 := dk_th hp
  have hs2 := dk_ths hp
  generalize 309 + 3 * p = x at hx hs1 hs2 hc
  refine sd_Ct_of (by decide) (Nat.le_of_ble_eq_true rfl) ?_
  refine sd_eq rfl rfl rfl (bi_0 (A := G.1.2) (S := dk_S) (D := zD 2 F) hc) rfl rfl rfl ?_
  refine sd_aload_n dTH_init_0 rfl rfl ?_
  refine sd_oinit dTH_init_1 OTH (by decide) (by decide) ?_
  refine sd_aload_n dTH_init_4 rfl rfl ?_
  refine sd_newo 6 sR_ST dTH_init_5 rfl CTH_7 fr_ST_ok (by decide) (by decide) ?_
  refine sd_dup dTH_init_8 rfl ?_
  refine bi_call [] (x + 1) (x + 1 + 1 + 1) 0 (.object "SequentDesk$Statement") dTH_init_9 dTH_init_12 kTH_9 ⟨rfl, rfl⟩ mST_init_i (fun h1 hh => c_ST_init hB hs2 (by omega) hh) FTH_10 rfl rfl rfl rfl (by omega) (by omega) (by decide) hB (by decide) (by decide) (by decide) rfl ?_
  exact sd_vret dTH_init_15 rfl (by decide) (by decide) ⟨rfl, bi_end (by omega) hs1 rfl, rfl⟩
theorem dGL_init_0 : decode prog_3_method_1_code 0 = .ok (.aload_n 0, 1) := by decide +kernel
theorem dGL_init_1 : decode prog_3_method_1_code 1 = .ok (.invokespecial 1, 3) := by decide +kernel
theorem dGL_init_4 : decode prog_3_method_1_code 4 = .ok (.aload_n 0, 1) := by decide +kernel
theorem dGL_init_5 : decode prog_3_method_1_code 5 = .ok (.new 7, 3) := by decide +kernel
theorem dGL_init_8 : decode prog_3_method_1_code 8 = .ok (.dup, 1) := by decide +kernel
theorem dGL_init_9 : decode prog_3_method_1_code 9 = .ok (.invokespecial 9, 3) := by decide +kernel
theorem dGL_init_12 : decode prog_3_method_1_code 12 = .ok (.putfield 10, 3) := by decide +kernel
theorem dGL_init_15 : decode prog_3_method_1_code 15 = .ok (.return_, 1) := by decide +kernel
theorem c_GL_init {G : sd_G} {o : Nat} {F : Nat → Int32} {h : sd_H} {g : Nat} (hB : G.2.1 ≤ o) (hp : g < 32) (hc : h (o + (436 + 3 * g)) = some (.inr (2, fr_GL))) : sd_Ct G mGL_init 2 2 10 [.ref (o + (436 + 3 * g))] h (o + (436 + 3 * g + 1)) (sd_is none (pf G.1.2 dk_S o (zD 2 F) h (436 + 3 * g) (436 + 3 * g + 1 + 1 + 1)) (o + (436 + 3 * g + 1 + 1 + 1))) := by
  have hx : 300 ≤ 436 + 3 * g := by omega
  have hs1 := dk_gl hp
  have hs2 := dk_gls hp
  generalize 436 + 3 * g = x at hx hs1 hs2 hc
  refine sd_Ct_of (by decide) (Nat.le_of_ble_eq_true rfl) ?_
  refine sd_eq rfl rfl rfl (bi_0 (A := G.1.2) (S := dk_S) (D := zD 2 F) hc) rfl rfl rfl ?_
  refine sd_aload_n dGL_init_0 rfl rfl ?_
  refine sd_oinit dGL_init_1 OGL (by decide) (by decide) ?_
  refine sd_aload_n dGL_init_4 rfl rfl ?_
  refine sd_newo 6 sR_ST dGL_init_5 rfl CGL_7 fr_ST_ok (by decide) (by decide) ?_
  refine sd_dup dGL_init_8 rfl ?_
  refine bi_call [] (x + 1) (x + 1 + 1 + 1) 0 (.object "SequentDesk$Statement") dGL_init_9 dGL_init_12 kGL_9 ⟨rfl, rfl⟩ mST_init_i (fun h1 hh => c_ST_init hB hs2 (by omega) hh) FGL_10 rfl rfl rfl rfl (by omega) (by omega) (by decide) hB (by decide) (by decide) (by decide) rfl ?_
  exact sd_vret dGL_init_15 rfl (by decide) (by decide) ⟨rfl, bi_end (by omega) hs1 rfl, rfl⟩
