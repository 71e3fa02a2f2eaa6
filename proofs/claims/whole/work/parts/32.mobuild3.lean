/-! ===== the model: build, COMB and ABS ===== -/
theorem c_MO_build3 {G : sd_G} {o : Nat} {D : fx_D} {h0 : sd_H} {nx a b : Nat} {S : st_S} {w : Int32} (hB : G.2.1 ≤ o) (hR : mo_R S D) (hT : st_okT S) (hH : st_okH S) (hrw : mo_rw D []) (hov : D.2.1 0 7 = nI 0) (ha : a < (st_th S).length) (hb : b < (st_th S).length) (hEa : tl_isE (st_tm S (st_cn S a)) = true) (hEb : tl_isE (st_tm S (st_cn S b)) = true) (hF : ty_isF (tl_at (st_tm S (st_cn S a)) 1).2 = true) (hg : ∀ x ∈ (((9, 4) :: (8, (ty_to (tl_at (st_tm S (st_cn S a)) 1).2)) :: (tl_part (st_tm S (st_cn S a)) 1 ++ (tl_part (st_tm S (st_cn S b)) 1 ++ ((8, (ty_to (tl_at (st_tm S (st_cn S a)) 1).2)) :: (tl_part (st_tm S (st_cn S a)) (tl_end (st_tm S (st_cn S a)) 1) ++ tl_part (st_tm S (st_cn S b)) (tl_end (st_tm S (st_cn S b)) 1)))))) : tl_T), tl_g1 x) : sd_Ct G mMO_build 6 0 0 [.ref (o + 0), .int (nI 3), .int (nI a), .int (nI b), .int w] (fx_h G.1.2 mo_S o D h0) nx (fx_is G.1.2 mo_S o h0 nx none (bd_Q S ((9, 4) :: (8, (ty_to (tl_at (st_tm S (st_cn S a)) 1).2)) :: (tl_part (st_tm S (st_cn S a)) 1 ++ (tl_part (st_tm S (st_cn S b)) 1 ++ ((8, (ty_to (tl_at (st_tm S (st_cn S a)) 1).2)) :: (tl_part (st_tm S (st_cn S a)) (tl_end (st_tm S (st_cn S a)) 1) ++ tl_part (st_tm S (st_cn S b)) (tl_end (st_tm S (st_cn S b)) 1)))))) (ru_hyp S 3 a b))) := by
  refine sd_Ct_of (by decide) (Nat.le_of_ble_eq_true rfl) ?_
  obtain ⟨a1, a2, a3, a4, a5, a6⟩ := mo_cn hR hH ha
  obtain ⟨b1, b2, b3, b4, b5, b6⟩ := mo_cn hR hH hb
  obtain ⟨tP, m1, m2, m3⟩ := mo_tm hR a2
  obtain ⟨-, k1, k2, k3⟩ := mo_tm hR b2
  obtain ⟨l1, l2, l3⟩ := m2.two (tl_E2 hEa)
  obtain ⟨r1, r2, r3⟩ := k2.two (tl_E2 hEb)
  have hx := tl_at_some l1
  have tok := (hT _ (List.mem_of_getElem? tP) _ (List.mem_of_getElem? hx)).1
  have t25 := tok.1
  obtain ⟨rr, hrr⟩ := ty_fun_rem tok hF
  have hq := bd_w hR hrw hov mo_begin_fa (mo_begin_row (D := D) (r := 71)) hov hg
  rw [mo_adds, mo_adds, mo_adds_app, mo_adds_app, mo_adds, mo_adds_app] at hq
  have z0 := mo_begin_row (D := D) (r := 71)
  generalize hD0 : fx_ua D 3 71 (nI 0) = D0 at hq z0
  have f0 : mo_fa D D0 71 := hD0 ▸ mo_begin_fa
  have f1 := f0.tr (mo_add_fa (s := nI 9) (t := nI 4) z0.okl)
  have o1 := f1.2.2.2.2 71 (hR.2.2.1 71 (by omega) (by omega))
  generalize hD1 : mo_add D0 71 (nI 9) (nI 4) = D1 at hq f1 o1
  have f2 := f1.tr (mo_add_fa (s := nI 8) (t := nI (ty_to (tl_at (st_tm S (st_cn S a)) 1).2)) o1)
  have o2 := f2.2.2.2.2 71 (hR.2.2.1 71 (by omega) (by omega))
  generalize hD2 : mo_add D1 71 (nI 8) (nI (ty_to (tl_at (st_tm S (st_cn S a)) 1).2)) = D2 at hq f2 o2
  have f3 := f2.tr (mo_adds_fa (tl_part (st_tm S (st_cn S a)) 1) D2 o2)
  have o3 := f3.2.2.2.2 71 (hR.2.2.1 71 (by omega) (by omega))
  generalize hD3 : mo_adds D2 71 (tl_part (st_tm S (st_cn S a)) 1) = D3 at hq f3 o3
  have f4 := f3.tr (mo_adds_fa (tl_part (st_tm S (st_cn S b)) 1) D3 o3)
  have o4 := f4.2.2.2.2 71 (hR.2.2.1 71 (by omega) (by omega))
  generalize hD4 : mo_adds D3 71 (tl_part (st_tm S (st_cn S b)) 1) = D4 at hq f4 o4
  have f5 := f4.tr (mo_add_fa (s := nI 8) (t := nI (ty_to (tl_at (st_tm S (st_cn S a)) 1).2)) o4)
  have o5 := f5.2.2.2.2 71 (hR.2.2.1 71 (by omega) (by omega))
  generalize hD5 : mo_add D4 71 (nI 8) (nI (ty_to (tl_at (st_tm S (st_cn S a)) 1).2)) = D5 at hq f5 o5
  have f6 := f5.tr (mo_adds_fa (tl_part (st_tm S (st_cn S a)) (tl_end (st_tm S (st_cn S a)) 1)) D5 o5)
  have o6 := f6.2.2.2.2 71 (hR.2.2.1 71 (by omega) (by omega))
  generalize hD6 : mo_adds D5 71 (tl_part (st_tm S (st_cn S a)) (tl_end (st_tm S (st_cn S a)) 1)) = D6 at hq f6 o6
  have rw_ : ∀ {D' : fx_D}, mo_fa D D' 71 → mo_row D' (st_cn S a) (st_tm S (st_cn S a)) := fun f ↦ f.2.2.2.1 _ _ (by omega) m1
  have rq_ : ∀ {D' : fx_D}, mo_fa D D' 71 → mo_row D' (st_cn S b) (st_tm S (st_cn S b)) := fun f ↦ f.2.2.2.1 _ _ (by omega) k1
  have okA := tl_ok_drop _ 1 1 m2.1 m2.2.1 l1
  have okA2 := tl_ok_drop _ 1 _ m2.1 m2.2.1 l2
  have okB := tl_ok_drop _ 1 1 k2.1 k2.2.1 r1
  have okB2 := tl_ok_drop _ 1 _ k2.1 k2.2.1 r2
  have s0 : sd_Ct G mMO_begin 0 0 0 [.ref (o + 0), .int (nI 71)] (fx_h G.1.2 mo_S o D h0) nx (sd_is none (fx_h G.1.2 mo_S o D0 h0) nx) := hD0 ▸ c_MO_begin hB (by omega)
  have s1 : sd_Ct G mMO_add 0 0 0 [.ref (o + 0), .int (nI 71), .int (nI 9), .int (nI 4)] (fx_h G.1.2 mo_S o D0 h0) nx (sd_is none (fx_h G.1.2 mo_S o D1 h0) nx) := hD1 ▸ c_MO_add hB (by omega) z0.okl.ln.1 z0.okl.ln.2
  have s2 : sd_Ct G mMO_add 0 0 0 [.ref (o + 0), .int (nI 71), .int (nI 8), .int (nI (ty_to (tl_at (st_tm S (st_cn S a)) 1).2))] (fx_h G.1.2 mo_S o D1 h0) nx (sd_is none (fx_h G.1.2 mo_S o D2 h0) nx) := hD2 ▸ c_MO_add hB (by omega) o1.ln.1 o1.ln.2
  have s3 : sd_Ct G mMO_copy 2 0 0 [.ref (o + 0), .int (nI (st_cn S a)), .int (nI 1), .int (nI 71)] (fx_h G.1.2 mo_S o D2 h0) nx (sd_is none (fx_h G.1.2 mo_S o D3 h0) nx) := hD3 ▸ c_MO_copy hB (by omega) (by omega) (by omega) (rw_ f2) o2 (by omega) okA
  have s4 : sd_Ct G mMO_copy 2 0 0 [.ref (o + 0), .int (nI (st_cn S b)), .int (nI 1), .int (nI 71)] (fx_h G.1.2 mo_S o D3 h0) nx (sd_is none (fx_h G.1.2 mo_S o D4 h0) nx) := hD4 ▸ c_MO_copy hB (by omega) (by omega) (by omega) (rq_ f3) o3 (by omega) okB
  have s5 : sd_Ct G mMO_add 0 0 0 [.ref (o + 0), .int (nI 71), .int (nI 8), .int (nI (ty_to (tl_at (st_tm S (st_cn S a)) 1).2))] (fx_h G.1.2 mo_S o D4 h0) nx (sd_is none (fx_h G.1.2 mo_S o D5 h0) nx) := hD5 ▸ c_MO_add hB (by omega) o4.ln.1 o4.ln.2
  have s6 : sd_Ct G mMO_copy 2 0 0 [.ref (o + 0), .int (nI (st_cn S a)), .int (nI (tl_end (st_tm S (st_cn S a)) 1)), .int (nI 71)] (fx_h G.1.2 mo_S o D5 h0) nx (sd_is none (fx_h G.1.2 mo_S o D6 h0) nx) := hD6 ▸ c_MO_copy hB (by omega) (by omega) (by omega) (rw_ f5) o5 (by omega) okA2
  clear hD0 hD1 hD2 hD3 hD4 hD5 hD6
  refine sd_bipush (v := nI 71) dMO_build_0 (by decide) ?_
  refine sd_istore dMO_build_2 (by decide) ?_
  refine sd_iload_n dMO_build_4 rfl rfl ?_
  refine nn_if_eq 18 dMO_build_5 (by decide) (by decide) (fun c => absurd c (by decide)) (fun _ => ?_)
  refine sd_iload_n dMO_build_8 rfl rfl ?_
  refine sd_iconst (v := nI 1) dMO_build_9 (by decide) ?_
  refine nn_icmp_eq 18 dMO_build_10 (by decide) (by decide) (by decide) (fun c => absurd c (by decide)) (fun _ => ?_)
  refine sd_iload_n dMO_build_13 rfl rfl ?_
  refine sd_iconst (v := nI 5) dMO_build_14 (by decide) ?_
  refine nn_icmp_ne 22 dMO_build_15 (by decide) (by decide) (by decide) (fun _ => ?_) (fun c => absurd c (by decide))
  refine sd_aload_n dMO_build_22 rfl rfl ?_
  refine fx_getr 10 8 (6) dMO_build_23 fMO_25 rfl rfl ?_
  refine sd_iload_n dMO_build_26 rfl rfl ?_
  refine fx_ialdv (v := (nI (st_cn S a))) (a) dMO_build_27 rfl rfl (by omega) (by decide) (a1) ?_
  refine sd_istore dMO_build_28 (by decide) ?_
  refine sd_iload_n dMO_build_30 rfl rfl ?_
  refine sd_iconst (v := nI 2) dMO_build_31 (by decide) ?_
  refine nn_icmp_eq 52 dMO_build_32 (by decide) (by decide) (by decide) (fun c => absurd c (by decide)) (fun _ => ?_)
  refine sd_iload_n dMO_build_35 rfl rfl ?_
  refine sd_iconst (v := nI 3) dMO_build_36 (by decide) ?_
  refine nn_icmp_eq 52 dMO_build_37 (by decide) (by decide) (by decide) (fun _ => ?_) (fun c => absurd c (by decide))
  refine sd_aload_n dMO_build_52 rfl rfl ?_
  refine fx_getr 10 8 (6) dMO_build_53 fMO_25 rfl rfl ?_
  refine sd_iload_n dMO_build_56 rfl rfl ?_
  refine fx_ialdv (v := (nI (st_cn S b))) (b) dMO_build_57 rfl rfl (by omega) (by decide) (b1) ?_
  refine sd_goto 62 dMO_build_58 (by decide) ?_
  refine sd_istore dMO_build_62 (by decide) ?_
  refine sd_aload_n dMO_build_64 rfl rfl ?_
  refine sd_iload dMO_build_65 rfl ?_
  refine fx_cV 10 sR_MO [.int (nI (71))] [] dMO_build_67 kMO_151 rfl rfl mMO_begin_v (s0) (by decide) (Nat.le_refl _) (Nat.le_refl _) (Nat.le_of_ble_eq_true rfl) rfl ?_
  refine sd_iload_n dMO_build_70 rfl rfl ?_
  refine sd_tableIn (off := 95) 166 dMO_build_71 (by decide) (by decide) (by decide) (by decide) ?_
  refine sd_aload_n dMO_build_166 rfl rfl ?_
  refine sd_iload dMO_build_167 rfl ?_
  refine sd_iconst (v := nI 1) dMO_build_169 (by decide) ?_
  refine fx_cV 10 sR_MO [.int (nI (st_cn S a)), .int (nI (1))] [] dMO_build_170 kMO_134 rfl rfl mMO_typeAt_v (c_MO_typ (by omega) (rw_ f0) hx) (by decide) (Nat.le_refl _) (Nat.le_refl _) (Nat.le_of_ble_eq_true rfl) rfl ?_
  refine sd_cS [.int (nI ((tl_at (st_tm S (st_cn S a)) 1).2))] [] dMO_build_173 kMO_240 mMO_to_s (c_MO_to tok.2.1 (by omega) hrr) (by decide) (Nat.le_refl _) (Nat.le_refl _) (Nat.le_of_ble_eq_true rfl) rfl ?_
  refine sd_istore dMO_build_176 (by decide) ?_
  refine sd_aload_n dMO_build_178 rfl rfl ?_
  refine sd_iload dMO_build_179 rfl ?_
  refine sd_bipush (v := nI 9) dMO_build_181 (by decide) ?_
  refine sd_iconst (v := nI 4) dMO_build_183 (by decide) ?_
  refine fx_cV 10 sR_MO [.int (nI (71)), .int (nI (9)), .int (nI (4))] [] dMO_build_184 kMO_137 rfl rfl mMO_add_v (s1) (by decide) (Nat.le_refl _) (Nat.le_refl _) (Nat.le_of_ble_eq_true rfl) rfl ?_
  refine sd_aload_n dMO_build_187 rfl rfl ?_
  refine sd_iload dMO_build_188 rfl ?_
  refine sd_bipush (v := nI 8) dMO_build_190 (by decide) ?_
  refine sd_iload dMO_build_192 rfl ?_
  refine fx_cV 10 sR_MO [.int (nI (71)), .int (nI (8)), .int (nI ((ty_to (tl_at (st_tm S (st_cn S a)) 1).2)))] [] dMO_build_194 kMO_137 rfl rfl mMO_add_v (s2) (by decide) (Nat.le_refl _) (Nat.le_refl _) (Nat.le_of_ble_eq_true rfl) rfl ?_
  refine sd_aload_n dMO_build_197 rfl rfl ?_
  refine sd_iload dMO_build_198 rfl ?_
  refine sd_iconst (v := nI 1) dMO_build_200 (by decide) ?_
  refine sd_iload dMO_build_201 rfl ?_
  refine fx_cV 10 sR_MO [.int (nI (st_cn S a)), .int (nI (1)), .int (nI (71))] [] dMO_build_203 kMO_155 rfl rfl mMO_copy_v (s3) (by decide) (Nat.le_refl _) (Nat.le_refl _) (Nat.le_of_ble_eq_true rfl) rfl ?_
  refine sd_aload_n dMO_build_206 rfl rfl ?_
  refine sd_iload dMO_build_207 rfl ?_
  refine sd_iconst (v := nI 1) dMO_build_209 (by decide) ?_
  refine sd_iload dMO_build_210 rfl ?_
  refine fx_cV 10 sR_MO [.int (nI (st_cn S b)), .int (nI (1)), .int (nI (71))] [] dMO_build_212 kMO_155 rfl rfl mMO_copy_v (s4) (by decide) (Nat.le_refl _) (Nat.le_refl _) (Nat.le_of_ble_eq_true rfl) rfl ?_
  refine sd_aload_n dMO_build_215 rfl rfl ?_
  refine sd_iload dMO_build_216 rfl ?_
  refine sd_bipush (v := nI 8) dMO_build_218 (by decide) ?_
  refine sd_iload dMO_build_220 rfl ?_
  refine fx_cV 10 sR_MO [.int (nI (71)), .int (nI (8)), .int (nI ((ty_to (tl_at (st_tm S (st_cn S a)) 1).2)))] [] dMO_build_222 kMO_137 rfl rfl mMO_add_v (s5) (by decide) (Nat.le_refl _) (Nat.le_refl _) (Nat.le_of_ble_eq_true rfl) rfl ?_
  refine sd_aload_n dMO_build_225 rfl rfl ?_
  refine sd_iload dMO_build_226 rfl ?_
  refine sd_aload_n dMO_build_228 rfl rfl ?_
  refine sd_iload dMO_build_229 rfl ?_
  refine sd_iconst (v := nI 1) dMO_build_231 (by decide) ?_
  refine fx_cV 10 sR_MO [.int (nI (st_cn S a)), .int (nI (1))] [.int (nI (st_cn S a)), .ref (o + (0))] dMO_build_232 kMO_128 rfl rfl mMO_end_v (c_MO_end (by omega) (rw_ f5) (by omega) okA) (by decide) (Nat.le_refl _) (Nat.le_refl _) (Nat.le_of_ble_eq_true rfl) rfl ?_
  refine sd_iload dMO_build_235 rfl ?_
  refine fx_cV 10 sR_MO [.int (nI (st_cn S a)), .int (nI (tl_end (st_tm S (st_cn S a)) 1)), .int (nI (71))] [] dMO_build_237 kMO_155 rfl rfl mMO_copy_v (s6) (by decide) (Nat.le_refl _) (Nat.le_refl _) (Nat.le_of_ble_eq_true rfl) rfl ?_
  refine sd_aload_n dMO_build_240 rfl rfl ?_
  refine sd_iload dMO_build_241 rfl ?_
  refine sd_aload_n dMO_build_243 rfl rfl ?_
  refine sd_iload dMO_build_244 rfl ?_
  refine sd_iconst (v := nI 1) dMO_build_246 (by decide) ?_
  refine fx_cV 10 sR_MO [.int (nI (st_cn S b)), .int (nI (1))] [.int (nI (st_cn S b)), .ref (o + (0))] dMO_build_247 kMO_128 rfl rfl mMO_end_v (c_MO_end (by omega) (rq_ f6) (by omega) okB) (by decide) (Nat.le_refl _) (Nat.le_refl _) (Nat.le_of_ble_eq_true rfl) rfl ?_
  refine sd_iload dMO_build_250 rfl ?_
  refine fx_cV 10 sR_MO [.int (nI (st_cn S b)), .int (nI (tl_end (st_tm S (st_cn S b)) 1)), .int (nI (71))] [] dMO_build_252 kMO_155 rfl rfl mMO_copy_v (c_MO_copy hB (by omega) (by omega) (by omega) (rq_ f6) o6 (by omega) okB2) (by decide) (Nat.le_refl _) (Nat.le_refl _) (Nat.le_of_ble_eq_true rfl) rfl ?_
  refine sd_goto 463 dMO_build_255 (by decide) ?_
  refine sd_locp (al' := [(0, .ref (o + (0))), (1, .int (nI (3))), (2, .int (nI (a))), (3, .int (nI (b)))]) [4, 5, 6, 7] rfl ?_
  exact t_MO_build3 hB hH ha hb hq
