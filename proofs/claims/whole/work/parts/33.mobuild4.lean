/-! ===== the model: build, ABS ===== -/
theorem mo_add_zero {D : fx_D} {r : Nat} {s : Int32} : (mo_add D r s (nI 0)).2.1 0 7 = nI 1 := by
  unfold mo_add
  rw [if_pos (Or.inr nI_0)]
  simp [fx_uf, upd]
theorem w_MO_build4 {G : sd_G} {o : Nat} {D : fx_D} {h0 : sd_H} {nx a b : Nat} {S : st_S} {w : Int32} {Pq : fx_D → Prop} (hB : G.2.1 ≤ o) (hR : mo_R S D) (hT : st_okT S) (hH : st_okH S) (hrw : mo_rw D []) (ha : a < (st_th S).length) (hb : b < 8) (hEa : tl_isE (st_tm S (st_cn S a)) = true)
    (hq : ∀ D', mo_fw (mo_adds (mo_add (mo_adds (mo_add (mo_add (fx_ua D 3 71 (nI 0)) 71 (nI 9) (nI 4)) 71 (nI 10) (nI (if Nat.log2 (st_nt S b) + Nat.log2 (tl_at (st_tm S (st_cn S a)) 1).2 ≤ 23 then ty_jn (st_nt S b) (tl_at (st_tm S (st_cn S a)) 1).2 else 0))) 71 (tl_abs (st_tm S (st_cn S a)) 1 b)) 71 (nI 10) (nI (if Nat.log2 (st_nt S b) + Nat.log2 (tl_at (st_tm S (st_cn S a)) 1).2 ≤ 23 then ty_jn (st_nt S b) (tl_at (st_tm S (st_cn S a)) 1).2 else 0))) 71 (tl_abs (st_tm S (st_cn S a)) (tl_end (st_tm S (st_cn S a)) 1) b)) D' → mo_rw D' (ru_hyp S 4 a b) → Pq D') : sd_Ct G mMO_build 6 0 0 [.ref (o + 0), .int (nI 4), .int (nI a), .int (nI b), .int w] (fx_h G.1.2 mo_S o D h0) nx (fx_is G.1.2 mo_S o h0 nx none Pq) := by
  refine sd_Ct_of (by decide) (Nat.le_of_ble_eq_true rfl) ?_
  obtain ⟨a1, a2, a3, a4, a5, a6⟩ := mo_cn hR hH ha
  obtain ⟨tP, m1, m2, m3⟩ := mo_tm hR a2
  obtain ⟨l1, l2, l3⟩ := m2.two (tl_E2 hEa)
  have hx := tl_at_some l1
  have tok := (hT _ (List.mem_of_getElem? tP) _ (List.mem_of_getElem? hx)).1
  have nb := hR.1 b hb
  have n4 := nb.2.2.1
  have t4 := tok.2.1
  have cj := fun h ↦ c_MO_join (G := G) (h := h) (nx := nx) (a := st_nt S b) (b := (tl_at (st_tm S (st_cn S a)) 1).2) (by omega) (by omega) nb.2.1 tok.1
  generalize (if Nat.log2 (st_nt S b) + Nat.log2 (tl_at (st_tm S (st_cn S a)) 1).2 ≤ 23 then ty_jn (st_nt S b) (tl_at (st_tm S (st_cn S a)) 1).2 else 0) = jn at hq cj
  have z0 := mo_begin_row (D := D) (r := 71)
  have s0 := c_MO_begin (G := G) (o := o) (D := D) (h0 := h0) (nx := nx) (r := 71) hB (by omega)
  have f0 : mo_fa D (fx_ua D 3 71 (nI 0)) 71 := mo_begin_fa
  generalize fx_ua D 3 71 (nI 0) = D0 at hq z0 s0 f0
  have s1 := c_MO_add (G := G) (o := o) (D := D0) (h0 := h0) (nx := nx) (r := 71) (s := nI 9) (t := nI 4) hB (by omega) z0.okl.ln.1 z0.okl.ln.2
  have f1 := f0.tr (mo_add_fa (s := nI 9) (t := nI 4) z0.okl)
  have o1 := f1.2.2.2.2 71 (hR.2.2.1 71 (by omega) (by omega))
  generalize mo_add D0 71 (nI 9) (nI 4) = D1 at hq f1 o1 s1
  have s2 := c_MO_add (G := G) (o := o) (D := D1) (h0 := h0) (nx := nx) (r := 71) (s := nI 10) (t := nI jn) hB (by omega) o1.ln.1 o1.ln.2
  have f2 := f1.tr (mo_add_fa (s := nI 10) (t := nI jn) o1)
  have o2 := f2.2.2.2.2 71 (hR.2.2.1 71 (by omega) (by omega))
  generalize mo_add D1 71 (nI 10) (nI jn) = D2 at hq f2 o2 s2
  have s3 := c_MO_put (G := G) (o := o) (D := D2) (h0 := h0) (nx := nx) (r := 71) (q := st_cn S a) (i := 1) (v := b) (tb := 0) (b := []) (c4 := -1) (by_ := none) hB (by omega) (by omega) (by omega) m2 (by omega) l1 (f2.2.2.2.1 _ _ (by omega) m1) o2 (Or.inl ⟨rfl, rfl⟩) (fun z ↦ by cases z)
  have f3 := f2.tr (mo_adds_fa (tl_abs (st_tm S (st_cn S a)) 1 b) D2 o2)
  have o3 := f3.2.2.2.2 71 (hR.2.2.1 71 (by omega) (by omega))
  rw [show tl_sub (tl_pf (st_tm S (st_cn S a)) 1 b none) (st_tm S (st_cn S a)) 1 (tl_end (st_tm S (st_cn S a)) 1 - 1) = (tl_abs (st_tm S (st_cn S a)) 1 b) from rfl] at s3
  generalize mo_adds D2 71 (tl_abs (st_tm S (st_cn S a)) 1 b) = D3 at hq f3 o3 s3
  have s4 := c_MO_add (G := G) (o := o) (D := D3) (h0 := h0) (nx := nx) (r := 71) (s := nI 10) (t := nI jn) hB (by omega) o3.ln.1 o3.ln.2
  have f4 := f3.tr (mo_add_fa (s := nI 10) (t := nI jn) o3)
  have o4 := f4.2.2.2.2 71 (hR.2.2.1 71 (by omega) (by omega))
  generalize mo_add D3 71 (nI 10) (nI jn) = D4 at hq f4 o4 s4
  have s5 := c_MO_put (G := G) (o := o) (D := D4) (h0 := h0) (nx := nx) (r := 71) (q := st_cn S a) (i := tl_end (st_tm S (st_cn S a)) 1) (v := b) (tb := 0) (b := []) (c4 := -1) (by_ := none) hB (by omega) (by omega) (by omega) m2 (by omega) l2 (f4.2.2.2.1 _ _ (by omega) m1) o4 (Or.inl ⟨rfl, rfl⟩) (fun z ↦ by cases z)
  have f5 := f4.tr (mo_adds_fa (tl_abs (st_tm S (st_cn S a)) (tl_end (st_tm S (st_cn S a)) 1) b) D4 o4)
  rw [show tl_sub (tl_pf (st_tm S (st_cn S a)) (tl_end (st_tm S (st_cn S a)) 1) b none) (st_tm S (st_cn S a)) (tl_end (st_tm S (st_cn S a)) 1) (tl_end (st_tm S (st_cn S a)) (tl_end (st_tm S (st_cn S a)) 1) - tl_end (st_tm S (st_cn S a)) 1) = (tl_abs (st_tm S (st_cn S a)) (tl_end (st_tm S (st_cn S a)) 1) b) from rfl] at s5
  generalize mo_adds D4 71 (tl_abs (st_tm S (st_cn S a)) (tl_end (st_tm S (st_cn S a)) 1) b) = D5 at hq f5 s5
  have okA := tl_ok_drop _ 1 1 m2.1 m2.2.1 l1
  have nb0 : D0.1 4 b = nI (st_nt S b) := by rw [f0.1 4 (by decide) (by decide) (by decide)]; exact nb.1
  have hR5 := mo_R_fa hR f5 (by omega)
  have hrw5 : mo_rw D5 [] := ⟨hrw.1, by rw [f5.2.1 0 16 (by simp)]; exact hrw.2.1, fun k t ht ↦ by simp at ht⟩
  refine sd_bipush (v := nI 71) dMO_build_0 (by decide) ?_
  refine sd_istore dMO_build_2 (by decide) ?_
  refine sd_iload_n dMO_build_4 rfl rfl ?_
  refine nn_if_eq 18 dMO_build_5 (by decide) (by decide) (fun c => absurd c (by decide)) (fun _ => ?_)
  refine sd_iload_n dMO_build_8 rfl rfl ?_
  refine sd_iconst (v := nI 1) dMO_build_9 (by decide) ?_
  refine nn_icmp_eq 18 dMO_build_10 (by decide) (by decide) (by decide) (fun c => absurd c (by decide)) (fun _ => ?_)
  refine sd_iload_n dMO_build_13 rfl rfl ?_
  refine sd_iconst (v := nI 5) dMO_build_14 (by decide) ?_
  refine nn_icmp_ne 22 dMO_build_15 (by decide) (by decide) (by decide) (fun _ => ?_) (fun c => absurd c (by decide))
  refine sd_aload_n dMO_build_22 rfl rfl ?_
  refine fx_getr 10 8 (6) dMO_build_23 fMO_25 rfl rfl ?_
  refine sd_iload_n dMO_build_26 rfl rfl ?_
  refine fx_ialdv (v := (nI (st_cn S a))) (a) dMO_build_27 rfl rfl (by omega) (by decide) (a1) ?_
  refine sd_istore dMO_build_28 (by decide) ?_
  refine sd_iload_n dMO_build_30 rfl rfl ?_
  refine sd_iconst (v := nI 2) dMO_build_31 (by decide) ?_
  refine nn_icmp_eq 52 dMO_build_32 (by decide) (by decide) (by decide) (fun c => absurd c (by decide)) (fun _ => ?_)
  refine sd_iload_n dMO_build_35 rfl rfl ?_
  refine sd_iconst (v := nI 3) dMO_build_36 (by decide) ?_
  refine nn_icmp_eq 52 dMO_build_37 (by decide) (by decide) (by decide) (fun c => absurd c (by decide)) (fun _ => ?_)
  refine sd_iload_n dMO_build_40 rfl rfl ?_
  refine sd_bipush (v := nI 6) dMO_build_41 (by decide) ?_
  refine nn_icmp_eq 52 dMO_build_43 (by decide) (by decide) (by decide) (fun c => absurd c (by decide)) (fun _ => ?_)
  refine sd_iload_n dMO_build_46 rfl rfl ?_
  refine sd_bipush (v := nI 7) dMO_build_47 (by decide) ?_
  refine nn_icmp_ne 61 dMO_build_49 (by decide) (by decide) (by decide) (fun _ => ?_) (fun c => absurd c (by decide))
  refine sd_iconst (v := nI 0) dMO_build_61 (by decide) ?_
  refine sd_istore dMO_build_62 (by decide) ?_
  refine sd_aload_n dMO_build_64 rfl rfl ?_
  refine sd_iload dMO_build_65 rfl ?_
  refine fx_cV 10 sR_MO [.int (nI (71))] [] dMO_build_67 kMO_151 rfl rfl mMO_begin_v (s0) (by decide) (Nat.le_refl _) (Nat.le_refl _) (Nat.le_of_ble_eq_true rfl) rfl ?_
  refine sd_iload_n dMO_build_70 rfl rfl ?_
  refine sd_tableIn (off := 187) 258 dMO_build_71 (by decide) (by decide) (by decide) (by decide) ?_
  refine sd_aload_n dMO_build_258 rfl rfl ?_
  refine fx_getr 10 3 (4) dMO_build_259 fMO_19 rfl rfl ?_
  refine sd_iload_n dMO_build_262 rfl rfl ?_
  refine fx_ialdv (v := (nI (st_nt S b))) (b) dMO_build_263 rfl rfl (by omega) (by decide) (nb0) ?_
  refine sd_aload_n dMO_build_264 rfl rfl ?_
  refine sd_iload dMO_build_265 rfl ?_
  refine sd_iconst (v := nI 1) dMO_build_267 (by decide) ?_
  refine fx_cV 10 sR_MO [.int (nI (st_cn S a)), .int (nI (1))] [.int (nI (st_nt S b))] dMO_build_268 kMO_134 rfl rfl mMO_typeAt_v (c_MO_typ (by omega) (f0.2.2.2.1 _ _ (by omega) m1) hx) (by decide) (Nat.le_refl _) (Nat.le_refl _) (Nat.le_of_ble_eq_true rfl) rfl ?_
  refine sd_cS [.int (nI (st_nt S b)), .int (nI ((tl_at (st_tm S (st_cn S a)) 1).2))] [] dMO_build_271 kMO_114 mMO_join_s (cj _) (by decide) (Nat.le_refl _) (Nat.le_refl _) (Nat.le_of_ble_eq_true rfl) rfl ?_
  refine sd_istore dMO_build_274 (by decide) ?_
  refine sd_aload_n dMO_build_276 rfl rfl ?_
  refine sd_iload dMO_build_277 rfl ?_
  refine sd_bipush (v := nI 9) dMO_build_279 (by decide) ?_
  refine sd_iconst (v := nI 4) dMO_build_281 (by decide) ?_
  refine fx_cV 10 sR_MO [.int (nI (71)), .int (nI (9)), .int (nI (4))] [] dMO_build_282 kMO_137 rfl rfl mMO_add_v (s1) (by decide) (Nat.le_refl _) (Nat.le_refl _) (Nat.le_of_ble_eq_true rfl) rfl ?_
  refine sd_aload_n dMO_build_285 rfl rfl ?_
  refine sd_iload dMO_build_286 rfl ?_
  refine sd_bipush (v := nI 10) dMO_build_288 (by decide) ?_
  refine sd_iload dMO_build_290 rfl ?_
  refine fx_cV 10 sR_MO [.int (nI (71)), .int (nI (10)), .int (nI (jn))] [] dMO_build_292 kMO_137 rfl rfl mMO_add_v (s2) (by decide) (Nat.le_refl _) (Nat.le_refl _) (Nat.le_of_ble_eq_true rfl) rfl ?_
  refine sd_aload_n dMO_build_295 rfl rfl ?_
  refine sd_iload dMO_build_296 rfl ?_
  refine sd_iconst (v := nI 1) dMO_build_298 (by decide) ?_
  refine sd_iload_n dMO_build_299 rfl rfl ?_
  refine sd_iconst (v := (-1)) dMO_build_300 (by decide) ?_
  refine sd_iload dMO_build_301 rfl ?_
  refine fx_cV 10 sR_MO [.int (nI (st_cn S a)), .int (nI (1)), .int (nI (b)), .int ((-1)), .int (nI (71))] [] dMO_build_303 kMO_243 rfl rfl mMO_put_v (s3) (by decide) (Nat.le_refl _) (Nat.le_refl _) (Nat.le_of_ble_eq_true rfl) rfl ?_
  refine sd_aload_n dMO_build_306 rfl rfl ?_
  refine sd_iload dMO_build_307 rfl ?_
  refine sd_bipush (v := nI 10) dMO_build_309 (by decide) ?_
  refine sd_iload dMO_build_311 rfl ?_
  refine fx_cV 10 sR_MO [.int (nI (71)), .int (nI (10)), .int (nI (jn))] [] dMO_build_313 kMO_137 rfl rfl mMO_add_v (s4) (by decide) (Nat.le_refl _) (Nat.le_refl _) (Nat.le_of_ble_eq_true rfl) rfl ?_
  refine sd_aload_n dMO_build_316 rfl rfl ?_
  refine sd_iload dMO_build_317 rfl ?_
  refine sd_aload_n dMO_build_319 rfl rfl ?_
  refine sd_iload dMO_build_320 rfl ?_
  refine sd_iconst (v := nI 1) dMO_build_322 (by decide) ?_
  refine fx_cV 10 sR_MO [.int (nI (st_cn S a)), .int (nI (1))] [.int (nI (st_cn S a)), .ref (o + (0))] dMO_build_323 kMO_128 rfl rfl mMO_end_v (c_MO_end (by omega) (f4.2.2.2.1 _ _ (by omega) m1) (by omega) okA) (by decide) (Nat.le_refl _) (Nat.le_refl _) (Nat.le_of_ble_eq_true rfl) rfl ?_
  refine sd_iload_n dMO_build_326 rfl rfl ?_
  refine sd_iconst (v := (-1)) dMO_build_327 (by decide) ?_
  refine sd_iload dMO_build_328 rfl ?_
  refine fx_cV 10 sR_MO [.int (nI (st_cn S a)), .int (nI (tl_end (st_tm S (st_cn S a)) 1)), .int (nI (b)), .int ((-1)), .int (nI (71))] [] dMO_build_330 kMO_243 rfl rfl mMO_put_v (s5) (by decide) (Nat.le_refl _) (Nat.le_refl _) (Nat.le_of_ble_eq_true rfl) rfl ?_
  refine sd_goto 463 dMO_build_333 (by decide) ?_
  refine sd_locp (al' := [(0, .ref (o + (0))), (1, .int (nI (4))), (2, .int (nI (a))), (3, .int (nI (b)))]) [4, 5, 6, 7] rfl ?_
  exact t_MO_build4 (L := []) hB hH ha hR5 hrw5 hq
theorem c_MO_build4 {G : sd_G} {o : Nat} {D : fx_D} {h0 : sd_H} {nx a b c : Nat} {S : st_S} {w : Int32} {L : tl_T} (hB : G.2.1 ≤ o) (hR : mo_R S D) (hT : st_okT S) (hH : st_okH S) (hrw : mo_rw D []) (hov : D.2.1 0 7 = nI 0) (ha : a < (st_th S).length) (hb : b < 8) (hEa : tl_isE (st_tm S (st_cn S a)) = true) (hL : ru_row S 4 a b c = some L) (hg : ∀ x ∈ L, tl_g1 x) : sd_Ct G mMO_build 6 0 0 [.ref (o + 0), .int (nI 4), .int (nI a), .int (nI b), .int w] (fx_h G.1.2 mo_S o D h0) nx (fx_is G.1.2 mo_S o h0 nx none (bd_Q S L (ru_hyp S 4 a b))) := by
  refine w_MO_build4 hB hR hT hH hrw ha hb hEa (fun D' h1 h2 ↦ ?_)
  have hq := bd_w hR hrw hov mo_begin_fa (mo_begin_row (D := D) (r := 71)) hov hg
  unfold ru_row at hL
  simp only at hL
  by_cases hj : Nat.log2 (st_nt S b) + Nat.log2 (tl_at (st_tm S (st_cn S a)) 1).2 ≤ 23
  · rw [if_pos hj] at hL h1
    cases hL
    rw [mo_adds, mo_adds, mo_adds_app, mo_adds] at hq
    exact bd_fw hq h2 h1
  · rw [if_neg hj] at hL
    cases hL
/-- a LAM's type would be too long -/
theorem c_MO_build4X {G : sd_G} {o : Nat} {D : fx_D} {h0 : sd_H} {nx a b c : Nat} {S : st_S} {w : Int32} (hB : G.2.1 ≤ o) (hR : mo_R S D) (hT : st_okT S) (hH : st_okH S) (hrw : mo_rw D []) (ha : a < (st_th S).length) (hb : b < 8) (hEa : tl_isE (st_tm S (st_cn S a)) = true) (hL : ru_row S 4 a b c = none) : sd_Ct G mMO_build 6 0 0 [.ref (o + 0), .int (nI 4), .int (nI a), .int (nI b), .int w] (fx_h G.1.2 mo_S o D h0) nx (fx_is G.1.2 mo_S o h0 nx none (fun D' ↦ mo_R S D' ∧ mo_rw D' (ru_hyp S 4 a b) ∧ D'.2.1 0 7 = nI 1)) := by
  have z0 := mo_begin_row (D := D) (r := 71)
  have f0 : mo_fa D (fx_ua D 3 71 (nI 0)) 71 := mo_begin_fa
  have ok : ∀ {D' : fx_D}, mo_fa D D' 71 → mo_okl D' 71 := fun f ↦ f.2.2.2.2 71 (hR.2.2.1 71 (by omega) (by omega))
  refine w_MO_build4 hB hR hT hH hrw ha hb hEa (fun D' h1 h2 ↦ ?_)
  unfold ru_row at hL
  simp only at hL
  by_cases hj : Nat.log2 (st_nt S b) + Nat.log2 (tl_at (st_tm S (st_cn S a)) 1).2 ≤ 23
  · rw [if_pos hj] at hL
    cases hL
  · rw [if_neg hj] at h1
    have f1 := f0.tr (mo_add_fa (s := nI 9) (t := nI 4) z0.okl)
    have f2 := f1.tr (mo_add_fa (s := nI 10) (t := nI 0) (ok f1))
    have f3 := f2.tr (mo_adds_fa (tl_abs (st_tm S (st_cn S a)) 1 b) _ (ok f2))
    have f4 := f3.tr (mo_add_fa (s := nI 10) (t := nI 0) (ok f3))
    have f5 := f4.tr (mo_adds_fa (tl_abs (st_tm S (st_cn S a)) (tl_end (st_tm S (st_cn S a)) 1) b) _ (ok f4))
    refine ⟨mo_R_fw (mo_R_fa hR f5 (by omega)) h1, h2, ?_⟩
    rw [h1.2.1 0 7 (by simp)]
    exact mo_adds_over _ _ (mo_add_over (mo_adds_over _ _ mo_add_zero))
