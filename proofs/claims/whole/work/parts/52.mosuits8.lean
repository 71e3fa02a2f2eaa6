/-! ===== the model: suits, kinds 4 and 5; suits ===== -/
theorem c_MO_suits4 {G : sd_G} {o : Nat} {D : fx_D} {h0 : sd_H} {nx v g y : Nat} {S : st_S} (hR : mo_R S D) (hT : st_okT S) (hG : st_okG S) (hg : g < (st_gl S).length) (hy : y < 8) (hv2 : v < 2) (hv : v = 1 ↔ su_fit S 4 y g = true) : sd_Ct G mMO_suits 6 0 0 [.ref (o + 0), .int (nI 4), .int (nI y), .int (nI g)] (fx_h G.1.2 mo_S o D h0) nx (sd_is (some (.int (nI v))) (fx_h G.1.2 mo_S o D h0) nx) := by
  simp only [su_fit, Bool.and_eq_true, beq_iff_eq, and_assoc] at hv
  by_cases hE : tl_isE (su_m S g) = true
  · refine sd_Ct_of (by decide) (Nat.le_of_ble_eq_true rfl) (h_MO_suits hR hG hg (by omega) (Or.inl hE) ?_)
    obtain ⟨g1, g2, g3, g4, g5, g6⟩ := mo_gg hR hG hg
    obtain ⟨tP, m1, m2, m3⟩ := mo_tm hR g2
    obtain ⟨l1, l2, l3⟩ := m2.two (tl_E2 hE)
    have hx := tl_at_some l1
    have hz := tl_at_some l2
    have q3 := (m1.2.2 1 _ hx).2.2.1
    have z3 := (m1.2.2 _ _ hz).2.2.1
    obtain ⟨tok, tokF⟩ := hT _ (List.mem_of_getElem? tP) _ (List.mem_of_getElem? hx)
    have t25 := tok.1
    have t4 := tok.2.1
    obtain ⟨n1, n2⟩ := hR.1 y hy
    have n25 := n2.1
    have fle : ty_from (tl_at (st_tm S (st_gt S g)) 1).2 < 2 ^ 31 := ty_from_lt t25 (by omega)
    have ee : su_e S g = tl_end (st_tm S (st_gt S g)) 1 := by unfold su_e; rw [if_pos hE]; rfl
    rw [ee]
    simp only [hE, true_and] at hv
    unfold su_m at hv
    obtain ⟨w, w2, w1⟩ := bw_b (tl_nm (st_tm S (st_gt S g)) y = true)
    have hw : (!tl_nm (st_tm S (st_gt S g)) y) = true ↔ w = 0 := by
      rw [Bool.not_eq_true', ← Bool.not_eq_true, ← w1]
      omega
    obtain ⟨u, u2, u1⟩ := bw_b ((st_gh S g).all (fun t => !tl_nm (st_tm S t) y) = true)
    rw [hw, ← u1] at hv
    refine sd_iload_n dMO_suits_58 rfl rfl ?_
    refine sd_tableIn (off := 137) 196 dMO_suits_59 (by decide) (by decide) (by decide) (by decide) ?_
    refine sd_aload_n dMO_suits_196 rfl rfl ?_
    refine sd_iload dMO_suits_197 rfl ?_
    refine sd_iconst (v := nI 1) dMO_suits_199 (by decide) ?_
    refine fx_cV 10 sR_MO [.int (nI (st_gt S g)), .int (nI (1))] [] dMO_suits_200 kMO_131 rfl rfl mMO_symbolAt_v (c_MO_sym (by omega) m1 hx) (by decide) (Nat.le_refl _) (Nat.le_refl _) (Nat.le_of_ble_eq_true rfl) rfl ?_
    refine sd_bipush (v := nI 10) dMO_suits_203 (by decide) ?_
    refine nn_icmp_ne 250 dMO_suits_205 (by decide) (by omega) (by omega) (fun c205 => ?_) (fun c205 => ?_)
    ·
      refine sd_iconst (v := nI 0) dMO_suits_250 (by decide) ?_
      obtain rfl : v = 0 := by omega
      exact sd_zret dMO_suits_251 rfl (Or.inl rfl) (Nat.le_refl _) (Nat.le_refl _) ⟨rfl, rfl, rfl⟩
    ·
      refine sd_aload_n dMO_suits_208 rfl rfl ?_
      refine sd_iload dMO_suits_209 rfl ?_
      refine sd_iload dMO_suits_211 rfl ?_
      refine fx_cV 10 sR_MO [.int (nI (st_gt S g)), .int (nI (tl_end (st_tm S (st_gt S g)) 1))] [] dMO_suits_213 kMO_131 rfl rfl mMO_symbolAt_v (c_MO_sym (by omega) m1 hz) (by decide) (Nat.le_refl _) (Nat.le_refl _) (Nat.le_of_ble_eq_true rfl) rfl ?_
      refine sd_bipush (v := nI 10) dMO_suits_216 (by decide) ?_
      refine nn_icmp_ne 250 dMO_suits_218 (by decide) (by omega) (by omega) (fun c218 => ?_) (fun c218 => ?_)
      ·
        refine sd_iconst (v := nI 0) dMO_suits_250 (by decide) ?_
        obtain rfl : v = 0 := by omega
        exact sd_zret dMO_suits_251 rfl (Or.inl rfl) (Nat.le_refl _) (Nat.le_refl _) ⟨rfl, rfl, rfl⟩
      ·
        obtain ⟨r, hr⟩ := ty_fun_rem tok (tokF (by omega))
        have cFr := c_MO_from (G := G) (h := fx_h G.1.2 mo_S o D h0) (nx := nx) t4 (by omega) hr
        refine sd_aload_n dMO_suits_221 rfl rfl ?_
        refine sd_iload dMO_suits_222 rfl ?_
        refine sd_iconst (v := nI 1) dMO_suits_224 (by decide) ?_
        refine fx_cV 10 sR_MO [.int (nI (st_gt S g)), .int (nI (1))] [] dMO_suits_225 kMO_134 rfl rfl mMO_typeAt_v (c_MO_typ (by omega) m1 hx) (by decide) (Nat.le_refl _) (Nat.le_refl _) (Nat.le_of_ble_eq_true rfl) rfl ?_
        refine sd_cS [.int (nI ((tl_at (st_tm S (st_gt S g)) 1).2))] [] dMO_suits_228 kMO_228 mMO_from_s (cFr) (by decide) (Nat.le_refl _) (Nat.le_refl _) (Nat.le_of_ble_eq_true rfl) rfl ?_
        refine sd_aload_n dMO_suits_231 rfl rfl ?_
        refine fx_getr 10 3 (4) dMO_suits_232 fMO_19 rfl rfl ?_
        refine sd_iload_n dMO_suits_235 rfl rfl ?_
        refine fx_ialdv (v := (nI (st_nt S y))) (y) dMO_suits_236 rfl rfl (by omega) (by decide) (n1) ?_
        refine nn_icmp_ne 250 dMO_suits_237 (by decide) (by omega) (by omega) (fun c237 => ?_) (fun c237 => ?_)
        ·
          refine sd_iconst (v := nI 0) dMO_suits_250 (by decide) ?_
          obtain rfl : v = 0 := by omega
          exact sd_zret dMO_suits_251 rfl (Or.inl rfl) (Nat.le_refl _) (Nat.le_refl _) ⟨rfl, rfl, rfl⟩
        ·
          refine sd_aload_n dMO_suits_240 rfl rfl ?_
          refine sd_iload dMO_suits_241 rfl ?_
          refine sd_iload_n dMO_suits_243 rfl rfl ?_
          refine fx_cV 10 sR_MO [.int (nI (st_gt S g)), .int (nI (y))] [] dMO_suits_244 kMO_231 rfl rfl mMO_names_v (c_MO_names (by omega) m1 (by omega) w2 (by rw [w1, tl_nm_ex])) (by decide) (Nat.le_refl _) (Nat.le_refl _) (Nat.le_of_ble_eq_true rfl) rfl ?_
          refine nn_if_eq 252 dMO_suits_247 (by decide) (by omega) (fun c247 => ?_) (fun c247 => ?_)
          ·
            refine sd_iconst (v := nI 0) dMO_suits_252 (by decide) ?_
            refine sd_istore dMO_suits_253 (by decide) ?_
            refine sd_locp (al' := [(0, .ref (o + (0))), (2, .int (nI (y))), (3, .int (nI (g))), (6, .int (nI (0)))]) [1, 3, 4, 0] rfl ?_
            exact l_MO_suits4 hR hG hg hy hv2 (st_gh S g).length 0 (by omega) (by rw [List.drop_zero, show v = u by omega, u1]; simp)
          ·
            refine sd_iconst (v := nI 0) dMO_suits_250 (by decide) ?_
            obtain rfl : v = 0 := by omega
            exact sd_zret dMO_suits_251 rfl (Or.inl rfl) (Nat.le_refl _) (Nat.le_refl _) ⟨rfl, rfl, rfl⟩
  · obtain rfl : v = 0 := by
      have : ¬ v = 1 := fun e => hE (hv.mp e).1
      omega
    exact c_MO_suitsN hR hG hg (by omega) (by omega) (by omega) hE
theorem tl_pl_add : ∀ (l : tl_T) (e f : Nat), tl_pl (e + f) l = tl_pl e l + tl_pl f (l.drop (tl_pl e l))
  | l, 0, f => by
    have : tl_pl 0 l = 0 := by cases l <;> rfl
    rw [this, List.drop_zero, Nat.zero_add, Nat.zero_add]
  | [], e + 1, f => by
    rw [show e + 1 + f = (e + f) + 1 by omega]
    cases f <;> simp [tl_pl]
  | x :: r, e + 1, f => by
    rw [show e + 1 + f = (e + f) + 1 by omega, tl_pl, tl_pl, show 1 + tl_pl (e + tl_ar x.1) r = tl_pl (e + tl_ar x.1) r + 1 by omega, List.drop_succ_cons, show e + f + tl_ar x.1 = (e + tl_ar x.1) + f by omega, tl_pl_add r (e + tl_ar x.1) f]
    omega
theorem tl_ok_add : ∀ (l : tl_T) (e f : Nat), tl_ok (e + f) l → tl_ok f (l.drop (tl_pl e l))
  | l, 0, f, h => by
    have : tl_pl 0 l = 0 := by cases l <;> rfl
    rw [this, List.drop_zero]
    simpa using h
  | [], e + 1, f, h => by
    rw [show e + 1 + f = (e + f) + 1 by omega] at h
    exact h.elim
  | x :: r, e + 1, f, h => by
    rw [show e + 1 + f = (e + f) + 1 by omega] at h
    rw [tl_pl, show 1 + tl_pl (e + tl_ar x.1) r = tl_pl (e + tl_ar x.1) r + 1 by omega, List.drop_succ_cons]
    refine tl_ok_add r (e + tl_ar x.1) f ?_
    rw [show (e + tl_ar x.1) + f = e + f + tl_ar x.1 by omega]
    exact h
theorem tl_ok_lt {l : tl_T} {i : Nat} (h : tl_ok 1 (l.drop i)) : i < l.length := by
  rcases Nat.lt_or_ge i l.length with q | q
  · exact q
  · rw [List.drop_eq_nil_of_le q] at h
    exact h.elim
/-- a part that is EQ or APP has two parts -/
theorem tl_two_at {l : tl_T} {i : Nat} (ho : tl_ok 1 (l.drop i)) (hi : i < l.length) (ha : tl_ar (tl_at l i).1 = 2) : i + 1 < l.length ∧ tl_end l (i + 1) < l.length ∧ tl_end l (tl_end l (i + 1)) = tl_end l i ∧ tl_ok 1 (l.drop (i + 1)) ∧ tl_ok 1 (l.drop (tl_end l (i + 1))) := by
  have hd := tl_drop_get (tl_at_some hi)
  have e1 : tl_end l (i + 1) = i + 1 + tl_pl 1 (l.drop (i + 1)) := rfl
  have e3 : tl_end l i = i + (1 + tl_pl (0 + tl_ar (tl_at l i).1) (l.drop (i + 1))) := by
    rw [tl_end, hd]
    rfl
  rw [hd] at ho
  have ho2 : tl_ok (0 + tl_ar (tl_at l i).1) (l.drop (i + 1)) := ho
  rw [ha] at ho2 e3
  have o1 : tl_ok 1 (l.drop (i + 1)) := tl_ok_mono _ 2 1 (by omega) ho2
  have o2 : tl_ok 1 ((l.drop (i + 1)).drop (tl_pl 1 (l.drop (i + 1)))) := tl_ok_add _ 1 1 ho2
  rw [List.drop_drop, ← e1] at o2
  rw [show 0 + 2 = 1 + 1 from rfl, tl_pl_add, List.drop_drop, ← e1] at e3
  have e4 : tl_end l (tl_end l (i + 1)) = tl_end l (i + 1) + tl_pl 1 (l.drop (tl_end l (i + 1))) := rfl
  exact ⟨tl_ok_lt o1, tl_ok_lt o2, by omega, o1, o2⟩
theorem tl_cp_part {l : tl_T} (h : tl_cp 1 l) : tl_part l 0 = l := by
  unfold tl_part
  rw [List.drop_zero, h.2, List.take_length]
theorem cp_beta {l : tl_T} {i : Nat} (h : tl_wf l) (hi : i < l.length) (hb : tl_isB l i = true) : tl_cp 1 (tl_beta l i) := by
  obtain ⟨e1, e2⟩ := tl_isB_iff.mp hb
  obtain ⟨k1, k2, -, -, -⟩ := tl_two_at (tl_ok_drop l 1 i h.1 h.2.1 hi) hi (by rw [e1]; rfl)
  exact cp_fill h k1 e2 (fun b e => by cases e; exact tl_part_cp h k2) (fun v e => by cases e)
theorem dMO_givesBeta_0 : decode prog_13_method_61_code 0 = .ok (.aload_n 0, 1) := by decide +kernel
theorem dMO_givesBeta_1 : decode prog_13_method_61_code 1 = .ok (.iconst 0, 1) := by decide +kernel
theorem dMO_givesBeta_2 : decode prog_13_method_61_code 2 = .ok (.putfield 124, 3) := by decide +kernel
theorem dMO_givesBeta_5 : decode prog_13_method_61_code 5 = .ok (.aload_n 0, 1) := by decide +kernel
theorem dMO_givesBeta_6 : decode prog_13_method_61_code 6 = .ok (.bipush (71), 2) := by decide +kernel
theorem dMO_givesBeta_8 : decode prog_13_method_61_code 8 = .ok (.invokevirtual 151, 3) := by decide +kernel
theorem dMO_givesBeta_11 : decode prog_13_method_61_code 11 = .ok (.aload_n 0, 1) := by decide +kernel
theorem dMO_givesBeta_12 : decode prog_13_method_61_code 12 = .ok (.iload_n 1, 1) := by decide +kernel
theorem dMO_givesBeta_13 : decode prog_13_method_61_code 13 = .ok (.iconst 1, 1) := by decide +kernel
theorem dMO_givesBeta_14 : decode prog_13_method_61_code 14 = .ok (.bipush (71), 2) := by decide +kernel
theorem dMO_givesBeta_16 : decode prog_13_method_61_code 16 = .ok (.invokevirtual 246, 3) := by decide +kernel
theorem dMO_givesBeta_19 : decode prog_13_method_61_code 19 = .ok (.aload_n 0, 1) := by decide +kernel
theorem dMO_givesBeta_20 : decode prog_13_method_61_code 20 = .ok (.getfield 124, 3) := by decide +kernel
theorem dMO_givesBeta_23 : decode prog_13_method_61_code 23 = .ok (.ifCond .ne (37), 3) := by decide +kernel
theorem dMO_givesBeta_26 : decode prog_13_method_61_code 26 = .ok (.aload_n 0, 1) := by decide +kernel
theorem dMO_givesBeta_27 : decode prog_13_method_61_code 27 = .ok (.getfield 16, 3) := by decide +kernel
theorem dMO_givesBeta_30 : decode prog_13_method_61_code 30 = .ok (.bipush (71), 2) := by decide +kernel
theorem dMO_givesBeta_32 : decode prog_13_method_61_code 32 = .ok (.iaload, 1) := by decide +kernel
theorem dMO_givesBeta_33 : decode prog_13_method_61_code 33 = .ok (.aload_n 0, 1) := by decide +kernel
theorem dMO_givesBeta_34 : decode prog_13_method_61_code 34 = .ok (.getfield 16, 3) := by decide +kernel
theorem dMO_givesBeta_37 : decode prog_13_method_61_code 37 = .ok (.iload_n 1, 1) := by decide +kernel
theorem dMO_givesBeta_38 : decode prog_13_method_61_code 38 = .ok (.iaload, 1) := by decide +kernel
theorem dMO_givesBeta_39 : decode prog_13_method_61_code 39 = .ok (.iload_n 2, 1) := by decide +kernel
theorem dMO_givesBeta_40 : decode prog_13_method_61_code 40 = .ok (.isub, 1) := by decide +kernel
theorem dMO_givesBeta_41 : decode prog_13_method_61_code 41 = .ok (.if_icmp .ne (19), 3) := by decide +kernel
theorem dMO_givesBeta_44 : decode prog_13_method_61_code 44 = .ok (.aload_n 0, 1) := by decide +kernel
theorem dMO_givesBeta_45 : decode prog_13_method_61_code 45 = .ok (.bipush (71), 2) := by decide +kernel
theorem dMO_givesBeta_47 : decode prog_13_method_61_code 47 = .ok (.iconst 0, 1) := by decide +kernel
theorem dMO_givesBeta_48 : decode prog_13_method_61_code 48 = .ok (.iload_n 1, 1) := by decide +kernel
theorem dMO_givesBeta_49 : decode prog_13_method_61_code 49 = .ok (.iload_n 2, 1) := by decide +kernel
theorem dMO_givesBeta_50 : decode prog_13_method_61_code 50 = .ok (.invokevirtual 141, 3) := by decide +kernel
theorem dMO_givesBeta_53 : decode prog_13_method_61_code 53 = .ok (.ifCond .eq (7), 3) := by decide +kernel
theorem dMO_givesBeta_56 : decode prog_13_method_61_code 56 = .ok (.iconst 1, 1) := by decide +kernel
theorem dMO_givesBeta_57 : decode prog_13_method_61_code 57 = .ok (.goto (4), 3) := by decide +kernel
theorem dMO_givesBeta_60 : decode prog_13_method_61_code 60 = .ok (.iconst 0, 1) := by decide +kernel
theorem dMO_givesBeta_61 : decode prog_13_method_61_code 61 = .ok (.ireturn, 1) := by decide +kernel
theorem c_MO_givesBeta {G : sd_G} {o : Nat} {D : fx_D} {h0 : sd_H} {nx v t : Nat} {S : st_S} (hB : G.2.1 ≤ o) (hR : mo_R S D) (hT : st_okT S) (ht : t < (st_T S).length) (hE : tl_isE (st_tm S t) = true) (hBt : tl_isB (st_tm S t) 1 = true) (hv2 : v < 2) (hv : v = 1 ↔ tl_part (st_tm S t) (tl_end (st_tm S t) 1) = tl_beta (st_tm S t) 1) : sd_Ct G mMO_givesBeta 5 0 0 [.ref (o + 0), .int (nI t), .int (nI (tl_end (st_tm S t) 1))] (fx_h G.1.2 mo_S o D h0) nx (fx_is G.1.2 mo_S o h0 nx (some (.int (nI v))) (mo_R S)) := by
  refine sd_Ct_of (by decide) (Nat.le_of_ble_eq_true rfl) ?_
  obtain ⟨tP, m1, m2, m3⟩ := mo_tm hR ht
  obtain ⟨l1, l2, l3⟩ := m2.two (tl_E2 hE)
  have o1 := tl_ok_drop _ 1 1 m2.1 m2.2.1 l1
  have o2 := tl_ok_drop _ 1 _ m2.1 m2.2.1 l2
  obtain ⟨k1, k2, -, -, -⟩ := tl_two_at o1 l1 (by rw [(tl_isB_iff.mp hBt).1]; rfl)
  have l24 := m1.1
  have m1' : mo_row (fx_uf D 0 7 (nI 0)) t (st_tm S t) := m1
  have z0 := mo_begin_row (D := fx_uf D 0 7 (nI 0)) (r := 71)
  have z1 := mo_begin_other (r := 71) m1' (by omega)
  have hd := c_MO_beta (G := G) (o := o) (h0 := h0) (nx := nx) (r := 71) (i := 1) hB (by omega) (show t < 72 by omega) (by omega) m2 z1 z0.okl k1 k2
  have A := st_g1 hR hT ht
  have hg : ∀ x ∈ tl_beta (st_tm S t) 1, tl_g1 x := tl_of_g1 A (fun b e => by cases e; exact fm_part A) (fun v e => by cases e)
  have hcp := cp_beta m2 l1 hBt
  have hR1 : mo_R S (fx_uf D 0 7 (nI 0)) := mo_R_f hR (Or.inl rfl)
  have hf : mo_fa (fx_uf D 0 7 (nI 0)) (mo_adds (fx_ua (fx_uf D 0 7 (nI 0)) 3 71 (nI 0)) 71 (tl_beta (st_tm S t) 1)) 71 := mo_begin_fa.tr (mo_adds_fa _ _ z0.okl)
  have hR2 := mo_R_fa hR1 hf (by omega)
  have m3' := hf.2.2.2.1 t _ (by omega) m1'
  have hr := mo_adds_row (tl_beta (st_tm S t) 1) [] _ z0 hg
  have pl : (tl_part (st_tm S t) (tl_end (st_tm S t) 1)).length = (st_tm S t).length - tl_end (st_tm S t) 1 := by
    rw [tl_part_len]
    have : tl_end (st_tm S t) (tl_end (st_tm S t) 1) = tl_end (st_tm S t) 1 + tl_pl 1 ((st_tm S t).drop (tl_end (st_tm S t) 1)) := rfl
    omega
  have hd2 : sd_Ct G mMO_beta 4 0 0 [.ref (o + 0), .int (nI t), .int (nI 1), .int (nI 71)] (fx_h G.1.2 mo_S o (fx_ua (fx_uf D 0 7 (nI 0)) 3 71 (nI 0)) h0) nx (sd_is none (fx_h G.1.2 mo_S o (mo_adds (fx_ua (fx_uf D 0 7 (nI 0)) 3 71 (nI 0)) 71 (tl_beta (st_tm S t) 1)) h0) nx) := hd
  clear hd
  rw [List.nil_append] at hr
  generalize mo_adds (fx_ua (fx_uf D 0 7 (nI 0)) 3 71 (nI 0)) 71 (tl_beta (st_tm S t) 1) = D2 at *
  generalize tl_beta (st_tm S t) 1 = B at *
  rcases hr with ⟨a1, a2, a3⟩ | ⟨a1, a2⟩
  · have a3' : D2.2.1 0 7 = nI 0 := a3
    have hs := c_MO_same (G := G) (o := o) (h0 := h0) (nx := nx) (r := 71) (i := 0) (q := t) (j := tl_end (st_tm S t) 1) (b := v) (by omega) (by omega) a2 m3' (by omega) (by omega) (by rw [List.drop_zero]; exact hcp.1) o2 hv2 (by rw [hv, tl_cp_part hcp]; exact eq_comm)
    refine sd_aload_n dMO_givesBeta_0 rfl rfl ?_
    refine sd_iconst (v := nI 0) dMO_givesBeta_1 (by decide) ?_
    refine fx_putz 10 7 dMO_givesBeta_2 fMO_124 rfl rfl (Or.inl rfl) rfl rfl hB ?_
    refine sd_aload_n dMO_givesBeta_5 rfl rfl ?_
    refine sd_bipush (v := nI 71) dMO_givesBeta_6 (by decide) ?_
    refine fx_cV 10 sR_MO [.int (nI (71))] [] dMO_givesBeta_8 kMO_151 rfl rfl mMO_begin_v (c_MO_begin hB (by omega)) (by decide) (Nat.le_refl _) (Nat.le_refl _) (Nat.le_of_ble_eq_true rfl) rfl ?_
    refine sd_aload_n dMO_givesBeta_11 rfl rfl ?_
    refine sd_iload_n dMO_givesBeta_12 rfl rfl ?_
    refine sd_iconst (v := nI 1) dMO_givesBeta_13 (by decide) ?_
    refine sd_bipush (v := nI 71) dMO_givesBeta_14 (by decide) ?_
    refine fx_cV 10 sR_MO [.int (nI (t)), .int (nI (1)), .int (nI (71))] [] dMO_givesBeta_16 kMO_246 rfl rfl mMO_beta_v (hd2) (by decide) (Nat.le_refl _) (Nat.le_refl _) (Nat.le_of_ble_eq_true rfl) rfl ?_
    refine sd_aload_n dMO_givesBeta_19 rfl rfl ?_
    refine fx_getiv (v := (nI (0))) 10 7 dMO_givesBeta_20 fMO_124 rfl rfl (a3') ?_
    refine nn_if_ne 60 dMO_givesBeta_23 (by decide) (by decide) (fun c => absurd c (by decide)) (fun _ => ?_)
    refine sd_aload_n dMO_givesBeta_26 rfl rfl ?_
    refine fx_getr 10 2 (3) dMO_givesBeta_27 fMO_16 rfl rfl ?_
    refine sd_bipush (v := nI 71) dMO_givesBeta_30 (by decide) ?_
    refine fx_ialdv (v := (nI (B.length))) (71) dMO_givesBeta_32 rfl rfl (by omega) (by decide) (a2.2.1) ?_
    refine sd_aload_n dMO_givesBeta_33 rfl rfl ?_
    refine fx_getr 10 2 (3) dMO_givesBeta_34 fMO_16 rfl rfl ?_
    refine sd_iload_n dMO_givesBeta_37 rfl rfl ?_
    refine fx_ialdv (v := (nI ((st_tm S t).length))) (t) dMO_givesBeta_38 rfl rfl (by omega) (by decide) (m3'.2.1) ?_
    refine sd_iload_n dMO_givesBeta_39 rfl rfl ?_
    refine nn_isub dMO_givesBeta_40 (by omega) ?_
    refine nn_icmp_ne 60 dMO_givesBeta_41 (by decide) (by omega) (by omega) (fun c41 => ?_) (fun c41 => ?_)
    ·
      refine sd_iconst (v := nI 0) dMO_givesBeta_60 (by decide) ?_
      obtain rfl : v = (0) := by first | omega | (have hne : ¬ v = 1 := fun e => by have h := hv.mp e; rw [← h, pl] at c41; omega); omega
      exact sd_zret dMO_givesBeta_61 rfl (nn_01 (by omega)) (Nat.le_refl _) (Nat.le_refl _) ⟨rfl, rfl, _, rfl, hR2⟩
    ·
      refine sd_aload_n dMO_givesBeta_44 rfl rfl ?_
      refine sd_bipush (v := nI 71) dMO_givesBeta_45 (by decide) ?_
      refine sd_iconst (v := nI 0) dMO_givesBeta_47 (by decide) ?_
      refine sd_iload_n dMO_givesBeta_48 rfl rfl ?_
      refine sd_iload_n dMO_givesBeta_49 rfl rfl ?_
      refine fx_cV 10 sR_MO [.int (nI (71)), .int (nI (0)), .int (nI (t)), .int (nI (tl_end (st_tm S t) 1))] [] dMO_givesBeta_50 kMO_141 rfl rfl mMO_same_v (hs) (by decide) (Nat.le_refl _) (Nat.le_refl _) (Nat.le_of_ble_eq_true rfl) rfl ?_
      refine nn_if_eq 60 dMO_givesBeta_53 (by decide) (by omega) (fun c53 => ?_) (fun c53 => ?_)
      ·
        refine sd_iconst (v := nI 0) dMO_givesBeta_60 (by decide) ?_
        obtain rfl : v = (0) := by first | omega | (have hne : ¬ v = 1 := fun e => by have h := hv.mp e; rw [← h, pl] at c41; omega); omega
        exact sd_zret dMO_givesBeta_61 rfl (nn_01 (by omega)) (Nat.le_refl _) (Nat.le_refl _) ⟨rfl, rfl, _, rfl, hR2⟩
      ·
        refine sd_iconst (v := nI 1) dMO_givesBeta_56 (by decide) ?_
        refine sd_goto 61 dMO_givesBeta_57 (by decide) ?_
        obtain rfl : v = (1) := by first | omega | (have hne : ¬ v = 1 := fun e => by have h := hv.mp e; rw [← h, pl] at c41; omega); omega
        exact sd_zret dMO_givesBeta_61 rfl (nn_01 (by omega)) (Nat.le_refl _) (Nat.le_refl _) ⟨rfl, rfl, _, rfl, hR2⟩
  · have hne : ¬ v = 1 := fun e => by
      have h := hv.mp e
      rw [← h, pl] at a1
      omega
    obtain rfl : v = 0 := by omega
    refine sd_aload_n dMO_givesBeta_0 rfl rfl ?_
    refine sd_iconst (v := nI 0) dMO_givesBeta_1 (by decide) ?_
    refine fx_putz 10 7 dMO_givesBeta_2 fMO_124 rfl rfl (Or.inl rfl) rfl rfl hB ?_
    refine sd_aload_n dMO_givesBeta_5 rfl rfl ?_
    refine sd_bipush (v := nI 71) dMO_givesBeta_6 (by decide) ?_
    refine fx_cV 10 sR_MO [.int (nI (71))] [] dMO_givesBeta_8 kMO_151 rfl rfl mMO_begin_v (c_MO_begin hB (by omega)) (by decide) (Nat.le_refl _) (Nat.le_refl _) (Nat.le_of_ble_eq_true rfl) rfl ?_
    refine sd_aload_n dMO_givesBeta_11 rfl rfl ?_
    refine sd_iload_n dMO_givesBeta_12 rfl rfl ?_
    refine sd_iconst (v := nI 1) dMO_givesBeta_13 (by decide) ?_
    refine sd_bipush (v := nI 71) dMO_givesBeta_14 (by decide) ?_
    refine fx_cV 10 sR_MO [.int (nI (t)), .int (nI (1)), .int (nI (71))] [] dMO_givesBeta_16 kMO_246 rfl rfl mMO_beta_v (hd2) (by decide) (Nat.le_refl _) (Nat.le_refl _) (Nat.le_of_ble_eq_true rfl) rfl ?_
    refine sd_aload_n dMO_givesBeta_19 rfl rfl ?_
    refine fx_getiv (v := (nI (1))) 10 7 dMO_givesBeta_20 fMO_124 rfl rfl (a2) ?_
    refine nn_if_ne 60 dMO_givesBeta_23 (by decide) (by decide) (fun _ => ?_) (fun c => absurd c (by decide))
    refine sd_iconst (v := nI 0) dMO_givesBeta_60 (by decide) ?_
    exact sd_zret dMO_givesBeta_61 rfl (Or.inl rfl) (Nat.le_refl _) (Nat.le_refl _) ⟨rfl, rfl, _, rfl, hR2⟩
