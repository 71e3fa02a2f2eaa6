/-! ===== the model: build, INST ===== -/
/-- a row is written: it is l, or 'over' says that l is too long -/
theorem mo_wrt {D Db : fx_D} {r : Nat} {l : tl_T} (hf : mo_fa D Db r) (hb : mo_row Db r []) (hg : ∀ x ∈ l, tl_g1 x) : mo_fa D (mo_adds Db r l) r ∧ ((l.length ≤ 24 ∧ mo_row (mo_adds Db r l) r l ∧ (mo_adds Db r l).2.1 0 7 = Db.2.1 0 7) ∨ (24 < l.length ∧ (mo_adds Db r l).2.1 0 7 = nI 1)) := by
  refine ⟨hf.tr (mo_adds_fa l Db hb.okl), ?_⟩
  rcases mo_adds_row l [] Db hb hg with ⟨h1, h2, h3⟩ | ⟨h1, h2⟩
  · exact Or.inl ⟨by simpa using h1, by simpa using h2, h3⟩
  · exact Or.inr ⟨by simpa using h1, h2⟩
/-- the rows of the first k hypotheses are written -/
def bd_J (S : st_S) (ls : List tl_T) (k : Nat) (D' : fx_D) : Prop := mo_R S D' ∧ (mo_rw D' [] ∧ mo_row D' 71 []) ∧ (((∀ j l, j < k → ls[j]? = some l → l.length ≤ 24 ∧ mo_row D' (64 + j) l) ∧ D'.2.1 0 7 = nI 0) ∨ ((∃ j l, j < k ∧ ls[j]? = some l ∧ 24 < l.length) ∧ D'.2.1 0 7 = nI 1))
theorem bd_Js {S : st_S} {ls : List tl_T} {k : Nat} {D D' : fx_D} {l : tl_T} (h : bd_J S ls k D) (hk : k < 7) (hl : ls[k]? = some l) (hf : mo_fa D D' (64 + k)) (hov : D.2.1 0 7 = nI 1 → D'.2.1 0 7 = nI 1) (hc : (l.length ≤ 24 ∧ mo_row D' (64 + k) l ∧ D'.2.1 0 7 = D.2.1 0 7) ∨ (24 < l.length ∧ D'.2.1 0 7 = nI 1)) : bd_J S ls (k + 1) D' := by
  obtain ⟨h1, ⟨h2, h7⟩, h3⟩ := h
  refine ⟨mo_R_fa h1 hf (by omega), ⟨⟨h2.1, by rw [hf.2.1 0 16 (by simp)]; exact h2.2.1, fun a t ht => by simp at ht⟩, hf.2.2.2.1 _ _ (by omega) h7⟩, ?_⟩
  rcases h3 with ⟨h3, h4⟩ | ⟨⟨j, m, h3, h4, h5⟩, h6⟩
  · rcases hc with ⟨c1, c2, c3⟩ | ⟨c1, c2⟩
    · left
      refine ⟨fun j m hj hm => ?_, c3.trans h4⟩
      rcases Nat.lt_or_ge j k with z | z
      · obtain ⟨e1, e2⟩ := h3 j m z hm
        exact ⟨e1, hf.2.2.2.1 _ _ (by omega) e2⟩
      · obtain rfl : j = k := by omega
        rw [hl] at hm
        cases hm
        exact ⟨c1, c2⟩
    · exact Or.inr ⟨⟨k, l, by omega, hl, c1⟩, c2⟩
  · exact Or.inr ⟨⟨j, m, by omega, h4, h5⟩, hov h6⟩
theorem mo_inst_wf {l : tl_T} (h : tl_wf l) : tl_end l 0 = l.length := by
  unfold tl_end
  rw [List.drop_zero, h.2.1, Nat.zero_add]
theorem l_MO_build8 {G : sd_G} {o : Nat} {h0 : sd_H} {nx a b c : Nat} {S : st_S} {Pq : fx_D → Prop} (hB : G.2.1 ≤ o) (hH : st_okH S) (ha : a < (st_th S).length) (hb : b < 8) (hc : c < (st_T S).length) (hg : ∀ l ∈ ru_hr S 8 a b c, ∀ x ∈ l, tl_g1 x)
    (kk : ∀ D', bd_J S (ru_hr S 8 a b c) (st_hy S a).length D' → sd_W G mMO_build 6 0 0 (fx_is G.1.2 mo_S o h0 nx none Pq) 451 [(0, .ref (o + 0)), (1, .int (nI 8)), (2, .int (nI a)), (3, .int (nI b)), (4, .int (nI c)), (5, .int (nI 71)), (6, .int (nI (st_cn S a)))] [] (fx_h G.1.2 mo_S o D' h0) nx 0 0) :
    ∀ (n k : Nat) (D : fx_D), (st_hy S a).length = k + n → bd_J S (ru_hr S 8 a b c) k D → sd_W G mMO_build 6 0 0 (fx_is G.1.2 mo_S o h0 nx none Pq) 400 [(0, .ref (o + 0)), (1, .int (nI 8)), (2, .int (nI a)), (3, .int (nI b)), (4, .int (nI c)), (5, .int (nI 71)), (6, .int (nI (st_cn S a))), (10, .int (nI k))] [] (fx_h G.1.2 mo_S o D h0) nx 0 0 := by
  intro n
  induction n with
  | zero =>
    intro k D hk hJ
    obtain ⟨a1, a2, a3, a4, a5, a6⟩ := mo_cn hJ.1 hH ha
    refine sd_iload dMO_build_400 rfl ?_
    refine sd_aload_n dMO_build_402 rfl rfl ?_
    refine fx_getr 10 9 (7) dMO_build_403 fMO_28 rfl rfl ?_
    refine sd_iload_n dMO_build_406 rfl rfl ?_
    refine fx_ialdv (v := (nI ((st_hy S a).length))) (a) dMO_build_407 rfl rfl (by omega) (by decide) (a4) ?_
    refine nn_icmp_ge 451 dMO_build_408 (by decide) (by omega) (by omega) (fun c408 => ?_) (fun c408 => ?_)
    ·
      refine sd_locp (al' := [(0, .ref (o + (0))), (1, .int (nI (8))), (2, .int (nI (a))), (3, .int (nI (b))), (4, .int (nI (c))), (5, .int (nI (71))), (6, .int (nI (st_cn S a)))]) [0, 1, 2, 3, 4, 5, 6] rfl ?_
      exact kk D (by rw [show (st_hy S a).length = k by omega]; exact hJ)
    ·
      exact absurd c408 (by omega)
  | succ n ih =>
    intro k D hk hJ
    obtain ⟨a1, a2, a3, a4, a5, a6⟩ := mo_cn hJ.1 hH ha
    obtain ⟨t, ht⟩ : ∃ t, (st_hy S a)[k]? = some t := ⟨(st_hy S a)[k], List.getElem?_eq_getElem (by omega)⟩
    obtain ⟨q1, q2⟩ := a6 k t ht
    obtain ⟨-, m1, m2, m3⟩ := mo_tm hJ.1 q2
    obtain ⟨-, c1, c2, c3⟩ := mo_tm hJ.1 hc
    have hl : (ru_hr S 8 a b c)[k]? = some (tl_inst (st_tm S t) b (st_tm S c)) := by
      unfold ru_hr
      rw [if_pos rfl, List.getElem?_map, ht]
      rfl
    have z0 := mo_begin_row (D := D) (r := 64 + k)
    have f0 : mo_fa D (fx_ua D 3 (64 + k) (nI 0)) (64 + k) := mo_begin_fa
    have s0 := c_MO_begin (G := G) (o := o) (D := D) (h0 := h0) (nx := nx) (r := 64 + k) hB (by omega)
    have e0 : (fx_ua D 3 (64 + k) (nI 0)).2.1 0 7 = D.2.1 0 7 := rfl
    have y0 : (fx_ua D 3 (64 + k) (nI 0)).1 8 (6 * a + k) = nI t := by rw [f0.1 8 (by decide) (by decide) (by decide)]; exact q1
    generalize fx_ua D 3 (64 + k) (nI 0) = D0 at z0 f0 s0 e0 y0
    have s1 := c_MO_put (G := G) (o := o) (D := D0) (h0 := h0) (nx := nx) (r := 64 + k) (q := t) (i := 0) (v := b) (tb := c) (b := st_tm S c) (c4 := nI c) (by_ := some (st_tm S c)) hB (by omega) (by omega) (by omega) m2 (by omega) (by have := m2.hd; exact getE_lt this) (f0.2.2.2.1 _ _ (by omega) m1) z0.okl (Or.inr ⟨rfl, by omega, by omega, rfl, c2⟩) (fun _ ↦ f0.2.2.2.1 _ _ (by omega) c1)
    rw [mo_inst_wf m2, Nat.sub_zero, show tl_sub (tl_pf (st_tm S t) 0 b (some (st_tm S c))) (st_tm S t) 0 (st_tm S t).length = tl_inst (st_tm S t) b (st_tm S c) from rfl] at s1
    obtain ⟨w1, w2⟩ := mo_wrt f0 z0 (hg _ (List.mem_of_getElem? hl))
    rw [e0] at w2
    have hJ' := bd_Js hJ (by omega) hl w1 (fun z ↦ mo_adds_over _ _ (e0.trans z)) w2
    generalize mo_adds D0 (64 + k) (tl_inst (st_tm S t) b (st_tm S c)) = D1 at s1 hJ'
    refine sd_iload dMO_build_400 rfl ?_
    refine sd_aload_n dMO_build_402 rfl rfl ?_
    refine fx_getr 10 9 (7) dMO_build_403 fMO_28 rfl rfl ?_
    refine sd_iload_n dMO_build_406 rfl rfl ?_
    refine fx_ialdv (v := (nI ((st_hy S a).length))) (a) dMO_build_407 rfl rfl (by omega) (by decide) (a4) ?_
    refine nn_icmp_ge 451 dMO_build_408 (by decide) (by omega) (by omega) (fun c408 => ?_) (fun c408 => ?_)
    ·
      exact absurd c408 (by omega)
    ·
      refine sd_aload_n dMO_build_411 rfl rfl ?_
      refine sd_bipush (v := nI 64) dMO_build_412 (by decide) ?_
      refine sd_iload dMO_build_414 rfl ?_
      refine nn_iadd dMO_build_416 ?_
      refine fx_cV 10 sR_MO [.int (nI (64 + k))] [] dMO_build_417 kMO_151 rfl rfl mMO_begin_v (s0) (by decide) (Nat.le_refl _) (Nat.le_refl _) (Nat.le_of_ble_eq_true rfl) rfl ?_
      refine sd_aload_n dMO_build_420 rfl rfl ?_
      refine sd_aload_n dMO_build_421 rfl rfl ?_
      refine fx_getr 10 10 (8) dMO_build_422 fMO_31 rfl rfl ?_
      refine sd_bipush (v := nI 6) dMO_build_425 (by decide) ?_
      refine sd_iload_n dMO_build_427 rfl rfl ?_
      refine nn_imul dMO_build_428 ?_
      refine sd_iload dMO_build_429 rfl ?_
      refine nn_iadd dMO_build_431 ?_
      refine fx_ialdv (v := (nI (t))) ((6 * a) + k) dMO_build_432 rfl rfl (by omega) (by decide) (y0) ?_
      refine sd_iconst (v := nI 0) dMO_build_433 (by decide) ?_
      refine sd_iload_n dMO_build_434 rfl rfl ?_
      refine sd_iload dMO_build_435 rfl ?_
      refine sd_bipush (v := nI 64) dMO_build_437 (by decide) ?_
      refine sd_iload dMO_build_439 rfl ?_
      refine nn_iadd dMO_build_441 ?_
      refine fx_cV 10 sR_MO [.int (nI (t)), .int (nI (0)), .int (nI (b)), .int (nI (c)), .int (nI (64 + k))] [] dMO_build_442 kMO_243 rfl rfl mMO_put_v (s1) (by decide) (Nat.le_refl _) (Nat.le_refl _) (Nat.le_of_ble_eq_true rfl) rfl ?_
      refine nn_iinc 1 dMO_build_445 rfl (by decide) ?_
      refine sd_goto 400 dMO_build_448 (by decide) ?_
      refine sd_locp (al' := [(0, .ref (o + (0))), (1, .int (nI (8))), (2, .int (nI (a))), (3, .int (nI (b))), (4, .int (nI (c))), (5, .int (nI (71))), (6, .int (nI (st_cn S a))), (10, .int (nI (k + 1)))]) [1, 2, 3, 4, 5, 6, 7, 0] rfl ?_
      exact ih (k + 1) D1 (by omega) hJ'
/-- behind the build of INST -/
def bd_Q8 (S : st_S) (ls : List tl_T) (L : tl_T) (D' : fx_D) : Prop := mo_R S D' ∧ mo_rw D' [] ∧ (((∀ j l, ls[j]? = some l → l.length ≤ 24 ∧ mo_row D' (64 + j) l) ∧ L.length ≤ 24 ∧ mo_row D' 71 L ∧ D'.2.1 0 7 = nI 0) ∨ (((∃ l ∈ ls, 24 < l.length) ∨ 24 < L.length) ∧ D'.2.1 0 7 = nI 1))
theorem w_MO_build8 {G : sd_G} {o : Nat} {D : fx_D} {h0 : sd_H} {nx a b c : Nat} {S : st_S} (hB : G.2.1 ≤ o) (hH : st_okH S) (ha : a < (st_th S).length) (hb : b < 8) (hc : c < (st_T S).length) (hgL : ∀ x ∈ tl_inst (st_tm S (st_cn S a)) b (st_tm S c), tl_g1 x) (hJ : bd_J S (ru_hr S 8 a b c) (st_hy S a).length D) : sd_W G mMO_build 6 0 0 (fx_is G.1.2 mo_S o h0 nx none (bd_Q8 S (ru_hr S 8 a b c) (tl_inst (st_tm S (st_cn S a)) b (st_tm S c)))) 451 [(0, .ref (o + 0)), (1, .int (nI 8)), (2, .int (nI a)), (3, .int (nI b)), (4, .int (nI c)), (5, .int (nI 71)), (6, .int (nI (st_cn S a)))] [] (fx_h G.1.2 mo_S o D h0) nx 0 0 := by
  have hlen : (ru_hr S 8 a b c).length = (st_hy S a).length := by unfold ru_hr; rw [if_pos rfl, List.length_map]
  obtain ⟨hR, ⟨hrw, h7⟩, hj⟩ := hJ
  obtain ⟨a1, a2, a3, a4, a5, a6⟩ := mo_cn hR hH ha
  obtain ⟨-, m1, m2, m3⟩ := mo_tm hR a2
  obtain ⟨-, c1, c2, c3⟩ := mo_tm hR hc
  have s1 := c_MO_put (G := G) (o := o) (D := D) (h0 := h0) (nx := nx) (r := 71) (q := st_cn S a) (i := 0) (v := b) (tb := c) (b := st_tm S c) (c4 := nI c) (by_ := some (st_tm S c)) hB (by omega) (by omega) (by omega) m2 (by omega) (by have := m2.hd; exact getE_lt this) m1 h7.okl (Or.inr ⟨rfl, by omega, by omega, rfl, c2⟩) (fun _ ↦ c1)
  rw [mo_inst_wf m2, Nat.sub_zero, show tl_sub (tl_pf (st_tm S (st_cn S a)) 0 b (some (st_tm S c))) (st_tm S (st_cn S a)) 0 (st_tm S (st_cn S a)).length = tl_inst (st_tm S (st_cn S a)) b (st_tm S c) from rfl] at s1
  obtain ⟨w1, w2⟩ := mo_wrt (mo_fa.rf D 71) h7 hgL
  have wo := mo_adds_over (r := 71) (tl_inst (st_tm S (st_cn S a)) b (st_tm S c)) D
  have fin : bd_Q8 S (ru_hr S 8 a b c) (tl_inst (st_tm S (st_cn S a)) b (st_tm S c)) (mo_adds D 71 (tl_inst (st_tm S (st_cn S a)) b (st_tm S c))) := by
    refine ⟨mo_R_fa hR w1 (by omega), ⟨hrw.1, by rw [w1.2.1 0 16 (by simp)]; exact hrw.2.1, fun k t ht ↦ by simp at ht⟩, ?_⟩
    rcases hj with ⟨j1, j2⟩ | ⟨⟨j, l, h1, h2, h3⟩, h4⟩
    · rcases w2 with ⟨v1, v2, v3⟩ | ⟨v1, v2⟩
      · refine Or.inl ⟨fun j l hl ↦ ?_, v1, v2, v3.trans j2⟩
        have hjl := getE_lt hl
        obtain ⟨e1, e2⟩ := j1 j l (by omega) hl
        exact ⟨e1, w1.2.2.2.1 _ _ (by omega) e2⟩
      · exact Or.inr ⟨Or.inr v1, v2⟩
    · exact Or.inr ⟨Or.inl ⟨l, List.mem_of_getElem? h2, h3⟩, wo h4⟩
  generalize mo_adds D 71 (tl_inst (st_tm S (st_cn S a)) b (st_tm S c)) = D1 at s1 fin
  clear w1 w2 wo hj
  refine sd_aload_n dMO_build_451 rfl rfl ?_
  refine sd_iload dMO_build_452 rfl ?_
  refine sd_iconst (v := nI 0) dMO_build_454 (by decide) ?_
  refine sd_iload_n dMO_build_455 rfl rfl ?_
  refine sd_iload dMO_build_456 rfl ?_
  refine sd_iload dMO_build_458 rfl ?_
  refine fx_cV 10 sR_MO [.int (nI (st_cn S a)), .int (nI (0)), .int (nI (b)), .int (nI (c)), .int (nI (71))] [] dMO_build_460 kMO_243 rfl rfl mMO_put_v (s1) (by decide) (Nat.le_refl _) (Nat.le_refl _) (Nat.le_of_ble_eq_true rfl) rfl ?_
  refine sd_iload_n dMO_build_463 rfl rfl ?_
  refine sd_bipush (v := nI 7) dMO_build_464 (by decide) ?_
  refine nn_icmp_ne 486 dMO_build_466 (by decide) (by decide) (by decide) (fun _ => ?_) (fun c => absurd c (by decide))
  refine sd_iload_n dMO_build_486 rfl rfl ?_
  refine sd_iconst (v := nI 1) dMO_build_487 (by decide) ?_
  refine nn_icmp_le 519 dMO_build_488 (by decide) (by decide) (by decide) (fun c => absurd c (by decide)) (fun _ => ?_)
  refine sd_iload_n dMO_build_491 rfl rfl ?_
  refine sd_iconst (v := nI 5) dMO_build_492 (by decide) ?_
  refine nn_icmp_eq 519 dMO_build_493 (by decide) (by decide) (by decide) (fun c => absurd c (by decide)) (fun _ => ?_)
  refine sd_iload_n dMO_build_496 rfl rfl ?_
  refine sd_bipush (v := nI 8) dMO_build_497 (by decide) ?_
  refine nn_icmp_ge 519 dMO_build_499 (by decide) (by decide) (by decide) (fun _ => ?_) (fun c => absurd c (by decide))
  exact sd_vret dMO_build_519 rfl (Nat.le_refl _) (Nat.le_refl _) ⟨rfl, rfl, _, rfl, fin⟩
theorem c_MO_build8 {G : sd_G} {o : Nat} {D : fx_D} {h0 : sd_H} {nx a b c : Nat} {S : st_S} (hB : G.2.1 ≤ o) (hR : mo_R S D) (hH : st_okH S) (hrw : mo_rw D []) (hov : D.2.1 0 7 = nI 0) (ha : a < (st_th S).length) (hb : b < 8) (hc : c < (st_T S).length) (hg : ∀ l ∈ ru_hr S 8 a b c, ∀ x ∈ l, tl_g1 x) (hgL : ∀ x ∈ tl_inst (st_tm S (st_cn S a)) b (st_tm S c), tl_g1 x) : sd_Ct G mMO_build 6 0 0 [.ref (o + 0), .int (nI 8), .int (nI a), .int (nI b), .int (nI c)] (fx_h G.1.2 mo_S o D h0) nx (fx_is G.1.2 mo_S o h0 nx none (bd_Q8 S (ru_hr S 8 a b c) (tl_inst (st_tm S (st_cn S a)) b (st_tm S c)))) := by
  refine sd_Ct_of (by decide) (Nat.le_of_ble_eq_true rfl) ?_
  obtain ⟨a1, a2, a3, a4, a5, a6⟩ := mo_cn hR hH ha
  have hlen : (ru_hr S 8 a b c).length = (st_hy S a).length := by unfold ru_hr; rw [if_pos rfl, List.length_map]
  have s0 := c_MO_begin (G := G) (o := o) (D := D) (h0 := h0) (nx := nx) (r := 71) hB (by omega)
  have f0 : mo_fa D (fx_ua D 3 71 (nI 0)) 71 := mo_begin_fa
  have z0 := mo_begin_row (D := D) (r := 71)
  have e0 : (fx_ua D 3 71 (nI 0)).2.1 0 7 = nI 0 := hov
  generalize fx_ua D 3 71 (nI 0) = D0 at s0 f0 z0 e0
  have hJ0 : bd_J S (ru_hr S 8 a b c) 0 D0 := ⟨mo_R_fa hR f0 (by omega), ⟨⟨hrw.1, by rw [f0.2.1 0 16 (by simp)]; exact hrw.2.1, fun k t ht ↦ by simp at ht⟩, z0⟩, Or.inl ⟨fun j l h ↦ absurd h (by omega), e0⟩⟩
  refine sd_bipush (v := nI 71) dMO_build_0 (by decide) ?_
  refine sd_istore dMO_build_2 (by decide) ?_
  refine sd_iload_n dMO_build_4 rfl rfl ?_
  refine nn_if_eq 18 dMO_build_5 (by decide) (by decide) (fun c => absurd c (by decide)) (fun _ => ?_)
  refine sd_iload_n dMO_build_8 rfl rfl ?_
  refine sd_iconst (v := nI 1) dMO_build_9 (by decide) ?_
  refine nn_icmp_eq 18 dMO_build_10 (by decide) (by decide) (by decide) (fun c => absurd c (by decide)) (fun _ => ?_)
  refine sd_iload_n dMO_build_13 rfl rfl ?_
  refine sd_iconst (v := nI 5) dMO_build_14 (by decide) ?_
  refine nn_icmp_ne 22 dMO_build_15 (by decide) (by decide) (by decide) (fun _ => ?_) (fun c => absurd c (by decide))
  refine sd_aload_n dMO_build_22 rfl rfl ?_
  refine fx_getr 10 8 (6) dMO_build_23 fMO_25 rfl rfl ?_
  refine sd_iload_n dMO_build_26 rfl rfl ?_
  refine fx_ialdv (v := (nI (st_cn S a))) (a) dMO_build_27 rfl rfl (by omega) (by decide) (a1) ?_
  refine sd_istore dMO_build_28 (by decide) ?_
  refine sd_iload_n dMO_build_30 rfl rfl ?_
  refine sd_iconst (v := nI 2) dMO_build_31 (by decide) ?_
  refine nn_icmp_eq 52 dMO_build_32 (by decide) (by decide) (by decide) (fun c => absurd c (by decide)) (fun _ => ?_)
  refine sd_iload_n dMO_build_35 rfl rfl ?_
  refine sd_iconst (v := nI 3) dMO_build_36 (by decide) ?_
  refine nn_icmp_eq 52 dMO_build_37 (by decide) (by decide) (by decide) (fun c => absurd c (by decide)) (fun _ => ?_)
  refine sd_iload_n dMO_build_40 rfl rfl ?_
  refine sd_bipush (v := nI 6) dMO_build_41 (by decide) ?_
  refine nn_icmp_eq 52 dMO_build_43 (by decide) (by decide) (by decide) (fun c => absurd c (by decide)) (fun _ => ?_)
  refine sd_iload_n dMO_build_46 rfl rfl ?_
  refine sd_bipush (v := nI 7) dMO_build_47 (by decide) ?_
  refine nn_icmp_ne 61 dMO_build_49 (by decide) (by decide) (by decide) (fun _ => ?_) (fun c => absurd c (by decide))
  refine sd_iconst (v := nI 0) dMO_build_61 (by decide) ?_
  refine sd_istore dMO_build_62 (by decide) ?_
  refine sd_aload_n dMO_build_64 rfl rfl ?_
  refine sd_iload dMO_build_65 rfl ?_
  refine fx_cV 10 sR_MO [.int (nI (71))] [] dMO_build_67 kMO_151 rfl rfl mMO_begin_v (s0) (by decide) (Nat.le_refl _) (Nat.le_refl _) (Nat.le_of_ble_eq_true rfl) rfl ?_
  refine sd_iload_n dMO_build_70 rfl rfl ?_
  refine sd_tableOut 397 dMO_build_71 (Or.inr (by decide)) (by decide) ?_
  refine sd_iconst (v := nI 0) dMO_build_397 (by decide) ?_
  refine sd_istore dMO_build_398 (by decide) ?_
  refine sd_locp (al' := [(0, .ref (o + (0))), (1, .int (nI (8))), (2, .int (nI (a))), (3, .int (nI (b))), (4, .int (nI (c))), (5, .int (nI (71))), (6, .int (nI (st_cn S a))), (10, .int (nI (0)))]) [4, 5, 6, 7, 8, 3, 2, 0] rfl ?_
  refine l_MO_build8 hB hH ha hb hc hg (fun D' hJ ↦ ?_) (st_hy S a).length 0 D0 (by omega) hJ0
  exact w_MO_build8 hB hH ha hb hc hgL hJ
