/-! ===== the model: names, around, isTerm, isTheorem, equal, keep ===== -/
theorem dMO_names_0 : decode prog_13_method_25_code 0 = .ok (.iconst 0, 1) := by decide +kernel
theorem dMO_names_1 : decode prog_13_method_25_code 1 = .ok (.istore_n 3, 1) := by decide +kernel
theorem dMO_names_2 : decode prog_13_method_25_code 2 = .ok (.iload_n 3, 1) := by decide +kernel
theorem dMO_names_3 : decode prog_13_method_25_code 3 = .ok (.aload_n 0, 1) := by decide +kernel
theorem dMO_names_4 : decode prog_13_method_25_code 4 = .ok (.getfield 16, 3) := by decide +kernel
theorem dMO_names_7 : decode prog_13_method_25_code 7 = .ok (.iload_n 1, 1) := by decide +kernel
theorem dMO_names_8 : decode prog_13_method_25_code 8 = .ok (.iaload, 1) := by decide +kernel
theorem dMO_names_9 : decode prog_13_method_25_code 9 = .ok (.if_icmp .ge (21), 3) := by decide +kernel
theorem dMO_names_12 : decode prog_13_method_25_code 12 = .ok (.aload_n 0, 1) := by decide +kernel
theorem dMO_names_13 : decode prog_13_method_25_code 13 = .ok (.iload_n 1, 1) := by decide +kernel
theorem dMO_names_14 : decode prog_13_method_25_code 14 = .ok (.iload_n 3, 1) := by decide +kernel
theorem dMO_names_15 : decode prog_13_method_25_code 15 = .ok (.invokevirtual 131, 3) := by decide +kernel
theorem dMO_names_18 : decode prog_13_method_25_code 18 = .ok (.iload_n 2, 1) := by decide +kernel
theorem dMO_names_19 : decode prog_13_method_25_code 19 = .ok (.if_icmp .ne (5), 3) := by decide +kernel
theorem dMO_names_22 : decode prog_13_method_25_code 22 = .ok (.iconst 1, 1) := by decide +kernel
theorem dMO_names_23 : decode prog_13_method_25_code 23 = .ok (.ireturn, 1) := by decide +kernel
theorem dMO_names_24 : decode prog_13_method_25_code 24 = .ok (.iinc 3 (1), 3) := by decide +kernel
theorem dMO_names_27 : decode prog_13_method_25_code 27 = .ok (.goto (-25), 3) := by decide +kernel
theorem dMO_names_30 : decode prog_13_method_25_code 30 = .ok (.iconst 0, 1) := by decide +kernel
theorem dMO_names_31 : decode prog_13_method_25_code 31 = .ok (.ireturn, 1) := by decide +kernel
theorem l_MO_names {G : sd_G} {o : Nat} {D : fx_D} {h0 : sd_H} {nx r v b : Nat} {l : tl_T} (hr : r < 72) (hl : mo_row D r l) (hv : v < 100) (hb2 : b < 2) (hb : b = 1 ↔ ∃ x ∈ l, x.1 = v) : ∀ (n k : Nat), l.length = k + n → (∀ (a : Nat) (x : Nat × Nat), a < k → l[a]? = some x → x.1 ≠ v) → sd_W G mMO_names 1 0 0 (sd_is (some (.int (nI b))) (fx_h G.1.2 mo_S o D h0) nx) 2 [(0, .ref (o + 0)), (1, .int (nI r)), (2, .int (nI v)), (3, .int (nI k))] [] (fx_h G.1.2 mo_S o D h0) nx 0 0 := by
  have l24 := hl.1
  intro n
  induction n with
  | zero =>
    intro k hk ha
    have hne : ¬ b = 1 := fun e => by
      obtain ⟨x, hx, e2⟩ := hb.mp e
      obtain ⟨a, h1⟩ := List.getElem?_of_mem hx
      have := (List.getElem?_eq_some_iff.mp h1).1
      exact ha a x (by omega) h1 e2
    obtain rfl : b = 0 := by omega
    refine sd_iload_n dMO_names_2 rfl rfl ?_
    refine sd_aload_n dMO_names_3 rfl rfl ?_
    refine fx_getr 10 2 (3) dMO_names_4 fMO_16 rfl rfl ?_
    refine sd_iload_n dMO_names_7 rfl rfl ?_
    refine fx_ialdv (r) dMO_names_8 rfl rfl (by omega) (by decide) (hl.2.1) ?_
    refine nn_icmp_ge 30 dMO_names_9 (by decide) (by omega) (by omega) (fun c9 => ?_) (fun c9 => ?_)
    ·
      refine sd_iconst (v := nI 0) dMO_names_30 (by decide) ?_
      exact sd_zret dMO_names_31 rfl (Or.inl rfl) (Nat.le_refl _) (Nat.le_refl _) ⟨rfl, rfl, rfl⟩
    ·
      exact absurd c9 (by omega)
  | succ n ih =>
    intro k hk ha
    obtain ⟨x, hx⟩ : ∃ x, l[k]? = some x := ⟨l[k], List.getElem?_eq_getElem (by omega)⟩
    obtain ⟨x1, x2, x3, x4⟩ := hl.2.2 _ x hx
    have s1 := c_MO_symbolAt (G := G) (o := o) (D := D) (h0 := h0) (nx := nx) (r := r) (i := k) (by omega)
    rw [x1] at s1
    refine sd_iload_n dMO_names_2 rfl rfl ?_
    refine sd_aload_n dMO_names_3 rfl rfl ?_
    refine fx_getr 10 2 (3) dMO_names_4 fMO_16 rfl rfl ?_
    refine sd_iload_n dMO_names_7 rfl rfl ?_
    refine fx_ialdv (r) dMO_names_8 rfl rfl (by omega) (by decide) (hl.2.1) ?_
    refine nn_icmp_ge 30 dMO_names_9 (by decide) (by omega) (by omega) (fun c9 => ?_) (fun c9 => ?_)
    ·
      exact absurd c9 (by omega)
    ·
      refine sd_aload_n dMO_names_12 rfl rfl ?_
      refine sd_iload_n dMO_names_13 rfl rfl ?_
      refine sd_iload_n dMO_names_14 rfl rfl ?_
      refine fx_cV 10 sR_MO [.int (nI (r)), .int (nI (k))] [] dMO_names_15 kMO_131 rfl rfl mMO_symbolAt_v (s1) (by decide) (Nat.le_refl _) (Nat.le_refl _) (Nat.le_of_ble_eq_true rfl) rfl ?_
      refine sd_iload_n dMO_names_18 rfl rfl ?_
      refine nn_icmp_ne 24 dMO_names_19 (by decide) (by omega) (by omega) (fun c19 => ?_) (fun c19 => ?_)
      ·
        refine nn_iinc 1 dMO_names_24 rfl (by decide) ?_
        refine sd_goto 2 dMO_names_27 (by decide) ?_
        refine sd_locp (al' := [(0, .ref (o + (0))), (1, .int (nI (r))), (2, .int (nI (v))), (3, .int (nI (k + 1)))]) [1, 2, 3, 0] rfl ?_
        refine ih (k + 1) (by omega) (fun a y h h1 => ?_)
        rcases Nat.lt_or_ge a k with z | z
        · exact ha a y z h1
        · obtain rfl : a = k := by omega
          rw [hx] at h1; cases h1; exact c19
      ·
        obtain rfl : b = 1 := hb.mpr ⟨x, List.mem_of_getElem? hx, c19⟩
        refine sd_iconst (v := nI 1) dMO_names_22 (by decide) ?_
        exact sd_zret dMO_names_23 rfl (Or.inr rfl) (Nat.le_refl _) (Nat.le_refl _) ⟨rfl, rfl, rfl⟩
theorem c_MO_names {G : sd_G} {o : Nat} {D : fx_D} {h0 : sd_H} {nx r v b : Nat} {l : tl_T} (hr : r < 72) (hl : mo_row D r l) (hv : v < 100) (hb2 : b < 2) (hb : b = 1 ↔ ∃ x ∈ l, x.1 = v) : sd_Ct G mMO_names 1 0 0 [.ref (o + 0), .int (nI r), .int (nI v)] (fx_h G.1.2 mo_S o D h0) nx (sd_is (some (.int (nI b))) (fx_h G.1.2 mo_S o D h0) nx) := by
  refine sd_Ct_of (by decide) (Nat.le_of_ble_eq_true rfl) ?_
  refine sd_iconst (v := nI 0) dMO_names_0 (by decide) ?_
  refine sd_istore_n dMO_names_1 rfl (by decide) ?_
  refine sd_locp (al' := [(0, .ref (o + (0))), (1, .int (nI (r))), (2, .int (nI (v))), (3, .int (nI (0)))]) [1, 2, 3, 0] rfl ?_
  exact l_MO_names hr hl hv hb2 hb l.length 0 (by omega) (fun a x h => absurd h (by omega))
/-- how many of the n symbols from k on are LAMs whose part goes beyond at -/
def tl_arn (l : tl_T) (at_ : Nat) : Nat → Nat → Nat
  | _, 0 => 0
  | k, n + 1 => (if (l[k]?.map (·.1)) = some 10 ∧ at_ < tl_end l k then 1 else 0) + tl_arn l at_ (k + 1) n
theorem tl_arn_le (l : tl_T) (at_ : Nat) : ∀ (n k : Nat), tl_arn l at_ k n ≤ n
  | 0, k => Nat.le_refl _
  | n + 1, k => by
    have := tl_arn_le l at_ n (k + 1)
    unfold tl_arn
    split <;> omega
theorem dMO_around_0 : decode prog_13_method_26_code 0 = .ok (.iconst 0, 1) := by decide +kernel
theorem dMO_around_1 : decode prog_13_method_26_code 1 = .ok (.istore 4, 2) := by decide +kernel
theorem dMO_around_3 : decode prog_13_method_26_code 3 = .ok (.iload_n 2, 1) := by decide +kernel
theorem dMO_around_4 : decode prog_13_method_26_code 4 = .ok (.istore 5, 2) := by decide +kernel
theorem dMO_around_6 : decode prog_13_method_26_code 6 = .ok (.iload 5, 2) := by decide +kernel
theorem dMO_around_8 : decode prog_13_method_26_code 8 = .ok (.iload_n 3, 1) := by decide +kernel
theorem dMO_around_9 : decode prog_13_method_26_code 9 = .ok (.if_icmp .ge (35), 3) := by decide +kernel
theorem dMO_around_12 : decode prog_13_method_26_code 12 = .ok (.aload_n 0, 1) := by decide +kernel
theorem dMO_around_13 : decode prog_13_method_26_code 13 = .ok (.iload_n 1, 1) := by decide +kernel
theorem dMO_around_14 : decode prog_13_method_26_code 14 = .ok (.iload 5, 2) := by decide +kernel
theorem dMO_around_16 : decode prog_13_method_26_code 16 = .ok (.invokevirtual 131, 3) := by decide +kernel
theorem dMO_around_19 : decode prog_13_method_26_code 19 = .ok (.bipush (10), 2) := by decide +kernel
theorem dMO_around_21 : decode prog_13_method_26_code 21 = .ok (.if_icmp .ne (17), 3) := by decide +kernel
theorem dMO_around_24 : decode prog_13_method_26_code 24 = .ok (.aload_n 0, 1) := by decide +kernel
theorem dMO_around_25 : decode prog_13_method_26_code 25 = .ok (.iload_n 1, 1) := by decide +kernel
theorem dMO_around_26 : decode prog_13_method_26_code 26 = .ok (.iload 5, 2) := by decide +kernel
theorem dMO_around_28 : decode prog_13_method_26_code 28 = .ok (.invokevirtual 128, 3) := by decide +kernel
theorem dMO_around_31 : decode prog_13_method_26_code 31 = .ok (.iload_n 3, 1) := by decide +kernel
theorem dMO_around_32 : decode prog_13_method_26_code 32 = .ok (.if_icmp .le (6), 3) := by decide +kernel
theorem dMO_around_35 : decode prog_13_method_26_code 35 = .ok (.iinc 4 (1), 3) := by decide +kernel
theorem dMO_around_38 : decode prog_13_method_26_code 38 = .ok (.iinc 5 (1), 3) := by decide +kernel
theorem dMO_around_41 : decode prog_13_method_26_code 41 = .ok (.goto (-35), 3) := by decide +kernel
theorem dMO_around_44 : decode prog_13_method_26_code 44 = .ok (.iload 4, 2) := by decide +kernel
theorem dMO_around_46 : decode prog_13_method_26_code 46 = .ok (.ireturn, 1) := by decide +kernel
theorem l_MO_around {G : sd_G} {o : Nat} {D : fx_D} {h0 : sd_H} {nx r a : Nat} {l : tl_T} (hr : r < 72) (hl : mo_row D r l) (hw : tl_wf l) (ha : a ≤ l.length) : ∀ (n k c v : Nat), a = k + n → c ≤ k → v = c + tl_arn l a k n → sd_W G mMO_around 2 0 0 (sd_is (some (.int (nI v))) (fx_h G.1.2 mo_S o D h0) nx) 6 [(0, .ref (o + 0)), (1, .int (nI r)), (3, .int (nI a)), (4, .int (nI c)), (5, .int (nI k))] [] (fx_h G.1.2 mo_S o D h0) nx 0 0 := by
  have l24 := hl.1
  intro n
  induction n with
  | zero =>
    intro k c v hk hc hv
    refine sd_iload dMO_around_6 rfl ?_
    refine sd_iload_n dMO_around_8 rfl rfl ?_
    refine nn_icmp_ge 44 dMO_around_9 (by decide) (by omega) (by omega) (fun c9 => ?_) (fun c9 => ?_)
    ·
      refine sd_iload dMO_around_44 rfl ?_
      exact sd_iret dMO_around_46 rfl (Nat.le_refl _) (Nat.le_refl _) ⟨by rw [hv]; rfl, rfl, rfl⟩
    ·
      exact absurd c9 (by omega)
  | succ n ih =>
    intro k c v hk hc hv
    obtain ⟨x, hx⟩ : ∃ x, l[k]? = some x := ⟨l[k], List.getElem?_eq_getElem (by omega)⟩
    obtain ⟨x1, x2, x3, x4⟩ := hl.2.2 _ x hx
    have s1 := c_MO_symbolAt (G := G) (o := o) (D := D) (h0 := h0) (nx := nx) (r := r) (i := k) (by omega)
    rw [x1] at s1
    have e1 := tl_end_le (l := l) (i := k) (by omega)
    unfold tl_arn at hv
    rw [hx] at hv
    refine sd_iload dMO_around_6 rfl ?_
    refine sd_iload_n dMO_around_8 rfl rfl ?_
    refine nn_icmp_ge 44 dMO_around_9 (by decide) (by omega) (by omega) (fun c9 => ?_) (fun c9 => ?_)
    ·
      exact absurd c9 (by omega)
    ·
      refine sd_aload_n dMO_around_12 rfl rfl ?_
      refine sd_iload_n dMO_around_13 rfl rfl ?_
      refine sd_iload dMO_around_14 rfl ?_
      refine fx_cV 10 sR_MO [.int (nI (r)), .int (nI (k))] [] dMO_around_16 kMO_131 rfl rfl mMO_symbolAt_v (s1) (by decide) (Nat.le_refl _) (Nat.le_refl _) (Nat.le_of_ble_eq_true rfl) rfl ?_
      refine sd_bipush (v := nI 10) dMO_around_19 (by decide) ?_
      refine nn_icmp_ne 38 dMO_around_21 (by decide) (by omega) (by omega) (fun c21 => ?_) (fun c21 => ?_)
      ·
        rw [if_neg (by rintro ⟨z, -⟩; exact c21 (Option.some.inj z))] at hv
        refine nn_iinc 1 dMO_around_38 rfl (by decide) ?_
        refine sd_goto 6 dMO_around_41 (by decide) ?_
        refine sd_locp (al' := [(0, .ref (o + (0))), (1, .int (nI (r))), (3, .int (nI (a))), (4, .int (nI (c))), (5, .int (nI (k + 1)))]) [1, 2, 3, 4, 0] rfl ?_
        exact ih (k + 1) _ v (by omega) (by omega) (by omega)
      ·
        refine sd_aload_n dMO_around_24 rfl rfl ?_
        refine sd_iload_n dMO_around_25 rfl rfl ?_
        refine sd_iload dMO_around_26 rfl ?_
        refine fx_cV 10 sR_MO [.int (nI (r)), .int (nI (k))] [] dMO_around_28 kMO_128 rfl rfl mMO_end_v (c_MO_end hr hl (by omega) (tl_ok_drop l 1 k hw.1 hw.2.1 (by omega))) (by decide) (Nat.le_refl _) (Nat.le_refl _) (Nat.le_of_ble_eq_true rfl) rfl ?_
        refine sd_iload_n dMO_around_31 rfl rfl ?_
        refine nn_icmp_le 38 dMO_around_32 (by decide) (by omega) (by omega) (fun c32 => ?_) (fun c32 => ?_)
        ·
          rw [if_neg (by rintro ⟨-, z⟩; omega)] at hv
          refine nn_iinc 1 dMO_around_38 rfl (by decide) ?_
          refine sd_goto 6 dMO_around_41 (by decide) ?_
          refine sd_locp (al' := [(0, .ref (o + (0))), (1, .int (nI (r))), (3, .int (nI (a))), (4, .int (nI (c))), (5, .int (nI (k + 1)))]) [1, 2, 3, 4, 0] rfl ?_
          exact ih (k + 1) _ v (by omega) (by omega) (by omega)
        ·
          rw [if_pos ⟨by rw [← c21]; rfl, c32⟩] at hv
          refine nn_iinc 1 dMO_around_35 rfl (by decide) ?_
          refine nn_iinc 1 dMO_around_38 rfl (by decide) ?_
          refine sd_goto 6 dMO_around_41 (by decide) ?_
          refine sd_locp (al' := [(0, .ref (o + (0))), (1, .int (nI (r))), (3, .int (nI (a))), (4, .int (nI (c + 1))), (5, .int (nI (k + 1)))]) [2, 3, 4, 1, 0] rfl ?_
          exact ih (k + 1) _ v (by omega) (by omega) (by omega)
theorem c_MO_around {G : sd_G} {o : Nat} {D : fx_D} {h0 : sd_H} {nx r a f : Nat} {l : tl_T} (hr : r < 72) (hl : mo_row D r l) (hw : tl_wf l) (hf : f ≤ a) (ha : a ≤ l.length) : sd_Ct G mMO_around 2 0 0 [.ref (o + 0), .int (nI r), .int (nI f), .int (nI a)] (fx_h G.1.2 mo_S o D h0) nx (sd_is (some (.int (nI (tl_arn l a f (a - f))))) (fx_h G.1.2 mo_S o D h0) nx) := by
  refine sd_Ct_of (by decide) (Nat.le_of_ble_eq_true rfl) ?_
  refine sd_iconst (v := nI 0) dMO_around_0 (by decide) ?_
  refine sd_istore dMO_around_1 (by decide) ?_
  refine sd_iload_n dMO_around_3 rfl rfl ?_
  refine sd_istore dMO_around_4 (by decide) ?_
  refine sd_locp (al' := [(0, .ref (o + (0))), (1, .int (nI (r))), (3, .int (nI (a))), (4, .int (nI (0))), (5, .int (nI (f)))]) [2, 3, 5, 1, 0] rfl ?_
  exact l_MO_around hr hl hw ha (a - f) f 0 _ (by omega) (by omega) (by omega)
/-- x is one of the numbers below n -/
theorem nn_has {x : Int32} {n : Nat} (hn : n < 2 ^ 30) : (¬ x < nI 0 ∧ ¬ nI n - nI 1 < x) ↔ ∃ t : Nat, t < n ∧ x = nI t := by
  constructor
  · rintro ⟨h1, h2⟩
    obtain ⟨t, ht, rfl⟩ := nI_of (x := x) h1
    refine ⟨t, ?_, rfl⟩
    cases n with
    | zero =>
      exfalso
      apply h2
      rw [Int32.lt_iff_toInt_lt, nI_toInt ht]
      show (-1 : Int) < _
      omega
    | succ k =>
      rw [pk_sub (by omega)] at h2
      have := Nat.not_lt.mp (fun z => h2 ((nI_ltI (by omega) ht).mpr z))
      omega
  · rintro ⟨t, ht, rfl⟩
    refine ⟨nI_pos (by omega), ?_⟩
    rw [pk_sub (by omega)]
    exact nI_nlt (by omega) (by omega)
theorem dMO_isTerm_0 : decode prog_13_method_23_code 0 = .ok (.iload_n 1, 1) := by decide +kernel
theorem dMO_isTerm_1 : decode prog_13_method_23_code 1 = .ok (.iconst 0, 1) := by decide +kernel
theorem dMO_isTerm_2 : decode prog_13_method_23_code 2 = .ok (.aload_n 0, 1) := by decide +kernel
theorem dMO_isTerm_3 : decode prog_13_method_23_code 3 = .ok (.getfield 117, 3) := by decide +kernel
theorem dMO_isTerm_6 : decode prog_13_method_23_code 6 = .ok (.iconst 1, 1) := by decide +kernel
theorem dMO_isTerm_7 : decode prog_13_method_23_code 7 = .ok (.isub, 1) := by decide +kernel
theorem dMO_isTerm_8 : decode prog_13_method_23_code 8 = .ok (.invokestatic 102, 3) := by decide +kernel
theorem dMO_isTerm_11 : decode prog_13_method_23_code 11 = .ok (.ireturn, 1) := by decide +kernel
theorem c_MO_isTerm {G : sd_G} {o : Nat} {D : fx_D} {h0 : sd_H} {nx n b : Nat} {x : Int32} (hn : n ≤ 64) (hl : D.2.1 0 5 = nI n) (hb2 : b < 2) (hb : b = 1 ↔ ∃ t : Nat, t < n ∧ x = nI t) : sd_Ct G mMO_isTerm 1 0 0 [.ref (o + 0), .int x] (fx_h G.1.2 mo_S o D h0) nx (sd_is (some (.int (nI b))) (fx_h G.1.2 mo_S o D h0) nx) := by
  refine sd_Ct_of (by decide) (Nat.le_of_ble_eq_true rfl) ?_
  refine sd_iload_n dMO_isTerm_0 rfl rfl ?_
  refine sd_iconst (v := nI 0) dMO_isTerm_1 (by decide) ?_
  refine sd_aload_n dMO_isTerm_2 rfl rfl ?_
  refine fx_getiv 10 5 dMO_isTerm_3 fMO_117 rfl rfl (hl) ?_
  refine sd_iconst (v := nI 1) dMO_isTerm_6 (by decide) ?_
  refine sd_isub dMO_isTerm_7 ?_
  refine sd_cS [.int (x), .int (nI (0)), .int ((nI (n)) - (nI (1)))] [] dMO_isTerm_8 kMO_102 mMO_in_s (c_MO_in hb2 (by rw [hb, nn_has (by omega)])) (by decide) (Nat.le_refl _) (Nat.le_refl _) (Nat.le_of_ble_eq_true rfl) rfl ?_
  exact sd_zret dMO_isTerm_11 rfl (by rcases (show b = 0 ∨ b = 1 by omega) with rfl | rfl; exact Or.inl rfl; exact Or.inr rfl) (Nat.le_refl _) (Nat.le_refl _) ⟨rfl, rfl, rfl⟩
theorem dMO_isTheorem_0 : decode prog_13_method_24_code 0 = .ok (.iload_n 1, 1) := by decide +kernel
theorem dMO_isTheorem_1 : decode prog_13_method_24_code 1 = .ok (.iconst 0, 1) := by decide +kernel
theorem dMO_isTheorem_2 : decode prog_13_method_24_code 2 = .ok (.aload_n 0, 1) := by decide +kernel
theorem dMO_isTheorem_3 : decode prog_13_method_24_code 3 = .ok (.getfield 148, 3) := by decide +kernel
theorem dMO_isTheorem_6 : decode prog_13_method_24_code 6 = .ok (.iconst 1, 1) := by decide +kernel
theorem dMO_isTheorem_7 : decode prog_13_method_24_code 7 = .ok (.isub, 1) := by decide +kernel
theorem dMO_isTheorem_8 : decode prog_13_method_24_code 8 = .ok (.invokestatic 102, 3) := by decide +kernel
theorem dMO_isTheorem_11 : decode prog_13_method_24_code 11 = .ok (.ireturn, 1) := by decide +kernel
theorem c_MO_isTheorem {G : sd_G} {o : Nat} {D : fx_D} {h0 : sd_H} {nx n b : Nat} {x : Int32} (hn : n ≤ 64) (hl : D.2.1 0 14 = nI n) (hb2 : b < 2) (hb : b = 1 ↔ ∃ t : Nat, t < n ∧ x = nI t) : sd_Ct G mMO_isTheorem 1 0 0 [.ref (o + 0), .int x] (fx_h G.1.2 mo_S o D h0) nx (sd_is (some (.int (nI b))) (fx_h G.1.2 mo_S o D h0) nx) := by
  refine sd_Ct_of (by decide) (Nat.le_of_ble_eq_true rfl) ?_
  refine sd_iload_n dMO_isTheorem_0 rfl rfl ?_
  refine sd_iconst (v := nI 0) dMO_isTheorem_1 (by decide) ?_
  refine sd_aload_n dMO_isTheorem_2 rfl rfl ?_
  refine fx_getiv 10 14 dMO_isTheorem_3 fMO_148 rfl rfl (hl) ?_
  refine sd_iconst (v := nI 1) dMO_isTheorem_6 (by decide) ?_
  refine sd_isub dMO_isTheorem_7 ?_
  refine sd_cS [.int (x), .int (nI (0)), .int ((nI (n)) - (nI (1)))] [] dMO_isTheorem_8 kMO_102 mMO_in_s (c_MO_in hb2 (by rw [hb, nn_has (by omega)])) (by decide) (Nat.le_refl _) (Nat.le_refl _) (Nat.le_of_ble_eq_true rfl) rfl ?_
  exact sd_zret dMO_isTheorem_11 rfl (by rcases (show b = 0 ∨ b = 1 by omega) with rfl | rfl; exact Or.inl rfl; exact Or.inr rfl) (Nat.le_refl _) (Nat.le_refl _) ⟨rfl, rfl, rfl⟩
theorem mo_begin_okl {D : fx_D} {r q : Nat} (h : mo_okl D q) : mo_okl (fx_ua D 3 r (nI 0)) q := by
  by_cases e : q = r
  · subst e
    exact ⟨0, by omega, by simp [fx_ua, upd]⟩
  · obtain ⟨k, k1, k2⟩ := h
    exact ⟨k, k1, by simp [fx_ua, upd, e, k2]⟩
theorem mo_begin_row {D : fx_D} {r : Nat} : mo_row (fx_ua D 3 r (nI 0)) r [] := ⟨by simp, by simp [fx_ua, upd], fun k x h => by simp at h⟩
theorem mo_begin_other {D : fx_D} {r q : Nat} {l : tl_T} (h : mo_row D q l) (hn : q ≠ r) : mo_row (fx_ua D 3 r (nI 0)) q l := ⟨h.1, by simp [fx_ua, upd, hn, h.2.1], fun k x hx => by simpa [fx_ua] using h.2.2 k x hx⟩
theorem dMO_equal_0 : decode prog_13_method_27_code 0 = .ok (.aload_n 0, 1) := by decide +kernel
theorem dMO_equal_1 : decode prog_13_method_27_code 1 = .ok (.iload_n 1, 1) := by decide +kernel
theorem dMO_equal_2 : decode prog_13_method_27_code 2 = .ok (.invokevirtual 151, 3) := by decide +kernel
theorem dMO_equal_5 : decode prog_13_method_27_code 5 = .ok (.aload_n 0, 1) := by decide +kernel
theorem dMO_equal_6 : decode prog_13_method_27_code 6 = .ok (.iload_n 1, 1) := by decide +kernel
theorem dMO_equal_7 : decode prog_13_method_27_code 7 = .ok (.bipush (9), 2) := by decide +kernel
theorem dMO_equal_9 : decode prog_13_method_27_code 9 = .ok (.iconst 4, 1) := by decide +kernel
theorem dMO_equal_10 : decode prog_13_method_27_code 10 = .ok (.invokevirtual 137, 3) := by decide +kernel
theorem dMO_equal_13 : decode prog_13_method_27_code 13 = .ok (.aload_n 0, 1) := by decide +kernel
theorem dMO_equal_14 : decode prog_13_method_27_code 14 = .ok (.iload_n 2, 1) := by decide +kernel
theorem dMO_equal_15 : decode prog_13_method_27_code 15 = .ok (.iload_n 3, 1) := by decide +kernel
theorem dMO_equal_16 : decode prog_13_method_27_code 16 = .ok (.iload_n 1, 1) := by decide +kernel
theorem dMO_equal_17 : decode prog_13_method_27_code 17 = .ok (.invokevirtual 155, 3) := by decide +kernel
theorem dMO_equal_20 : decode prog_13_method_27_code 20 = .ok (.aload_n 0, 1) := by decide +kernel
theorem dMO_equal_21 : decode prog_13_method_27_code 21 = .ok (.iload 4, 2) := by decide +kernel
theorem dMO_equal_23 : decode prog_13_method_27_code 23 = .ok (.iload 5, 2) := by decide +kernel
theorem dMO_equal_25 : decode prog_13_method_27_code 25 = .ok (.iload_n 1, 1) := by decide +kernel
theorem dMO_equal_26 : decode prog_13_method_27_code 26 = .ok (.invokevirtual 155, 3) := by decide +kernel
theorem dMO_equal_29 : decode prog_13_method_27_code 29 = .ok (.return_, 1) := by decide +kernel
theorem c_MO_equal {G : sd_G} {o : Nat} {D : fx_D} {h0 : sd_H} {nx r q i q2 j : Nat} {l m : tl_T} (hB : G.2.1 ≤ o) (hr : r < 72) (hq : q < 72) (hq2 : q2 < 72) (hn : q ≠ r) (hn2 : q2 ≠ r) (hl : mo_row D q l) (hm : mo_row D q2 m) (hi : i ≤ l.length) (hj : j ≤ m.length) (ho : tl_ok 1 (l.drop i)) (hp : tl_ok 1 (m.drop j)) : sd_Ct G mMO_equal 3 0 0 [.ref (o + 0), .int (nI r), .int (nI q), .int (nI i), .int (nI q2), .int (nI j)] (fx_h G.1.2 mo_S o D h0) nx (sd_is none (fx_h G.1.2 mo_S o (mo_adds (fx_ua D 3 r (nI 0)) r ((9, 4) :: tl_part l i ++ tl_part m j)) h0) nx) := by
  refine sd_Ct_of (by decide) (Nat.le_of_ble_eq_true rfl) ?_
  have z0 := mo_begin_row (D := D) (r := r)
  have z1 := mo_begin_other hl hn
  have z2 := mo_begin_other hm hn2
  have y0 := mo_add_okl (s := nI 9) (t := nI 4) z0.okl z0.okl
  have y1 := mo_add_other (s := nI 9) (t := nI 4) z1 hn z0.okl.ln.1
  have y2 := mo_add_other (s := nI 9) (t := nI 4) z2 hn2 z0.okl.ln.1
  have x2 := mo_adds_other hn2 (tl_part l i) _ y2 y0
  refine sd_aload_n dMO_equal_0 rfl rfl ?_
  refine sd_iload_n dMO_equal_1 rfl rfl ?_
  refine fx_cV 10 sR_MO [.int (nI (r))] [] dMO_equal_2 kMO_151 rfl rfl mMO_begin_v (c_MO_begin hB hr) (by decide) (Nat.le_refl _) (Nat.le_refl _) (Nat.le_of_ble_eq_true rfl) rfl ?_
  refine sd_aload_n dMO_equal_5 rfl rfl ?_
  refine sd_iload_n dMO_equal_6 rfl rfl ?_
  refine sd_bipush (v := nI 9) dMO_equal_7 (by decide) ?_
  refine sd_iconst (v := nI 4) dMO_equal_9 (by decide) ?_
  refine fx_cV 10 sR_MO [.int (nI (r)), .int (nI (9)), .int (nI (4))] [] dMO_equal_10 kMO_137 rfl rfl mMO_add_v (c_MO_add hB hr z0.okl.ln.1 z0.okl.ln.2) (by decide) (Nat.le_refl _) (Nat.le_refl _) (Nat.le_of_ble_eq_true rfl) rfl ?_
  refine sd_aload_n dMO_equal_13 rfl rfl ?_
  refine sd_iload_n dMO_equal_14 rfl rfl ?_
  refine sd_iload_n dMO_equal_15 rfl rfl ?_
  refine sd_iload_n dMO_equal_16 rfl rfl ?_
  refine fx_cV 10 sR_MO [.int (nI (q)), .int (nI (i)), .int (nI (r))] [] dMO_equal_17 kMO_155 rfl rfl mMO_copy_v (c_MO_copy hB hr hq hn y1 y0 hi ho) (by decide) (Nat.le_refl _) (Nat.le_refl _) (Nat.le_of_ble_eq_true rfl) rfl ?_
  refine sd_aload_n dMO_equal_20 rfl rfl ?_
  refine sd_iload dMO_equal_21 rfl ?_
  refine sd_iload dMO_equal_23 rfl ?_
  refine sd_iload_n dMO_equal_25 rfl rfl ?_
  refine fx_cV 10 sR_MO [.int (nI (q2)), .int (nI (j)), .int (nI (r))] [] dMO_equal_26 kMO_155 rfl rfl mMO_copy_v (c_MO_copy hB hr hq2 hn2 x2.1 x2.2 hj hp) (by decide) (Nat.le_refl _) (Nat.le_refl _) (Nat.le_of_ble_eq_true rfl) rfl ?_
  exact sd_vret dMO_equal_29 rfl (Nat.le_refl _) (Nat.le_refl _) ⟨rfl, by rw [List.cons_append, mo_adds, mo_adds_app], rfl⟩
