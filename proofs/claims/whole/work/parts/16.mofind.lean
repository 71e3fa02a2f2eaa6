/-! ===== the model: same, find, names, around ===== -/
/-- an answer, and a heap whose numbers have P -/
def fx_is (A : Nat → ClassId) (S : fx_S) (o : Nat) (h0 : sd_H) (nx : Nat) (v : Option Value) (P : fx_D → Prop) : sd_Q := fun r h' nx' => r = v ∧ nx' = nx ∧ ∃ D : fx_D, h' = fx_h A S o D h0 ∧ P D
section FXP
variable {G : sd_G} {M : sd_M} {d mc ms : Nat} {Q : sd_Q} {pc : Nat} {al : List (Nat × Value)} {st : List Value} {nx k n : Nat} {S : fx_S} {o : Nat} {D : fx_D} {h0 : sd_H}
theorem fx_cP {M' : sd_M} {index d' x : Nat} {t : List fx_E} {v : Option Value} {P : fx_D → Prop} (ci : Nat) (r0 : vw_C) (av rest : List Value) (hd : decode M.2.1 pc = .ok (.invokevirtual index, 3)) (hw : sd_ml M.1.cls index M' av.length) (hr : sd_cl[ci]? = some r0) (hs : S x = some (.inl (ci, t))) (hst : Cond.instanceMethod M'.1 ∈ sd_tbl ∧ Cond.selects r0.1 M'.1 M'.1 ∈ sd_tbl) (hct : sd_Ct G M' d' 0 0 (.ref (o + x) :: av) (fx_h G.1.2 S o D h0) nx (fx_is G.1.2 S o h0 nx v P)) (hd' : d' + 1 ≤ d) (hk : k ≤ mc) (hn : n ≤ ms) (hrest : (rest.map fun v => v.category).sum ≤ 8) (hst2 : st = av.reverse ++ .ref (o + x) :: rest) (kk : ∀ D' : fx_D, P D' → sd_W G M d mc ms Q (pc + 3) al (v.toList ++ rest) (fx_h G.1.2 S o D' h0) nx k n) : sd_W G M d mc ms Q pc al st (fx_h G.1.2 S o D h0) nx k n :=
  sd_callV ci r0 av rest hd hw hr (fx_at hs) hst hct hd' hk hn hrest hst2 (fun r h' nx' q => by obtain ⟨rfl, rfl, D', rfl, hP⟩ := q; exact kk D' hP)
end FXP
theorem tl_part_get {l : tl_T} {i k : Nat} (h : k < (tl_part l i).length) : (tl_part l i)[k]? = l[i + k]? := by
  rw [tl_part_len] at h
  unfold tl_part
  rw [List.getElem?_take, if_pos h, List.getElem?_drop]
theorem tl_part_eq {l m : tl_T} {i j : Nat} : tl_part l i = tl_part m j ↔ (tl_part l i).length = (tl_part m j).length ∧ ∀ k, k < (tl_part l i).length → l[i + k]? = m[j + k]? := by
  constructor
  · intro h
    refine ⟨by rw [h], fun k hk => ?_⟩
    rw [← tl_part_get hk, ← tl_part_get (by rw [← h]; exact hk), h]
  · rintro ⟨h1, h2⟩
    apply List.ext_getElem?
    intro k
    by_cases hk : k < (tl_part l i).length
    · rw [tl_part_get hk, tl_part_get (by omega), h2 k hk]
    · rw [List.getElem?_eq_none (by omega), List.getElem?_eq_none (by omega)]
theorem nI_inj {a b : Nat} (ha : a < 2 ^ 31) (hb : b < 2 ^ 31) (h : nI a = nI b) : a = b := (nI_eq ha hb).mp h
theorem dMO_same_0 : decode prog_13_method_20_code 0 = .ok (.aload_n 0, 1) := by decide +kernel
theorem dMO_same_1 : decode prog_13_method_20_code 1 = .ok (.iload_n 1, 1) := by decide +kernel
theorem dMO_same_2 : decode prog_13_method_20_code 2 = .ok (.iload_n 2, 1) := by decide +kernel
theorem dMO_same_3 : decode prog_13_method_20_code 3 = .ok (.invokevirtual 128, 3) := by decide +kernel
theorem dMO_same_6 : decode prog_13_method_20_code 6 = .ok (.iload_n 2, 1) := by decide +kernel
theorem dMO_same_7 : decode prog_13_method_20_code 7 = .ok (.isub, 1) := by decide +kernel
theorem dMO_same_8 : decode prog_13_method_20_code 8 = .ok (.istore 5, 2) := by decide +kernel
theorem dMO_same_10 : decode prog_13_method_20_code 10 = .ok (.aload_n 0, 1) := by decide +kernel
theorem dMO_same_11 : decode prog_13_method_20_code 11 = .ok (.iload_n 3, 1) := by decide +kernel
theorem dMO_same_12 : decode prog_13_method_20_code 12 = .ok (.iload 4, 2) := by decide +kernel
theorem dMO_same_14 : decode prog_13_method_20_code 14 = .ok (.invokevirtual 128, 3) := by decide +kernel
theorem dMO_same_17 : decode prog_13_method_20_code 17 = .ok (.iload 4, 2) := by decide +kernel
theorem dMO_same_19 : decode prog_13_method_20_code 19 = .ok (.isub, 1) := by decide +kernel
theorem dMO_same_20 : decode prog_13_method_20_code 20 = .ok (.iload 5, 2) := by decide +kernel
theorem dMO_same_22 : decode prog_13_method_20_code 22 = .ok (.if_icmp .eq (5), 3) := by decide +kernel
theorem dMO_same_25 : decode prog_13_method_20_code 25 = .ok (.iconst 0, 1) := by decide +kernel
theorem dMO_same_26 : decode prog_13_method_20_code 26 = .ok (.ireturn, 1) := by decide +kernel
theorem dMO_same_27 : decode prog_13_method_20_code 27 = .ok (.iconst 0, 1) := by decide +kernel
theorem dMO_same_28 : decode prog_13_method_20_code 28 = .ok (.istore 6, 2) := by decide +kernel
theorem dMO_same_30 : decode prog_13_method_20_code 30 = .ok (.iload 6, 2) := by decide +kernel
theorem dMO_same_32 : decode prog_13_method_20_code 32 = .ok (.iload 5, 2) := by decide +kernel
theorem dMO_same_34 : decode prog_13_method_20_code 34 = .ok (.if_icmp .ge (55), 3) := by decide +kernel
theorem dMO_same_37 : decode prog_13_method_20_code 37 = .ok (.aload_n 0, 1) := by decide +kernel
theorem dMO_same_38 : decode prog_13_method_20_code 38 = .ok (.iload_n 1, 1) := by decide +kernel
theorem dMO_same_39 : decode prog_13_method_20_code 39 = .ok (.iload_n 2, 1) := by decide +kernel
theorem dMO_same_40 : decode prog_13_method_20_code 40 = .ok (.iload 6, 2) := by decide +kernel
theorem dMO_same_42 : decode prog_13_method_20_code 42 = .ok (.iadd, 1) := by decide +kernel
theorem dMO_same_43 : decode prog_13_method_20_code 43 = .ok (.invokevirtual 131, 3) := by decide +kernel
theorem dMO_same_46 : decode prog_13_method_20_code 46 = .ok (.aload_n 0, 1) := by decide +kernel
theorem dMO_same_47 : decode prog_13_method_20_code 47 = .ok (.iload_n 3, 1) := by decide +kernel
theorem dMO_same_48 : decode prog_13_method_20_code 48 = .ok (.iload 4, 2) := by decide +kernel
theorem dMO_same_50 : decode prog_13_method_20_code 50 = .ok (.iload 6, 2) := by decide +kernel
theorem dMO_same_52 : decode prog_13_method_20_code 52 = .ok (.iadd, 1) := by decide +kernel
theorem dMO_same_53 : decode prog_13_method_20_code 53 = .ok (.invokevirtual 131, 3) := by decide +kernel
theorem dMO_same_56 : decode prog_13_method_20_code 56 = .ok (.if_icmp .ne (25), 3) := by decide +kernel
theorem dMO_same_59 : decode prog_13_method_20_code 59 = .ok (.aload_n 0, 1) := by decide +kernel
theorem dMO_same_60 : decode prog_13_method_20_code 60 = .ok (.iload_n 1, 1) := by decide +kernel
theorem dMO_same_61 : decode prog_13_method_20_code 61 = .ok (.iload_n 2, 1) := by decide +kernel
theorem dMO_same_62 : decode prog_13_method_20_code 62 = .ok (.iload 6, 2) := by decide +kernel
theorem dMO_same_64 : decode prog_13_method_20_code 64 = .ok (.iadd, 1) := by decide +kernel
theorem dMO_same_65 : decode prog_13_method_20_code 65 = .ok (.invokevirtual 134, 3) := by decide +kernel
theorem dMO_same_68 : decode prog_13_method_20_code 68 = .ok (.aload_n 0, 1) := by decide +kernel
theorem dMO_same_69 : decode prog_13_method_20_code 69 = .ok (.iload_n 3, 1) := by decide +kernel
theorem dMO_same_70 : decode prog_13_method_20_code 70 = .ok (.iload 4, 2) := by decide +kernel
theorem dMO_same_72 : decode prog_13_method_20_code 72 = .ok (.iload 6, 2) := by decide +kernel
theorem dMO_same_74 : decode prog_13_method_20_code 74 = .ok (.iadd, 1) := by decide +kernel
theorem dMO_same_75 : decode prog_13_method_20_code 75 = .ok (.invokevirtual 134, 3) := by decide +kernel
theorem dMO_same_78 : decode prog_13_method_20_code 78 = .ok (.if_icmp .eq (5), 3) := by decide +kernel
theorem dMO_same_81 : decode prog_13_method_20_code 81 = .ok (.iconst 0, 1) := by decide +kernel
theorem dMO_same_82 : decode prog_13_method_20_code 82 = .ok (.ireturn, 1) := by decide +kernel
theorem dMO_same_83 : decode prog_13_method_20_code 83 = .ok (.iinc 6 (1), 3) := by decide +kernel
theorem dMO_same_86 : decode prog_13_method_20_code 86 = .ok (.goto (-56), 3) := by decide +kernel
theorem dMO_same_89 : decode prog_13_method_20_code 89 = .ok (.iconst 1, 1) := by decide +kernel
theorem dMO_same_90 : decode prog_13_method_20_code 90 = .ok (.ireturn, 1) := by decide +kernel
theorem l_MO_same {G : sd_G} {o : Nat} {D : fx_D} {h0 : sd_H} {nx r i q j N b : Nat} {l m : tl_T} (hr : r < 72) (hq : q < 72) (hl : mo_row D r l) (hm : mo_row D q m) (hi : i + N ≤ l.length) (hj : j + N ≤ m.length) (hb2 : b < 2) (hb : b = 1 ↔ ∀ k, k < N → l[i + k]? = m[j + k]?) : ∀ (n k : Nat), N = k + n → (∀ a, a < k → l[i + a]? = m[j + a]?) → sd_W G mMO_same 2 0 0 (sd_is (some (.int (nI b))) (fx_h G.1.2 mo_S o D h0) nx) 30 [(0, .ref (o + 0)), (1, .int (nI r)), (2, .int (nI i)), (3, .int (nI q)), (4, .int (nI j)), (5, .int (nI N)), (6, .int (nI k))] [] (fx_h G.1.2 mo_S o D h0) nx 0 0 := by
  have l24 := hl.1
  have m24 := hm.1
  intro n
  induction n with
  | zero =>
    intro k hk ha
    obtain rfl : b = 1 := hb.mpr (fun a h => ha a (by omega))
    refine sd_iload dMO_same_30 rfl ?_
    refine sd_iload dMO_same_32 rfl ?_
    refine nn_icmp_ge 89 dMO_same_34 (by decide) (by omega) (by omega) (fun c34 => ?_) (fun c34 => ?_)
    ·
      refine sd_iconst (v := nI 1) dMO_same_89 (by decide) ?_
      exact sd_zret dMO_same_90 rfl (Or.inr rfl) (Nat.le_refl _) (Nat.le_refl _) ⟨rfl, rfl, rfl⟩
    ·
      exact absurd c34 (by omega)
  | succ n ih =>
    intro k hk ha
    obtain ⟨x, hx⟩ : ∃ x, l[i + k]? = some x := ⟨l[i + k], List.getElem?_eq_getElem (by omega)⟩
    obtain ⟨y, hy⟩ : ∃ y, m[j + k]? = some y := ⟨m[j + k], List.getElem?_eq_getElem (by omega)⟩
    obtain ⟨x1, x2, x3, x4⟩ := hl.2.2 _ x hx
    obtain ⟨y1, y2, y3, y4⟩ := hm.2.2 _ y hy
    have s1 := c_MO_symbolAt (G := G) (o := o) (D := D) (h0 := h0) (nx := nx) (r := r) (i := i + k) (by omega)
    have s2 := c_MO_symbolAt (G := G) (o := o) (D := D) (h0 := h0) (nx := nx) (r := q) (i := j + k) (by omega)
    have t1 := c_MO_typeAt (G := G) (o := o) (D := D) (h0 := h0) (nx := nx) (r := r) (i := i + k) (by omega)
    have t2 := c_MO_typeAt (G := G) (o := o) (D := D) (h0 := h0) (nx := nx) (r := q) (i := j + k) (by omega)
    rw [x1] at s1
    rw [x2] at t1
    rw [y1] at s2
    rw [y2] at t2
    have no : x ≠ y → b = 0 := fun hne => by
      have : ¬ b = 1 := fun e => by
        have := hb.mp e k (by omega)
        rw [hx, hy] at this
        exact hne (Option.some.inj this)
      omega
    refine sd_iload dMO_same_30 rfl ?_
    refine sd_iload dMO_same_32 rfl ?_
    refine nn_icmp_ge 89 dMO_same_34 (by decide) (by omega) (by omega) (fun c34 => ?_) (fun c34 => ?_)
    ·
      exact absurd c34 (by omega)
    ·
      refine sd_aload_n dMO_same_37 rfl rfl ?_
      refine sd_iload_n dMO_same_38 rfl rfl ?_
      refine sd_iload_n dMO_same_39 rfl rfl ?_
      refine sd_iload dMO_same_40 rfl ?_
      refine nn_iadd dMO_same_42 ?_
      refine fx_cV 10 sR_MO [.int (nI (r)), .int (nI (i + k))] [] dMO_same_43 kMO_131 rfl rfl mMO_symbolAt_v (s1) (by decide) (Nat.le_refl _) (Nat.le_refl _) (Nat.le_of_ble_eq_true rfl) rfl ?_
      refine sd_aload_n dMO_same_46 rfl rfl ?_
      refine sd_iload_n dMO_same_47 rfl rfl ?_
      refine sd_iload dMO_same_48 rfl ?_
      refine sd_iload dMO_same_50 rfl ?_
      refine nn_iadd dMO_same_52 ?_
      refine fx_cV 10 sR_MO [.int (nI (q)), .int (nI (j + k))] [.int (nI (x.1))] dMO_same_53 kMO_131 rfl rfl mMO_symbolAt_v (s2) (by decide) (Nat.le_refl _) (Nat.le_refl _) (Nat.le_of_ble_eq_true rfl) rfl ?_
      refine nn_icmp_ne 81 dMO_same_56 (by decide) (by omega) (by omega) (fun c56 => ?_) (fun c56 => ?_)
      ·
        obtain rfl : b = 0 := no (fun e => c56 (by rw [e]))
        refine sd_iconst (v := nI 0) dMO_same_81 (by decide) ?_
        exact sd_zret dMO_same_82 rfl (Or.inl rfl) (Nat.le_refl _) (Nat.le_refl _) ⟨rfl, rfl, rfl⟩
      ·
        refine sd_aload_n dMO_same_59 rfl rfl ?_
        refine sd_iload_n dMO_same_60 rfl rfl ?_
        refine sd_iload_n dMO_same_61 rfl rfl ?_
        refine sd_iload dMO_same_62 rfl ?_
        refine nn_iadd dMO_same_64 ?_
        refine fx_cV 10 sR_MO [.int (nI (r)), .int (nI (i + k))] [] dMO_same_65 kMO_134 rfl rfl mMO_typeAt_v (t1) (by decide) (Nat.le_refl _) (Nat.le_refl _) (Nat.le_of_ble_eq_true rfl) rfl ?_
        refine sd_aload_n dMO_same_68 rfl rfl ?_
        refine sd_iload_n dMO_same_69 rfl rfl ?_
        refine sd_iload dMO_same_70 rfl ?_
        refine sd_iload dMO_same_72 rfl ?_
        refine nn_iadd dMO_same_74 ?_
        refine fx_cV 10 sR_MO [.int (nI (q)), .int (nI (j + k))] [.int (nI (x.2))] dMO_same_75 kMO_134 rfl rfl mMO_typeAt_v (t2) (by decide) (Nat.le_refl _) (Nat.le_refl _) (Nat.le_of_ble_eq_true rfl) rfl ?_
        refine nn_icmp_eq 83 dMO_same_78 (by decide) (by omega) (by omega) (fun c78 => ?_) (fun c78 => ?_)
        ·
          refine nn_iinc 1 dMO_same_83 rfl (by decide) ?_
          refine sd_goto 30 dMO_same_86 (by decide) ?_
          refine sd_locp (al' := [(0, .ref (o + (0))), (1, .int (nI (r))), (2, .int (nI (i))), (3, .int (nI (q))), (4, .int (nI (j))), (5, .int (nI (N))), (6, .int (nI (k + 1)))]) [1, 2, 3, 4, 5, 6, 0] rfl ?_
          refine ih (k + 1) (by omega) (fun a h => ?_)
          rcases Nat.lt_or_ge a k with z | z
          · exact ha a z
          · obtain rfl : a = k := by omega
            rw [hx, hy]; congr 1; exact Prod.ext c56 c78
        ·
          obtain rfl : b = 0 := no (fun e => c78 (by rw [e]))
          refine sd_iconst (v := nI 0) dMO_same_81 (by decide) ?_
          exact sd_zret dMO_same_82 rfl (Or.inl rfl) (Nat.le_refl _) (Nat.le_refl _) ⟨rfl, rfl, rfl⟩
theorem c_MO_same {G : sd_G} {o : Nat} {D : fx_D} {h0 : sd_H} {nx r i q j b : Nat} {l m : tl_T} (hr : r < 72) (hq : q < 72) (hl : mo_row D r l) (hm : mo_row D q m) (hi : i ≤ l.length) (hj : j ≤ m.length) (ho : tl_ok 1 (l.drop i)) (hp : tl_ok 1 (m.drop j)) (hb2 : b < 2) (hb : b = 1 ↔ tl_part l i = tl_part m j) : sd_Ct G mMO_same 2 0 0 [.ref (o + 0), .int (nI r), .int (nI i), .int (nI q), .int (nI j)] (fx_h G.1.2 mo_S o D h0) nx (sd_is (some (.int (nI b))) (fx_h G.1.2 mo_S o D h0) nx) := by
  refine sd_Ct_of (by decide) (Nat.le_of_ble_eq_true rfl) ?_
  have l24 := hl.1
  have m24 := hm.1
  have e1 := tl_end_le hi
  have e2 := tl_end_le hj
  have p1 : tl_end l i - i = (tl_part l i).length := by rw [tl_part_len]; unfold tl_end; omega
  have p2 : tl_end m j - j = (tl_part m j).length := by rw [tl_part_len]; unfold tl_end; omega
  have g1 : i ≤ tl_end l i := by unfold tl_end; omega
  have g2 : j ≤ tl_end m j := by unfold tl_end; omega
  rw [tl_part_eq] at hb
  refine sd_aload_n dMO_same_0 rfl rfl ?_
  refine sd_iload_n dMO_same_1 rfl rfl ?_
  refine sd_iload_n dMO_same_2 rfl rfl ?_
  refine fx_cV 10 sR_MO [.int (nI (r)), .int (nI (i))] [] dMO_same_3 kMO_128 rfl rfl mMO_end_v (c_MO_end hr hl hi ho) (by decide) (Nat.le_refl _) (Nat.le_refl _) (Nat.le_of_ble_eq_true rfl) rfl ?_
  refine sd_iload_n dMO_same_6 rfl rfl ?_
  refine nn_isub dMO_same_7 (by omega) ?_
  refine sd_istore dMO_same_8 (by decide) ?_
  refine sd_aload_n dMO_same_10 rfl rfl ?_
  refine sd_iload_n dMO_same_11 rfl rfl ?_
  refine sd_iload dMO_same_12 rfl ?_
  refine fx_cV 10 sR_MO [.int (nI (q)), .int (nI (j))] [] dMO_same_14 kMO_128 rfl rfl mMO_end_v (c_MO_end hq hm hj hp) (by decide) (Nat.le_refl _) (Nat.le_refl _) (Nat.le_of_ble_eq_true rfl) rfl ?_
  refine sd_iload dMO_same_17 rfl ?_
  refine nn_isub dMO_same_19 (by omega) ?_
  refine sd_iload dMO_same_20 rfl ?_
  refine nn_icmp_eq 27 dMO_same_22 (by decide) (by omega) (by omega) (fun c22 => ?_) (fun c22 => ?_)
  ·
    refine sd_iconst (v := nI 0) dMO_same_27 (by decide) ?_
    refine sd_istore dMO_same_28 (by decide) ?_
    refine sd_locp (al' := [(0, .ref (o + (0))), (1, .int (nI (r))), (2, .int (nI (i))), (3, .int (nI (q))), (4, .int (nI (j))), (5, .int (nI ((tl_end l i) - i))), (6, .int (nI (0)))]) [2, 3, 4, 5, 6, 1, 0] rfl ?_
    refine l_MO_same hr hq hl hm (by omega) (by omega) hb2 ?_ (tl_end l i - i) 0 (by omega) (fun a h => absurd h (by omega))
    rw [hb, p1]; constructor; exact fun z => z.2; exact fun z => ⟨by omega, z⟩
  ·
    have hne : ¬ b = 1 := fun e => absurd (hb.mp e).1 (by omega)
    obtain rfl : b = 0 := by omega
    refine sd_iconst (v := nI 0) dMO_same_25 (by decide) ?_
    exact sd_zret dMO_same_26 rfl (Or.inl rfl) (Nat.le_refl _) (Nat.le_refl _) ⟨rfl, rfl, rfl⟩
/-- the model's terms are T -/
def mo_terms (D : fx_D) (T : List tl_T) : Prop := T.length ≤ 64 ∧ D.2.1 0 5 = nI T.length ∧ ∀ (t : Nat) (l : tl_T), T[t]? = some l → mo_row D t l ∧ tl_wf l
theorem tl_wf.part {l : tl_T} (h : tl_wf l) : tl_part l 0 = l := by
  unfold tl_part
  rw [List.drop_zero, h.2.1, List.take_length]
theorem dMO_find_0 : decode prog_13_method_21_code 0 = .ok (.iconst 0, 1) := by decide +kernel
theorem dMO_find_1 : decode prog_13_method_21_code 1 = .ok (.istore_n 3, 1) := by decide +kernel
theorem dMO_find_2 : decode prog_13_method_21_code 2 = .ok (.iload_n 3, 1) := by decide +kernel
theorem dMO_find_3 : decode prog_13_method_21_code 3 = .ok (.aload_n 0, 1) := by decide +kernel
theorem dMO_find_4 : decode prog_13_method_21_code 4 = .ok (.getfield 117, 3) := by decide +kernel
theorem dMO_find_7 : decode prog_13_method_21_code 7 = .ok (.if_icmp .ge (22), 3) := by decide +kernel
theorem dMO_find_10 : decode prog_13_method_21_code 10 = .ok (.aload_n 0, 1) := by decide +kernel
theorem dMO_find_11 : decode prog_13_method_21_code 11 = .ok (.iload_n 3, 1) := by decide +kernel
theorem dMO_find_12 : decode prog_13_method_21_code 12 = .ok (.iconst 0, 1) := by decide +kernel
theorem dMO_find_13 : decode prog_13_method_21_code 13 = .ok (.iload_n 1, 1) := by decide +kernel
theorem dMO_find_14 : decode prog_13_method_21_code 14 = .ok (.iload_n 2, 1) := by decide +kernel
theorem dMO_find_15 : decode prog_13_method_21_code 15 = .ok (.invokevirtual 141, 3) := by decide +kernel
theorem dMO_find_18 : decode prog_13_method_21_code 18 = .ok (.ifCond .eq (5), 3) := by decide +kernel
theorem dMO_find_21 : decode prog_13_method_21_code 21 = .ok (.iload_n 3, 1) := by decide +kernel
theorem dMO_find_22 : decode prog_13_method_21_code 22 = .ok (.ireturn, 1) := by decide +kernel
theorem dMO_find_23 : decode prog_13_method_21_code 23 = .ok (.iinc 3 (1), 3) := by decide +kernel
theorem dMO_find_26 : decode prog_13_method_21_code 26 = .ok (.goto (-24), 3) := by decide +kernel
theorem dMO_find_29 : decode prog_13_method_21_code 29 = .ok (.iconst (-1), 1) := by decide +kernel
theorem dMO_find_30 : decode prog_13_method_21_code 30 = .ok (.ireturn, 1) := by decide +kernel
theorem l_MO_find {G : sd_G} {o : Nat} {D : fx_D} {h0 : sd_H} {nx r i : Nat} {T : List tl_T} {l : tl_T} (hT : mo_terms D T) (hr : r < 72) (hl : mo_row D r l) (hi : i ≤ l.length) (ho : tl_ok 1 (l.drop i)) : ∀ (n t : Nat) (v : Int32), T.length = t + n → (v = match (T.drop t).idxOf? (tl_part l i) with | some k => nI (t + k) | none => -1) → sd_W G mMO_find 3 0 0 (sd_is (some (.int v)) (fx_h G.1.2 mo_S o D h0) nx) 2 [(0, .ref (o + 0)), (1, .int (nI r)), (2, .int (nI i)), (3, .int (nI t))] [] (fx_h G.1.2 mo_S o D h0) nx 0 0 := by
  intro n
  have h64 := hT.1
  induction n with
  | zero =>
    intro t v hn hv
    rw [List.drop_of_length_le (by omega)] at hv
    refine sd_iload_n dMO_find_2 rfl rfl ?_
    refine sd_aload_n dMO_find_3 rfl rfl ?_
    refine fx_getiv 10 5 dMO_find_4 fMO_117 rfl rfl (hT.2.1) ?_
    refine nn_icmp_ge 29 dMO_find_7 (by decide) (by omega) (by omega) (fun c7 => ?_) (fun c7 => ?_)
    ·
      refine sd_iconst (v := (-1)) dMO_find_29 (by decide) ?_
      exact sd_iret dMO_find_30 rfl (Nat.le_refl _) (Nat.le_refl _) ⟨by rw [hv]; rfl, rfl, rfl⟩
    ·
      exact absurd c7 (by omega)
  | succ n ih =>
    intro t v hn hv
    obtain ⟨x, hx⟩ : ∃ x, T[t]? = some x := ⟨T[t], List.getElem?_eq_getElem (by omega)⟩
    obtain ⟨hxl, hxw⟩ := hT.2.2 t x hx
    have hdr : T.drop t = x :: T.drop (t + 1) := by
      obtain ⟨z1, z2⟩ := List.getElem?_eq_some_iff.mp hx
      rw [List.drop_eq_getElem_cons z1, z2]
    rw [hdr, List.idxOf?_cons] at hv
    by_cases hb : x = tl_part l i
    · rw [if_pos (by simpa using hb)] at hv
      have hc := c_MO_same (G := G) (o := o) (h0 := h0) (nx := nx) (b := 1) (by omega) hr hxl hl (Nat.zero_le _) hi hxw.1 ho (by omega) (by simp only [true_iff]; rw [hxw.part]; exact hb)
      refine sd_iload_n dMO_find_2 rfl rfl ?_
      refine sd_aload_n dMO_find_3 rfl rfl ?_
      refine fx_getiv 10 5 dMO_find_4 fMO_117 rfl rfl (hT.2.1) ?_
      refine nn_icmp_ge 29 dMO_find_7 (by decide) (by omega) (by omega) (fun c7 => ?_) (fun c7 => ?_)
      ·
        exact absurd c7 (by omega)
      ·
        refine sd_aload_n dMO_find_10 rfl rfl ?_
        refine sd_iload_n dMO_find_11 rfl rfl ?_
        refine sd_iconst (v := nI 0) dMO_find_12 (by decide) ?_
        refine sd_iload_n dMO_find_13 rfl rfl ?_
        refine sd_iload_n dMO_find_14 rfl rfl ?_
        refine fx_cV 10 sR_MO [.int (nI (t)), .int (nI (0)), .int (nI (r)), .int (nI (i))] [] dMO_find_15 kMO_141 rfl rfl mMO_same_v (hc) (by decide) (Nat.le_refl _) (Nat.le_refl _) (Nat.le_of_ble_eq_true rfl) rfl ?_
        refine nn_if_eq 23 dMO_find_18 (by decide) (by decide) (fun c => absurd c (by decide)) (fun _ => ?_)
        refine sd_iload_n dMO_find_21 rfl rfl ?_
        exact sd_iret dMO_find_22 rfl (Nat.le_refl _) (Nat.le_refl _) ⟨by rw [hv]; rfl, rfl, rfl⟩
    · rw [if_neg (by simpa using hb)] at hv
      have hc := c_MO_same (G := G) (o := o) (h0 := h0) (nx := nx) (b := 0) (by omega) hr hxl hl (Nat.zero_le _) hi hxw.1 ho (by omega) (by rw [hxw.part]; constructor; intro z; cases z; intro z; exact absurd z hb)
      refine sd_iload_n dMO_find_2 rfl rfl ?_
      refine sd_aload_n dMO_find_3 rfl rfl ?_
      refine fx_getiv 10 5 dMO_find_4 fMO_117 rfl rfl (hT.2.1) ?_
      refine nn_icmp_ge 29 dMO_find_7 (by decide) (by omega) (by omega) (fun c7 => ?_) (fun c7 => ?_)
      ·
        exact absurd c7 (by omega)
      ·
        refine sd_aload_n dMO_find_10 rfl rfl ?_
        refine sd_iload_n dMO_find_11 rfl rfl ?_
        refine sd_iconst (v := nI 0) dMO_find_12 (by decide) ?_
        refine sd_iload_n dMO_find_13 rfl rfl ?_
        refine sd_iload_n dMO_find_14 rfl rfl ?_
        refine fx_cV 10 sR_MO [.int (nI (t)), .int (nI (0)), .int (nI (r)), .int (nI (i))] [] dMO_find_15 kMO_141 rfl rfl mMO_same_v (hc) (by decide) (Nat.le_refl _) (Nat.le_refl _) (Nat.le_of_ble_eq_true rfl) rfl ?_
        refine nn_if_eq 23 dMO_find_18 (by decide) (by decide) (fun _ => ?_) (fun c => absurd c (by decide))
        refine nn_iinc 1 dMO_find_23 rfl (by decide) ?_
        refine sd_goto 2 dMO_find_26 (by decide) ?_
        refine sd_locp (al' := [(0, .ref (o + (0))), (1, .int (nI (r))), (2, .int (nI (i))), (3, .int (nI (t + 1)))]) [1, 2, 3, 0] rfl ?_
        refine ih (t + 1) v (by omega) ?_
        rw [hv]
        cases (T.drop (t + 1)).idxOf? (tl_part l i) with
        | none => rfl
        | some k => show nI (t + (k + 1)) = nI (t + 1 + k); congr 1; omega
def tl_find (T : List tl_T) (p : tl_T) : Int32 := match T.idxOf? p with
  | some k => nI k
  | none => -1
theorem c_MO_find {G : sd_G} {o : Nat} {D : fx_D} {h0 : sd_H} {nx r i : Nat} {T : List tl_T} {l : tl_T} (hT : mo_terms D T) (hr : r < 72) (hl : mo_row D r l) (hi : i ≤ l.length) (ho : tl_ok 1 (l.drop i)) : sd_Ct G mMO_find 3 0 0 [.ref (o + 0), .int (nI r), .int (nI i)] (fx_h G.1.2 mo_S o D h0) nx (sd_is (some (.int (tl_find T (tl_part l i)))) (fx_h G.1.2 mo_S o D h0) nx) := by
  refine sd_Ct_of (by decide) (Nat.le_of_ble_eq_true rfl) ?_
  refine sd_iconst (v := nI 0) dMO_find_0 (by decide) ?_
  refine sd_istore_n dMO_find_1 rfl (by decide) ?_
  refine sd_locp (al' := [(0, .ref (o + (0))), (1, .int (nI (r))), (2, .int (nI (i))), (3, .int (nI (0)))]) [1, 2, 3, 0] rfl ?_
  refine l_MO_find hT hr hl hi ho T.length 0 _ (by omega) ?_
  rw [List.drop_zero]; unfold tl_find; cases T.idxOf? (tl_part l i) <;> simp
