/-! ===== terms as lists of symbols and types, prefix ===== -/
abbrev tl_T : Type := List (Nat × Nat)
def tl_ar (s : Nat) : Nat := if s = 8 ∨ s = 9 then 2 else if s = 10 then 1 else 0
/-- how many symbols the first 'due' parts take -/
def tl_pl : Nat → tl_T → Nat
  | 0, _ => 0
  | _ + 1, [] => 0
  | e + 1, x :: r => 1 + tl_pl (e + tl_ar x.1) r
/-- the first 'due' parts are there -/
def tl_ok : Nat → tl_T → Prop
  | 0, _ => True
  | _ + 1, [] => False
  | e + 1, x :: r => tl_ok (e + tl_ar x.1) r
theorem tl_ar_le (s : Nat) : tl_ar s ≤ 2 := by unfold tl_ar; split; omega; split <;> omega
theorem tl_pl_le : ∀ (l : tl_T) (e : Nat), tl_pl e l ≤ l.length
  | [], 0 => Nat.le_refl _
  | [], e + 1 => Nat.le_refl _
  | x :: r, 0 => Nat.zero_le _
  | x :: r, e + 1 => by
    have := tl_pl_le r (e + tl_ar x.1)
    simp only [tl_pl, List.length_cons]
    omega
theorem tl_ok_mono : ∀ (l : tl_T) (e e' : Nat), e' ≤ e → tl_ok e l → tl_ok e' l
  | l, e, 0, _, _ => by cases l <;> trivial
  | [], 0, e' + 1, h, _ => by omega
  | [], e + 1, e' + 1, _, h => h
  | x :: r, 0, e' + 1, h, _ => by omega
  | x :: r, e + 1, e' + 1, h, ho => tl_ok_mono r (e + tl_ar x.1) (e' + tl_ar x.1) (by omega) ho
/-- the first symbols of a row that is filled by its parts leave parts that are there -/
theorem tl_ok_drop : ∀ (l : tl_T) (e i : Nat), tl_ok e l → tl_pl e l = l.length → i < l.length → tl_ok 1 (l.drop i)
  | [], e, i, _, _, h => by simp at h
  | x :: r, 0, i, _, h, _ => by simp [tl_pl] at h
  | x :: r, e + 1, 0, ho, _, _ => tl_ok_mono (x :: r) (e + 1) 1 (by omega) ho
  | x :: r, e + 1, i + 1, ho, hp, hi => by
    rw [List.drop_succ_cons]
    simp only [tl_pl, List.length_cons] at hp hi
    exact tl_ok_drop r (e + tl_ar x.1) i ho (by omega) (by omega)
/-- a term: one part, of 1 to 24 symbols -/
def tl_wf (l : tl_T) : Prop := tl_ok 1 l ∧ tl_pl 1 l = l.length ∧ l.length ≤ 24
def tl_end (l : tl_T) (i : Nat) : Nat := i + tl_pl 1 (l.drop i)
def tl_part (l : tl_T) (i : Nat) : tl_T := (l.drop i).take (tl_pl 1 (l.drop i))
theorem tl_end_le {l : tl_T} {i : Nat} (h : i ≤ l.length) : tl_end l i ≤ l.length := by
  have := tl_pl_le (l.drop i) 1
  rw [List.length_drop] at this
  unfold tl_end
  omega
theorem tl_drop_get {l : tl_T} {i : Nat} {x : Nat × Nat} (h : l[i]? = some x) : l.drop i = x :: l.drop (i + 1) := by
  obtain ⟨hl, hx⟩ := List.getElem?_eq_some_iff.mp h
  rw [List.drop_eq_getElem_cons hl, hx]
theorem tl_end_lt {l : tl_T} {i : Nat} (hi : i < l.length) : i < tl_end l i := by
  have hx : l[i]? = some l[i] := List.getElem?_eq_getElem hi
  unfold tl_end
  rw [tl_drop_get hx]
  simp only [tl_pl]
  omega
theorem tl_part_len {l : tl_T} {i : Nat} : (tl_part l i).length = tl_pl 1 (l.drop i) := by
  have := tl_pl_le (l.drop i) 1
  unfold tl_part
  rw [List.length_take]
  omega
/-! ===== the model's rows ===== -/
/-- row r of the model is l -/
def mo_row (D : fx_D) (r : Nat) (l : tl_T) : Prop := l.length ≤ 24 ∧ D.1 3 r = nI l.length ∧ ∀ (k : Nat) (x : Nat × Nat), l[k]? = some x → D.1 1 (24 * r + k) = nI x.1 ∧ D.1 2 (24 * r + k) = nI x.2 ∧ x.1 < 100 ∧ x.2 < 2 ^ 25
theorem nn_due {e a : Nat} : nI (e + 1) + (nI a - nI 1) = nI (e + a) := by
  cases a with
  | zero => exact pk_m1 e
  | succ b => rw [pk_sub (by omega), nI_add]; congr 1; omega
theorem dMO_arity_0 : decode prog_13_method_12_code 0 = .ok (.iload_n 0, 1) := by decide +kernel
theorem dMO_arity_1 : decode prog_13_method_12_code 1 = .ok (.bipush (8), 2) := by decide +kernel
theorem dMO_arity_3 : decode prog_13_method_12_code 3 = .ok (.if_icmp .eq (9), 3) := by decide +kernel
theorem dMO_arity_6 : decode prog_13_method_12_code 6 = .ok (.iload_n 0, 1) := by decide +kernel
theorem dMO_arity_7 : decode prog_13_method_12_code 7 = .ok (.bipush (9), 2) := by decide +kernel
theorem dMO_arity_9 : decode prog_13_method_12_code 9 = .ok (.if_icmp .ne (7), 3) := by decide +kernel
theorem dMO_arity_12 : decode prog_13_method_12_code 12 = .ok (.iconst 2, 1) := by decide +kernel
theorem dMO_arity_13 : decode prog_13_method_12_code 13 = .ok (.goto (14), 3) := by decide +kernel
theorem dMO_arity_16 : decode prog_13_method_12_code 16 = .ok (.iload_n 0, 1) := by decide +kernel
theorem dMO_arity_17 : decode prog_13_method_12_code 17 = .ok (.bipush (10), 2) := by decide +kernel
theorem dMO_arity_19 : decode prog_13_method_12_code 19 = .ok (.if_icmp .ne (7), 3) := by decide +kernel
theorem dMO_arity_22 : decode prog_13_method_12_code 22 = .ok (.iconst 1, 1) := by decide +kernel
theorem dMO_arity_23 : decode prog_13_method_12_code 23 = .ok (.goto (4), 3) := by decide +kernel
theorem dMO_arity_26 : decode prog_13_method_12_code 26 = .ok (.iconst 0, 1) := by decide +kernel
theorem dMO_arity_27 : decode prog_13_method_12_code 27 = .ok (.ireturn, 1) := by decide +kernel
theorem c_MO_arity {G : sd_G} {h : sd_H} {nx s : Nat} (hs : s < 2 ^ 31) : sd_Ct G mMO_arity 0 0 0 [.int (nI s)] h nx (sd_is (some (.int (nI (tl_ar s)))) h nx) := by
  refine sd_Ct_of (by decide) (Nat.le_of_ble_eq_true rfl) ?_
  refine sd_iload_n dMO_arity_0 rfl rfl ?_
  refine sd_bipush (v := nI 8) dMO_arity_1 (by decide) ?_
  refine nn_icmp_eq 12 dMO_arity_3 (by decide) (by omega) (by omega) (fun c3 => ?_) (fun c3 => ?_)
  ·
    refine sd_iconst (v := nI 2) dMO_arity_12 (by decide) ?_
    refine sd_goto 27 dMO_arity_13 (by decide) ?_
    exact sd_iret dMO_arity_27 rfl (Nat.le_refl _) (Nat.le_refl _) ⟨by unfold tl_ar; first | rw [if_pos (by omega)] | rw [if_neg (by omega), if_pos (by omega)] | rw [if_neg (by omega), if_neg (by omega)], rfl, rfl⟩
  ·
    refine sd_iload_n dMO_arity_6 rfl rfl ?_
    refine sd_bipush (v := nI 9) dMO_arity_7 (by decide) ?_
    refine nn_icmp_ne 16 dMO_arity_9 (by decide) (by omega) (by omega) (fun c9 => ?_) (fun c9 => ?_)
    ·
      refine sd_iload_n dMO_arity_16 rfl rfl ?_
      refine sd_bipush (v := nI 10) dMO_arity_17 (by decide) ?_
      refine nn_icmp_ne 26 dMO_arity_19 (by decide) (by omega) (by omega) (fun c19 => ?_) (fun c19 => ?_)
      ·
        refine sd_iconst (v := nI 0) dMO_arity_26 (by decide) ?_
        exact sd_iret dMO_arity_27 rfl (Nat.le_refl _) (Nat.le_refl _) ⟨by unfold tl_ar; first | rw [if_pos (by omega)] | rw [if_neg (by omega), if_pos (by omega)] | rw [if_neg (by omega), if_neg (by omega)], rfl, rfl⟩
      ·
        refine sd_iconst (v := nI 1) dMO_arity_22 (by decide) ?_
        refine sd_goto 27 dMO_arity_23 (by decide) ?_
        exact sd_iret dMO_arity_27 rfl (Nat.le_refl _) (Nat.le_refl _) ⟨by unfold tl_ar; first | rw [if_pos (by omega)] | rw [if_neg (by omega), if_pos (by omega)] | rw [if_neg (by omega), if_neg (by omega)], rfl, rfl⟩
    ·
      refine sd_iconst (v := nI 2) dMO_arity_12 (by decide) ?_
      refine sd_goto 27 dMO_arity_13 (by decide) ?_
      exact sd_iret dMO_arity_27 rfl (Nat.le_refl _) (Nat.le_refl _) ⟨by unfold tl_ar; first | rw [if_pos (by omega)] | rw [if_neg (by omega), if_pos (by omega)] | rw [if_neg (by omega), if_neg (by omega)], rfl, rfl⟩
theorem dMO_symbolAt_0 : decode prog_13_method_14_code 0 = .ok (.aload_n 0, 1) := by decide +kernel
theorem dMO_symbolAt_1 : decode prog_13_method_14_code 1 = .ok (.getfield 7, 3) := by decide +kernel
theorem dMO_symbolAt_4 : decode prog_13_method_14_code 4 = .ok (.bipush (24), 2) := by decide +kernel
theorem dMO_symbolAt_6 : decode prog_13_method_14_code 6 = .ok (.iload_n 1, 1) := by decide +kernel
theorem dMO_symbolAt_7 : decode prog_13_method_14_code 7 = .ok (.imul, 1) := by decide +kernel
theorem dMO_symbolAt_8 : decode prog_13_method_14_code 8 = .ok (.iload_n 2, 1) := by decide +kernel
theorem dMO_symbolAt_9 : decode prog_13_method_14_code 9 = .ok (.iadd, 1) := by decide +kernel
theorem dMO_symbolAt_10 : decode prog_13_method_14_code 10 = .ok (.iaload, 1) := by decide +kernel
theorem dMO_symbolAt_11 : decode prog_13_method_14_code 11 = .ok (.ireturn, 1) := by decide +kernel
theorem c_MO_symbolAt {G : sd_G} {o : Nat} {D : fx_D} {h0 : sd_H} {nx r i : Nat} (hi : 24 * r + i < 1728) : sd_Ct G mMO_symbolAt 0 0 0 [.ref (o + 0), .int (nI r), .int (nI i)] (fx_h G.1.2 mo_S o D h0) nx (sd_is (some (.int (D.1 1 (24 * r + i)))) (fx_h G.1.2 mo_S o D h0) nx) := by
  refine sd_Ct_of (by decide) (Nat.le_of_ble_eq_true rfl) ?_
  refine sd_aload_n dMO_symbolAt_0 rfl rfl ?_
  refine fx_getr 10 0 (1) dMO_symbolAt_1 fMO_7 rfl rfl ?_
  refine sd_bipush (v := nI 24) dMO_symbolAt_4 (by decide) ?_
  refine sd_iload_n dMO_symbolAt_6 rfl rfl ?_
  refine nn_imul dMO_symbolAt_7 ?_
  refine sd_iload_n dMO_symbolAt_8 rfl rfl ?_
  refine nn_iadd dMO_symbolAt_9 ?_
  refine fx_iald ((24 * r) + i) dMO_symbolAt_10 rfl rfl (by omega) (by decide) ?_
  exact sd_iret dMO_symbolAt_11 rfl (Nat.le_refl _) (Nat.le_refl _) ⟨rfl, rfl, rfl⟩
theorem dMO_typeAt_0 : decode prog_13_method_15_code 0 = .ok (.aload_n 0, 1) := by decide +kernel
theorem dMO_typeAt_1 : decode prog_13_method_15_code 1 = .ok (.getfield 13, 3) := by decide +kernel
theorem dMO_typeAt_4 : decode prog_13_method_15_code 4 = .ok (.bipush (24), 2) := by decide +kernel
theorem dMO_typeAt_6 : decode prog_13_method_15_code 6 = .ok (.iload_n 1, 1) := by decide +kernel
theorem dMO_typeAt_7 : decode prog_13_method_15_code 7 = .ok (.imul, 1) := by decide +kernel
theorem dMO_typeAt_8 : decode prog_13_method_15_code 8 = .ok (.iload_n 2, 1) := by decide +kernel
theorem dMO_typeAt_9 : decode prog_13_method_15_code 9 = .ok (.iadd, 1) := by decide +kernel
theorem dMO_typeAt_10 : decode prog_13_method_15_code 10 = .ok (.iaload, 1) := by decide +kernel
theorem dMO_typeAt_11 : decode prog_13_method_15_code 11 = .ok (.ireturn, 1) := by decide +kernel
theorem c_MO_typeAt {G : sd_G} {o : Nat} {D : fx_D} {h0 : sd_H} {nx r i : Nat} (hi : 24 * r + i < 1728) : sd_Ct G mMO_typeAt 0 0 0 [.ref (o + 0), .int (nI r), .int (nI i)] (fx_h G.1.2 mo_S o D h0) nx (sd_is (some (.int (D.1 2 (24 * r + i)))) (fx_h G.1.2 mo_S o D h0) nx) := by
  refine sd_Ct_of (by decide) (Nat.le_of_ble_eq_true rfl) ?_
  refine sd_aload_n dMO_typeAt_0 rfl rfl ?_
  refine fx_getr 10 1 (2) dMO_typeAt_1 fMO_13 rfl rfl ?_
  refine sd_bipush (v := nI 24) dMO_typeAt_4 (by decide) ?_
  refine sd_iload_n dMO_typeAt_6 rfl rfl ?_
  refine nn_imul dMO_typeAt_7 ?_
  refine sd_iload_n dMO_typeAt_8 rfl rfl ?_
  refine nn_iadd dMO_typeAt_9 ?_
  refine fx_iald ((24 * r) + i) dMO_typeAt_10 rfl rfl (by omega) (by decide) ?_
  exact sd_iret dMO_typeAt_11 rfl (Nat.le_refl _) (Nat.le_refl _) ⟨rfl, rfl, rfl⟩
theorem dMO_typeOf_0 : decode prog_13_method_16_code 0 = .ok (.aload_n 0, 1) := by decide +kernel
theorem dMO_typeOf_1 : decode prog_13_method_16_code 1 = .ok (.getfield 13, 3) := by decide +kernel
theorem dMO_typeOf_4 : decode prog_13_method_16_code 4 = .ok (.bipush (24), 2) := by decide +kernel
theorem dMO_typeOf_6 : decode prog_13_method_16_code 6 = .ok (.iload_n 1, 1) := by decide +kernel
theorem dMO_typeOf_7 : decode prog_13_method_16_code 7 = .ok (.imul, 1) := by decide +kernel
theorem dMO_typeOf_8 : decode prog_13_method_16_code 8 = .ok (.iaload, 1) := by decide +kernel
theorem dMO_typeOf_9 : decode prog_13_method_16_code 9 = .ok (.ireturn, 1) := by decide +kernel
theorem c_MO_typeOf {G : sd_G} {o : Nat} {D : fx_D} {h0 : sd_H} {nx r : Nat} (hi : r < 72) : sd_Ct G mMO_typeOf 0 0 0 [.ref (o + 0), .int (nI r)] (fx_h G.1.2 mo_S o D h0) nx (sd_is (some (.int (D.1 2 (24 * r)))) (fx_h G.1.2 mo_S o D h0) nx) := by
  refine sd_Ct_of (by decide) (Nat.le_of_ble_eq_true rfl) ?_
  refine sd_aload_n dMO_typeOf_0 rfl rfl ?_
  refine fx_getr 10 1 (2) dMO_typeOf_1 fMO_13 rfl rfl ?_
  refine sd_bipush (v := nI 24) dMO_typeOf_4 (by decide) ?_
  refine sd_iload_n dMO_typeOf_6 rfl rfl ?_
  refine nn_imul dMO_typeOf_7 ?_
  refine fx_iald (24 * r) dMO_typeOf_8 rfl rfl (by omega) (by decide) ?_
  exact sd_iret dMO_typeOf_9 rfl (Nat.le_refl _) (Nat.le_refl _) ⟨rfl, rfl, rfl⟩
theorem dMO_begin_0 : decode prog_13_method_17_code 0 = .ok (.aload_n 0, 1) := by decide +kernel
theorem dMO_begin_1 : decode prog_13_method_17_code 1 = .ok (.getfield 16, 3) := by decide +kernel
theorem dMO_begin_4 : decode prog_13_method_17_code 4 = .ok (.iload_n 1, 1) := by decide +kernel
theorem dMO_begin_5 : decode prog_13_method_17_code 5 = .ok (.iconst 0, 1) := by decide +kernel
theorem dMO_begin_6 : decode prog_13_method_17_code 6 = .ok (.iastore, 1) := by decide +kernel
theorem dMO_begin_7 : decode prog_13_method_17_code 7 = .ok (.return_, 1) := by decide +kernel
theorem c_MO_begin {G : sd_G} {o : Nat} {D : fx_D} {h0 : sd_H} {nx r : Nat} (hB : G.2.1 ≤ o) (hi : r < 72) : sd_Ct G mMO_begin 0 0 0 [.ref (o + 0), .int (nI r)] (fx_h G.1.2 mo_S o D h0) nx (sd_is none (fx_h G.1.2 mo_S o (fx_ua D 3 r (nI 0)) h0) nx) := by
  refine sd_Ct_of (by decide) (Nat.le_of_ble_eq_true rfl) ?_
  refine sd_aload_n dMO_begin_0 rfl rfl ?_
  refine fx_getr 10 2 (3) dMO_begin_1 fMO_16 rfl rfl ?_
  refine sd_iload_n dMO_begin_4 rfl rfl ?_
  refine sd_iconst (v := nI 0) dMO_begin_5 (by decide) ?_
  refine fx_iast (r) dMO_begin_6 rfl rfl (by omega) (by decide) hB ?_
  exact sd_vret dMO_begin_7 rfl (Nat.le_refl _) (Nat.le_refl _) ⟨rfl, rfl, rfl⟩
theorem dMO_end_0 : decode prog_13_method_13_code 0 = .ok (.iconst 1, 1) := by decide +kernel
theorem dMO_end_1 : decode prog_13_method_13_code 1 = .ok (.istore_n 3, 1) := by decide +kernel
theorem dMO_end_2 : decode prog_13_method_13_code 2 = .ok (.iload_n 2, 1) := by decide +kernel
theorem dMO_end_3 : decode prog_13_method_13_code 3 = .ok (.istore 4, 2) := by decide +kernel
theorem dMO_end_5 : decode prog_13_method_13_code 5 = .ok (.iload_n 3, 1) := by decide +kernel
theorem dMO_end_6 : decode prog_13_method_13_code 6 = .ok (.ifCond .le (29), 3) := by decide +kernel
theorem dMO_end_9 : decode prog_13_method_13_code 9 = .ok (.iload_n 3, 1) := by decide +kernel
theorem dMO_end_10 : decode prog_13_method_13_code 10 = .ok (.aload_n 0, 1) := by decide +kernel
theorem dMO_end_11 : decode prog_13_method_13_code 11 = .ok (.getfield 7, 3) := by decide +kernel
theorem dMO_end_14 : decode prog_13_method_13_code 14 = .ok (.bipush (24), 2) := by decide +kernel
theorem dMO_end_16 : decode prog_13_method_13_code 16 = .ok (.iload_n 1, 1) := by decide +kernel
theorem dMO_end_17 : decode prog_13_method_13_code 17 = .ok (.imul, 1) := by decide +kernel
theorem dMO_end_18 : decode prog_13_method_13_code 18 = .ok (.iload 4, 2) := by decide +kernel
theorem dMO_end_20 : decode prog_13_method_13_code 20 = .ok (.iadd, 1) := by decide +kernel
theorem dMO_end_21 : decode prog_13_method_13_code 21 = .ok (.iaload, 1) := by decide +kernel
theorem dMO_end_22 : decode prog_13_method_13_code 22 = .ok (.invokestatic 121, 3) := by decide +kernel
theorem dMO_end_25 : decode prog_13_method_13_code 25 = .ok (.iconst 1, 1) := by decide +kernel
theorem dMO_end_26 : decode prog_13_method_13_code 26 = .ok (.isub, 1) := by decide +kernel
theorem dMO_end_27 : decode prog_13_method_13_code 27 = .ok (.iadd, 1) := by decide +kernel
theorem dMO_end_28 : decode prog_13_method_13_code 28 = .ok (.istore_n 3, 1) := by decide +kernel
theorem dMO_end_29 : decode prog_13_method_13_code 29 = .ok (.iinc 4 (1), 3) := by decide +kernel
theorem dMO_end_32 : decode prog_13_method_13_code 32 = .ok (.goto (-27), 3) := by decide +kernel
theorem dMO_end_35 : decode prog_13_method_13_code 35 = .ok (.iload 4, 2) := by decide +kernel
theorem dMO_end_37 : decode prog_13_method_13_code 37 = .ok (.ireturn, 1) := by decide +kernel
theorem l_MO_end {G : sd_G} {o : Nat} {D : fx_D} {h0 : sd_H} {nx r : Nat} {l : tl_T} (hr : r < 72) (hl : mo_row D r l) : ∀ (n k e v : Nat), l.length = k + n → e ≤ k + 1 → tl_ok e (l.drop k) → v = k + tl_pl e (l.drop k) → sd_W G mMO_end 1 0 0 (sd_is (some (.int (nI v))) (fx_h G.1.2 mo_S o D h0) nx) 5 [(0, .ref (o + 0)), (1, .int (nI r)), (3, .int (nI e)), (4, .int (nI k))] [] (fx_h G.1.2 mo_S o D h0) nx 0 0 := by
  intro n
  induction n with
  | zero =>
    intro k e v hn he ho hv
    rw [List.drop_of_length_le (by omega)] at ho hv
    obtain rfl : e = 0 := by
      cases e with
      | zero => rfl
      | succ e => exact ho.elim
    refine sd_iload_n dMO_end_5 rfl rfl ?_
    refine nn_if_le 35 dMO_end_6 (by decide) (by decide) (fun _ => ?_) (fun c => absurd c (by decide))
    refine sd_iload dMO_end_35 rfl ?_
    exact sd_iret dMO_end_37 rfl (Nat.le_refl _) (Nat.le_refl _) ⟨by rw [hv]; rfl, rfl, rfl⟩
  | succ n ih =>
    intro k e v hn he ho hv
    cases e with
    | zero =>
      have hv : v = k := by
        rw [hv]
        cases l.drop k <;> rfl
      subst hv
      refine sd_iload_n dMO_end_5 rfl rfl ?_
      refine nn_if_le 35 dMO_end_6 (by decide) (by decide) (fun _ => ?_) (fun c => absurd c (by decide))
      refine sd_iload dMO_end_35 rfl ?_
      exact sd_iret dMO_end_37 rfl (Nat.le_refl _) (Nat.le_refl _) ⟨rfl, rfl, rfl⟩
    | succ e =>
      have hle := hl.1
      obtain ⟨x, hx⟩ : ∃ x, l[k]? = some x := ⟨l[k], List.getElem?_eq_getElem (by omega)⟩
      rw [tl_drop_get hx] at ho hv
      obtain ⟨q1, q2, q3, q4⟩ := hl.2.2 k x hx
      have ha := tl_ar_le x.1
      have hle := hl.1
      simp only [tl_ok, tl_pl] at ho hv
      -- the measure bounds what is due
      refine sd_iload_n dMO_end_5 rfl rfl ?_
      refine nn_if_le 35 dMO_end_6 (by decide) (by omega) (fun c6 => ?_) (fun c6 => ?_)
      ·
        exact absurd c6 (by omega)
      ·
        refine sd_iload_n dMO_end_9 rfl rfl ?_
        refine sd_aload_n dMO_end_10 rfl rfl ?_
        refine fx_getr 10 0 (1) dMO_end_11 fMO_7 rfl rfl ?_
        refine sd_bipush (v := nI 24) dMO_end_14 (by decide) ?_
        refine sd_iload_n dMO_end_16 rfl rfl ?_
        refine nn_imul dMO_end_17 ?_
        refine sd_iload dMO_end_18 rfl ?_
        refine nn_iadd dMO_end_20 ?_
        refine fx_ialdv ((24 * r) + k) dMO_end_21 rfl rfl (by omega) (by decide) (q1) ?_
        refine sd_cS [.int (nI (x.1))] [.int (nI (e + 1))] dMO_end_22 kMO_121 mMO_arity_s (c_MO_arity (by omega)) (by decide) (Nat.le_refl _) (Nat.le_refl _) (Nat.le_of_ble_eq_true rfl) rfl ?_
        refine sd_iconst (v := nI 1) dMO_end_25 (by decide) ?_
        refine sd_isub dMO_end_26 ?_
        refine sd_iadd dMO_end_27 ?_
        rw [show ((nI (e + 1)) + ((nI (tl_ar x.1)) - (nI (1)))) = (nI (e + tl_ar x.1)) from nn_due]
        refine sd_istore_n dMO_end_28 rfl (by decide) ?_
        refine nn_iinc 1 dMO_end_29 rfl (by decide) ?_
        refine sd_goto 5 dMO_end_32 (by decide) ?_
        refine sd_locp (al' := [(0, .ref (o + (0))), (1, .int (nI (r))), (3, .int (nI (e + tl_ar x.1))), (4, .int (nI (k + 1)))]) [2, 3, 1, 0] rfl ?_
        exact ih (k + 1) (e + tl_ar x.1) v (by omega) (by omega) ho (by omega)
theorem c_MO_end {G : sd_G} {o : Nat} {D : fx_D} {h0 : sd_H} {nx r i : Nat} {l : tl_T} (hr : r < 72) (hl : mo_row D r l) (hi : i ≤ l.length) (ho : tl_ok 1 (l.drop i)) : sd_Ct G mMO_end 1 0 0 [.ref (o + 0), .int (nI r), .int (nI i)] (fx_h G.1.2 mo_S o D h0) nx (sd_is (some (.int (nI (tl_end l i)))) (fx_h G.1.2 mo_S o D h0) nx) := by
  refine sd_Ct_of (by decide) (Nat.le_of_ble_eq_true rfl) ?_
  refine sd_iconst (v := nI 1) dMO_end_0 (by decide) ?_
  refine sd_istore_n dMO_end_1 rfl (by decide) ?_
  refine sd_iload_n dMO_end_2 rfl rfl ?_
  refine sd_istore dMO_end_3 (by decide) ?_
  refine sd_locp (al' := [(0, .ref (o + (0))), (1, .int (nI (r))), (3, .int (nI (1))), (4, .int (nI (i)))]) [2, 3, 1, 0] rfl ?_
  exact l_MO_end hr hl (l.length - i) i 1 (tl_end l i) (by omega) (by omega) ho rfl
