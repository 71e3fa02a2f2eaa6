/-! ===== the model: put, open, isEqual, isBeta, beta ===== -/
/-- the n symbols from k on, each with what f makes of it -/
def tl_sub (f : Nat → Nat × Nat → tl_T) (l : tl_T) : Nat → Nat → tl_T
  | _, 0 => []
  | k, n + 1 => (match l[k]? with | some x => f k x | none => []) ++ tl_sub f l (k + 1) n
/-- what put makes of a symbol: for the name v the term by, or the variable of a LAM that stands before place i -/
def tl_pf (l : tl_T) (i v : Nat) (by_ : Option tl_T) (k : Nat) (x : Nat × Nat) : tl_T := if x.1 = v then (match by_ with | some b => b | none => [(11 + tl_arn l k i (k - i), x.2)]) else [x]
/-- what open makes of a symbol: for the variable of the LAM before place i the part by, or the name v -/
def tl_of (l : tl_T) (i : Nat) (by_ : tl_T ⊕ Nat) (k : Nat) (x : Nat × Nat) : tl_T := if x.1 = 11 + tl_arn l k i (k - i) then (match by_ with | .inl b => b | .inr v => [(v, x.2)]) else [x]
theorem tl_sub_get {f : Nat → Nat × Nat → tl_T} {l : tl_T} {k n : Nat} {x : Nat × Nat} (hx : l[k]? = some x) : tl_sub f l k (n + 1) = f k x ++ tl_sub f l (k + 1) n := by
  rw [tl_sub, hx]
theorem dMO_put_0 : decode prog_13_method_43_code 0 = .ok (.aload_n 0, 1) := by decide +kernel
theorem dMO_put_1 : decode prog_13_method_43_code 1 = .ok (.iload_n 1, 1) := by decide +kernel
theorem dMO_put_2 : decode prog_13_method_43_code 2 = .ok (.iload_n 2, 1) := by decide +kernel
theorem dMO_put_3 : decode prog_13_method_43_code 3 = .ok (.invokevirtual 128, 3) := by decide +kernel
theorem dMO_put_6 : decode prog_13_method_43_code 6 = .ok (.istore 6, 2) := by decide +kernel
theorem dMO_put_8 : decode prog_13_method_43_code 8 = .ok (.iload_n 2, 1) := by decide +kernel
theorem dMO_put_9 : decode prog_13_method_43_code 9 = .ok (.istore 7, 2) := by decide +kernel
theorem dMO_put_11 : decode prog_13_method_43_code 11 = .ok (.iload 7, 2) := by decide +kernel
theorem dMO_put_13 : decode prog_13_method_43_code 13 = .ok (.iload 6, 2) := by decide +kernel
theorem dMO_put_15 : decode prog_13_method_43_code 15 = .ok (.if_icmp .ge (88), 3) := by decide +kernel
theorem dMO_put_18 : decode prog_13_method_43_code 18 = .ok (.aload_n 0, 1) := by decide +kernel
theorem dMO_put_19 : decode prog_13_method_43_code 19 = .ok (.iload_n 1, 1) := by decide +kernel
theorem dMO_put_20 : decode prog_13_method_43_code 20 = .ok (.iload 7, 2) := by decide +kernel
theorem dMO_put_22 : decode prog_13_method_43_code 22 = .ok (.invokevirtual 131, 3) := by decide +kernel
theorem dMO_put_25 : decode prog_13_method_43_code 25 = .ok (.iload_n 3, 1) := by decide +kernel
theorem dMO_put_26 : decode prog_13_method_43_code 26 = .ok (.if_icmp .eq (26), 3) := by decide +kernel
theorem dMO_put_29 : decode prog_13_method_43_code 29 = .ok (.aload_n 0, 1) := by decide +kernel
theorem dMO_put_30 : decode prog_13_method_43_code 30 = .ok (.iload 5, 2) := by decide +kernel
theorem dMO_put_32 : decode prog_13_method_43_code 32 = .ok (.aload_n 0, 1) := by decide +kernel
theorem dMO_put_33 : decode prog_13_method_43_code 33 = .ok (.iload_n 1, 1) := by decide +kernel
theorem dMO_put_34 : decode prog_13_method_43_code 34 = .ok (.iload 7, 2) := by decide +kernel
theorem dMO_put_36 : decode prog_13_method_43_code 36 = .ok (.invokevirtual 131, 3) := by decide +kernel
theorem dMO_put_39 : decode prog_13_method_43_code 39 = .ok (.aload_n 0, 1) := by decide +kernel
theorem dMO_put_40 : decode prog_13_method_43_code 40 = .ok (.iload_n 1, 1) := by decide +kernel
theorem dMO_put_41 : decode prog_13_method_43_code 41 = .ok (.iload 7, 2) := by decide +kernel
theorem dMO_put_43 : decode prog_13_method_43_code 43 = .ok (.invokevirtual 134, 3) := by decide +kernel
theorem dMO_put_46 : decode prog_13_method_43_code 46 = .ok (.invokevirtual 137, 3) := by decide +kernel
theorem dMO_put_49 : decode prog_13_method_43_code 49 = .ok (.goto (48), 3) := by decide +kernel
theorem dMO_put_52 : decode prog_13_method_43_code 52 = .ok (.iload 4, 2) := by decide +kernel
theorem dMO_put_54 : decode prog_13_method_43_code 54 = .ok (.ifCond .lt (15), 3) := by decide +kernel
theorem dMO_put_57 : decode prog_13_method_43_code 57 = .ok (.aload_n 0, 1) := by decide +kernel
theorem dMO_put_58 : decode prog_13_method_43_code 58 = .ok (.iload 4, 2) := by decide +kernel
theorem dMO_put_60 : decode prog_13_method_43_code 60 = .ok (.iconst 0, 1) := by decide +kernel
theorem dMO_put_61 : decode prog_13_method_43_code 61 = .ok (.iload 5, 2) := by decide +kernel
theorem dMO_put_63 : decode prog_13_method_43_code 63 = .ok (.invokevirtual 155, 3) := by decide +kernel
theorem dMO_put_66 : decode prog_13_method_43_code 66 = .ok (.goto (31), 3) := by decide +kernel
theorem dMO_put_69 : decode prog_13_method_43_code 69 = .ok (.aload_n 0, 1) := by decide +kernel
theorem dMO_put_70 : decode prog_13_method_43_code 70 = .ok (.iload_n 1, 1) := by decide +kernel
theorem dMO_put_71 : decode prog_13_method_43_code 71 = .ok (.iload_n 2, 1) := by decide +kernel
theorem dMO_put_72 : decode prog_13_method_43_code 72 = .ok (.iload 7, 2) := by decide +kernel
theorem dMO_put_74 : decode prog_13_method_43_code 74 = .ok (.invokevirtual 206, 3) := by decide +kernel
theorem dMO_put_77 : decode prog_13_method_43_code 77 = .ok (.istore 8, 2) := by decide +kernel
theorem dMO_put_79 : decode prog_13_method_43_code 79 = .ok (.aload_n 0, 1) := by decide +kernel
theorem dMO_put_80 : decode prog_13_method_43_code 80 = .ok (.iload 5, 2) := by decide +kernel
theorem dMO_put_82 : decode prog_13_method_43_code 82 = .ok (.bipush (11), 2) := by decide +kernel
theorem dMO_put_84 : decode prog_13_method_43_code 84 = .ok (.iload 8, 2) := by decide +kernel
theorem dMO_put_86 : decode prog_13_method_43_code 86 = .ok (.iadd, 1) := by decide +kernel
theorem dMO_put_87 : decode prog_13_method_43_code 87 = .ok (.aload_n 0, 1) := by decide +kernel
theorem dMO_put_88 : decode prog_13_method_43_code 88 = .ok (.iload_n 1, 1) := by decide +kernel
theorem dMO_put_89 : decode prog_13_method_43_code 89 = .ok (.iload 7, 2) := by decide +kernel
theorem dMO_put_91 : decode prog_13_method_43_code 91 = .ok (.invokevirtual 134, 3) := by decide +kernel
theorem dMO_put_94 : decode prog_13_method_43_code 94 = .ok (.invokevirtual 137, 3) := by decide +kernel
theorem dMO_put_97 : decode prog_13_method_43_code 97 = .ok (.iinc 7 (1), 3) := by decide +kernel
theorem dMO_put_100 : decode prog_13_method_43_code 100 = .ok (.goto (-89), 3) := by decide +kernel
theorem dMO_put_103 : decode prog_13_method_43_code 103 = .ok (.return_, 1) := by decide +kernel
theorem l_MO_put {G : sd_G} {o : Nat} {h0 : sd_H} {nx r q i v e tb : Nat} {l b : tl_T} {c4 : Int32} {by_ : Option tl_T} (hB : G.2.1 ≤ o) (hr : r < 72) (hq : q < 72) (hn : q ≠ r) (hw : tl_wf l) (hv : v < 100) (he : e ≤ l.length) (hby : (c4 = -1 ∧ by_ = none) ∨ (c4 = nI tb ∧ tb < 72 ∧ tb ≠ r ∧ by_ = some b ∧ tl_wf b)) :
    ∀ (n k : Nat) (D D2 : fx_D), e = k + n → i ≤ k → mo_row D q l → (by_ = some b → mo_row D tb b) → mo_okl D r → D2 = mo_adds D r (tl_sub (tl_pf l i v by_) l k n) → sd_W G mMO_put 3 0 0 (sd_is none (fx_h G.1.2 mo_S o D2 h0) nx) 11 [(0, .ref (o + 0)), (1, .int (nI q)), (2, .int (nI i)), (3, .int (nI v)), (4, .int c4), (5, .int (nI r)), (6, .int (nI e)), (7, .int (nI k))] [] (fx_h G.1.2 mo_S o D h0) nx 0 0 := by
  intro n
  induction n with
  | zero =>
    intro k D D2 hk hik hl hb hrk hD
    have h24 := hl.1
    subst hD
    refine sd_iload dMO_put_11 rfl ?_
    refine sd_iload dMO_put_13 rfl ?_
    refine nn_icmp_ge 103 dMO_put_15 (by decide) (by omega) (by omega) (fun c15 => ?_) (fun c15 => ?_)
    ·
      exact sd_vret dMO_put_103 rfl (Nat.le_refl _) (Nat.le_refl _) ⟨rfl, rfl, rfl⟩
    ·
      exact absurd c15 (by omega)
  | succ n ih =>
    intro k D D2 hk hik hl hb hrk hD
    have h24 := hl.1
    obtain ⟨x, hx⟩ : ∃ x, l[k]? = some x := ⟨l[k], List.getElem?_eq_getElem (by omega)⟩
    obtain ⟨q1, q2, q3, q4⟩ := hl.2.2 k x hx
    have s1 := c_MO_symbolAt (G := G) (o := o) (D := D) (h0 := h0) (nx := nx) (r := q) (i := k) (by omega)
    rw [q1] at s1
    have t1 := c_MO_typeAt (G := G) (o := o) (D := D) (h0 := h0) (nx := nx) (r := q) (i := k) (by omega)
    rw [q2] at t1
    rw [tl_sub_get hx, mo_adds_app] at hD
    by_cases hxv : x.1 = v
    · rcases hby with ⟨rfl, rfl⟩ | ⟨rfl, h1, h2, rfl, hbw⟩
      · rw [show tl_pf l i v none k x = [(11 + tl_arn l k i (k - i), x.2)] by unfold tl_pf; rw [if_pos hxv]] at hD
        refine sd_iload dMO_put_11 rfl ?_
        refine sd_iload dMO_put_13 rfl ?_
        refine nn_icmp_ge 103 dMO_put_15 (by decide) (by omega) (by omega) (fun c15 => ?_) (fun c15 => ?_)
        ·
          exact absurd c15 (by omega)
        ·
          refine sd_aload_n dMO_put_18 rfl rfl ?_
          refine sd_iload_n dMO_put_19 rfl rfl ?_
          refine sd_iload dMO_put_20 rfl ?_
          refine fx_cV 10 sR_MO [.int (nI (q)), .int (nI (k))] [] dMO_put_22 kMO_131 rfl rfl mMO_symbolAt_v (s1) (by decide) (Nat.le_refl _) (Nat.le_refl _) (Nat.le_of_ble_eq_true rfl) rfl ?_
          refine sd_iload_n dMO_put_25 rfl rfl ?_
          refine nn_icmp_eq 52 dMO_put_26 (by decide) (by omega) (by omega) (fun c26 => ?_) (fun c26 => ?_)
          ·
            refine sd_iload dMO_put_52 rfl ?_
            refine sd_if_lt 69 dMO_put_54 (by decide) (fun c54 => ?_) (fun c54 => ?_)
            ·
              refine sd_aload_n dMO_put_69 rfl rfl ?_
              refine sd_iload_n dMO_put_70 rfl rfl ?_
              refine sd_iload_n dMO_put_71 rfl rfl ?_
              refine sd_iload dMO_put_72 rfl ?_
              refine fx_cV 10 sR_MO [.int (nI (q)), .int (nI (i)), .int (nI (k))] [] dMO_put_74 kMO_206 rfl rfl mMO_around_v (c_MO_around hq hl hw hik (by omega)) (by decide) (Nat.le_refl _) (Nat.le_refl _) (Nat.le_of_ble_eq_true rfl) rfl ?_
              refine sd_istore dMO_put_77 (by decide) ?_
              refine sd_aload_n dMO_put_79 rfl rfl ?_
              refine sd_iload dMO_put_80 rfl ?_
              refine sd_bipush (v := nI 11) dMO_put_82 (by decide) ?_
              refine sd_iload dMO_put_84 rfl ?_
              refine nn_iadd dMO_put_86 ?_
              refine sd_aload_n dMO_put_87 rfl rfl ?_
              refine sd_iload_n dMO_put_88 rfl rfl ?_
              refine sd_iload dMO_put_89 rfl ?_
              refine fx_cV 10 sR_MO [.int (nI (q)), .int (nI (k))] [.int (nI (11 + (tl_arn l k i (k - i)))), .int (nI (r)), .ref (o + (0))] dMO_put_91 kMO_134 rfl rfl mMO_typeAt_v (t1) (by decide) (Nat.le_refl _) (Nat.le_refl _) (Nat.le_of_ble_eq_true rfl) rfl ?_
              refine fx_cV 10 sR_MO [.int (nI (r)), .int (nI (11 + (tl_arn l k i (k - i)))), .int (nI (x.2))] [] dMO_put_94 kMO_137 rfl rfl mMO_add_v (c_MO_add hB hr hrk.ln.1 hrk.ln.2) (by decide) (Nat.le_refl _) (Nat.le_refl _) (Nat.le_of_ble_eq_true rfl) rfl ?_
              refine nn_iinc 1 dMO_put_97 rfl (by decide) ?_
              refine sd_goto 11 dMO_put_100 (by decide) ?_
              refine sd_locp (al' := [(0, .ref (o + (0))), (1, .int (nI (q))), (2, .int (nI (i))), (3, .int (nI (v))), (4, .int ((-1))), (5, .int (nI (r))), (6, .int (nI (e))), (7, .int (nI (k + 1)))]) [2, 3, 4, 5, 6, 7, 8, 0] rfl ?_
              exact ih (k + 1) _ D2 (by omega) (by omega) (mo_add_other hl hn hrk.ln.1) (fun z => by cases z) (mo_add_okl hrk hrk) hD
            ·
              exact absurd (by decide) c54
          ·
            exact absurd hxv c26
      · rw [show tl_pf l i v (some b) k x = b by unfold tl_pf; rw [if_pos hxv]] at hD
        have hbr := hb rfl
        have hc := c_MO_copy (G := G) (o := o) (h0 := h0) (nx := nx) (i := 0) hB hr h1 h2 hbr hrk (Nat.zero_le _) hbw.1
        rw [hbw.part] at hc
        have z1 := mo_adds_other hn b D hl hrk
        have z2 := mo_adds_other h2 b D hbr hrk
        refine sd_iload dMO_put_11 rfl ?_
        refine sd_iload dMO_put_13 rfl ?_
        refine nn_icmp_ge 103 dMO_put_15 (by decide) (by omega) (by omega) (fun c15 => ?_) (fun c15 => ?_)
        ·
          exact absurd c15 (by omega)
        ·
          refine sd_aload_n dMO_put_18 rfl rfl ?_
          refine sd_iload_n dMO_put_19 rfl rfl ?_
          refine sd_iload dMO_put_20 rfl ?_
          refine fx_cV 10 sR_MO [.int (nI (q)), .int (nI (k))] [] dMO_put_22 kMO_131 rfl rfl mMO_symbolAt_v (s1) (by decide) (Nat.le_refl _) (Nat.le_refl _) (Nat.le_of_ble_eq_true rfl) rfl ?_
          refine sd_iload_n dMO_put_25 rfl rfl ?_
          refine nn_icmp_eq 52 dMO_put_26 (by decide) (by omega) (by omega) (fun c26 => ?_) (fun c26 => ?_)
          ·
            refine sd_iload dMO_put_52 rfl ?_
            refine nn_if_lt dMO_put_54 69 (by decide) (by omega) ?_
            refine sd_aload_n dMO_put_57 rfl rfl ?_
            refine sd_iload dMO_put_58 rfl ?_
            refine sd_iconst (v := nI 0) dMO_put_60 (by decide) ?_
            refine sd_iload dMO_put_61 rfl ?_
            refine fx_cV 10 sR_MO [.int (nI (tb)), .int (nI (0)), .int (nI (r))] [] dMO_put_63 kMO_155 rfl rfl mMO_copy_v (hc) (by decide) (Nat.le_refl _) (Nat.le_refl _) (Nat.le_of_ble_eq_true rfl) rfl ?_
            refine sd_goto 97 dMO_put_66 (by decide) ?_
            refine nn_iinc 1 dMO_put_97 rfl (by decide) ?_
            refine sd_goto 11 dMO_put_100 (by decide) ?_
            refine sd_locp (al' := [(0, .ref (o + (0))), (1, .int (nI (q))), (2, .int (nI (i))), (3, .int (nI (v))), (4, .int (nI (tb))), (5, .int (nI (r))), (6, .int (nI (e))), (7, .int (nI (k + 1)))]) [1, 2, 3, 4, 5, 6, 7, 0] rfl ?_
            exact ih (k + 1) _ D2 (by omega) (by omega) z1.1 (fun _ => z2.1) z1.2 hD
          ·
            exact absurd hxv c26
    · rw [show tl_pf l i v by_ k x = [x] by unfold tl_pf; rw [if_neg hxv]] at hD
      refine sd_iload dMO_put_11 rfl ?_
      refine sd_iload dMO_put_13 rfl ?_
      refine nn_icmp_ge 103 dMO_put_15 (by decide) (by omega) (by omega) (fun c15 => ?_) (fun c15 => ?_)
      ·
        exact absurd c15 (by omega)
      ·
        refine sd_aload_n dMO_put_18 rfl rfl ?_
        refine sd_iload_n dMO_put_19 rfl rfl ?_
        refine sd_iload dMO_put_20 rfl ?_
        refine fx_cV 10 sR_MO [.int (nI (q)), .int (nI (k))] [] dMO_put_22 kMO_131 rfl rfl mMO_symbolAt_v (s1) (by decide) (Nat.le_refl _) (Nat.le_refl _) (Nat.le_of_ble_eq_true rfl) rfl ?_
        refine sd_iload_n dMO_put_25 rfl rfl ?_
        refine nn_icmp_eq 52 dMO_put_26 (by decide) (by omega) (by omega) (fun c26 => ?_) (fun c26 => ?_)
        ·
          exact absurd c26 hxv
        ·
          refine sd_aload_n dMO_put_29 rfl rfl ?_
          refine sd_iload dMO_put_30 rfl ?_
          refine sd_aload_n dMO_put_32 rfl rfl ?_
          refine sd_iload_n dMO_put_33 rfl rfl ?_
          refine sd_iload dMO_put_34 rfl ?_
          refine fx_cV 10 sR_MO [.int (nI (q)), .int (nI (k))] [.int (nI (r)), .ref (o + (0))] dMO_put_36 kMO_131 rfl rfl mMO_symbolAt_v (s1) (by decide) (Nat.le_refl _) (Nat.le_refl _) (Nat.le_of_ble_eq_true rfl) rfl ?_
          refine sd_aload_n dMO_put_39 rfl rfl ?_
          refine sd_iload_n dMO_put_40 rfl rfl ?_
          refine sd_iload dMO_put_41 rfl ?_
          refine fx_cV 10 sR_MO [.int (nI (q)), .int (nI (k))] [.int (nI (x.1)), .int (nI (r)), .ref (o + (0))] dMO_put_43 kMO_134 rfl rfl mMO_typeAt_v (t1) (by decide) (Nat.le_refl _) (Nat.le_refl _) (Nat.le_of_ble_eq_true rfl) rfl ?_
          refine fx_cV 10 sR_MO [.int (nI (r)), .int (nI (x.1)), .int (nI (x.2))] [] dMO_put_46 kMO_137 rfl rfl mMO_add_v (c_MO_add hB hr hrk.ln.1 hrk.ln.2) (by decide) (Nat.le_refl _) (Nat.le_refl _) (Nat.le_of_ble_eq_true rfl) rfl ?_
          refine sd_goto 97 dMO_put_49 (by decide) ?_
          refine nn_iinc 1 dMO_put_97 rfl (by decide) ?_
          refine sd_goto 11 dMO_put_100 (by decide) ?_
          refine sd_locp (al' := [(0, .ref (o + (0))), (1, .int (nI (q))), (2, .int (nI (i))), (3, .int (nI (v))), (4, .int (c4)), (5, .int (nI (r))), (6, .int (nI (e))), (7, .int (nI (k + 1)))]) [1, 2, 3, 4, 5, 6, 7, 0] rfl ?_
          exact ih (k + 1) _ D2 (by omega) (by omega) (mo_add_other hl hn hrk.ln.1) (fun z => by rcases hby with ⟨-, z2⟩ | ⟨-, -, h2, -, -⟩; rw [z2] at z; cases z; exact mo_add_other (hb z) h2 hrk.ln.1) (mo_add_okl hrk hrk) hD
theorem c_MO_put {G : sd_G} {o : Nat} {D : fx_D} {h0 : sd_H} {nx r q i v tb : Nat} {l b : tl_T} {c4 : Int32} {by_ : Option tl_T} (hB : G.2.1 ≤ o) (hr : r < 72) (hq : q < 72) (hn : q ≠ r) (hw : tl_wf l) (hv : v < 100) (hi : i < l.length) (hl : mo_row D q l) (hrk : mo_okl D r) (hby : (c4 = -1 ∧ by_ = none) ∨ (c4 = nI tb ∧ tb < 72 ∧ tb ≠ r ∧ by_ = some b ∧ tl_wf b)) (hb : by_ = some b → mo_row D tb b) : sd_Ct G mMO_put 3 0 0 [.ref (o + 0), .int (nI q), .int (nI i), .int (nI v), .int c4, .int (nI r)] (fx_h G.1.2 mo_S o D h0) nx (sd_is none (fx_h G.1.2 mo_S o (mo_adds D r (tl_sub (tl_pf l i v by_) l i (tl_end l i - i))) h0) nx) := by
  refine sd_Ct_of (by decide) (Nat.le_of_ble_eq_true rfl) ?_
  have e1 := tl_end_le (l := l) (i := i) (by omega)
  have e2 := tl_end_lt hi
  refine sd_aload_n dMO_put_0 rfl rfl ?_
  refine sd_iload_n dMO_put_1 rfl rfl ?_
  refine sd_iload_n dMO_put_2 rfl rfl ?_
  refine fx_cV 10 sR_MO [.int (nI (q)), .int (nI (i))] [] dMO_put_3 kMO_128 rfl rfl mMO_end_v (c_MO_end hq hl (by omega) (tl_ok_drop l 1 i hw.1 hw.2.1 hi)) (by decide) (Nat.le_refl _) (Nat.le_refl _) (Nat.le_of_ble_eq_true rfl) rfl ?_
  refine sd_istore dMO_put_6 (by decide) ?_
  refine sd_iload_n dMO_put_8 rfl rfl ?_
  refine sd_istore dMO_put_9 (by decide) ?_
  refine sd_locp (al' := [(0, .ref (o + (0))), (1, .int (nI (q))), (2, .int (nI (i))), (3, .int (nI (v))), (4, .int (c4)), (5, .int (nI (r))), (6, .int (nI (tl_end l i))), (7, .int (nI (i)))]) [2, 3, 4, 5, 6, 7, 1, 0] rfl ?_
  exact l_MO_put hB hr hq hn hw hv e1 hby (tl_end l i - i) i D _ (by omega) (by omega) hl hb hrk rfl
theorem dMO_open5_0 : decode prog_13_method_44_code 0 = .ok (.aload_n 0, 1) := by decide +kernel
theorem dMO_open5_1 : decode prog_13_method_44_code 1 = .ok (.iload_n 1, 1) := by decide +kernel
theorem dMO_open5_2 : decode prog_13_method_44_code 2 = .ok (.iload_n 2, 1) := by decide +kernel
theorem dMO_open5_3 : decode prog_13_method_44_code 3 = .ok (.invokevirtual 128, 3) := by decide +kernel
theorem dMO_open5_6 : decode prog_13_method_44_code 6 = .ok (.istore 6, 2) := by decide +kernel
theorem dMO_open5_8 : decode prog_13_method_44_code 8 = .ok (.iload_n 2, 1) := by decide +kernel
theorem dMO_open5_9 : decode prog_13_method_44_code 9 = .ok (.iconst 1, 1) := by decide +kernel
theorem dMO_open5_10 : decode prog_13_method_44_code 10 = .ok (.iadd, 1) := by decide +kernel
theorem dMO_open5_11 : decode prog_13_method_44_code 11 = .ok (.istore 7, 2) := by decide +kernel
theorem dMO_open5_13 : decode prog_13_method_44_code 13 = .ok (.iload 7, 2) := by decide +kernel
theorem dMO_open5_15 : decode prog_13_method_44_code 15 = .ok (.iload 6, 2) := by decide +kernel
theorem dMO_open5_17 : decode prog_13_method_44_code 17 = .ok (.if_icmp .ge (110), 3) := by decide +kernel
theorem dMO_open5_20 : decode prog_13_method_44_code 20 = .ok (.aload_n 0, 1) := by decide +kernel
theorem dMO_open5_21 : decode prog_13_method_44_code 21 = .ok (.iload_n 1, 1) := by decide +kernel
theorem dMO_open5_22 : decode prog_13_method_44_code 22 = .ok (.iload 7, 2) := by decide +kernel
theorem dMO_open5_24 : decode prog_13_method_44_code 24 = .ok (.invokevirtual 131, 3) := by decide +kernel
theorem dMO_open5_27 : decode prog_13_method_44_code 27 = .ok (.bipush (10), 2) := by decide +kernel
theorem dMO_open5_29 : decode prog_13_method_44_code 29 = .ok (.if_icmp .le (30), 3) := by decide +kernel
theorem dMO_open5_32 : decode prog_13_method_44_code 32 = .ok (.aload_n 0, 1) := by decide +kernel
theorem dMO_open5_33 : decode prog_13_method_44_code 33 = .ok (.iload_n 1, 1) := by decide +kernel
theorem dMO_open5_34 : decode prog_13_method_44_code 34 = .ok (.iload 7, 2) := by decide +kernel
theorem dMO_open5_36 : decode prog_13_method_44_code 36 = .ok (.invokevirtual 131, 3) := by decide +kernel
theorem dMO_open5_39 : decode prog_13_method_44_code 39 = .ok (.bipush (11), 2) := by decide +kernel
theorem dMO_open5_41 : decode prog_13_method_44_code 41 = .ok (.isub, 1) := by decide +kernel
theorem dMO_open5_42 : decode prog_13_method_44_code 42 = .ok (.aload_n 0, 1) := by decide +kernel
theorem dMO_open5_43 : decode prog_13_method_44_code 43 = .ok (.iload_n 1, 1) := by decide +kernel
theorem dMO_open5_44 : decode prog_13_method_44_code 44 = .ok (.iload_n 2, 1) := by decide +kernel
theorem dMO_open5_45 : decode prog_13_method_44_code 45 = .ok (.iconst 1, 1) := by decide +kernel
theorem dMO_open5_46 : decode prog_13_method_44_code 46 = .ok (.iadd, 1) := by decide +kernel
theorem dMO_open5_47 : decode prog_13_method_44_code 47 = .ok (.iload 7, 2) := by decide +kernel
theorem dMO_open5_49 : decode prog_13_method_44_code 49 = .ok (.invokevirtual 206, 3) := by decide +kernel
theorem dMO_open5_52 : decode prog_13_method_44_code 52 = .ok (.if_icmp .ne (7), 3) := by decide +kernel
theorem dMO_open5_55 : decode prog_13_method_44_code 55 = .ok (.iconst 1, 1) := by decide +kernel
theorem dMO_open5_56 : decode prog_13_method_44_code 56 = .ok (.goto (4), 3) := by decide +kernel
theorem dMO_open5_59 : decode prog_13_method_44_code 59 = .ok (.iconst 0, 1) := by decide +kernel
theorem dMO_open5_60 : decode prog_13_method_44_code 60 = .ok (.istore 8, 2) := by decide +kernel
theorem dMO_open5_62 : decode prog_13_method_44_code 62 = .ok (.iload 8, 2) := by decide +kernel
theorem dMO_open5_64 : decode prog_13_method_44_code 64 = .ok (.ifCond .ne (26), 3) := by decide +kernel
theorem dMO_open5_67 : decode prog_13_method_44_code 67 = .ok (.aload_n 0, 1) := by decide +kernel
theorem dMO_open5_68 : decode prog_13_method_44_code 68 = .ok (.iload 5, 2) := by decide +kernel
theorem dMO_open5_70 : decode prog_13_method_44_code 70 = .ok (.aload_n 0, 1) := by decide +kernel
theorem dMO_open5_71 : decode prog_13_method_44_code 71 = .ok (.iload_n 1, 1) := by decide +kernel
theorem dMO_open5_72 : decode prog_13_method_44_code 72 = .ok (.iload 7, 2) := by decide +kernel
theorem dMO_open5_74 : decode prog_13_method_44_code 74 = .ok (.invokevirtual 131, 3) := by decide +kernel
theorem dMO_open5_77 : decode prog_13_method_44_code 77 = .ok (.aload_n 0, 1) := by decide +kernel
theorem dMO_open5_78 : decode prog_13_method_44_code 78 = .ok (.iload_n 1, 1) := by decide +kernel
theorem dMO_open5_79 : decode prog_13_method_44_code 79 = .ok (.iload 7, 2) := by decide +kernel
theorem dMO_open5_81 : decode prog_13_method_44_code 81 = .ok (.invokevirtual 134, 3) := by decide +kernel
theorem dMO_open5_84 : decode prog_13_method_44_code 84 = .ok (.invokevirtual 137, 3) := by decide +kernel
theorem dMO_open5_87 : decode prog_13_method_44_code 87 = .ok (.goto (34), 3) := by decide +kernel
theorem dMO_open5_90 : decode prog_13_method_44_code 90 = .ok (.iload_n 3, 1) := by decide +kernel
theorem dMO_open5_91 : decode prog_13_method_44_code 91 = .ok (.ifCond .lt (15), 3) := by decide +kernel
theorem dMO_open5_94 : decode prog_13_method_44_code 94 = .ok (.aload_n 0, 1) := by decide +kernel
theorem dMO_open5_95 : decode prog_13_method_44_code 95 = .ok (.iload_n 3, 1) := by decide +kernel
theorem dMO_open5_96 : decode prog_13_method_44_code 96 = .ok (.iload 4, 2) := by decide +kernel
theorem dMO_open5_98 : decode prog_13_method_44_code 98 = .ok (.iload 5, 2) := by decide +kernel
theorem dMO_open5_100 : decode prog_13_method_44_code 100 = .ok (.invokevirtual 155, 3) := by decide +kernel
theorem dMO_open5_103 : decode prog_13_method_44_code 103 = .ok (.goto (18), 3) := by decide +kernel
theorem dMO_open5_106 : decode prog_13_method_44_code 106 = .ok (.aload_n 0, 1) := by decide +kernel
theorem dMO_open5_107 : decode prog_13_method_44_code 107 = .ok (.iload 5, 2) := by decide +kernel
theorem dMO_open5_109 : decode prog_13_method_44_code 109 = .ok (.iload 4, 2) := by decide +kernel
theorem dMO_open5_111 : decode prog_13_method_44_code 111 = .ok (.aload_n 0, 1) := by decide +kernel
theorem dMO_open5_112 : decode prog_13_method_44_code 112 = .ok (.iload_n 1, 1) := by decide +kernel
theorem dMO_open5_113 : decode prog_13_method_44_code 113 = .ok (.iload 7, 2) := by decide +kernel
theorem dMO_open5_115 : decode prog_13_method_44_code 115 = .ok (.invokevirtual 134, 3) := by decide +kernel
theorem dMO_open5_118 : decode prog_13_method_44_code 118 = .ok (.invokevirtual 137, 3) := by decide +kernel
theorem dMO_open5_121 : decode prog_13_method_44_code 121 = .ok (.iinc 7 (1), 3) := by decide +kernel
theorem dMO_open5_124 : decode prog_13_method_44_code 124 = .ok (.goto (-111), 3) := by decide +kernel
theorem dMO_open5_127 : decode prog_13_method_44_code 127 = .ok (.return_, 1) := by decide +kernel
theorem l_MO_open5 {G : sd_G} {o : Nat} {h0 : sd_H} {nx r q i e tb j : Nat} {l b : tl_T} {c3 : Int32} {by_ : tl_T ⊕ Nat} (hB : G.2.1 ≤ o) (hr : r < 72) (hq : q < 72) (hn : q ≠ r) (hw : tl_wf l) (hj : j < 100) (he : e ≤ l.length) (hby : (c3 = -1 ∧ by_ = .inr j) ∨ (c3 = nI tb ∧ tb < 72 ∧ tb ≠ r ∧ by_ = .inl (tl_part b j) ∧ j ≤ b.length ∧ tl_ok 1 (b.drop j))) :
    ∀ (n k : Nat) (D D2 : fx_D), e = k + n → i + 1 ≤ k → mo_row D q l → (by_ = .inl (tl_part b j) → mo_row D tb b) → mo_okl D r → D2 = mo_adds D r (tl_sub (tl_of l (i + 1) by_) l k n) → sd_W G mMO_open5 3 0 0 (sd_is none (fx_h G.1.2 mo_S o D2 h0) nx) 13 [(0, .ref (o + 0)), (1, .int (nI q)), (2, .int (nI i)), (3, .int c3), (4, .int (nI j)), (5, .int (nI r)), (6, .int (nI e)), (7, .int (nI k))] [] (fx_h G.1.2 mo_S o D h0) nx 0 0 := by
  intro n
  induction n with
  | zero =>
    intro k D D2 hk hik hl hb hrk hD
    have h24 := hl.1
    subst hD
    refine sd_iload dMO_open5_13 rfl ?_
    refine sd_iload dMO_open5_15 rfl ?_
    refine nn_icmp_ge 127 dMO_open5_17 (by decide) (by omega) (by omega) (fun c17 => ?_) (fun c17 => ?_)
    ·
      exact sd_vret dMO_open5_127 rfl (Nat.le_refl _) (Nat.le_refl _) ⟨rfl, rfl, rfl⟩
    ·
      exact absurd c17 (by omega)
  | succ n ih =>
    intro k D D2 hk hik hl hb hrk hD
    have h24 := hl.1
    obtain ⟨x, hx⟩ : ∃ x, l[k]? = some x := ⟨l[k], List.getElem?_eq_getElem (by omega)⟩
    obtain ⟨q1, q2, q3, q4⟩ := hl.2.2 k x hx
    have s1 := c_MO_symbolAt (G := G) (o := o) (D := D) (h0 := h0) (nx := nx) (r := q) (i := k) (by omega)
    rw [q1] at s1
    have t1 := c_MO_typeAt (G := G) (o := o) (D := D) (h0 := h0) (nx := nx) (r := q) (i := k) (by omega)
    rw [q2] at t1
    have har := tl_arn_le l k (k - (i + 1)) (i + 1)
    rw [tl_sub_get hx, mo_adds_app] at hD
    by_cases hxv : x.1 = 11 + tl_arn l k (i + 1) (k - (i + 1))
    · rcases hby with ⟨rfl, rfl⟩ | ⟨rfl, h1, h2, rfl, h4, h5⟩
      · rw [show tl_of l (i + 1) (.inr j) k x = [(j, x.2)] by unfold tl_of; rw [if_pos hxv]] at hD
        refine sd_iload dMO_open5_13 rfl ?_
        refine sd_iload dMO_open5_15 rfl ?_
        refine nn_icmp_ge 127 dMO_open5_17 (by decide) (by omega) (by omega) (fun c17 => ?_) (fun c17 => ?_)
        ·
          exact absurd c17 (by omega)
        ·
          refine sd_aload_n dMO_open5_20 rfl rfl ?_
          refine sd_iload_n dMO_open5_21 rfl rfl ?_
          refine sd_iload dMO_open5_22 rfl ?_
          refine fx_cV 10 sR_MO [.int (nI (q)), .int (nI (k))] [] dMO_open5_24 kMO_131 rfl rfl mMO_symbolAt_v (s1) (by decide) (Nat.le_refl _) (Nat.le_refl _) (Nat.le_of_ble_eq_true rfl) rfl ?_
          refine sd_bipush (v := nI 10) dMO_open5_27 (by decide) ?_
          refine nn_icmp_le 59 dMO_open5_29 (by decide) (by omega) (by omega) (fun c29 => ?_) (fun c29 => ?_)
          ·
            exact absurd c29 (by omega)
          ·
            refine sd_aload_n dMO_open5_32 rfl rfl ?_
            refine sd_iload_n dMO_open5_33 rfl rfl ?_
            refine sd_iload dMO_open5_34 rfl ?_
            refine fx_cV 10 sR_MO [.int (nI (q)), .int (nI (k))] [] dMO_open5_36 kMO_131 rfl rfl mMO_symbolAt_v (s1) (by decide) (Nat.le_refl _) (Nat.le_refl _) (Nat.le_of_ble_eq_true rfl) rfl ?_
            refine sd_bipush (v := nI 11) dMO_open5_39 (by decide) ?_
            refine nn_isub dMO_open5_41 (by omega) ?_
            refine sd_aload_n dMO_open5_42 rfl rfl ?_
            refine sd_iload_n dMO_open5_43 rfl rfl ?_
            refine sd_iload_n dMO_open5_44 rfl rfl ?_
            refine sd_iconst (v := nI 1) dMO_open5_45 (by decide) ?_
            refine nn_iadd dMO_open5_46 ?_
            refine sd_iload dMO_open5_47 rfl ?_
            refine fx_cV 10 sR_MO [.int (nI (q)), .int (nI (i + 1)), .int (nI (k))] [.int (nI (x.1 - 11))] dMO_open5_49 kMO_206 rfl rfl mMO_around_v (c_MO_around hq hl hw hik (by omega)) (by decide) (Nat.le_refl _) (Nat.le_refl _) (Nat.le_of_ble_eq_true rfl) rfl ?_
            refine nn_icmp_ne 59 dMO_open5_52 (by decide) (by omega) (by omega) (fun c52 => ?_) (fun c52 => ?_)
            ·
              exact absurd c52 (by omega)
            ·
              refine sd_iconst (v := nI 1) dMO_open5_55 (by decide) ?_
              refine sd_goto 60 dMO_open5_56 (by decide) ?_
              refine sd_istore dMO_open5_60 (by decide) ?_
              refine sd_iload dMO_open5_62 rfl ?_
              refine nn_if_ne 90 dMO_open5_64 (by decide) (by decide) (fun _ => ?_) (fun c => absurd c (by decide))
              refine sd_iload_n dMO_open5_90 rfl rfl ?_
              refine sd_if_lt 106 dMO_open5_91 (by decide) (fun c91 => ?_) (fun c91 => ?_)
              ·
                refine sd_aload_n dMO_open5_106 rfl rfl ?_
                refine sd_iload dMO_open5_107 rfl ?_
                refine sd_iload dMO_open5_109 rfl ?_
                refine sd_aload_n dMO_open5_111 rfl rfl ?_
                refine sd_iload_n dMO_open5_112 rfl rfl ?_
                refine sd_iload dMO_open5_113 rfl ?_
                refine fx_cV 10 sR_MO [.int (nI (q)), .int (nI (k))] [.int (nI (j)), .int (nI (r)), .ref (o + (0))] dMO_open5_115 kMO_134 rfl rfl mMO_typeAt_v (t1) (by decide) (Nat.le_refl _) (Nat.le_refl _) (Nat.le_of_ble_eq_true rfl) rfl ?_
                refine fx_cV 10 sR_MO [.int (nI (r)), .int (nI (j)), .int (nI (x.2))] [] dMO_open5_118 kMO_137 rfl rfl mMO_add_v (c_MO_add hB hr hrk.ln.1 hrk.ln.2) (by decide) (Nat.le_refl _) (Nat.le_refl _) (Nat.le_of_ble_eq_true rfl) rfl ?_
                refine nn_iinc 1 dMO_open5_121 rfl (by decide) ?_
                refine sd_goto 13 dMO_open5_124 (by decide) ?_
                refine sd_locp (al' := [(0, .ref (o + (0))), (1, .int (nI (q))), (2, .int (nI (i))), (3, .int ((-1))), (4, .int (nI (j))), (5, .int (nI (r))), (6, .int (nI (e))), (7, .int (nI (k + 1)))]) [2, 3, 4, 5, 6, 7, 8, 0] rfl ?_
                exact ih (k + 1) _ D2 (by omega) (by omega) (mo_add_other hl hn hrk.ln.1) (fun z => by cases z) (mo_add_okl hrk hrk) hD
              ·
                exact absurd (by decide) c91
      · rw [show tl_of l (i + 1) (.inl (tl_part b j)) k x = tl_part b j by unfold tl_of; rw [if_pos hxv]] at hD
        have hbr := hb rfl
        have hc := c_MO_copy (G := G) (o := o) (h0 := h0) (nx := nx) (i := j) hB hr h1 h2 hbr hrk h4 h5
        have z1 := mo_adds_other hn (tl_part b j) D hl hrk
        have z2 := mo_adds_other h2 (tl_part b j) D hbr hrk
        refine sd_iload dMO_open5_13 rfl ?_
        refine sd_iload dMO_open5_15 rfl ?_
        refine nn_icmp_ge 127 dMO_open5_17 (by decide) (by omega) (by omega) (fun c17 => ?_) (fun c17 => ?_)
        ·
          exact absurd c17 (by omega)
        ·
          refine sd_aload_n dMO_open5_20 rfl rfl ?_
          refine sd_iload_n dMO_open5_21 rfl rfl ?_
          refine sd_iload dMO_open5_22 rfl ?_
          refine fx_cV 10 sR_MO [.int (nI (q)), .int (nI (k))] [] dMO_open5_24 kMO_131 rfl rfl mMO_symbolAt_v (s1) (by decide) (Nat.le_refl _) (Nat.le_refl _) (Nat.le_of_ble_eq_true rfl) rfl ?_
          refine sd_bipush (v := nI 10) dMO_open5_27 (by decide) ?_
          refine nn_icmp_le 59 dMO_open5_29 (by decide) (by omega) (by omega) (fun c29 => ?_) (fun c29 => ?_)
          ·
            exact absurd c29 (by omega)
          ·
            refine sd_aload_n dMO_open5_32 rfl rfl ?_
            refine sd_iload_n dMO_open5_33 rfl rfl ?_
            refine sd_iload dMO_open5_34 rfl ?_
            refine fx_cV 10 sR_MO [.int (nI (q)), .int (nI (k))] [] dMO_open5_36 kMO_131 rfl rfl mMO_symbolAt_v (s1) (by decide) (Nat.le_refl _) (Nat.le_refl _) (Nat.le_of_ble_eq_true rfl) rfl ?_
            refine sd_bipush (v := nI 11) dMO_open5_39 (by decide) ?_
            refine nn_isub dMO_open5_41 (by omega) ?_
            refine sd_aload_n dMO_open5_42 rfl rfl ?_
            refine sd_iload_n dMO_open5_43 rfl rfl ?_
            refine sd_iload_n dMO_open5_44 rfl rfl ?_
            refine sd_iconst (v := nI 1) dMO_open5_45 (by decide) ?_
            refine nn_iadd dMO_open5_46 ?_
            refine sd_iload dMO_open5_47 rfl ?_
            refine fx_cV 10 sR_MO [.int (nI (q)), .int (nI (i + 1)), .int (nI (k))] [.int (nI (x.1 - 11))] dMO_open5_49 kMO_206 rfl rfl mMO_around_v (c_MO_around hq hl hw hik (by omega)) (by decide) (Nat.le_refl _) (Nat.le_refl _) (Nat.le_of_ble_eq_true rfl) rfl ?_
            refine nn_icmp_ne 59 dMO_open5_52 (by decide) (by omega) (by omega) (fun c52 => ?_) (fun c52 => ?_)
            ·
              exact absurd c52 (by omega)
            ·
              refine sd_iconst (v := nI 1) dMO_open5_55 (by decide) ?_
              refine sd_goto 60 dMO_open5_56 (by decide) ?_
              refine sd_istore dMO_open5_60 (by decide) ?_
              refine sd_iload dMO_open5_62 rfl ?_
              refine nn_if_ne 90 dMO_open5_64 (by decide) (by decide) (fun _ => ?_) (fun c => absurd c (by decide))
              refine sd_iload_n dMO_open5_90 rfl rfl ?_
              refine nn_if_lt dMO_open5_91 106 (by decide) (by omega) ?_
              refine sd_aload_n dMO_open5_94 rfl rfl ?_
              refine sd_iload_n dMO_open5_95 rfl rfl ?_
              refine sd_iload dMO_open5_96 rfl ?_
              refine sd_iload dMO_open5_98 rfl ?_
              refine fx_cV 10 sR_MO [.int (nI (tb)), .int (nI (j)), .int (nI (r))] [] dMO_open5_100 kMO_155 rfl rfl mMO_copy_v (hc) (by decide) (Nat.le_refl _) (Nat.le_refl _) (Nat.le_of_ble_eq_true rfl) rfl ?_
              refine sd_goto 121 dMO_open5_103 (by decide) ?_
              refine nn_iinc 1 dMO_open5_121 rfl (by decide) ?_
              refine sd_goto 13 dMO_open5_124 (by decide) ?_
              refine sd_locp (al' := [(0, .ref (o + (0))), (1, .int (nI (q))), (2, .int (nI (i))), (3, .int (nI (tb))), (4, .int (nI (j))), (5, .int (nI (r))), (6, .int (nI (e))), (7, .int (nI (k + 1)))]) [2, 3, 4, 5, 6, 7, 8, 0] rfl ?_
              exact ih (k + 1) _ D2 (by omega) (by omega) z1.1 (fun _ => z2.1) z1.2 hD
    · rw [show tl_of l (i + 1) by_ k x = [x] by unfold tl_of; rw [if_neg hxv]] at hD
      refine sd_iload dMO_open5_13 rfl ?_
      refine sd_iload dMO_open5_15 rfl ?_
      refine nn_icmp_ge 127 dMO_open5_17 (by decide) (by omega) (by omega) (fun c17 => ?_) (fun c17 => ?_)
      ·
        exact absurd c17 (by omega)
      ·
        refine sd_aload_n dMO_open5_20 rfl rfl ?_
        refine sd_iload_n dMO_open5_21 rfl rfl ?_
        refine sd_iload dMO_open5_22 rfl ?_
        refine fx_cV 10 sR_MO [.int (nI (q)), .int (nI (k))] [] dMO_open5_24 kMO_131 rfl rfl mMO_symbolAt_v (s1) (by decide) (Nat.le_refl _) (Nat.le_refl _) (Nat.le_of_ble_eq_true rfl) rfl ?_
        refine sd_bipush (v := nI 10) dMO_open5_27 (by decide) ?_
        refine nn_icmp_le 59 dMO_open5_29 (by decide) (by omega) (by omega) (fun c29 => ?_) (fun c29 => ?_)
        ·
          refine sd_iconst (v := nI 0) dMO_open5_59 (by decide) ?_
          refine sd_istore dMO_open5_60 (by decide) ?_
          refine sd_iload dMO_open5_62 rfl ?_
          refine nn_if_ne 90 dMO_open5_64 (by decide) (by decide) (fun c => absurd c (by decide)) (fun _ => ?_)
          refine sd_aload_n dMO_open5_67 rfl rfl ?_
          refine sd_iload dMO_open5_68 rfl ?_
          refine sd_aload_n dMO_open5_70 rfl rfl ?_
          refine sd_iload_n dMO_open5_71 rfl rfl ?_
          refine sd_iload dMO_open5_72 rfl ?_
          refine fx_cV 10 sR_MO [.int (nI (q)), .int (nI (k))] [.int (nI (r)), .ref (o + (0))] dMO_open5_74 kMO_131 rfl rfl mMO_symbolAt_v (s1) (by decide) (Nat.le_refl _) (Nat.le_refl _) (Nat.le_of_ble_eq_true rfl) rfl ?_
          refine sd_aload_n dMO_open5_77 rfl rfl ?_
          refine sd_iload_n dMO_open5_78 rfl rfl ?_
          refine sd_iload dMO_open5_79 rfl ?_
          refine fx_cV 10 sR_MO [.int (nI (q)), .int (nI (k))] [.int (nI (x.1)), .int (nI (r)), .ref (o + (0))] dMO_open5_81 kMO_134 rfl rfl mMO_typeAt_v (t1) (by decide) (Nat.le_refl _) (Nat.le_refl _) (Nat.le_of_ble_eq_true rfl) rfl ?_
          refine fx_cV 10 sR_MO [.int (nI (r)), .int (nI (x.1)), .int (nI (x.2))] [] dMO_open5_84 kMO_137 rfl rfl mMO_add_v (c_MO_add hB hr hrk.ln.1 hrk.ln.2) (by decide) (Nat.le_refl _) (Nat.le_refl _) (Nat.le_of_ble_eq_true rfl) rfl ?_
          refine sd_goto 121 dMO_open5_87 (by decide) ?_
          refine nn_iinc 1 dMO_open5_121 rfl (by decide) ?_
          refine sd_goto 13 dMO_open5_124 (by decide) ?_
          refine sd_locp (al' := [(0, .ref (o + (0))), (1, .int (nI (q))), (2, .int (nI (i))), (3, .int (c3)), (4, .int (nI (j))), (5, .int (nI (r))), (6, .int (nI (e))), (7, .int (nI (k + 1)))]) [2, 3, 4, 5, 6, 7, 8, 0] rfl ?_
          exact ih (k + 1) _ D2 (by omega) (by omega) (mo_add_other hl hn hrk.ln.1) (fun z => by rcases hby with ⟨-, z2⟩ | ⟨-, -, h2, -⟩; rw [z2] at z; cases z; exact mo_add_other (hb z) h2 hrk.ln.1) (mo_add_okl hrk hrk) hD
        ·
          refine sd_aload_n dMO_open5_32 rfl rfl ?_
          refine sd_iload_n dMO_open5_33 rfl rfl ?_
          refine sd_iload dMO_open5_34 rfl ?_
          refine fx_cV 10 sR_MO [.int (nI (q)), .int (nI (k))] [] dMO_open5_36 kMO_131 rfl rfl mMO_symbolAt_v (s1) (by decide) (Nat.le_refl _) (Nat.le_refl _) (Nat.le_of_ble_eq_true rfl) rfl ?_
          refine sd_bipush (v := nI 11) dMO_open5_39 (by decide) ?_
          refine nn_isub dMO_open5_41 (by omega) ?_
          refine sd_aload_n dMO_open5_42 rfl rfl ?_
          refine sd_iload_n dMO_open5_43 rfl rfl ?_
          refine sd_iload_n dMO_open5_44 rfl rfl ?_
          refine sd_iconst (v := nI 1) dMO_open5_45 (by decide) ?_
          refine nn_iadd dMO_open5_46 ?_
          refine sd_iload dMO_open5_47 rfl ?_
          refine fx_cV 10 sR_MO [.int (nI (q)), .int (nI (i + 1)), .int (nI (k))] [.int (nI (x.1 - 11))] dMO_open5_49 kMO_206 rfl rfl mMO_around_v (c_MO_around hq hl hw hik (by omega)) (by decide) (Nat.le_refl _) (Nat.le_refl _) (Nat.le_of_ble_eq_true rfl) rfl ?_
          refine nn_icmp_ne 59 dMO_open5_52 (by decide) (by omega) (by omega) (fun c52 => ?_) (fun c52 => ?_)
          ·
            refine sd_iconst (v := nI 0) dMO_open5_59 (by decide) ?_
            refine sd_istore dMO_open5_60 (by decide) ?_
            refine sd_iload dMO_open5_62 rfl ?_
            refine nn_if_ne 90 dMO_open5_64 (by decide) (by decide) (fun c => absurd c (by decide)) (fun _ => ?_)
            refine sd_aload_n dMO_open5_67 rfl rfl ?_
            refine sd_iload dMO_open5_68 rfl ?_
            refine sd_aload_n dMO_open5_70 rfl rfl ?_
            refine sd_iload_n dMO_open5_71 rfl rfl ?_
            refine sd_iload dMO_open5_72 rfl ?_
            refine fx_cV 10 sR_MO [.int (nI (q)), .int (nI (k))] [.int (nI (r)), .ref (o + (0))] dMO_open5_74 kMO_131 rfl rfl mMO_symbolAt_v (s1) (by decide) (Nat.le_refl _) (Nat.le_refl _) (Nat.le_of_ble_eq_true rfl) rfl ?_
            refine sd_aload_n dMO_open5_77 rfl rfl ?_
            refine sd_iload_n dMO_open5_78 rfl rfl ?_
            refine sd_iload dMO_open5_79 rfl ?_
            refine fx_cV 10 sR_MO [.int (nI (q)), .int (nI (k))] [.int (nI (x.1)), .int (nI (r)), .ref (o + (0))] dMO_open5_81 kMO_134 rfl rfl mMO_typeAt_v (t1) (by decide) (Nat.le_refl _) (Nat.le_refl _) (Nat.le_of_ble_eq_true rfl) rfl ?_
            refine fx_cV 10 sR_MO [.int (nI (r)), .int (nI (x.1)), .int (nI (x.2))] [] dMO_open5_84 kMO_137 rfl rfl mMO_add_v (c_MO_add hB hr hrk.ln.1 hrk.ln.2) (by decide) (Nat.le_refl _) (Nat.le_refl _) (Nat.le_of_ble_eq_true rfl) rfl ?_
            refine sd_goto 121 dMO_open5_87 (by decide) ?_
            refine nn_iinc 1 dMO_open5_121 rfl (by decide) ?_
            refine sd_goto 13 dMO_open5_124 (by decide) ?_
            refine sd_locp (al' := [(0, .ref (o + (0))), (1, .int (nI (q))), (2, .int (nI (i))), (3, .int (c3)), (4, .int (nI (j))), (5, .int (nI (r))), (6, .int (nI (e))), (7, .int (nI (k + 1)))]) [2, 3, 4, 5, 6, 7, 8, 0] rfl ?_
            exact ih (k + 1) _ D2 (by omega) (by omega) (mo_add_other hl hn hrk.ln.1) (fun z => by rcases hby with ⟨-, z2⟩ | ⟨-, -, h2, -⟩; rw [z2] at z; cases z; exact mo_add_other (hb z) h2 hrk.ln.1) (mo_add_okl hrk hrk) hD
          ·
            exact absurd c52 (by omega)
theorem c_MO_open5 {G : sd_G} {o : Nat} {D : fx_D} {h0 : sd_H} {nx r q i tb j : Nat} {l b : tl_T} {c3 : Int32} {by_ : tl_T ⊕ Nat} (hB : G.2.1 ≤ o) (hr : r < 72) (hq : q < 72) (hn : q ≠ r) (hw : tl_wf l) (hj : j < 100) (hi : i < l.length) (hl : mo_row D q l) (hrk : mo_okl D r) (hby : (c3 = -1 ∧ by_ = .inr j) ∨ (c3 = nI tb ∧ tb < 72 ∧ tb ≠ r ∧ by_ = .inl (tl_part b j) ∧ j ≤ b.length ∧ tl_ok 1 (b.drop j))) (hb : by_ = .inl (tl_part b j) → mo_row D tb b) : sd_Ct G mMO_open5 3 0 0 [.ref (o + 0), .int (nI q), .int (nI i), .int c3, .int (nI j), .int (nI r)] (fx_h G.1.2 mo_S o D h0) nx (sd_is none (fx_h G.1.2 mo_S o (mo_adds D r (tl_sub (tl_of l (i + 1) by_) l (i + 1) (tl_end l i - (i + 1)))) h0) nx) := by
  refine sd_Ct_of (by decide) (Nat.le_of_ble_eq_true rfl) ?_
  have e1 := tl_end_le (l := l) (i := i) (by omega)
  have e2 := tl_end_lt hi
  refine sd_aload_n dMO_open5_0 rfl rfl ?_
  refine sd_iload_n dMO_open5_1 rfl rfl ?_
  refine sd_iload_n dMO_open5_2 rfl rfl ?_
  refine fx_cV 10 sR_MO [.int (nI (q)), .int (nI (i))] [] dMO_open5_3 kMO_128 rfl rfl mMO_end_v (c_MO_end hq hl (by omega) (tl_ok_drop l 1 i hw.1 hw.2.1 hi)) (by decide) (Nat.le_refl _) (Nat.le_refl _) (Nat.le_of_ble_eq_true rfl) rfl ?_
  refine sd_istore dMO_open5_6 (by decide) ?_
  refine sd_iload_n dMO_open5_8 rfl rfl ?_
  refine sd_iconst (v := nI 1) dMO_open5_9 (by decide) ?_
  refine nn_iadd dMO_open5_10 ?_
  refine sd_istore dMO_open5_11 (by decide) ?_
  refine sd_locp (al' := [(0, .ref (o + (0))), (1, .int (nI (q))), (2, .int (nI (i))), (3, .int (c3)), (4, .int (nI (j))), (5, .int (nI (r))), (6, .int (nI (tl_end l i))), (7, .int (nI (i + 1)))]) [2, 3, 4, 5, 6, 7, 1, 0] rfl ?_
  exact l_MO_open5 hB hr hq hn hw hj e1 hby (tl_end l i - (i + 1)) (i + 1) D _ (by omega) (by omega) hl hb hrk rfl
