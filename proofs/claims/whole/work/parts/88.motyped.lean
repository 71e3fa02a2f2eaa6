/-! ===== the model: binder; what isTyped asks ===== -/
/-- the LAM of a variable at at_, k LAMs between, looking from j down -/
def bdr (l : tl_T) (at_ : Nat) : Nat → Nat → Nat
  | 0, _ => 0
  | j + 1, k => if (tl_at l j).1 = 10 ∧ at_ < tl_end l j then (if k = 0 then j else bdr l at_ j (k - 1)) else bdr l at_ j k
def bd (l : tl_T) (j : Nat) : Nat := bdr l j j ((tl_at l j).1 - 11)
theorem bdr_lt {l : tl_T} {at_ : Nat} : ∀ (j k : Nat), bdr l at_ j k ≤ j
  | 0, _ => Nat.le_refl _
  | j + 1, k => by
    rw [bdr]
    have h1 := bdr_lt (l := l) (at_ := at_) j k
    have h2 := bdr_lt (l := l) (at_ := at_) j (k - 1)
    split
    · split <;> omega
    · omega
theorem dMO_binder_0 : decode prog_13_method_38_code 0 = .ok (.aload_n 0, 1) := by decide +kernel
theorem dMO_binder_1 : decode prog_13_method_38_code 1 = .ok (.bipush (64), 2) := by decide +kernel
theorem dMO_binder_3 : decode prog_13_method_38_code 3 = .ok (.iload_n 1, 1) := by decide +kernel
theorem dMO_binder_4 : decode prog_13_method_38_code 4 = .ok (.invokevirtual 131, 3) := by decide +kernel
theorem dMO_binder_7 : decode prog_13_method_38_code 7 = .ok (.bipush (11), 2) := by decide +kernel
theorem dMO_binder_9 : decode prog_13_method_38_code 9 = .ok (.isub, 1) := by decide +kernel
theorem dMO_binder_10 : decode prog_13_method_38_code 10 = .ok (.istore_n 2, 1) := by decide +kernel
theorem dMO_binder_11 : decode prog_13_method_38_code 11 = .ok (.iload_n 1, 1) := by decide +kernel
theorem dMO_binder_12 : decode prog_13_method_38_code 12 = .ok (.iconst 1, 1) := by decide +kernel
theorem dMO_binder_13 : decode prog_13_method_38_code 13 = .ok (.isub, 1) := by decide +kernel
theorem dMO_binder_14 : decode prog_13_method_38_code 14 = .ok (.istore_n 3, 1) := by decide +kernel
theorem dMO_binder_15 : decode prog_13_method_38_code 15 = .ok (.iload_n 3, 1) := by decide +kernel
theorem dMO_binder_16 : decode prog_13_method_38_code 16 = .ok (.ifCond .lt (41), 3) := by decide +kernel
theorem dMO_binder_19 : decode prog_13_method_38_code 19 = .ok (.aload_n 0, 1) := by decide +kernel
theorem dMO_binder_20 : decode prog_13_method_38_code 20 = .ok (.bipush (64), 2) := by decide +kernel
theorem dMO_binder_22 : decode prog_13_method_38_code 22 = .ok (.iload_n 3, 1) := by decide +kernel
theorem dMO_binder_23 : decode prog_13_method_38_code 23 = .ok (.invokevirtual 131, 3) := by decide +kernel
theorem dMO_binder_26 : decode prog_13_method_38_code 26 = .ok (.bipush (10), 2) := by decide +kernel
theorem dMO_binder_28 : decode prog_13_method_38_code 28 = .ok (.if_icmp .ne (23), 3) := by decide +kernel
theorem dMO_binder_31 : decode prog_13_method_38_code 31 = .ok (.aload_n 0, 1) := by decide +kernel
theorem dMO_binder_32 : decode prog_13_method_38_code 32 = .ok (.bipush (64), 2) := by decide +kernel
theorem dMO_binder_34 : decode prog_13_method_38_code 34 = .ok (.iload_n 3, 1) := by decide +kernel
theorem dMO_binder_35 : decode prog_13_method_38_code 35 = .ok (.invokevirtual 128, 3) := by decide +kernel
theorem dMO_binder_38 : decode prog_13_method_38_code 38 = .ok (.iload_n 1, 1) := by decide +kernel
theorem dMO_binder_39 : decode prog_13_method_38_code 39 = .ok (.if_icmp .le (12), 3) := by decide +kernel
theorem dMO_binder_42 : decode prog_13_method_38_code 42 = .ok (.iload_n 2, 1) := by decide +kernel
theorem dMO_binder_43 : decode prog_13_method_38_code 43 = .ok (.iinc 2 (-1), 3) := by decide +kernel
theorem dMO_binder_46 : decode prog_13_method_38_code 46 = .ok (.ifCond .ne (5), 3) := by decide +kernel
theorem dMO_binder_49 : decode prog_13_method_38_code 49 = .ok (.iload_n 3, 1) := by decide +kernel
theorem dMO_binder_50 : decode prog_13_method_38_code 50 = .ok (.ireturn, 1) := by decide +kernel
theorem dMO_binder_51 : decode prog_13_method_38_code 51 = .ok (.iinc 3 (-1), 3) := by decide +kernel
theorem dMO_binder_54 : decode prog_13_method_38_code 54 = .ok (.goto (-39), 3) := by decide +kernel
theorem dMO_binder_57 : decode prog_13_method_38_code 57 = .ok (.iconst 0, 1) := by decide +kernel
theorem dMO_binder_58 : decode prog_13_method_38_code 58 = .ok (.ireturn, 1) := by decide +kernel
theorem l_MO_binder {G : sd_G} {o : Nat} {D : fx_D} {h0 : sd_H} {nx at_ v : Nat} {l : tl_T} (hr : mo_row D 64 l) (hok : ∀ j, j < l.length → tl_ok 1 (l.drop j)) (ha : at_ < l.length) : ∀ (j k : Nat), j ≤ at_ → k < 100 → v = bdr l at_ j k → sd_W G mMO_binder 2 0 0 (sd_is (some (.int (nI v))) (fx_h G.1.2 mo_S o D h0) nx) 15 [(0, .ref (o + 0)), (1, .int (nI at_)), (2, .int (nI k)), (3, .int (ix j))] [] (fx_h G.1.2 mo_S o D h0) nx 0 0 := by
  have l24 := hr.1
  intro j
  induction j with
  | zero =>
    intro k hj hk hv
    obtain rfl : v = 0 := hv
    refine sd_iload_n dMO_binder_15 rfl rfl ?_
    refine sd_if_lt 57 dMO_binder_16 (by decide) (fun c16 => ?_) (fun c16 => ?_)
    ·
      refine sd_iconst (v := nI 0) dMO_binder_57 (by decide) ?_
      exact sd_iret dMO_binder_58 rfl (Nat.le_refl _) (Nat.le_refl _) ⟨rfl, rfl, rfl⟩
    ·
      exact absurd (show ix 0 < 0 by decide) c16
  | succ j ih =>
    intro k hj hk hv
    rw [show ix (j + 1) = nI j from rfl]
    have hx := tl_at_some (l := l) (i := j) (by omega)
    have h100 := (hr.2.2 j _ hx).2.2.1
    have el := tl_end_le (l := l) (i := j) (by omega)
    have ce := c_MO_end (G := G) (o := o) (h0 := h0) (nx := nx) (r := 64) (i := j) (by omega) hr (by omega) (hok j (by omega))
    rw [bdr] at hv
    by_cases h1 : (tl_at l j).1 = 10 ∧ at_ < tl_end l j
    · rw [if_pos h1] at hv
      cases k with
      | zero =>
        rw [if_pos rfl] at hv
        subst hv
        refine sd_iload_n dMO_binder_15 rfl rfl ?_
        refine nn_if_lt dMO_binder_16 57 (by decide) (by omega) ?_
        refine sd_aload_n dMO_binder_19 rfl rfl ?_
        refine sd_bipush (v := nI 64) dMO_binder_20 (by decide) ?_
        refine sd_iload_n dMO_binder_22 rfl rfl ?_
        refine fx_cV 10 sR_MO [.int (nI (64)), .int (nI (v))] [] dMO_binder_23 kMO_131 rfl rfl mMO_symbolAt_v (c_MO_sym (by omega) hr hx) (by decide) (Nat.le_refl _) (Nat.le_refl _) (Nat.le_of_ble_eq_true rfl) rfl ?_
        refine sd_bipush (v := nI 10) dMO_binder_26 (by decide) ?_
        refine nn_icmp_ne 51 dMO_binder_28 (by decide) (by omega) (by omega) (fun c28 => ?_) (fun c28 => ?_)
        ·
          exact absurd h1.1 c28
        ·
          refine sd_aload_n dMO_binder_31 rfl rfl ?_
          refine sd_bipush (v := nI 64) dMO_binder_32 (by decide) ?_
          refine sd_iload_n dMO_binder_34 rfl rfl ?_
          refine fx_cV 10 sR_MO [.int (nI (64)), .int (nI (v))] [] dMO_binder_35 kMO_128 rfl rfl mMO_end_v (ce) (by decide) (Nat.le_refl _) (Nat.le_refl _) (Nat.le_of_ble_eq_true rfl) rfl ?_
          refine sd_iload_n dMO_binder_38 rfl rfl ?_
          refine nn_icmp_le 51 dMO_binder_39 (by decide) (by omega) (by omega) (fun c39 => ?_) (fun c39 => ?_)
          ·
            exact absurd c39 (by omega)
          ·
            refine sd_iload_n dMO_binder_42 rfl rfl ?_
            refine sd_iinc (ix 0) dMO_binder_43 rfl (ix_dec 0) (by decide) ?_
            refine nn_if_ne 51 dMO_binder_46 (by decide) (by decide) (fun c => absurd c (by decide)) (fun _ => ?_)
            refine sd_iload_n dMO_binder_49 rfl rfl ?_
            exact sd_iret dMO_binder_50 rfl (Nat.le_refl _) (Nat.le_refl _) ⟨rfl, rfl, rfl⟩
      | succ k =>
        rw [if_neg (by omega), Nat.add_sub_cancel] at hv
        refine sd_iload_n dMO_binder_15 rfl rfl ?_
        refine nn_if_lt dMO_binder_16 57 (by decide) (by omega) ?_
        refine sd_aload_n dMO_binder_19 rfl rfl ?_
        refine sd_bipush (v := nI 64) dMO_binder_20 (by decide) ?_
        refine sd_iload_n dMO_binder_22 rfl rfl ?_
        refine fx_cV 10 sR_MO [.int (nI (64)), .int (nI (j))] [] dMO_binder_23 kMO_131 rfl rfl mMO_symbolAt_v (c_MO_sym (by omega) hr hx) (by decide) (Nat.le_refl _) (Nat.le_refl _) (Nat.le_of_ble_eq_true rfl) rfl ?_
        refine sd_bipush (v := nI 10) dMO_binder_26 (by decide) ?_
        refine nn_icmp_ne 51 dMO_binder_28 (by decide) (by omega) (by omega) (fun c28 => ?_) (fun c28 => ?_)
        ·
          exact absurd h1.1 c28
        ·
          refine sd_aload_n dMO_binder_31 rfl rfl ?_
          refine sd_bipush (v := nI 64) dMO_binder_32 (by decide) ?_
          refine sd_iload_n dMO_binder_34 rfl rfl ?_
          refine fx_cV 10 sR_MO [.int (nI (64)), .int (nI (j))] [] dMO_binder_35 kMO_128 rfl rfl mMO_end_v (ce) (by decide) (Nat.le_refl _) (Nat.le_refl _) (Nat.le_of_ble_eq_true rfl) rfl ?_
          refine sd_iload_n dMO_binder_38 rfl rfl ?_
          refine nn_icmp_le 51 dMO_binder_39 (by decide) (by omega) (by omega) (fun c39 => ?_) (fun c39 => ?_)
          ·
            exact absurd c39 (by omega)
          ·
            refine sd_iload_n dMO_binder_42 rfl rfl ?_
            refine sd_iinc (nI k) dMO_binder_43 rfl (ix_dec (k + 1)) (by decide) ?_
            refine nn_if_ne 51 dMO_binder_46 (by decide) (by omega) (fun c46 => ?_) (fun c46 => ?_)
            ·
              refine sd_iinc (ix j) dMO_binder_51 rfl (ix_dec j) (by decide) ?_
              refine sd_goto 15 dMO_binder_54 (by decide) ?_
              refine sd_locp (al' := [(0, .ref (o + (0))), (1, .int (nI (at_))), (2, .int (nI k)), (3, .int (ix j))]) [2, 3, 1, 0] rfl ?_
              exact ih k (by omega) (by omega) hv
            ·
              exact absurd c46 (by omega)
    · rw [if_neg h1] at hv
      refine sd_iload_n dMO_binder_15 rfl rfl ?_
      refine nn_if_lt dMO_binder_16 57 (by decide) (by omega) ?_
      refine sd_aload_n dMO_binder_19 rfl rfl ?_
      refine sd_bipush (v := nI 64) dMO_binder_20 (by decide) ?_
      refine sd_iload_n dMO_binder_22 rfl rfl ?_
      refine fx_cV 10 sR_MO [.int (nI (64)), .int (nI (j))] [] dMO_binder_23 kMO_131 rfl rfl mMO_symbolAt_v (c_MO_sym (by omega) hr hx) (by decide) (Nat.le_refl _) (Nat.le_refl _) (Nat.le_of_ble_eq_true rfl) rfl ?_
      refine sd_bipush (v := nI 10) dMO_binder_26 (by decide) ?_
      refine nn_icmp_ne 51 dMO_binder_28 (by decide) (by omega) (by omega) (fun c28 => ?_) (fun c28 => ?_)
      ·
        refine sd_iinc (ix j) dMO_binder_51 rfl (ix_dec j) (by decide) ?_
        refine sd_goto 15 dMO_binder_54 (by decide) ?_
        refine sd_locp (al' := [(0, .ref (o + (0))), (1, .int (nI (at_))), (2, .int (nI (k))), (3, .int (ix j))]) [1, 2, 3, 0] rfl ?_
        exact ih k (by omega) hk hv
      ·
        refine sd_aload_n dMO_binder_31 rfl rfl ?_
        refine sd_bipush (v := nI 64) dMO_binder_32 (by decide) ?_
        refine sd_iload_n dMO_binder_34 rfl rfl ?_
        refine fx_cV 10 sR_MO [.int (nI (64)), .int (nI (j))] [] dMO_binder_35 kMO_128 rfl rfl mMO_end_v (ce) (by decide) (Nat.le_refl _) (Nat.le_refl _) (Nat.le_of_ble_eq_true rfl) rfl ?_
        refine sd_iload_n dMO_binder_38 rfl rfl ?_
        refine nn_icmp_le 51 dMO_binder_39 (by decide) (by omega) (by omega) (fun c39 => ?_) (fun c39 => ?_)
        ·
          refine sd_iinc (ix j) dMO_binder_51 rfl (ix_dec j) (by decide) ?_
          refine sd_goto 15 dMO_binder_54 (by decide) ?_
          refine sd_locp (al' := [(0, .ref (o + (0))), (1, .int (nI (at_))), (2, .int (nI (k))), (3, .int (ix j))]) [1, 2, 3, 0] rfl ?_
          exact ih k (by omega) hk hv
        ·
          exact absurd ⟨c28, by omega⟩ h1
theorem c_MO_binder {G : sd_G} {o : Nat} {D : fx_D} {h0 : sd_H} {nx at_ : Nat} {l : tl_T} (hr : mo_row D 64 l) (hok : ∀ j, j < l.length → tl_ok 1 (l.drop j)) (ha : at_ < l.length) (h11 : 11 ≤ (tl_at l at_).1) : sd_Ct G mMO_binder 2 0 0 [.ref (o + 0), .int (nI at_)] (fx_h G.1.2 mo_S o D h0) nx (sd_is (some (.int (nI (bd l at_)))) (fx_h G.1.2 mo_S o D h0) nx) := by
  refine sd_Ct_of (by decide) (Nat.le_of_ble_eq_true rfl) ?_
  have l24 := hr.1
  have hx := tl_at_some ha
  have h100 := (hr.2.2 at_ _ hx).2.2.1
  refine sd_aload_n dMO_binder_0 rfl rfl ?_
  refine sd_bipush (v := nI 64) dMO_binder_1 (by decide) ?_
  refine sd_iload_n dMO_binder_3 rfl rfl ?_
  refine fx_cV 10 sR_MO [.int (nI (64)), .int (nI (at_))] [] dMO_binder_4 kMO_131 rfl rfl mMO_symbolAt_v (c_MO_sym (by omega) hr hx) (by decide) (Nat.le_refl _) (Nat.le_refl _) (Nat.le_of_ble_eq_true rfl) rfl ?_
  refine sd_bipush (v := nI 11) dMO_binder_7 (by decide) ?_
  refine nn_isub dMO_binder_9 (by omega) ?_
  refine sd_istore_n dMO_binder_10 rfl (by decide) ?_
  refine sd_iload_n dMO_binder_11 rfl rfl ?_
  refine sd_iconst (v := nI 1) dMO_binder_12 (by decide) ?_
  refine sd_isub dMO_binder_13 ?_
  rw [show ((nI (at_)) - (nI (1))) = (ix at_) from ix_sub at_]
  refine sd_istore_n dMO_binder_14 rfl (by decide) ?_
  refine sd_locp (al' := [(0, .ref (o + (0))), (1, .int (nI (at_))), (2, .int (nI (((tl_at l at_).1) - 11))), (3, .int (ix at_))]) [2, 3, 1, 0] rfl ?_
  exact l_MO_binder hr hok ha at_ ((tl_at l at_).1 - 11) (Nat.le_refl _) (by omega) rfl
/-- what the symbol at j asks of the types -/
def eqn (l : tl_T) (nt : Nat → Nat) (j : Nat) (σ : Nat → ft) : Prop := ((tl_at l j).1 < 8 → σ j = ty_tree (nt (tl_at l j).1)) ∧ ((tl_at l j).1 = 8 → σ (j + 1) = .append (σ (tl_end l (j + 1))) (σ j)) ∧ ((tl_at l j).1 = 9 → σ (j + 1) = σ (tl_end l (j + 1)) ∧ σ j = .nil) ∧ ((tl_at l j).1 = 10 → σ j = .append (σ (24 + j)) (σ (j + 1))) ∧ (10 < (tl_at l j).1 → σ j = σ (24 + bd l j))
/-- how many names are among the first k symbols -/
def nm_c (l : tl_T) (k : Nat) : Nat := cn_r 8 (fun v => (nm_at l v 0 k).isSome)
theorem nm_at_more {l : tl_T} {v : Nat} : ∀ (n j i : Nat), nm_at l v j n = some i → nm_at l v j (n + 1) = some i := by
  intro n
  induction n with
  | zero => intro j i h; cases h
  | succ n ih =>
    intro j i h
    rw [nm_at] at h ⊢
    split at h
    · rename_i e
      rw [if_pos e]
      exact h
    · rename_i e
      rw [if_neg e]
      exact ih (j + 1) i h
theorem nm_at_last {l : tl_T} {v : Nat} : ∀ (n j : Nat), nm_at l v j n = none → (tl_at l (j + n)).1 = v → nm_at l v j (n + 1) = some (j + n) := by
  intro n
  induction n with
  | zero =>
    intro j _ e
    rw [nm_at, if_pos (by rw [Nat.add_zero] at e; exact e), Nat.add_zero]
  | succ n ih =>
    intro j h e
    rw [nm_at] at h
    split at h
    · cases h
    · rename_i e'
      rw [nm_at, if_neg e']
      have := ih (j + 1) h (by rw [show j + 1 + n = j + (n + 1) by omega]; exact e)
      rw [this, show j + 1 + n = j + (n + 1) by omega]
theorem nm_c_le (l : tl_T) (k : Nat) : nm_c l k ≤ 8 := cn_r_le _ 8
theorem nm_c_mono (l : tl_T) (k : Nat) : nm_c l k ≤ nm_c l (k + 1) := cn_r_sub (fun v h => by
  obtain ⟨i, hi⟩ := Option.isSome_iff_exists.mp h
  simp only [nm_at_more k 0 i hi, Option.isSome_some]) 8
theorem nm_c_new {l : tl_T} {k v : Nat} (hv : v < 8) (h : nm_at l v 0 k = none) (e : (tl_at l k).1 = v) : nm_c l k < nm_c l (k + 1) := cn_r_lt (x := v) (fun w h => by
  obtain ⟨i, hi⟩ := Option.isSome_iff_exists.mp h
  simp only [nm_at_more k 0 i hi, Option.isSome_some]) (by simp only [h, Option.isSome_none]) (by simp only [nm_at_last k 0 h (by rw [Nat.zero_add]; exact e), Option.isSome_some]) 8 hv
/-- the graph says just what the first k symbols ask -/
def ti (l : tl_T) (nt : Nat → Nat) (k : Nat) (D : fx_D) (N : Nat) (K L R lk ρ : Nat → Nat) : Prop := gst D N K L R lk ρ ∧ 72 ≤ N ∧ N ≤ 72 + 7 * nm_c l k ∧ (∀ j, k ≤ j → j < 24 → iso K L R ρ (48 + j)) ∧ (∀ τ, gsol K L R τ → rsp τ ρ → ∀ j, j < k → eqn l nt j τ) ∧ (∀ σ, (∀ j, j < k → eqn l nt j σ) → ∃ τ, gsol K L R τ ∧ rsp τ ρ ∧ ∀ n, n < 48 → τ n = σ n)
/-- a unify that went well -/
theorem un_step {N : Nat} {K L R lk ρ : Nat → Nat} {a b : Nat} {D D' : fx_D} (hg : gst D N K L R lk ρ) (h : un_yes N K L R ρ [(a, b)] D D') : ∃ ρ' lk', gst D' N K L R lk' ρ' ∧ (∀ τ, rsp τ ρ' → rsp τ ρ ∧ τ a = τ b) ∧ (∀ τ, gsol K L R τ → rsp τ ρ → τ a = τ b → rsp τ ρ') ∧ (∀ z, iso K L R ρ z → a ≠ z → b ≠ z → iso K L R ρ' z) ∧ mo_fu D D' := by
  obtain ⟨ρ', lk', y1, y2, y3, y4, y5, y6, y7⟩ := h
  obtain ⟨g1, g2, g3, g4, g5, g6, g7⟩ := hg
  refine ⟨ρ', lk', ⟨y1, y2, y3, y4, by rw [y7.2]; exact g5, g6, g7⟩, fun τ ht => ⟨fun n => ?_, ?_⟩, fun τ t1 t2 t3 => y6 ft τ (gsol_cg t1) t2 (fun p hp => by rw [List.mem_singleton] at hp; rw [hp]; exact t3), fun z hz za zb => ?_, y7⟩
  · have e := y5 (ρ n) n (eqv_of (g4.1 n))
    rw [← ht (ρ n), e, ht n]
  · have e := y5 a b (eqv_in (p := (a, b)) (List.mem_cons_self ..))
    rw [← ht a, e, ht b]
  · obtain ⟨z1, z2, z3, z4⟩ := hz
    have key := y6 Nat (fun n => if n = z then 1 else 0) (fun x y kx ky _ => by
      obtain ⟨a1, a2⟩ := z4 x kx
      obtain ⟨b1, b2⟩ := z4 y ky
      simp only [a1, a2, b1, b2, if_false]
      exact ⟨trivial, trivial⟩) (fun n => by
      by_cases e : n = z
      · rw [e, z3]
      · have e2 : ρ n ≠ z := fun q => e (z2 n q)
        simp only [e, e2, if_false]) (fun p hp => by
      rw [List.mem_singleton] at hp
      rw [hp]
      simp only [za, zb, if_false])
    have key2 : ∀ n, ρ' n = z ↔ n = z := by
      intro n
      have := key n
      constructor
      · intro e
        simp only [e, if_true] at this
        by_cases q : n = z
        · exact q
        · simp [q] at this
      · intro e
        simp only [e, if_true] at this
        by_cases q : ρ' z = z
        · rw [e]; exact q
        · simp [q] at this
    exact ⟨z1, fun n e => (key2 n).mp e, (key2 z).mpr rfl, z4⟩
/-- a node of which nothing spoke becomes a function -/
theorem gst_set {D : fx_D} {N z l r : Nat} {K L R lk ρ : Nat → Nat} (h : gst D N K L R lk ρ) (hz : iso K L R ρ z) (hzN : z < N) (hz2 : z < 192) (hl : ac N l) (hr : ac N r) : gst (fx_ua (fx_ua (fx_ua D 23 z (nI 3)) 24 z (nI l)) 25 z (nI r)) N (upN K z 3) (upN L z l) (upN R z r) lk ρ := by
  obtain ⟨h1, h2, h3, h4, h5, h6, h7⟩ := h
  obtain ⟨z1, z2, z3, z4⟩ := hz
  refine ⟨fun n hn => ?_, ⟨h2.1, fun n => ?_, fun n hn => ?_, fun n hn => ?_⟩, h3, uf_new h4 z2 z3, h5, ?_, ?_⟩
  · obtain ⟨a, b, c, d⟩ := h1 n hn
    by_cases e : n = z
    · subst e
      exact ⟨by simp [fx_ua, upd, upN], by simp [fx_ua, upd, upN], by simp [fx_ua, upd, upN], by simpa [fx_ua] using d⟩
    · exact ⟨by simpa [fx_ua, upd, upN, e] using a, by simpa [fx_ua, upd, upN, e] using b, by simpa [fx_ua, upd, upN, e] using c, by simpa [fx_ua] using d⟩
  · unfold upN
    split
    · omega
    · exact h2.2.1 n
  · obtain ⟨a, b, c⟩ := h2.2.2.1 n hn
    refine ⟨?_, ?_, c⟩
    · unfold upN
      split
      · exact hl
      · exact a
    · unfold upN
      split
      · exact hr
      · exact b
  · have e : ¬ n = z := fun e => hn (by rw [e]; exact Or.inl hzN)
    simp only [upN, e, if_false]
    exact h2.2.2.2 n hn
  · simp only [upN, show ¬ 192 = z by omega, if_false]; exact h6
  · simp only [upN, show ¬ 193 = z by omega, if_false]; exact h7
