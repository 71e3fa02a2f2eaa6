/-! ===== the model: nodeOf, nameNode, binder ===== -/
theorem gst_fr {D D' : fx_D} {N : Nat} {K L R lk ρ : Nat → Nat} (h : gst D N K L R lk ρ) (h1 : ∀ x, x ≠ 29 → D'.1 x = D.1 x) (h2 : D'.2 = D.2) : gst D' N K L R lk ρ := ⟨ug_fu h.1 ⟨fun x _ b => h1 x b, h2⟩ (h1 26 (by decide)), h.2.1, h.2.2.1, h.2.2.2.1, by rw [h2]; exact h.2.2.2.2.1, h.2.2.2.2.2⟩
/-- behind nodeOf -/
def nd_R (t : Nat) (lk ρ : Nat → Nat) (D : fx_D) (N : Nat) (K L R : Nat → Nat) (m : Nat) (D' : fx_D) : Prop := ∃ N' K' L' R', gst D' N' K' L' R' lk ρ ∧ gx ρ N K L R N' K' L' R' ∧ N' ≤ N + 7 ∧ rep K' L' R' m (ty_tree t) ∧ ac N' m ∧ mo_fgr D D' ∧ (∀ z, z < 72 → iso K L R ρ z → iso K' L' R' ρ z) ∧ 72 ≤ m
theorem e_MO_nodeOf {G : sd_G} {o : Nat} {D : fx_D} {h0 : sd_H} {nx t m : Nat} {Q : sd_Q} (hm : D.1 29 0 = nI m) (hq : Q (some (.int (nI m))) (fx_h G.1.2 mo_S o D h0) nx) : sd_W G mMO_nodeOf 2 0 0 Q 58 [(0, .ref (o + 0)), (1, .int (nI t)), (4, .int (nI 1)), (5, .int (ix 0))] [] (fx_h G.1.2 mo_S o D h0) nx 0 0 := by
  refine sd_iload dMO_nodeOf_58 rfl ?_
  refine sd_if_lt 169 dMO_nodeOf_60 (by decide) (fun c60 => ?_) (fun c60 => ?_)
  ·
    refine sd_aload_n dMO_nodeOf_169 rfl rfl ?_
    refine fx_getr 10 36 (29) dMO_nodeOf_170 fMO_94 rfl rfl ?_
    refine sd_iconst (v := nI 0) dMO_nodeOf_173 (by decide) ?_
    refine fx_ialdv (v := (nI (m))) (0) dMO_nodeOf_174 rfl rfl (by omega) (by decide) (hm) ?_
    exact sd_iret dMO_nodeOf_175 rfl (Nat.le_refl _) (Nat.le_refl _) hq
  ·
    exact absurd (show ix 0 < 0 by decide) c60
theorem m_MO_nodeOf {G : sd_G} {o : Nat} {D : fx_D} {h0 : sd_H} {nx t k : Nat} {Q : sd_Q} (hk : k < 100) (kk : sd_W G mMO_nodeOf 2 0 0 Q 58 [(0, .ref (o + 0)), (1, .int (nI t)), (4, .int (nI 0)), (5, .int (ix k))] [] (fx_h G.1.2 mo_S o D h0) nx 0 0) : sd_W G mMO_nodeOf 2 0 0 Q 50 [(0, .ref (o + 0)), (1, .int (nI t)), (2, .int (nI k))] [] (fx_h G.1.2 mo_S o D h0) nx 0 0 := by
  refine sd_iconst (v := nI 0) dMO_nodeOf_50 (by decide) ?_
  refine sd_istore dMO_nodeOf_51 (by decide) ?_
  refine sd_iload_n dMO_nodeOf_53 rfl rfl ?_
  refine sd_iconst (v := nI 1) dMO_nodeOf_54 (by decide) ?_
  refine sd_isub dMO_nodeOf_55 ?_
  rw [show ((nI (k)) - (nI (1))) = (ix k) from ix_sub k]
  refine sd_istore dMO_nodeOf_56 (by decide) ?_
  refine sd_locp (al' := [(0, .ref (o + (0))), (1, .int (nI (t))), (4, .int (nI (0))), (5, .int (ix k))]) [2, 3, 1, 0] rfl ?_
  exact kk
theorem c_MO_nodeOf {G : sd_G} {o : Nat} {D : fx_D} {h0 : sd_H} {nx t N : Nat} {K L R lk ρ : Nat → Nat} (hB : G.2.1 ≤ o) (ht : ty_ok t) (hg : gst D N K L R lk ρ) (hN : N + 7 ≤ 192) (h72 : 72 ≤ N) : sd_Ct G mMO_nodeOf 2 0 0 [.ref (o + 0), .int (nI t)] (fx_h G.1.2 mo_S o D h0) nx (fx_ex G.1.2 mo_S o h0 nx (nd_R t lk ρ D N K L R)) := by
  refine sd_Ct_of (by decide) (Nat.le_of_ble_eq_true rfl) ?_
  have t25 := ht.1
  have t4 := ht.2.1
  have hl : Nat.log2 t < 25 := tp_lg t25 (by omega)
  obtain ⟨f1, f2⟩ := ty_fo_len _ _ _ (Nat.le_refl _) ht.2.2
  have hpl := ty_ps_le (t := t) (Nat.log2 t) (Nat.log2 t) (Nat.le_refl _)
  have body : sd_W G mMO_nodeOf 2 0 0 (fx_ex G.1.2 mo_S o h0 nx (nd_R t lk ρ D N K L R)) 10 [(0, .ref (o + 0)), (1, .int (nI t)), (2, .int (nI 0)), (4, .int (nI (Nat.log2 t)))] [] (fx_h G.1.2 mo_S o D h0) nx 0 0 := by
    refine l_MO_nodeOf1 hB t25 (Nat.log2 t) (Nat.log2 t) 1 0 D (Nat.le_refl _) (by omega) (by omega) ht.2.2 (fun D1 a1 a2 a3 a4 => ?_)
    refine m_MO_nodeOf (by omega) ?_
    refine l_MO_nodeOf2 hB t25 (Nat.log2 t) (Nat.log2 t) 1 0 N D1 K L R (Nat.le_refl _) (by omega) (by omega) (by omega) ht.2.2 (gst_fr hg a1 a2) (by omega) h72 (fun j p hj => by have := a4 j p hj; rw [show 200 + 0 + j = 200 + 0 + j from rfl]; exact this) (fun D2 ms hP => ?_)
    obtain ⟨K', L', R', g1, g2, g3, g4, g5, g6, g7, g8⟩ := hP
    rw [ty_tree_one ht] at g4
    match ms, g4, g3, g8 with
    | [], g4, g3, g8 => have := g4.1; simp at this
    | [m], g4, g3, g8 =>
      obtain ⟨r1, r2⟩ := g4.2 0 m _ rfl rfl
      exact e_MO_nodeOf (g3 0 m rfl) ⟨rfl, m, D2, rfl, rfl, N + ty_nf t (Nat.log2 t), K', L', R', g1, g2, by omega, r1, r2, mo_fgr.tr ⟨fun x hx => a1 x (by omega), fun x j _ => by rw [a2], by rw [a2]⟩ g6, g7, g8 m (List.mem_cons_self ..)⟩
    | a :: b :: c, g4, g3, g8 => have := g4.1; simp at this
  refine sd_iconst (v := nI 0) dMO_nodeOf_0 (by decide) ?_
  refine sd_istore_n dMO_nodeOf_1 rfl (by decide) ?_
  refine sd_iload_n dMO_nodeOf_2 rfl rfl ?_
  refine sd_cS [.int (nI (t))] [] dMO_nodeOf_3 kMO_97 mMO_size_s (c_MO_size (by omega) (by omega)) (by decide) (Nat.le_refl _) (Nat.le_refl _) (Nat.le_of_ble_eq_true rfl) rfl ?_
  refine sd_istore_n dMO_nodeOf_6 rfl (by decide) ?_
  refine sd_iload_n dMO_nodeOf_7 rfl rfl ?_
  refine sd_istore dMO_nodeOf_8 (by decide) ?_
  refine sd_locp (al' := [(0, .ref (o + (0))), (1, .int (nI (t))), (2, .int (nI (0))), (4, .int (nI (Nat.log2 t)))]) [3, 4, 2, 0] rfl ?_
  exact body
/-- the first of the first n symbols from j on that is v -/
def nm_at (l : tl_T) (v : Nat) : Nat → Nat → Option Nat
  | _, 0 => none
  | j, n + 1 => if (tl_at l j).1 = v then some j else nm_at l v (j + 1) n
theorem nm_at_some {l : tl_T} {v : Nat} : ∀ (n j i : Nat), nm_at l v j n = some i → j ≤ i ∧ i < j + n ∧ (tl_at l i).1 = v := by
  intro n
  induction n with
  | zero => intro j i h; cases h
  | succ n ih =>
    intro j i h
    rw [nm_at] at h
    split at h
    · rename_i e
      cases h
      exact ⟨by omega, by omega, e⟩
    · have := ih (j + 1) i h
      omega
theorem nm_at_none {l : tl_T} {v : Nat} : ∀ (n j : Nat), nm_at l v j n = none → ∀ i, j ≤ i → i < j + n → (tl_at l i).1 ≠ v := by
  intro n
  induction n with
  | zero => intro j _ i _ _; omega
  | succ n ih =>
    intro j h i h1 h2
    rw [nm_at] at h
    split at h
    · cases h
    · rename_i e
      by_cases z : i = j
      · rw [z]; exact e
      · exact ih (j + 1) h i (by omega) (by omega)
def nn_R (l : tl_T) (nt : Nat → Nat) (v at_ : Nat) (lk ρ : Nat → Nat) (D : fx_D) (N : Nat) (K L R : Nat → Nat) (m : Nat) (D' : fx_D) : Prop := (∃ j, nm_at l v 0 at_ = some j ∧ m = j ∧ D' = D) ∨ (nm_at l v 0 at_ = none ∧ nd_R (nt v) lk ρ D N K L R m D')
theorem dMO_nameNode_0 : decode prog_13_method_37_code 0 = .ok (.iconst 0, 1) := by decide +kernel
theorem dMO_nameNode_1 : decode prog_13_method_37_code 1 = .ok (.istore_n 3, 1) := by decide +kernel
theorem dMO_nameNode_2 : decode prog_13_method_37_code 2 = .ok (.iload_n 3, 1) := by decide +kernel
theorem dMO_nameNode_3 : decode prog_13_method_37_code 3 = .ok (.iload_n 2, 1) := by decide +kernel
theorem dMO_nameNode_4 : decode prog_13_method_37_code 4 = .ok (.if_icmp .ge (22), 3) := by decide +kernel
theorem dMO_nameNode_7 : decode prog_13_method_37_code 7 = .ok (.aload_n 0, 1) := by decide +kernel
theorem dMO_nameNode_8 : decode prog_13_method_37_code 8 = .ok (.bipush (64), 2) := by decide +kernel
theorem dMO_nameNode_10 : decode prog_13_method_37_code 10 = .ok (.iload_n 3, 1) := by decide +kernel
theorem dMO_nameNode_11 : decode prog_13_method_37_code 11 = .ok (.invokevirtual 131, 3) := by decide +kernel
theorem dMO_nameNode_14 : decode prog_13_method_37_code 14 = .ok (.iload_n 1, 1) := by decide +kernel
theorem dMO_nameNode_15 : decode prog_13_method_37_code 15 = .ok (.if_icmp .ne (5), 3) := by decide +kernel
theorem dMO_nameNode_18 : decode prog_13_method_37_code 18 = .ok (.iload_n 3, 1) := by decide +kernel
theorem dMO_nameNode_19 : decode prog_13_method_37_code 19 = .ok (.ireturn, 1) := by decide +kernel
theorem dMO_nameNode_20 : decode prog_13_method_37_code 20 = .ok (.iinc 3 (1), 3) := by decide +kernel
theorem dMO_nameNode_23 : decode prog_13_method_37_code 23 = .ok (.goto (-21), 3) := by decide +kernel
theorem dMO_nameNode_26 : decode prog_13_method_37_code 26 = .ok (.aload_n 0, 1) := by decide +kernel
theorem dMO_nameNode_27 : decode prog_13_method_37_code 27 = .ok (.aload_n 0, 1) := by decide +kernel
theorem dMO_nameNode_28 : decode prog_13_method_37_code 28 = .ok (.getfield 19, 3) := by decide +kernel
theorem dMO_nameNode_31 : decode prog_13_method_37_code 31 = .ok (.iload_n 1, 1) := by decide +kernel
theorem dMO_nameNode_32 : decode prog_13_method_37_code 32 = .ok (.iaload, 1) := by decide +kernel
theorem dMO_nameNode_33 : decode prog_13_method_37_code 33 = .ok (.invokevirtual 181, 3) := by decide +kernel
theorem dMO_nameNode_36 : decode prog_13_method_37_code 36 = .ok (.ireturn, 1) := by decide +kernel
theorem l_MO_nameNode {G : sd_G} {o : Nat} {D : fx_D} {h0 : sd_H} {nx v at_ : Nat} {l : tl_T} {Q : sd_Q} (hr : mo_row D 64 l) (hv : v < 8) (ha : at_ ≤ l.length) (K1 : ∀ j, nm_at l v 0 at_ = some j → Q (some (.int (nI j))) (fx_h G.1.2 mo_S o D h0) nx) (K0 : nm_at l v 0 at_ = none → sd_W G mMO_nameNode 3 0 0 Q 26 [(0, .ref (o + 0)), (1, .int (nI v))] [] (fx_h G.1.2 mo_S o D h0) nx 0 0) : ∀ (n j : Nat), at_ = j + n → nm_at l v 0 at_ = nm_at l v j n → sd_W G mMO_nameNode 3 0 0 Q 2 [(0, .ref (o + 0)), (1, .int (nI v)), (2, .int (nI at_)), (3, .int (nI j))] [] (fx_h G.1.2 mo_S o D h0) nx 0 0 := by
  have l24 := hr.1
  intro n
  induction n with
  | zero =>
    intro j hj he
    refine sd_iload_n dMO_nameNode_2 rfl rfl ?_
    refine sd_iload_n dMO_nameNode_3 rfl rfl ?_
    refine nn_icmp_ge 26 dMO_nameNode_4 (by decide) (by omega) (by omega) (fun c4 => ?_) (fun c4 => ?_)
    ·
      refine sd_locp (al' := [(0, .ref (o + (0))), (1, .int (nI (v)))]) [0, 1] rfl ?_
      exact K0 (by rw [he]; rfl)
    ·
      exact absurd c4 (by omega)
  | succ n ih =>
    intro j hj he
    have hx := tl_at_some (l := l) (i := j) (by omega)
    have h100 := (hr.2.2 j _ hx).2.2.1
    rw [nm_at] at he
    by_cases e : (tl_at l j).1 = v
    · rw [if_pos e] at he
      refine sd_iload_n dMO_nameNode_2 rfl rfl ?_
      refine sd_iload_n dMO_nameNode_3 rfl rfl ?_
      refine nn_icmp_ge 26 dMO_nameNode_4 (by decide) (by omega) (by omega) (fun c4 => ?_) (fun c4 => ?_)
      ·
        exact absurd c4 (by omega)
      ·
        refine sd_aload_n dMO_nameNode_7 rfl rfl ?_
        refine sd_bipush (v := nI 64) dMO_nameNode_8 (by decide) ?_
        refine sd_iload_n dMO_nameNode_10 rfl rfl ?_
        refine fx_cV 10 sR_MO [.int (nI (64)), .int (nI (j))] [] dMO_nameNode_11 kMO_131 rfl rfl mMO_symbolAt_v (c_MO_sym (by omega) hr hx) (by decide) (Nat.le_refl _) (Nat.le_refl _) (Nat.le_of_ble_eq_true rfl) rfl ?_
        refine sd_iload_n dMO_nameNode_14 rfl rfl ?_
        refine nn_icmp_ne 20 dMO_nameNode_15 (by decide) (by omega) (by omega) (fun c15 => ?_) (fun c15 => ?_)
        ·
          exact absurd e c15
        ·
          refine sd_iload_n dMO_nameNode_18 rfl rfl ?_
          exact sd_iret dMO_nameNode_19 rfl (Nat.le_refl _) (Nat.le_refl _) (K1 j he)
    · rw [if_neg e] at he
      refine sd_iload_n dMO_nameNode_2 rfl rfl ?_
      refine sd_iload_n dMO_nameNode_3 rfl rfl ?_
      refine nn_icmp_ge 26 dMO_nameNode_4 (by decide) (by omega) (by omega) (fun c4 => ?_) (fun c4 => ?_)
      ·
        exact absurd c4 (by omega)
      ·
        refine sd_aload_n dMO_nameNode_7 rfl rfl ?_
        refine sd_bipush (v := nI 64) dMO_nameNode_8 (by decide) ?_
        refine sd_iload_n dMO_nameNode_10 rfl rfl ?_
        refine fx_cV 10 sR_MO [.int (nI (64)), .int (nI (j))] [] dMO_nameNode_11 kMO_131 rfl rfl mMO_symbolAt_v (c_MO_sym (by omega) hr hx) (by decide) (Nat.le_refl _) (Nat.le_refl _) (Nat.le_of_ble_eq_true rfl) rfl ?_
        refine sd_iload_n dMO_nameNode_14 rfl rfl ?_
        refine nn_icmp_ne 20 dMO_nameNode_15 (by decide) (by omega) (by omega) (fun c15 => ?_) (fun c15 => ?_)
        ·
          refine nn_iinc 1 dMO_nameNode_20 rfl (by decide) ?_
          refine sd_goto 2 dMO_nameNode_23 (by decide) ?_
          refine sd_locp (al' := [(0, .ref (o + (0))), (1, .int (nI (v))), (2, .int (nI (at_))), (3, .int (nI (j + 1)))]) [1, 2, 3, 0] rfl ?_
          exact ih (j + 1) (by omega) he
        ·
          exact absurd c15 e
theorem c_MO_nameNode {G : sd_G} {o : Nat} {D : fx_D} {h0 : sd_H} {nx v at_ N : Nat} {l : tl_T} {nt : Nat → Nat} {K L R lk ρ : Nat → Nat} (hB : G.2.1 ≤ o) (hr : mo_row D 64 l) (hnt : mo_nt D nt) (hv : v < 8) (ha : at_ ≤ l.length) (hg : gst D N K L R lk ρ) (hN : nm_at l v 0 at_ = none → N + 7 ≤ 192) (h72 : 72 ≤ N) : sd_Ct G mMO_nameNode 3 0 0 [.ref (o + 0), .int (nI v), .int (nI at_)] (fx_h G.1.2 mo_S o D h0) nx (fx_ex G.1.2 mo_S o h0 nx (nn_R l nt v at_ lk ρ D N K L R)) := by
  refine sd_Ct_of (by decide) (Nat.le_of_ble_eq_true rfl) ?_
  obtain ⟨d4, tok⟩ := hnt v hv
  have kk : nm_at l v 0 at_ = none → sd_W G mMO_nameNode 3 0 0 (fx_ex G.1.2 mo_S o h0 nx (nn_R l nt v at_ lk ρ D N K L R)) 26 [(0, .ref (o + 0)), (1, .int (nI v))] [] (fx_h G.1.2 mo_S o D h0) nx 0 0 := by
    intro hnone
    refine sd_aload_n dMO_nameNode_26 rfl rfl ?_
    refine sd_aload_n dMO_nameNode_27 rfl rfl ?_
    refine fx_getr 10 3 (4) dMO_nameNode_28 fMO_19 rfl rfl ?_
    refine sd_iload_n dMO_nameNode_31 rfl rfl ?_
    refine fx_ialdv (v := (nI (nt v))) (v) dMO_nameNode_32 rfl rfl (by omega) (by decide) (d4) ?_
    refine fx_cE 10 sR_MO [.int (nI (nt v))] [] dMO_nameNode_33 kMO_181 rfl rfl mMO_nodeOf_v (c_MO_nodeOf hB tok hg (hN hnone) h72) (by decide) (Nat.le_refl _) (Nat.le_refl _) (Nat.le_of_ble_eq_true rfl) rfl (fun m D1 hD1 => ?_)
    exact sd_iret dMO_nameNode_36 rfl (Nat.le_refl _) (Nat.le_refl _) ⟨rfl, m, D1, rfl, rfl, Or.inr ⟨hnone, hD1⟩⟩
  refine sd_iconst (v := nI 0) dMO_nameNode_0 (by decide) ?_
  refine sd_istore_n dMO_nameNode_1 rfl (by decide) ?_
  refine sd_locp (al' := [(0, .ref (o + (0))), (1, .int (nI (v))), (2, .int (nI (at_))), (3, .int (nI (0)))]) [1, 2, 3, 0] rfl ?_
  exact l_MO_nameNode hr hv ha (fun j hj ↦ ⟨rfl, j, D, rfl, rfl, Or.inl ⟨j, hj, rfl, rfl⟩⟩) kk at_ 0 (by omega) rfl
