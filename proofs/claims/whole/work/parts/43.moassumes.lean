/-! ===== the model: assumes ===== -/
def st_gt (S : st_S) (g : Nat) : Nat := (((st_gl S)[g]?).map (·.1)).getD 0
def st_gh (S : st_S) (g : Nat) : List Nat := (((st_gl S)[g]?).map (·.2.1)).getD []
/-- goals speak of terms -/
def st_okG (S : st_S) : Prop := ∀ (g : Nat) (q : st_Gl), (st_gl S)[g]? = some q → q.1 < (st_T S).length ∧ (∀ t ∈ q.2.1, t < (st_T S).length)
theorem mo_gg {S : st_S} {D : fx_D} {g : Nat} (hR : mo_R S D) (hG : st_okG S) (hg : g < (st_gl S).length) : D.1 13 g = nI (st_gt S g) ∧ st_gt S g < (st_T S).length ∧ g < 30 ∧ D.1 14 g = nI (st_gh S g).length ∧ (st_gh S g).length ≤ 6 ∧ (∀ (k t : Nat), (st_gh S g)[k]? = some t → D.1 15 (6 * g + k) = nI t ∧ t < (st_T S).length) := by
  have hx : (st_gl S)[g]? = some (st_gl S)[g] := List.getElem?_eq_getElem hg
  have e1 : st_gt S g = (st_gl S)[g].1 := by unfold st_gt; rw [hx]; rfl
  have e2 : st_gh S g = (st_gl S)[g].2.1 := by unfold st_gh; rw [hx]; rfl
  obtain ⟨a1, a2, a3, a4, -⟩ := hR.2.2.2.2.2.1.2.2 g _ hx
  obtain ⟨b1, b2⟩ := hG g _ hx
  have h30 : (st_gl S).length ≤ 30 := hR.2.2.2.2.2.1.1
  rw [e1, e2]
  exact ⟨a1, b1, by omega, a2, a3, fun k t ht => ⟨a4 k t ht, b2 t (List.mem_of_getElem? ht)⟩⟩
theorem dMO_assumes_0 : decode prog_13_method_59_code 0 = .ok (.iconst 0, 1) := by decide +kernel
theorem dMO_assumes_1 : decode prog_13_method_59_code 1 = .ok (.istore_n 3, 1) := by decide +kernel
theorem dMO_assumes_2 : decode prog_13_method_59_code 2 = .ok (.iload_n 3, 1) := by decide +kernel
theorem dMO_assumes_3 : decode prog_13_method_59_code 3 = .ok (.aload_n 0, 1) := by decide +kernel
theorem dMO_assumes_4 : decode prog_13_method_59_code 4 = .ok (.getfield 49, 3) := by decide +kernel
theorem dMO_assumes_7 : decode prog_13_method_59_code 7 = .ok (.iload_n 1, 1) := by decide +kernel
theorem dMO_assumes_8 : decode prog_13_method_59_code 8 = .ok (.iaload, 1) := by decide +kernel
theorem dMO_assumes_9 : decode prog_13_method_59_code 9 = .ok (.if_icmp .ge (26), 3) := by decide +kernel
theorem dMO_assumes_12 : decode prog_13_method_59_code 12 = .ok (.aload_n 0, 1) := by decide +kernel
theorem dMO_assumes_13 : decode prog_13_method_59_code 13 = .ok (.getfield 52, 3) := by decide +kernel
theorem dMO_assumes_16 : decode prog_13_method_59_code 16 = .ok (.bipush (6), 2) := by decide +kernel
theorem dMO_assumes_18 : decode prog_13_method_59_code 18 = .ok (.iload_n 1, 1) := by decide +kernel
theorem dMO_assumes_19 : decode prog_13_method_59_code 19 = .ok (.imul, 1) := by decide +kernel
theorem dMO_assumes_20 : decode prog_13_method_59_code 20 = .ok (.iload_n 3, 1) := by decide +kernel
theorem dMO_assumes_21 : decode prog_13_method_59_code 21 = .ok (.iadd, 1) := by decide +kernel
theorem dMO_assumes_22 : decode prog_13_method_59_code 22 = .ok (.iaload, 1) := by decide +kernel
theorem dMO_assumes_23 : decode prog_13_method_59_code 23 = .ok (.iload_n 2, 1) := by decide +kernel
theorem dMO_assumes_24 : decode prog_13_method_59_code 24 = .ok (.if_icmp .ne (5), 3) := by decide +kernel
theorem dMO_assumes_27 : decode prog_13_method_59_code 27 = .ok (.iconst 1, 1) := by decide +kernel
theorem dMO_assumes_28 : decode prog_13_method_59_code 28 = .ok (.ireturn, 1) := by decide +kernel
theorem dMO_assumes_29 : decode prog_13_method_59_code 29 = .ok (.iinc 3 (1), 3) := by decide +kernel
theorem dMO_assumes_32 : decode prog_13_method_59_code 32 = .ok (.goto (-30), 3) := by decide +kernel
theorem dMO_assumes_35 : decode prog_13_method_59_code 35 = .ok (.iconst 0, 1) := by decide +kernel
theorem dMO_assumes_36 : decode prog_13_method_59_code 36 = .ok (.ireturn, 1) := by decide +kernel
theorem l_MO_assumes {G : sd_G} {o : Nat} {D : fx_D} {h0 : sd_H} {nx v g t : Nat} {S : st_S} (hR : mo_R S D) (hG : st_okG S) (hg : g < (st_gl S).length) (ht : t < 2 ^ 30) (hv2 : v < 2) : ∀ (n j : Nat), (st_gh S g).length = j + n → (v = 1 ↔ t ∈ (st_gh S g).drop j) → sd_W G mMO_assumes 0 0 0 (sd_is (some (.int (nI v))) (fx_h G.1.2 mo_S o D h0) nx) 2 [(0, .ref (o + 0)), (1, .int (nI g)), (2, .int (nI t)), (3, .int (nI j))] [] (fx_h G.1.2 mo_S o D h0) nx 0 0 := by
  obtain ⟨g1, g2, g3, g4, g5, g6⟩ := mo_gg hR hG hg
  have h64 := hR.2.1.1
  intro n
  induction n with
  | zero =>
    intro j hj hv
    rw [List.drop_eq_nil_of_le (by omega)] at hv
    obtain rfl : v = 0 := by simp at hv; omega
    refine sd_iload_n dMO_assumes_2 rfl rfl ?_
    refine sd_aload_n dMO_assumes_3 rfl rfl ?_
    refine fx_getr 10 18 (14) dMO_assumes_4 fMO_49 rfl rfl ?_
    refine sd_iload_n dMO_assumes_7 rfl rfl ?_
    refine fx_ialdv (v := (nI ((st_gh S g).length))) (g) dMO_assumes_8 rfl rfl (by omega) (by decide) (g4) ?_
    refine nn_icmp_ge 35 dMO_assumes_9 (by decide) (by omega) (by omega) (fun c9 => ?_) (fun c9 => ?_)
    ·
      refine sd_iconst (v := nI 0) dMO_assumes_35 (by decide) ?_
      exact sd_zret dMO_assumes_36 rfl (Or.inl rfl) (Nat.le_refl _) (Nat.le_refl _) ⟨rfl, rfl, rfl⟩
    ·
      exact absurd c9 (by omega)
  | succ n ih =>
    intro j hj hv
    have hx : (st_gh S g)[j]? = some (st_gh S g)[j] := List.getElem?_eq_getElem (by omega)
    generalize (st_gh S g)[j] = u at hx
    obtain ⟨u1, u2⟩ := g6 j u hx
    have hdr : (st_gh S g).drop j = u :: (st_gh S g).drop (j + 1) := by
      rw [List.drop_eq_getElem_cons (by omega)]
      rw [List.getElem?_eq_getElem (by omega)] at hx
      rw [Option.some.inj hx]
    rw [hdr, List.mem_cons] at hv
    refine sd_iload_n dMO_assumes_2 rfl rfl ?_
    refine sd_aload_n dMO_assumes_3 rfl rfl ?_
    refine fx_getr 10 18 (14) dMO_assumes_4 fMO_49 rfl rfl ?_
    refine sd_iload_n dMO_assumes_7 rfl rfl ?_
    refine fx_ialdv (v := (nI ((st_gh S g).length))) (g) dMO_assumes_8 rfl rfl (by omega) (by decide) (g4) ?_
    refine nn_icmp_ge 35 dMO_assumes_9 (by decide) (by omega) (by omega) (fun c9 => ?_) (fun c9 => ?_)
    ·
      exact absurd c9 (by omega)
    ·
      refine sd_aload_n dMO_assumes_12 rfl rfl ?_
      refine fx_getr 10 19 (15) dMO_assumes_13 fMO_52 rfl rfl ?_
      refine sd_bipush (v := nI 6) dMO_assumes_16 (by decide) ?_
      refine sd_iload_n dMO_assumes_18 rfl rfl ?_
      refine nn_imul dMO_assumes_19 ?_
      refine sd_iload_n dMO_assumes_20 rfl rfl ?_
      refine nn_iadd dMO_assumes_21 ?_
      refine fx_ialdv (v := (nI (u))) ((6 * g) + j) dMO_assumes_22 rfl rfl (by omega) (by decide) (u1) ?_
      refine sd_iload_n dMO_assumes_23 rfl rfl ?_
      refine nn_icmp_ne 29 dMO_assumes_24 (by decide) (by omega) (by omega) (fun c24 => ?_) (fun c24 => ?_)
      ·
        refine nn_iinc 1 dMO_assumes_29 rfl (by decide) ?_
        refine sd_goto 2 dMO_assumes_32 (by decide) ?_
        refine sd_locp (al' := [(0, .ref (o + (0))), (1, .int (nI (g))), (2, .int (nI (t))), (3, .int (nI (j + 1)))]) [1, 2, 3, 0] rfl ?_
        exact ih (j + 1) (by omega) (by rw [hv]; constructor; intro h; exact h.resolve_left (by omega); intro h; exact Or.inr h)
      ·
        refine sd_iconst (v := nI 1) dMO_assumes_27 (by decide) ?_
        obtain rfl : v = 1 := hv.mpr (Or.inl (by omega))
        exact sd_zret dMO_assumes_28 rfl (Or.inr rfl) (Nat.le_refl _) (Nat.le_refl _) ⟨rfl, rfl, rfl⟩
theorem c_MO_assumes {G : sd_G} {o : Nat} {D : fx_D} {h0 : sd_H} {nx v g t : Nat} {S : st_S} (hR : mo_R S D) (hG : st_okG S) (hg : g < (st_gl S).length) (ht : t < 2 ^ 30) (hv2 : v < 2) (hv : v = 1 ↔ t ∈ st_gh S g) : sd_Ct G mMO_assumes 0 0 0 [.ref (o + 0), .int (nI g), .int (nI t)] (fx_h G.1.2 mo_S o D h0) nx (sd_is (some (.int (nI v))) (fx_h G.1.2 mo_S o D h0) nx) := by
  refine sd_Ct_of (by decide) (Nat.le_of_ble_eq_true rfl) ?_
  refine sd_iconst (v := nI 0) dMO_assumes_0 (by decide) ?_
  refine sd_istore_n dMO_assumes_1 rfl (by decide) ?_
  refine sd_locp (al' := [(0, .ref (o + (0))), (1, .int (nI (g))), (2, .int (nI (t))), (3, .int (nI (0)))]) [1, 2, 3, 0] rfl ?_
  exact l_MO_assumes hR hG hg ht hv2 (st_gh S g).length 0 (by omega) (by rw [List.drop_zero]; exact hv)
