/-! ===== the model: unify, as it is called ===== -/
/-- an answer 1 with P, or 0 with R -/
def fx_b2 (A : Nat → ClassId) (S : fx_S) (o : Nat) (h0 : sd_H) (nx : Nat) (P R : fx_D → Prop) : sd_Q := fun r h' nx' => nx' = nx ∧ ∃ D : fx_D, h' = fx_h A S o D h0 ∧ ((r = some (.int (nI 1)) ∧ P D) ∨ (r = some (.int (nI 0)) ∧ R D))
section FXB
variable {G : sd_G} {M : sd_M} {d mc ms : Nat} {Q : sd_Q} {pc : Nat} {al : List (Nat × Value)} {st : List Value} {nx k n : Nat} {S : fx_S} {o : Nat} {D : fx_D} {h0 : sd_H}
theorem fx_cB {M' : sd_M} {index d' x : Nat} {t : List fx_E} {P R : fx_D → Prop} (ci : Nat) (r0 : vw_C) (av rest : List Value) (hd : decode M.2.1 pc = .ok (.invokevirtual index, 3)) (hw : sd_ml M.1.cls index M' av.length) (hr : sd_cl[ci]? = some r0) (hs : S x = some (.inl (ci, t))) (hst : Cond.instanceMethod M'.1 ∈ sd_tbl ∧ Cond.selects r0.1 M'.1 M'.1 ∈ sd_tbl) (hct : sd_Ct G M' d' 0 0 (.ref (o + x) :: av) (fx_h G.1.2 S o D h0) nx (fx_b2 G.1.2 S o h0 nx P R)) (hd' : d' + 1 ≤ d) (hk : k ≤ mc) (hn : n ≤ ms) (hrest : (rest.map fun v => v.category).sum ≤ 8) (hst2 : st = av.reverse ++ .ref (o + x) :: rest) (k1 : ∀ D' : fx_D, P D' → sd_W G M d mc ms Q (pc + 3) al (.int (nI 1) :: rest) (fx_h G.1.2 S o D' h0) nx k n) (k0 : ∀ D' : fx_D, R D' → sd_W G M d mc ms Q (pc + 3) al (.int (nI 0) :: rest) (fx_h G.1.2 S o D' h0) nx k n) : sd_W G M d mc ms Q pc al st (fx_h G.1.2 S o D h0) nx k n :=
  sd_callV ci r0 av rest hd hw hr (fx_at hs) hst hct hd' hk hn hrest hst2 (fun r h' nx' q => by
    obtain ⟨rfl, D', rfl, hP | hP⟩ := q
    · obtain ⟨rfl, hP⟩ := hP
      exact k1 D' hP
    · obtain ⟨rfl, hP⟩ := hP
      exact k0 D' hP)
end FXB
theorem c_MO_unify {G : sd_G} {o : Nat} {D : fx_D} {h0 : sd_H} {nx a b N : Nat} {K L R lk ρ : Nat → Nat} (hB : G.2.1 ≤ o) (hu : ug D N K L R lk) (hb : ug_b N K L R lk) (hr : lkr lk ρ) (hi : uf_inv K L R ρ []) (ha : ac N a) (hb' : ac N b) : sd_Ct G mMO_unify 1 0 0 [.ref (o + 0), .int (nI a), .int (nI b)] (fx_h G.1.2 mo_S o D h0) nx (fx_b2 G.1.2 mo_S o h0 nx (un_yes N K L R ρ [(a, b)] D) (fun D' => un_no K L R ρ [(a, b)] ∧ mo_fu D D')) := by
  refine sd_Ct_of (by decide) (Nat.le_of_ble_eq_true rfl) ?_
  have hF : uf_F K ρ ≤ 194 := cn_r_le _ 194
  have hf : mo_fu D (fx_ua (fx_ua D 29 0 (nI a)) 29 (0 + 1) (nI b)) := (mo_fu.ua D (Or.inr rfl)).tr (mo_fu.ua _ (Or.inr rfl))
  have nxt := l_MO_unify (G := G) (o := o) (h0 := h0) (nx := nx) (Q := fx_b2 G.1.2 mo_S o h0 nx (un_yes N K L R ρ [(a, b)] D) (fun D' => un_no K L R ρ [(a, b)] ∧ mo_fu D D')) hB (2 * uf_F K ρ + 2) ρ lk [(a, b)] (fx_ua (fx_ua D 29 0 (nI a)) 29 (0 + 1) (nI b)) (by simp) (by simp; omega) (ug_fu hu hf (by simp [fx_ua])) hb hr (hi.mem (fun p hp => by cases hp)) (sk2_push (P := []) (fun i p h => by simp at h) (by simp [fx_ua, upd]) (by simp [fx_ua, upd]) ha hb') (fun D' h => ⟨rfl, D', rfl, Or.inl ⟨rfl, by
      obtain ⟨ρ', lk', y1, y2, y3, y4, y5, y6, y7⟩ := h
      exact ⟨ρ', lk', y1, y2, y3, y4, y5, y6, hf.tr y7⟩⟩⟩) (fun D' h h' => ⟨rfl, D', rfl, Or.inr ⟨rfl, h, hf.tr h'⟩⟩)
  refine sd_iconst (v := nI 0) dMO_unify_0 (by decide) ?_
  refine sd_istore_n dMO_unify_1 rfl (by decide) ?_
  refine sd_aload_n dMO_unify_2 rfl rfl ?_
  refine fx_getr 10 36 (29) dMO_unify_3 fMO_94 rfl rfl ?_
  refine sd_iload_n dMO_unify_6 rfl rfl ?_
  refine nn_iinc 1 dMO_unify_7 rfl (by decide) ?_
  refine sd_iload_n dMO_unify_10 rfl rfl ?_
  refine fx_iast (0) dMO_unify_11 rfl rfl (by omega) (by decide) hB ?_
  refine sd_aload_n dMO_unify_12 rfl rfl ?_
  refine fx_getr 10 36 (29) dMO_unify_13 fMO_94 rfl rfl ?_
  refine sd_iload_n dMO_unify_16 rfl rfl ?_
  refine nn_iinc 1 dMO_unify_17 rfl (by decide) ?_
  refine sd_iload_n dMO_unify_20 rfl rfl ?_
  refine fx_iast (0 + 1) dMO_unify_21 rfl rfl (by omega) (by decide) hB ?_
  refine sd_locp (al' := [(0, .ref (o + (0))), (3, .int (nI (0 + 1 + 1)))]) [1, 0] rfl ?_
  exact nxt
