/-! ===== the model: leave, for all kinds ===== -/
theorem c_MO_leave0 {G : sd_G} {o : Nat} {D : fx_D} {h0 : sd_H} {nx g k y : Nat} {x : Int32} {S : st_S} (hR : mo_R S D) (hG : st_okG S) (hg : g < (st_gl S).length) (hov : D.2.1 0 7 = nI 0) (hk : k = 0 ∨ k = 1 ∨ k = 5 ∨ k = 8) : sd_Ct G mMO_leave 4 0 0 [.ref (o + 0), .int (nI k), .int x, .int (nI (st_gt S g))] (fx_h G.1.2 mo_S o D h0) nx (fx_is G.1.2 mo_S o h0 nx (some (.int (nI 0))) (lv_P S (lv_rows S k y g))) := by
  refine sd_Ct_of (by decide) (Nat.le_of_ble_eq_true rfl) (h_MO_leave hR hG hg ?_)
  have e : lv_rows S k y g = [] := by rcases hk with rfl | rfl | rfl | rfl <;> rfl
  have hp : lv_P S (lv_rows S k y g) D := by
    rw [e]
    exact ⟨hR, Or.inl ⟨fun j l h => by simp at h, hov⟩⟩
  rcases hk with rfl | rfl | rfl | rfl
  ·
    refine sd_iload_n dMO_leave_20 rfl rfl ?_
    refine sd_tableOut 216 dMO_leave_21 (Or.inl (by decide)) (by decide) ?_
    refine sd_iconst (v := nI 0) dMO_leave_216 (by decide) ?_
    exact sd_iret dMO_leave_217 rfl (Nat.le_refl _) (Nat.le_refl _) ⟨rfl, rfl, _, rfl, hp⟩
  ·
    refine sd_iload_n dMO_leave_20 rfl rfl ?_
    refine sd_tableOut 216 dMO_leave_21 (Or.inl (by decide)) (by decide) ?_
    refine sd_iconst (v := nI 0) dMO_leave_216 (by decide) ?_
    exact sd_iret dMO_leave_217 rfl (Nat.le_refl _) (Nat.le_refl _) ⟨rfl, rfl, _, rfl, hp⟩
  ·
    refine sd_iload_n dMO_leave_20 rfl rfl ?_
    refine sd_tableIn (off := 195) 216 dMO_leave_21 (by decide) (by decide) (by decide) (by decide) ?_
    refine sd_iconst (v := nI 0) dMO_leave_216 (by decide) ?_
    exact sd_iret dMO_leave_217 rfl (Nat.le_refl _) (Nat.le_refl _) ⟨rfl, rfl, _, rfl, hp⟩
  ·
    refine sd_iload_n dMO_leave_20 rfl rfl ?_
    refine sd_tableOut 216 dMO_leave_21 (Or.inr (by decide)) (by decide) ?_
    refine sd_iconst (v := nI 0) dMO_leave_216 (by decide) ?_
    exact sd_iret dMO_leave_217 rfl (Nat.le_refl _) (Nat.le_refl _) ⟨rfl, rfl, _, rfl, hp⟩
theorem c_MO_leave {G : sd_G} {o : Nat} {D : fx_D} {h0 : sd_H} {nx g k a : Nat} {x y : Int32} {S : st_S} (hB : G.2.1 ≤ o) (hR : mo_R S D) (hT : st_okT S) (hG : st_okG S) (hg : g < (st_gl S).length) (hov : D.2.1 0 7 = nI 0) (ht : tc_there S x y k a) (hf : su_fit S k a g = true) : sd_Ct G mMO_leave 4 0 0 [.ref (o + 0), .int x, .int y, .int (nI (st_gt S g))] (fx_h G.1.2 mo_S o D h0) nx (fx_is G.1.2 mo_S o h0 nx (some (.int (nI (lv_rows S k a g).length))) (lv_P S (lv_rows S k a g))) := by
  obtain ⟨rfl, h⟩ := ht
  rcases h with ⟨rfl | rfl | rfl | rfl | rfl, rfl⟩ | ⟨rfl | rfl, rfl, ha⟩ | ⟨rfl, rfl, ha⟩ | ⟨rfl, rfl, ha⟩
  · exact c_MO_leave0 hR hG hg hov (by omega)
  · exact c_MO_leave0 hR hG hg hov (by omega)
  · simp only [su_fit, Bool.and_eq_true, beq_iff_eq, and_assoc] at hf
    exact c_MO_leave3 hB hR hT hG hg hov hf.1 hf.2.1 hf.2.2.1
  · exact c_MO_leave0 hR hG hg hov (by omega)
  · simp only [su_fit, Bool.and_eq_true, beq_iff_eq, and_assoc] at hf
    exact c_MO_leave7 hB hR hT hG hg hov hf.1
  · simp only [su_fit, Bool.and_eq_true, beq_iff_eq, and_assoc] at hf
    exact c_MO_leave2 hB hR hT hG hg hov ha hf.1
  · exact c_MO_leave6 hB hR hT hG hg hov ha
  · simp only [su_fit, Bool.and_eq_true, beq_iff_eq, and_assoc] at hf
    exact c_MO_leave4 hB hR hT hG hg hov ha hf.1
  · exact c_MO_leave0 hR hG hg hov (by omega)
