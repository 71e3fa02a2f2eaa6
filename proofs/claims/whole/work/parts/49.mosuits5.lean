/-! ===== the model: suits, kind 3 ===== -/
theorem tl_ok_next {l : tl_T} {i : Nat} (ho : tl_ok 1 (l.drop i)) (hi : i < l.length) (ha : tl_ar (tl_at l i).1 = 2) : i + 1 < l.length := by
  have hx := tl_at_some hi
  have e : l[i] = tl_at l i := by rw [List.getElem?_eq_getElem hi] at hx; exact Option.some.inj hx
  rw [List.drop_eq_getElem_cons hi, e] at ho
  have ho2 : tl_ok (0 + tl_ar (tl_at l i).1) (l.drop (i + 1)) := ho
  rw [ha] at ho2
  rcases Nat.lt_or_ge (i + 1) l.length with h | h
  · exact h
  · rw [List.drop_eq_nil_of_le h] at ho2
    exact absurd ho2 (by simp [tl_ok])
theorem c_MO_suits3 {G : sd_G} {o : Nat} {D : fx_D} {h0 : sd_H} {nx v g y : Nat} {x : Int32} {S : st_S} (hR : mo_R S D) (hG : st_okG S) (hg : g < (st_gl S).length) (hv2 : v < 2) (hv : v = 1 ↔ su_fit S 3 y g = true) : sd_Ct G mMO_suits 6 0 0 [.ref (o + 0), .int (nI 3), .int x, .int (nI g)] (fx_h G.1.2 mo_S o D h0) nx (sd_is (some (.int (nI v))) (fx_h G.1.2 mo_S o D h0) nx) := by
  simp only [su_fit, Bool.and_eq_true, beq_iff_eq, and_assoc] at hv
  by_cases hE : tl_isE (su_m S g) = true
  · refine sd_Ct_of (by decide) (Nat.le_of_ble_eq_true rfl) (h_MO_suits hR hG hg (by omega) (Or.inl hE) ?_)
    obtain ⟨g1, g2, g3, g4, g5, g6⟩ := mo_gg hR hG hg
    obtain ⟨-, m1, m2, m3⟩ := mo_tm hR g2
    obtain ⟨l1, l2, l3⟩ := m2.two (tl_E2 hE)
    have l24 := m1.1
    have hx := tl_at_some l1
    have hz := tl_at_some l2
    have q3 := (m1.2.2 1 _ hx).2.2.1
    have z3 := (m1.2.2 _ _ hz).2.2.1
    have ee : su_e S g = tl_end (st_tm S (st_gt S g)) 1 := by unfold su_e; rw [if_pos hE]; rfl
    rw [ee]
    simp only [hE, true_and] at hv
    unfold su_m at hv
    have b2 : 24 * st_gt S g + 2 < 1728 := by omega
    have b3 : 24 * st_gt S g + (tl_end (st_tm S (st_gt S g)) 1 + 1) < 1728 := by omega
    refine sd_iload_n dMO_suits_58 rfl rfl ?_
    refine sd_tableIn (off := 86) 145 dMO_suits_59 (by decide) (by decide) (by decide) (by decide) ?_
    refine sd_aload_n dMO_suits_145 rfl rfl ?_
    refine sd_iload dMO_suits_146 rfl ?_
    refine sd_iconst (v := nI 1) dMO_suits_148 (by decide) ?_
    refine fx_cV 10 sR_MO [.int (nI (st_gt S g)), .int (nI (1))] [] dMO_suits_149 kMO_131 rfl rfl mMO_symbolAt_v (c_MO_sym (by omega) m1 hx) (by decide) (Nat.le_refl _) (Nat.le_refl _) (Nat.le_of_ble_eq_true rfl) rfl ?_
    refine sd_bipush (v := nI 8) dMO_suits_152 (by decide) ?_
    refine nn_icmp_ne 194 dMO_suits_154 (by decide) (by omega) (by omega) (fun c154 => ?_) (fun c154 => ?_)
    ·
      refine sd_iconst (v := nI 0) dMO_suits_194 (by decide) ?_
      exact sd_zret dMO_suits_195 rfl (nn_01 (by omega)) (Nat.le_refl _) (Nat.le_refl _) ⟨by rw [show v = (0) by omega], rfl, rfl⟩
    ·
      refine sd_aload_n dMO_suits_157 rfl rfl ?_
      refine sd_iload dMO_suits_158 rfl ?_
      refine sd_iload dMO_suits_160 rfl ?_
      refine fx_cV 10 sR_MO [.int (nI (st_gt S g)), .int (nI (tl_end (st_tm S (st_gt S g)) 1))] [] dMO_suits_162 kMO_131 rfl rfl mMO_symbolAt_v (c_MO_sym (by omega) m1 hz) (by decide) (Nat.le_refl _) (Nat.le_refl _) (Nat.le_of_ble_eq_true rfl) rfl ?_
      refine sd_bipush (v := nI 8) dMO_suits_165 (by decide) ?_
      refine nn_icmp_ne 194 dMO_suits_167 (by decide) (by omega) (by omega) (fun c167 => ?_) (fun c167 => ?_)
      ·
        refine sd_iconst (v := nI 0) dMO_suits_194 (by decide) ?_
        exact sd_zret dMO_suits_195 rfl (nn_01 (by omega)) (Nat.le_refl _) (Nat.le_refl _) ⟨by rw [show v = (0) by omega], rfl, rfl⟩
      ·
        have two1 : 2 < (st_tm S (st_gt S g)).length ∧ tl_end (st_tm S (st_gt S g)) 1 + 1 < (st_tm S (st_gt S g)).length := ⟨tl_ok_next (tl_ok_drop _ 1 1 m2.1 m2.2.1 l1) l1 (by rw [show (tl_at (st_tm S (st_gt S g)) 1).1 = 8 by omega]; rfl), tl_ok_next (tl_ok_drop _ 1 _ m2.1 m2.2.1 l2) l2 (by rw [show (tl_at (st_tm S (st_gt S g)) (tl_end (st_tm S (st_gt S g)) 1)).1 = 8 by omega]; rfl)⟩
        have y4 := (m1.2.2 _ _ (tl_at_some two1.1)).2.2.2
        have y5 := (m1.2.2 _ _ (tl_at_some two1.2)).2.2.2
        refine sd_aload_n dMO_suits_170 rfl rfl ?_
        refine sd_iload dMO_suits_171 rfl ?_
        refine sd_iconst (v := nI 2) dMO_suits_173 (by decide) ?_
        refine fx_cV 10 sR_MO [.int (nI (st_gt S g)), .int (nI (2))] [] dMO_suits_174 kMO_134 rfl rfl mMO_typeAt_v (c_MO_typ (by omega) m1 (tl_at_some two1.1)) (by decide) (Nat.le_refl _) (Nat.le_refl _) (Nat.le_of_ble_eq_true rfl) rfl ?_
        refine sd_aload_n dMO_suits_177 rfl rfl ?_
        refine sd_iload dMO_suits_178 rfl ?_
        refine sd_iload dMO_suits_180 rfl ?_
        refine sd_iconst (v := nI 1) dMO_suits_182 (by decide) ?_
        refine nn_iadd dMO_suits_183 ?_
        refine fx_cV 10 sR_MO [.int (nI (st_gt S g)), .int (nI ((tl_end (st_tm S (st_gt S g)) 1) + 1))] [.int (nI ((tl_at (st_tm S (st_gt S g)) 2).2))] dMO_suits_184 kMO_134 rfl rfl mMO_typeAt_v (c_MO_typ (by omega) m1 (tl_at_some two1.2)) (by decide) (Nat.le_refl _) (Nat.le_refl _) (Nat.le_of_ble_eq_true rfl) rfl ?_
        refine nn_icmp_ne 194 dMO_suits_187 (by decide) (by omega) (by omega) (fun c187 => ?_) (fun c187 => ?_)
        ·
          refine sd_iconst (v := nI 0) dMO_suits_194 (by decide) ?_
          exact sd_zret dMO_suits_195 rfl (nn_01 (by omega)) (Nat.le_refl _) (Nat.le_refl _) ⟨by rw [show v = (0) by omega], rfl, rfl⟩
        ·
          refine sd_iconst (v := nI 1) dMO_suits_190 (by decide) ?_
          refine sd_goto 195 dMO_suits_191 (by decide) ?_
          exact sd_zret dMO_suits_195 rfl (nn_01 (by omega)) (Nat.le_refl _) (Nat.le_refl _) ⟨by rw [show v = (1) by omega], rfl, rfl⟩
  · obtain rfl : v = 0 := by
      have : ¬ v = 1 := fun e => hE (hv.mp e).1
      omega
    exact c_MO_suitsN hR hG hg (by omega) (by omega) (by omega) hE
