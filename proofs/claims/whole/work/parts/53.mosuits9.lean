/-! ===== the model: suits, kind 5; suits for all kinds ===== -/
theorem sd_is_fx {G : sd_G} {M : sd_M} {d : Nat} {av : List Value} {o nx : Nat} {D : fx_D} {h0 : sd_H} {X : fx_S} {v : Option Value} {h : sd_H} {P : fx_D → Prop} (hc : sd_Ct G M d 0 0 av h nx (sd_is v (fx_h G.1.2 X o D h0) nx)) (hp : P D) : sd_Ct G M d 0 0 av h nx (fx_is G.1.2 X o h0 nx v P) :=
  hc.mono (fun r h' nx' q => by obtain ⟨q1, q2, q3⟩ := q; exact ⟨q1, q3, D, q2, hp⟩)
theorem c_MO_suits5 {G : sd_G} {o : Nat} {D : fx_D} {h0 : sd_H} {nx v g y : Nat} {x : Int32} {S : st_S} (hB : G.2.1 ≤ o) (hR : mo_R S D) (hT : st_okT S) (hG : st_okG S) (hg : g < (st_gl S).length) (hv2 : v < 2) (hv : v = 1 ↔ su_fit S 5 y g = true) : sd_Ct G mMO_suits 6 0 0 [.ref (o + 0), .int (nI 5), .int x, .int (nI g)] (fx_h G.1.2 mo_S o D h0) nx (fx_is G.1.2 mo_S o h0 nx (some (.int (nI v))) (mo_R S)) := by
  simp only [su_fit, Bool.and_eq_true, beq_iff_eq, and_assoc] at hv
  by_cases hE : tl_isE (su_m S g) = true
  · refine sd_Ct_of (by decide) (Nat.le_of_ble_eq_true rfl) (h_MO_suits hR hG hg (by omega) (Or.inl hE) ?_)
    obtain ⟨g1, g2, g3, g4, g5, g6⟩ := mo_gg hR hG hg
    obtain ⟨tP, m1, m2, m3⟩ := mo_tm hR g2
    obtain ⟨l1, l2, l3⟩ := m2.two (tl_E2 hE)
    have ee : su_e S g = tl_end (st_tm S (st_gt S g)) 1 := by unfold su_e; rw [if_pos hE]; rfl
    rw [ee]
    simp only [hE, true_and] at hv
    unfold su_m at hv
    obtain ⟨w, w2, w1⟩ := bw_b (tl_isB (st_tm S (st_gt S g)) 1 = true)
    have hBB : w = 1 ↔ (tl_at (st_tm S (st_gt S g)) 1).1 = 8 ∧ ∃ y, (st_tm S (st_gt S g))[1 + 1]? = some y ∧ y.1 = 10 := by
      rw [w1, tl_isB_iff]
      constructor
      · rintro ⟨h1, h2⟩
        obtain ⟨q1, -⟩ := tl_two_at (tl_ok_drop _ 1 1 m2.1 m2.2.1 l1) l1 (by rw [h1]; rfl)
        exact ⟨h1, _, tl_at_some q1, h2⟩
      · rintro ⟨h1, y, h2, h3⟩
        refine ⟨h1, ?_⟩
        unfold tl_at
        rw [h2]
        exact h3
    by_cases hBt : tl_isB (st_tm S (st_gt S g)) 1 = true
    · simp only [hBt, true_and] at hv
      obtain rfl : w = 1 := w1.mpr hBt
      refine sd_iload_n dMO_suits_58 rfl rfl ?_
      refine sd_tableIn (off := 237) 296 dMO_suits_59 (by decide) (by decide) (by decide) (by decide) ?_
      refine sd_aload_n dMO_suits_296 rfl rfl ?_
      refine sd_iload dMO_suits_297 rfl ?_
      refine sd_iconst (v := nI 1) dMO_suits_299 (by decide) ?_
      refine fx_cV 10 sR_MO [.int (nI (st_gt S g)), .int (nI (1))] [] dMO_suits_300 kMO_234 rfl rfl mMO_isBeta_v (c_MO_isBeta (by omega) m1 m2 (tl_at_some l1) w2 hBB) (by decide) (Nat.le_refl _) (Nat.le_refl _) (Nat.le_of_ble_eq_true rfl) rfl ?_
      refine nn_if_eq 321 dMO_suits_303 (by decide) (by decide) (fun c => absurd c (by decide)) (fun _ => ?_)
      refine sd_aload_n dMO_suits_306 rfl rfl ?_
      refine sd_iload dMO_suits_307 rfl ?_
      refine sd_iload dMO_suits_309 rfl ?_
      refine fx_cP 10 sR_MO [.int (nI (st_gt S g)), .int (nI (tl_end (st_tm S (st_gt S g)) 1))] [] dMO_suits_311 kMO_281 rfl rfl mMO_givesBeta_v (c_MO_givesBeta hB hR hT g2 hE hBt hv2 hv) (by decide) (Nat.le_refl _) (Nat.le_refl _) (Nat.le_of_ble_eq_true rfl) rfl (fun D1 hD1 => ?_)
      refine nn_if_eq 321 dMO_suits_314 (by decide) (by omega) (fun c314 => ?_) (fun c314 => ?_)
      ·
        refine sd_iconst (v := nI 0) dMO_suits_321 (by decide) ?_
        obtain rfl : v = (0) := by omega
        exact sd_zret dMO_suits_322 rfl (nn_01 (by omega)) (Nat.le_refl _) (Nat.le_refl _) ⟨rfl, rfl, _, rfl, hD1⟩
      ·
        refine sd_iconst (v := nI 1) dMO_suits_317 (by decide) ?_
        refine sd_goto 322 dMO_suits_318 (by decide) ?_
        obtain rfl : v = (1) := by omega
        exact sd_zret dMO_suits_322 rfl (nn_01 (by omega)) (Nat.le_refl _) (Nat.le_refl _) ⟨rfl, rfl, _, rfl, hD1⟩
    · obtain rfl : v = 0 := by
        have : ¬ v = 1 := fun e => hBt (hv.mp e).1
        omega
      obtain rfl : w = 0 := by
        have : ¬ w = 1 := fun e => hBt (w1.mp e)
        omega
      refine sd_iload_n dMO_suits_58 rfl rfl ?_
      refine sd_tableIn (off := 237) 296 dMO_suits_59 (by decide) (by decide) (by decide) (by decide) ?_
      refine sd_aload_n dMO_suits_296 rfl rfl ?_
      refine sd_iload dMO_suits_297 rfl ?_
      refine sd_iconst (v := nI 1) dMO_suits_299 (by decide) ?_
      refine fx_cV 10 sR_MO [.int (nI (st_gt S g)), .int (nI (1))] [] dMO_suits_300 kMO_234 rfl rfl mMO_isBeta_v (c_MO_isBeta (by omega) m1 m2 (tl_at_some l1) w2 hBB) (by decide) (Nat.le_refl _) (Nat.le_refl _) (Nat.le_of_ble_eq_true rfl) rfl ?_
      refine nn_if_eq 321 dMO_suits_303 (by decide) (by decide) (fun _ => ?_) (fun c => absurd c (by decide))
      refine sd_iconst (v := nI 0) dMO_suits_321 (by decide) ?_
      exact sd_zret dMO_suits_322 rfl (Or.inl rfl) (Nat.le_refl _) (Nat.le_refl _) ⟨rfl, rfl, _, rfl, hR⟩
  · obtain rfl : v = 0 := by
      have : ¬ v = 1 := fun e => hE (hv.mp e).1
      omega
    exact sd_is_fx (c_MO_suitsN hR hG hg (by omega) (by omega) (by omega) hE) hR
/-- what the tactic k asks for is there -/
def tc_there (S : st_S) (x y : Int32) (k a : Nat) : Prop := x = nI k ∧ ((k = 0 ∨ k = 1 ∨ k = 3 ∨ k = 5 ∨ k = 7) ∧ a = 0 ∨ (k = 2 ∨ k = 6) ∧ y = nI a ∧ a < (st_T S).length ∨ k = 4 ∧ y = nI a ∧ a < 8 ∨ k = 8 ∧ y = nI a ∧ a < (st_th S).length)
theorem c_MO_suits {G : sd_G} {o : Nat} {D : fx_D} {h0 : sd_H} {nx v g k a : Nat} {x y : Int32} {S : st_S} (hB : G.2.1 ≤ o) (hR : mo_R S D) (hT : st_okT S) (hH : st_okH S) (hG : st_okG S) (hg : g < (st_gl S).length) (ht : tc_there S x y k a) (hv2 : v < 2) (hv : v = 1 ↔ su_fit S k a g = true) : sd_Ct G mMO_suits 6 0 0 [.ref (o + 0), .int x, .int y, .int (nI g)] (fx_h G.1.2 mo_S o D h0) nx (fx_is G.1.2 mo_S o h0 nx (some (.int (nI v))) (mo_R S)) := by
  obtain ⟨rfl, h⟩ := ht
  rcases h with ⟨rfl | rfl | rfl | rfl | rfl, rfl⟩ | ⟨rfl | rfl, rfl, ha⟩ | ⟨rfl, rfl, ha⟩ | ⟨rfl, rfl, ha⟩
  · exact sd_is_fx (c_MO_suits0 hR hG hg hv2 hv) hR
  · exact sd_is_fx (c_MO_suits1 hR hG hg hv2 hv) hR
  · exact sd_is_fx (c_MO_suits3 hR hG hg hv2 hv) hR
  · exact c_MO_suits5 hB hR hT hG hg hv2 hv
  · exact sd_is_fx (c_MO_suits7 hR hG hg hv2 hv) hR
  · exact sd_is_fx (c_MO_suits2 hR hG hg ha hv2 hv) hR
  · exact sd_is_fx (c_MO_suits6 hR hG hg ha hv2 hv) hR
  · exact sd_is_fx (c_MO_suits4 hR hT hG hg ha hv2 hv) hR
  · exact sd_is_fx (c_MO_suits8 hR hG hH hg ha hv2 hv) hR
