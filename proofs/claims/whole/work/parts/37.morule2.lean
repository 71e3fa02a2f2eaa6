/-! ===== the model: rule, its parts for all kinds ===== -/
theorem sd_Ct.mono {G : sd_G} {M : sd_M} {d mc ms : Nat} {av : List Value} {h : sd_H} {nx : Nat} {Q Q' : sd_Q} (hc : sd_Ct G M d mc ms av h nx Q) (hq : ∀ r h' nx', Q r h' nx' → Q' r h' nx') : sd_Ct G M d mc ms av h nx Q' := by
  intro l p e a1 a2 a3 s m args below b1 b2 b3 b4
  obtain ⟨n, o, c1, c2, c3, ⟨⟨r, h', nx', d1, d2, d3⟩, d4⟩, d5⟩ := hc l p e a1 a2 a3 s m args below b1 b2 b3 b4
  exact ⟨n, o, c1, c2, c3, ⟨⟨r, h', nx', d1, hq _ _ _ d2, d3⟩, d4⟩, d5⟩
theorem fx_mono {G : sd_G} {M : sd_M} {d mc ms : Nat} {av : List Value} {h : sd_H} {nx o : Nat} {h0 : sd_H} {A : Nat → ClassId} {X : fx_S} {v : Option Value} {P P' : fx_D → Prop} (hc : sd_Ct G M d mc ms av h nx (fx_is A X o h0 nx v P)) (hp : ∀ D', P D' → P' D') : sd_Ct G M d mc ms av h nx (fx_is A X o h0 nx v P') :=
  hc.mono (fun r h' nx' q => by obtain ⟨q1, q2, D', q3, q4⟩ := q; exact ⟨q1, q2, D', q3, hp D' q4⟩)
theorem ru_there.in {S : st_S} {x y z w : Int32} {k a b c : Nat} (h : ru_there S x y z w k a b c) : ru_in S k a b c := by
  obtain ⟨-, h⟩ := h
  rcases h with ⟨h1, -, ha⟩ | ⟨h1, -, ha, -, hb⟩ | ⟨h1, -, ha, -, hb⟩ | ⟨h1, -, ha, -, hb, -, hc⟩
  · exact Or.inl ⟨h1, ha⟩
  · exact Or.inr (Or.inl ⟨h1, ha, hb⟩)
  · exact Or.inr (Or.inr (Or.inl ⟨h1, ha, hb⟩))
  · exact Or.inr (Or.inr (Or.inr ⟨h1, ha, hb, hc⟩))
theorem c_MO_fits {G : sd_G} {o : Nat} {D : fx_D} {h0 : sd_H} {nx v : Nat} {S : st_S} {a b c k : Nat} {x y z w : Int32} (hR : mo_R S D) (hT : st_okT S) (hH : st_okH S) (ht : ru_there S x y z w k a b c) (hv2 : v < 2) (hv : v = 1 ↔ ru_fit S k a b c = true) : sd_Ct G mMO_fits 3 0 0 [.ref (o + 0), .int x, .int y, .int z, .int w] (fx_h G.1.2 mo_S o D h0) nx (sd_is (some (.int (nI v))) (fx_h G.1.2 mo_S o D h0) nx) := by
  obtain ⟨rfl, h⟩ := ht
  rcases h with ⟨rfl | rfl | rfl, rfl, ha⟩ | ⟨rfl | rfl | rfl | rfl, rfl, ha, rfl, hb⟩ | ⟨rfl, rfl, ha, rfl, hb⟩ | ⟨rfl, rfl, ha, rfl, hb, rfl, hc⟩
  · exact c_MO_fits0 hR hv2 hv
  · exact c_MO_fits1 hR ha hv2 hv
  · exact c_MO_fits5 hR ha hv2 hv
  · exact c_MO_fits2 hR hH ha hb hv2 hv
  · exact c_MO_fits3 hR hT hH ha hb hv2 hv
  · exact c_MO_fits6 hR hH ha hb hv2 hv
  · exact c_MO_fits7 hR hH ha hb hv2 hv
  · exact c_MO_fits4 hR hH ha hb hv2 hv
  · exact c_MO_fits8 hR hH ha hb hc hv2 hv
/-- a row would be too long -/
def ru_bg1 (S : st_S) (k a b c : Nat) : Prop := (∀ L, ru_row S k a b c = some L → 24 < L.length) ∨ ∃ l ∈ ru_hr S k a b c, 24 < l.length
theorem ru_big_iff {S : st_S} {k a b c : Nat} : ru_big S k a b c = true ↔ ru_bg1 S k a b c ∨ 6 < (ru_hyp S k a b).length := by
  unfold ru_big ru_bg1
  cases h : ru_row S k a b c with
  | none => simp
  | some L => simp
/-- behind build, for all kinds -/
def bd_P (S : st_S) (k a b c : Nat) (D' : fx_D) : Prop := mo_R S D' ∧ mo_rw D' (ru_hyp S k a b) ∧ ((∃ L, ru_row S k a b c = some L ∧ L.length ≤ 24 ∧ mo_row D' 71 L ∧ (∀ j l, (ru_hr S k a b c)[j]? = some l → l.length ≤ 24 ∧ mo_row D' (64 + j) l) ∧ D'.2.1 0 7 = nI 0) ∨ (ru_bg1 S k a b c ∧ D'.2.1 0 7 = nI 1))
theorem bd_Q.P {S : st_S} {k a b c : Nat} {L : tl_T} {D' : fx_D} (hk : k ≠ 8) (hL : ru_row S k a b c = some L) (h : bd_Q S L (ru_hyp S k a b) D') : bd_P S k a b c D' := by
  obtain ⟨h1, h2, h3⟩ := h
  refine ⟨h1, h2, ?_⟩
  have he : ru_hr S k a b c = [] := by unfold ru_hr; rw [if_neg hk]
  rcases h3 with ⟨a1, a2, a3⟩ | ⟨a1, a2⟩
  · exact Or.inl ⟨L, hL, a1, a2, fun j l hj => by rw [he] at hj; simp at hj, a3⟩
  · exact Or.inr ⟨Or.inl (fun L' e => by rw [hL] at e; cases e; exact a1), a2⟩
theorem bd_Q8.P {S : st_S} {a b c : Nat} {D' : fx_D} (h : bd_Q8 S (ru_hr S 8 a b c) (tl_inst (st_tm S (st_cn S a)) b (st_tm S c)) D') : bd_P S 8 a b c D' := by
  obtain ⟨h1, h2, h3⟩ := h
  refine ⟨h1, h2, ?_⟩
  rcases h3 with ⟨a0, a1, a2, a3⟩ | ⟨a1 | a1, a2⟩
  · exact Or.inl ⟨_, rfl, a1, a2, a0, a3⟩
  · exact Or.inr ⟨Or.inr a1, a2⟩
  · exact Or.inr ⟨Or.inl (fun L' e => by cases e; exact a1), a2⟩
theorem c_MO_build {G : sd_G} {o : Nat} {D : fx_D} {h0 : sd_H} {nx : Nat} {S : st_S} {a b c k : Nat} {x y z w : Int32} (hB : G.2.1 ≤ o) (hR : mo_R S D) (hT : st_okT S) (hH : st_okH S) (hrw : mo_rw D []) (hov : D.2.1 0 7 = nI 0) (ht : ru_there S x y z w k a b c) (hf : ru_fit S k a b c = true) : sd_Ct G mMO_build 6 0 0 [.ref (o + 0), .int x, .int y, .int z, .int w] (fx_h G.1.2 mo_S o D h0) nx (fx_is G.1.2 mo_S o h0 nx none (bd_P S k a b c)) := by
  have hi := ht.in
  obtain ⟨rfl, h⟩ := ht
  rcases h with ⟨rfl | rfl | rfl, rfl, ha⟩ | ⟨rfl | rfl | rfl | rfl, rfl, ha, rfl, hb⟩ | ⟨rfl, rfl, ha, rfl, hb⟩ | ⟨rfl, rfl, ha, rfl, hb, rfl, hc⟩
  · exact fx_mono (c_MO_build0 hB hR hrw hov ha (ru_g1 hR hT hH hi hf rfl)) (fun D' h => bd_Q.P (by decide) rfl h)
  · exact fx_mono (c_MO_build1 hB hR hrw hov ha (ru_g1 hR hT hH hi hf rfl)) (fun D' h => bd_Q.P (by decide) rfl h)
  · exact fx_mono (c_MO_build5 hB hR hrw hov ha hf (ru_g1 hR hT hH hi hf rfl)) (fun D' h => bd_Q.P (by decide) rfl h)
  · have hf2 := hf
    unfold ru_fit at hf2
    simp only [Bool.and_eq_true] at hf2
    exact fx_mono (c_MO_build2 hB hR hH hrw hov ha hb hf2.1.1 hf2.1.2 (ru_g1 hR hT hH hi hf rfl)) (fun D' h => bd_Q.P (by decide) rfl h)
  · have hf2 := hf
    unfold ru_fit at hf2
    simp only [Bool.and_eq_true] at hf2
    exact fx_mono (c_MO_build3 hB hR hT hH hrw hov ha hb hf2.1.1.1 hf2.1.1.2 hf2.1.2 (ru_g1 hR hT hH hi hf rfl)) (fun D' h => bd_Q.P (by decide) rfl h)
  · have hf2 := hf
    unfold ru_fit at hf2
    simp only [Bool.and_eq_true] at hf2
    exact fx_mono (c_MO_build6 hB hR hH hrw hov ha hb hf2.1 (ru_g1 hR hT hH hi hf rfl)) (fun D' h => bd_Q.P (by decide) rfl h)
  · exact fx_mono (c_MO_build7 hB hR hH hrw hov ha hb (ru_g1 hR hT hH hi hf rfl)) (fun D' h => bd_Q.P (by decide) rfl h)
  · have hf2 := hf
    unfold ru_fit at hf2
    simp only [Bool.and_eq_true] at hf2
    cases hL : ru_row S 4 a b c with
    | none => exact fx_mono (c_MO_build4X hB hR hT hH hrw ha hb hf2.1 hL) (fun D' h => ⟨h.1, h.2.1, Or.inr ⟨Or.inl (fun L e => by rw [hL] at e; cases e), h.2.2⟩⟩)
    | some L => exact fx_mono (c_MO_build4 hB hR hT hH hrw hov ha hb hf2.1 hL (ru_g1 hR hT hH hi hf hL)) (fun D' h => bd_Q.P (by decide) hL h)
  · exact fx_mono (c_MO_build8 hB hR hH hrw hov ha hb hc (ru_hg1 hR hT hH ha hc) (ru_g1 hR hT hH hi hf rfl)) (fun D' h => bd_Q8.P h)
