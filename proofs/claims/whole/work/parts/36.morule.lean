/-! ===== the model: rule ===== -/
theorem mo_R_keep {S : st_S} {D D' : fx_D} {T' : List tl_T} (hR : mo_R S D) (hT : mo_terms D' T') (hf : mo_fr D D') : mo_R (S.1, T', S.2.2) D' := by
  obtain ⟨f1, f2, f3, f4, f5⟩ := hf
  obtain ⟨r1, r2, r3, r4, r5, r6, r7, r8⟩ := hR
  have fi : ∀ j, j ≠ 5 → D'.2.1 0 j = D.2.1 0 j := fun j hj => f2 0 j (fun z => hj z.2)
  refine ⟨fun v hv => ?_, hT, fun q h1 h2 => ?_, ⟨r4.1, by rw [fi 6 (by decide)]; exact r4.2.1, fun k x hx => ?_⟩, ⟨r5.1, by rw [fi 14 (by decide)]; exact r5.2.1, fun p h hp => ?_⟩, ⟨r6.1, by rw [fi 27 (by decide)]; exact r6.2.1, fun g q hg => ?_⟩, ⟨r7.1, by rw [fi 28 (by decide)]; exact r7.2.1, fun k g hg => ?_⟩, ⟨r8.1, by rw [fi 29 (by decide)]; exact r8.2.1, fun k g hg => ?_⟩⟩
  · rw [f1 4 (by decide) (by decide) (by decide)]; exact r1 v hv
  · obtain ⟨k, k1, k2⟩ := r3 q h1 h2
    exact ⟨k, k1, by rw [f5 q h1]; exact k2⟩
  · rw [f1 5 (by decide) (by decide) (by decide)]; exact r4.2.2 k x hx
  · rw [f1 6 (by decide) (by decide) (by decide), f1 7 (by decide) (by decide) (by decide), f1 8 (by decide) (by decide) (by decide), f1 9 (by decide) (by decide) (by decide), f1 10 (by decide) (by decide) (by decide), f1 11 (by decide) (by decide) (by decide)]
    exact r5.2.2 p h hp
  · rw [f1 13 (by decide) (by decide) (by decide), f1 14 (by decide) (by decide) (by decide), f1 15 (by decide) (by decide) (by decide), f1 16 (by decide) (by decide) (by decide), f1 17 (by decide) (by decide) (by decide), f1 18 (by decide) (by decide) (by decide), f1 19 (by decide) (by decide) (by decide)]
    exact r6.2.2 g q hg
  · rw [f1 20 (by decide) (by decide) (by decide)]; exact r7.2.2 k g hg
  · rw [f1 21 (by decide) (by decide) (by decide)]; exact r8.2.2 k g hg
theorem mo_R_note {S : st_S} {D D' : fx_D} {L' : List st_Th} (hR : mo_R S D) (hL : mo_th D' L') (hf : mo_fn D D') : mo_R (S.1, S.2.1, S.2.2.1, L', S.2.2.2.2) D' := by
  obtain ⟨f1, f2, f3⟩ := hf
  obtain ⟨r1, r2, r3, r4, r5, r6, r7, r8⟩ := hR
  have fi : ∀ j, j ≠ 14 → D'.2.1 0 j = D.2.1 0 j := fun j hj => f2 0 j (fun z => hj z.2)
  have fr : ∀ q l, mo_row D q l → mo_row D' q l := fun q l h => ⟨h.1, by rw [f1 3 (by omega)]; exact h.2.1, fun k x hx => by rw [f1 1 (by omega), f1 2 (by omega)]; exact h.2.2 k x hx⟩
  refine ⟨fun v hv => ?_, ⟨r2.1, by rw [fi 5 (by decide)]; exact r2.2.1, fun t l ht => ⟨fr t l (r2.2.2 t l ht).1, (r2.2.2 t l ht).2⟩⟩, fun q h1 h2 => ?_, ⟨r4.1, by rw [fi 6 (by decide)]; exact r4.2.1, fun k x hx => ?_⟩, hL, ⟨r6.1, by rw [fi 27 (by decide)]; exact r6.2.1, fun g q hg => ?_⟩, ⟨r7.1, by rw [fi 28 (by decide)]; exact r7.2.1, fun k g hg => ?_⟩, ⟨r8.1, by rw [fi 29 (by decide)]; exact r8.2.1, fun k g hg => ?_⟩⟩
  · rw [f1 4 (by omega)]; exact r1 v hv
  · obtain ⟨k, k1, k2⟩ := r3 q h1 h2
    exact ⟨k, k1, by rw [f1 3 (by omega)]; exact k2⟩
  · rw [f1 5 (by omega)]; exact r4.2.2 k x hx
  · rw [f1 13 (by omega), f1 14 (by omega), f1 15 (by omega), f1 16 (by omega), f1 17 (by omega), f1 18 (by omega), f1 19 (by omega)]
    exact r6.2.2 g q hg
  · rw [f1 20 (by omega)]; exact r7.2.2 k g hg
  · rw [f1 21 (by omega)]; exact r8.2.2 k g hg
/-- fields that no part of the state speaks of -/
theorem mo_R_f {S : st_S} {D : fx_D} {j : Nat} {v : Int32} (hR : mo_R S D) (hj : j = 7 ∨ j = 16) : mo_R S (fx_uf D 0 j v) := by
  obtain ⟨r1, r2, r3, r4, r5, r6, r7, r8⟩ := hR
  have fi : ∀ i, i ≠ 7 → i ≠ 16 → (fx_uf D 0 j v).2.1 0 i = D.2.1 0 i := fun i h1 h2 => by simp [fx_uf, upd, show ¬ i = j by omega]
  exact ⟨r1, ⟨r2.1, by rw [fi 5 (by decide) (by decide)]; exact r2.2.1, r2.2.2⟩, r3, ⟨r4.1, by rw [fi 6 (by decide) (by decide)]; exact r4.2.1, r4.2.2⟩, ⟨r5.1, by rw [fi 14 (by decide) (by decide)]; exact r5.2.1, r5.2.2⟩, ⟨r6.1, by rw [fi 27 (by decide) (by decide)]; exact r6.2.1, r6.2.2⟩, ⟨r7.1, by rw [fi 28 (by decide) (by decide)]; exact r7.2.1, r7.2.2⟩, ⟨r8.1, by rw [fi 29 (by decide) (by decide)]; exact r8.2.1, r8.2.2⟩⟩
