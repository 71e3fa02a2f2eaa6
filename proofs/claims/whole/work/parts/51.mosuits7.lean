/-! ===== the model: suits, kind 4's loop ===== -/
theorem tl_nm_ex {l : tl_T} {v : Nat} : tl_nm l v = true ↔ ∃ x ∈ l, x.1 = v := by
  unfold tl_nm
  simp only [List.any_eq_true, beq_iff_eq]
theorem l_MO_suits4 {G : sd_G} {o : Nat} {D : fx_D} {h0 : sd_H} {nx v g y : Nat} {S : st_S} (hR : mo_R S D) (hG : st_okG S) (hg : g < (st_gl S).length) (hy : y < 8) (hv2 : v < 2) : ∀ (n j : Nat), (st_gh S g).length = j + n → (v = 1 ↔ ∀ t ∈ (st_gh S g).drop j, ¬ tl_nm (st_tm S t) y = true) → sd_W G mMO_suits 6 0 0 (sd_is (some (.int (nI v))) (fx_h G.1.2 mo_S o D h0) nx) 255 [(0, .ref (o + 0)), (2, .int (nI y)), (3, .int (nI g)), (6, .int (nI j))] [] (fx_h G.1.2 mo_S o D h0) nx 0 0 := by
  obtain ⟨g1, g2, g3, g4, g5, g6⟩ := mo_gg hR hG hg
  have h64 := hR.2.1.1
  intro n
  induction n with
  | zero =>
    intro j hj hv
    rw [List.drop_eq_nil_of_le (by omega)] at hv
    obtain rfl : v = 1 := hv.mpr (fun t h => by simp at h)
    refine sd_iload dMO_suits_255 rfl ?_
    refine sd_aload_n dMO_suits_257 rfl rfl ?_
    refine fx_getr 10 18 (14) dMO_suits_258 fMO_49 rfl rfl ?_
    refine sd_iload_n dMO_suits_261 rfl rfl ?_
    refine fx_ialdv (v := (nI ((st_gh S g).length))) (g) dMO_suits_262 rfl rfl (by omega) (by decide) (g4) ?_
    refine nn_icmp_ge 294 dMO_suits_263 (by decide) (by omega) (by omega) (fun c263 => ?_) (fun c263 => ?_)
    ·
      refine sd_iconst (v := nI 1) dMO_suits_294 (by decide) ?_
      exact sd_zret dMO_suits_295 rfl (Or.inr rfl) (Nat.le_refl _) (Nat.le_refl _) ⟨rfl, rfl, rfl⟩
    ·
      exact absurd c263 (by omega)
  | succ n ih =>
    intro j hj hv
    have hx : (st_gh S g)[j]? = some (st_gh S g)[j] := List.getElem?_eq_getElem (by omega)
    have hdr : (st_gh S g).drop j = (st_gh S g)[j] :: (st_gh S g).drop (j + 1) := List.drop_eq_getElem_cons (by omega)
    generalize (st_gh S g)[j] = u at hx hdr
    obtain ⟨u1, u2⟩ := g6 j u hx
    obtain ⟨-, m1, m2, m3⟩ := mo_tm hR u2
    rw [hdr, List.forall_mem_cons] at hv
    obtain ⟨w, w2, w1⟩ := bw_b (tl_nm (st_tm S u) y = true)
    refine sd_iload dMO_suits_255 rfl ?_
    refine sd_aload_n dMO_suits_257 rfl rfl ?_
    refine fx_getr 10 18 (14) dMO_suits_258 fMO_49 rfl rfl ?_
    refine sd_iload_n dMO_suits_261 rfl rfl ?_
    refine fx_ialdv (v := (nI ((st_gh S g).length))) (g) dMO_suits_262 rfl rfl (by omega) (by decide) (g4) ?_
    refine nn_icmp_ge 294 dMO_suits_263 (by decide) (by omega) (by omega) (fun c263 => ?_) (fun c263 => ?_)
    ·
      exact absurd c263 (by omega)
    ·
      refine sd_aload_n dMO_suits_266 rfl rfl ?_
      refine sd_aload_n dMO_suits_267 rfl rfl ?_
      refine fx_getr 10 19 (15) dMO_suits_268 fMO_52 rfl rfl ?_
      refine sd_bipush (v := nI 6) dMO_suits_271 (by decide) ?_
      refine sd_iload_n dMO_suits_273 rfl rfl ?_
      refine nn_imul dMO_suits_274 ?_
      refine sd_iload dMO_suits_275 rfl ?_
      refine nn_iadd dMO_suits_277 ?_
      refine fx_ialdv (v := (nI (u))) ((6 * g) + j) dMO_suits_278 rfl rfl (by omega) (by decide) (u1) ?_
      refine sd_iload_n dMO_suits_279 rfl rfl ?_
      refine fx_cV 10 sR_MO [.int (nI (u)), .int (nI (y))] [] dMO_suits_280 kMO_231 rfl rfl mMO_names_v (c_MO_names (by omega) m1 (by omega) w2 (by rw [w1, tl_nm_ex])) (by decide) (Nat.le_refl _) (Nat.le_refl _) (Nat.le_of_ble_eq_true rfl) rfl ?_
      refine nn_if_eq 288 dMO_suits_283 (by decide) (by omega) (fun c283 => ?_) (fun c283 => ?_)
      ·
        refine nn_iinc 1 dMO_suits_288 rfl (by decide) ?_
        refine sd_goto 255 dMO_suits_291 (by decide) ?_
        refine sd_locp (al' := [(0, .ref (o + (0))), (2, .int (nI (y))), (3, .int (nI (g))), (6, .int (nI (j + 1)))]) [1, 2, 3, 0] rfl ?_
        exact ih (j + 1) (by omega) (by rw [hv]; exact and_iff_right (fun e => absurd (w1.mpr e) (by omega)))
      ·
        refine sd_iconst (v := nI 0) dMO_suits_286 (by decide) ?_
        have hne : ¬ v = 1 := fun e => (hv.mp e).1 (w1.mp (by omega))
        obtain rfl : v = 0 := by omega
        exact sd_zret dMO_suits_287 rfl (Or.inl rfl) (Nat.le_refl _) (Nat.le_refl _) ⟨rfl, rfl, rfl⟩
