/-! ===== the model: isTyped, the loop; its beginning ===== -/
theorem z_MO_typed0 {G : sd_G} {o : Nat} {D : fx_D} {h0 : sd_H} {nx k n : Nat} {Q : sd_Q} (hk : k < 24) (hn : n ≤ 24) (d6 : D.2.1 0 6 = nI n) (hq : Q (some (.int (nI 0))) (fx_h G.1.2 mo_S o D h0) nx) : sd_W G mMO_isTyped 4 0 0 Q 285 [(0, .ref (o + 0)), (1, .int (nI 0)), (2, .int (nI k))] [] (fx_h G.1.2 mo_S o D h0) nx 0 0 := by
  refine nn_iinc 1 dMO_isTyped_285 rfl (by decide) ?_
  refine sd_goto 54 dMO_isTyped_288 (by decide) ?_
  refine sd_iload_n dMO_isTyped_54 rfl rfl ?_
  refine sd_aload_n dMO_isTyped_55 rfl rfl ?_
  refine fx_getiv (v := (nI (n))) 10 6 dMO_isTyped_56 fMO_158 rfl rfl (d6) ?_
  refine nn_icmp_ge 291 dMO_isTyped_59 (by decide) (by omega) (by omega) (fun c59 => ?_) (fun c59 => ?_)
  ·
    refine sd_iload_n dMO_isTyped_291 rfl rfl ?_
    exact sd_zret dMO_isTyped_292 rfl (Or.inl rfl) (Nat.le_refl _) (Nat.le_refl _) hq
  ·
    refine sd_iload_n dMO_isTyped_62 rfl rfl ?_
    refine nn_if_eq 291 dMO_isTyped_63 (by decide) (by decide) (fun _ => ?_) (fun c => absurd c (by decide))
    refine sd_iload_n dMO_isTyped_291 rfl rfl ?_
    exact sd_zret dMO_isTyped_292 rfl (Or.inl rfl) (Nat.le_refl _) (Nat.le_refl _) hq
theorem z_MO_typed1 {G : sd_G} {o : Nat} {D : fx_D} {h0 : sd_H} {nx k : Nat} {Q : sd_Q} (kk : sd_W G mMO_isTyped 4 0 0 Q 54 [(0, .ref (o + 0)), (1, .int (nI 1)), (2, .int (nI (k + 1)))] [] (fx_h G.1.2 mo_S o D h0) nx 0 0) : sd_W G mMO_isTyped 4 0 0 Q 285 [(0, .ref (o + 0)), (1, .int (nI 1)), (2, .int (nI k))] [] (fx_h G.1.2 mo_S o D h0) nx 0 0 := by
  refine nn_iinc 1 dMO_isTyped_285 rfl (by decide) ?_
  refine sd_goto 54 dMO_isTyped_288 (by decide) ?_
  refine sd_locp (al' := [(0, .ref (o + (0))), (1, .int (nI (1))), (2, .int (nI (k + 1)))]) [1, 2, 0] rfl ?_
  exact kk
/-- behind isTyped -/
def it_yes (l : tl_T) (nt : Nat → Nat) (D0 : fx_D) (D : fx_D) : Prop := ∃ N K L R lk ρ, tg (eqs l nt l.length) 24 128 D N K L R lk ρ ∧ mo_fgr D0 D
def it_no (l : tl_T) (nt : Nat → Nat) (D0 : fx_D) (D : fx_D) : Prop := (∀ σ, eqs l nt l.length σ → False) ∧ mo_fgr D0 D
theorem l_MO_typed {G : sd_G} {o : Nat} {D0 : fx_D} {h0 : sd_H} {nx : Nat} {l : tl_T} {nt : Nat → Nat} (hB : G.2.1 ≤ o) (hr0 : mo_row D0 64 l) (hrow : ty_row l) (d60 : D0.2.1 0 6 = nI l.length) (hnt0 : mo_nt D0 nt) : ∀ (n k N : Nat) (D : fx_D) (K L R lk ρ : Nat → Nat), l.length = k + n → tg (eqs l nt k) k (72 + 7 * nm_c l k) D N K L R lk ρ → mo_fgr D0 D → sd_W G mMO_isTyped 4 0 0 (fx_b2 G.1.2 mo_S o h0 nx (it_yes l nt D0) (it_no l nt D0)) 54 [(0, .ref (o + 0)), (1, .int (nI 1)), (2, .int (nI k))] [] (fx_h G.1.2 mo_S o D h0) nx 0 0 := by
  have l24 := hrow.1
  intro n
  induction n with
  | zero =>
    intro k N D K L R lk ρ hk h hf
    have d6 : D.2.1 0 6 = nI l.length := by rw [hf.2.1 0 6 (by omega)]; exact d60
    have hm8 := nm_c_le l k
    have fin : fx_b2 G.1.2 mo_S o h0 nx (it_yes l nt D0) (it_no l nt D0) (some (.int (nI 1))) (fx_h G.1.2 mo_S o D h0) nx := ⟨rfl, D, rfl, Or.inl ⟨rfl, N, K, L, R, lk, ρ, by rw [show l.length = k by omega]; exact h.c (by omega) (by omega), hf⟩⟩
    refine sd_iload_n dMO_isTyped_54 rfl rfl ?_
    refine sd_aload_n dMO_isTyped_55 rfl rfl ?_
    refine fx_getiv (v := (nI (l.length))) 10 6 dMO_isTyped_56 fMO_158 rfl rfl (d6) ?_
    refine nn_icmp_ge 291 dMO_isTyped_59 (by decide) (by omega) (by omega) (fun c59 => ?_) (fun c59 => ?_)
    ·
      refine sd_iload_n dMO_isTyped_291 rfl rfl ?_
      exact sd_zret dMO_isTyped_292 rfl (Or.inr rfl) (Nat.le_refl _) (Nat.le_refl _) fin
    ·
      exact absurd c59 (by omega)
  | succ n ih =>
    intro k N D K L R lk ρ hk h hf
    have d6 : D.2.1 0 6 = nI l.length := by rw [hf.2.1 0 6 (by omega)]; exact d60
    have hr := mo_row_gr hf hr0
    have K1 : ∀ (D' : fx_D) N' K' L' R' lk' ρ', tg (eqs l nt (k + 1)) (k + 1) (72 + 7 * nm_c l (k + 1)) D' N' K' L' R' lk' ρ' → mo_fgr D D' → sd_W G mMO_isTyped 4 0 0 (fx_b2 G.1.2 mo_S o h0 nx (it_yes l nt D0) (it_no l nt D0)) 285 [(0, .ref (o + 0)), (1, .int (nI 1)), (2, .int (nI k))] [] (fx_h G.1.2 mo_S o D' h0) nx 0 0 := fun D' N' K' L' R' lk' ρ' a b => z_MO_typed1 (ih (k + 1) N' D' K' L' R' lk' ρ' (by omega) a (hf.tr b))
    have K0 : ∀ D' : fx_D, (∀ σ, eqs l nt (k + 1) σ → False) → mo_fgr D D' → sd_W G mMO_isTyped 4 0 0 (fx_b2 G.1.2 mo_S o h0 nx (it_yes l nt D0) (it_no l nt D0)) 285 [(0, .ref (o + 0)), (1, .int (nI 0)), (2, .int (nI k))] [] (fx_h G.1.2 mo_S o D' h0) nx 0 0 := fun D' a b => z_MO_typed0 (by omega) l24 (by rw [b.2.1 0 6 (by omega)]; exact d6) ⟨rfl, D', rfl, Or.inr ⟨rfl, fun σ hσ => a σ (fun j hj => hσ j (by omega)), hf.tr b⟩⟩
    by_cases h8 : (tl_at l k).1 < 8
    · exact s_MO_name hB hr hrow d6 (by omega) h (mo_nt_gr hf hnt0) h8 K1 K0
    · by_cases e8 : (tl_at l k).1 = 8
      · exact s_MO_app hB hr hrow d6 (by omega) h e8 K1 K0
      · by_cases e9 : (tl_at l k).1 = 9
        · exact s_MO_eq hB hr hrow d6 (by omega) h e9 K1 K0
        · by_cases e10 : (tl_at l k).1 = 10
          · exact s_MO_lam hB hr hrow d6 (by omega) h e10 K1 K0
          · exact s_MO_var hB hr hrow d6 (by omega) h (by omega) K1 K0
/-- the graph at its beginning -/
def K0_ (n : Nat) : Nat := if n = 192 then 1 else if n = 193 then 2 else 0
theorem gst_0 {D : fx_D} (h : ∀ n, ac 72 n → D.1 23 n = nI (K0_ n) ∧ D.1 24 n = nI 0 ∧ D.1 25 n = nI 0 ∧ D.1 26 n = nI n) (h37 : D.2.1 0 37 = nI 72) (P : (Nat → ft) → Prop) (hP : ∀ σ, P σ) : tg P 0 72 D 72 K0_ (fun _ => 0) (fun _ => 0) (fun n => n) (fun n => n) := by
  have k3 : ∀ n, K0_ n ≠ 3 := fun n => by unfold K0_; split; omega; split <;> omega
  refine ⟨⟨h, ⟨by omega, fun n => ?_, fun n hn => ⟨Or.inl (show 0 < 72 by omega), Or.inl (show 0 < 72 by omega), hn⟩, fun n hn => ⟨?_, rfl⟩⟩, ⟨fun n => rfl, fun n => ⟨0, rfl⟩⟩, ⟨fun n => rfl, fun n _ => rfl, fun n hn => absurd hn (k3 n)⟩, h37, rfl, rfl⟩, Nat.le_refl _, Nat.le_refl _, fun j a b => ⟨?_, fun n e => e, rfl, fun n hn => absurd hn (k3 n)⟩, fun τ _ _ => hP τ, fun σ _ => ⟨fun n => if n = 192 then .nil else if n = 193 then .line else σ n, fun n => ⟨fun k => ?_, fun k => ?_, fun k => absurd k (k3 n)⟩, fun n => rfl, fun n hn => ?_⟩⟩
  · unfold K0_; split; omega; split <;> omega
  · unfold ac at hn
    unfold K0_
    rw [if_neg (by omega), if_neg (by omega)]
  · unfold K0_
    rw [if_neg (by omega), if_neg (by omega)]
  · have e : n = 192 := by
      unfold K0_ at k
      split at k
      · assumption
      · split at k <;> omega
    simp [e]
  · have e : n = 193 := by
      unfold K0_ at k
      split at k
      · omega
      · split at k
        · assumption
        · omega
    simp [e]
  · simp only [show ¬ n = 192 by omega, show ¬ n = 193 by omega, if_false]
theorem l_MO_typed0 {G : sd_G} {o : Nat} {D0 : fx_D} {h0 : sd_H} {nx : Nat} {Q : sd_Q} (hB : G.2.1 ≤ o) (KK : ∀ D' : fx_D, (∀ n, ac 72 n → D'.1 23 n = nI (K0_ n) ∧ D'.1 24 n = nI 0 ∧ D'.1 25 n = nI 0 ∧ D'.1 26 n = nI n) → D'.2.1 0 37 = nI 72 → mo_fgr D0 D' → sd_W G mMO_isTyped 4 0 0 Q 50 [(0, .ref (o + 0))] [] (fx_h G.1.2 mo_S o D' h0) nx 0 0) : ∀ (m j : Nat) (D : fx_D), 72 = j + m → (∀ n, ac j n → D.1 23 n = nI (K0_ n) ∧ D.1 24 n = nI 0 ∧ D.1 25 n = nI 0 ∧ D.1 26 n = nI n) → D.2.1 0 37 = nI j → mo_fgr D0 D → sd_W G mMO_isTyped 4 0 0 Q 30 [(0, .ref (o + 0)), (1, .int (nI j))] [] (fx_h G.1.2 mo_S o D h0) nx 0 0 := by
  intro m
  induction m with
  | zero =>
    intro j D hj h h37 hf
    obtain rfl : j = 72 := by omega
    refine sd_iload_n dMO_isTyped_30 rfl rfl ?_
    refine sd_bipush (v := nI 72) dMO_isTyped_31 (by decide) ?_
    refine nn_icmp_ge 50 dMO_isTyped_33 (by decide) (by decide) (by decide) (fun _ => ?_) (fun c => absurd c (by decide))
    refine sd_locp (al' := [(0, .ref (o + (0)))]) [0] rfl ?_
    exact KK D h h37 hf
  | succ m ih =>
    intro j D hj h h37 hf
    have nxt := ih (j + 1) (fr_D D j (nI 0) (nI 0) (nI 0)) (by omega) (fun n hn => by
      by_cases e : n = j
      · subst e
        have k0 : K0_ n = 0 := by unfold K0_; rw [if_neg (by omega), if_neg (by omega)]
        rw [k0]
        exact ⟨by simp [fr_D, fx_ua, fx_uf, upd], by simp [fr_D, fx_ua, fx_uf, upd], by simp [fr_D, fx_ua, fx_uf, upd], by simp [fr_D, fx_ua, fx_uf, upd]⟩
      · obtain ⟨a, b, c, d⟩ := h n (by unfold ac at *; omega)
        exact ⟨by simpa [fr_D, fx_ua, fx_uf, upd, e] using a, by simpa [fr_D, fx_ua, fx_uf, upd, e] using b, by simpa [fr_D, fx_ua, fx_uf, upd, e] using c, by simpa [fr_D, fx_ua, fx_uf, upd, e] using d⟩) (by simp [fr_D, fx_ua, fx_uf, upd]) (hf.tr (mo_fgr.fr D))
    refine sd_iload_n dMO_isTyped_30 rfl rfl ?_
    refine sd_bipush (v := nI 72) dMO_isTyped_31 (by decide) ?_
    refine nn_icmp_ge 50 dMO_isTyped_33 (by decide) (by omega) (by omega) (fun c33 => ?_) (fun c33 => ?_)
    ·
      exact absurd c33 (by omega)
    ·
      refine sd_aload_n dMO_isTyped_36 rfl rfl ?_
      refine sd_iconst (v := nI 0) dMO_isTyped_37 (by decide) ?_
      refine sd_iconst (v := nI 0) dMO_isTyped_38 (by decide) ?_
      refine sd_iconst (v := nI 0) dMO_isTyped_39 (by decide) ?_
      refine fx_cV 10 sR_MO [.int (nI (0)), .int (nI (0)), .int (nI (0))] [] dMO_isTyped_40 kMO_164 rfl rfl mMO_fresh_v (c_MO_fresh hB (by omega) h37) (by decide) (Nat.le_refl _) (Nat.le_refl _) (Nat.le_of_ble_eq_true rfl) rfl ?_
      refine sd_pop dMO_isTyped_43 rfl ?_
      refine nn_iinc 1 dMO_isTyped_44 rfl (by decide) ?_
      refine sd_goto 30 dMO_isTyped_47 (by decide) ?_
      refine sd_locp (al' := [(0, .ref (o + (0))), (1, .int (nI (j + 1)))]) [1, 0] rfl ?_
      exact nxt
theorem c_MO_isTyped {G : sd_G} {o : Nat} {D : fx_D} {h0 : sd_H} {nx : Nat} {l : tl_T} {nt : Nat → Nat} (hB : G.2.1 ≤ o) (hr : mo_row D 64 l) (hrow : ty_row l) (d6 : D.2.1 0 6 = nI l.length) (hnt : mo_nt D nt) : sd_Ct G mMO_isTyped 4 0 0 [.ref (o + 0)] (fx_h G.1.2 mo_S o D h0) nx (fx_b2 G.1.2 mo_S o h0 nx (it_yes l nt D) (it_no l nt D)) := by
  refine sd_Ct_of (by decide) (Nat.le_of_ble_eq_true rfl) ?_
  have body : ∀ D' : fx_D, (∀ n, ac 72 n → D'.1 23 n = nI (K0_ n) ∧ D'.1 24 n = nI 0 ∧ D'.1 25 n = nI 0 ∧ D'.1 26 n = nI n) → D'.2.1 0 37 = nI 72 → mo_fgr D D' → sd_W G mMO_isTyped 4 0 0 (fx_b2 G.1.2 mo_S o h0 nx (it_yes l nt D) (it_no l nt D)) 50 [(0, .ref (o + 0))] [] (fx_h G.1.2 mo_S o D' h0) nx 0 0 := by
    intro D' a b c
    have nxt := l_MO_typed (G := G) (o := o) (h0 := h0) (nx := nx) hB hr hrow d6 hnt l.length 0 72 D' K0_ (fun _ => 0) (fun _ => 0) (fun n => n) (fun n => n) (by omega) ((gst_0 a b (eqs l nt 0) (fun σ j hj => absurd hj (by omega))).c (Nat.le_refl _) (by omega)) c
    refine sd_iconst (v := nI 1) dMO_isTyped_50 (by decide) ?_
    refine sd_istore_n dMO_isTyped_51 rfl (by decide) ?_
    refine sd_iconst (v := nI 0) dMO_isTyped_52 (by decide) ?_
    refine sd_istore_n dMO_isTyped_53 rfl (by decide) ?_
    refine sd_locp (al' := [(0, .ref (o + (0))), (1, .int (nI (1))), (2, .int (nI (0)))]) [2, 1, 0] rfl ?_
    exact nxt
  have f0 : mo_fgr D (fx_uf (fr_D (fr_D (fx_uf D 0 37 (nI 192)) 192 (nI 1) (nI 0) (nI 0)) (192 + 1) (nI 2) (nI 0) (nI 0)) 0 37 (nI 0)) := (((mo_fgr.uf D).tr (mo_fgr.fr _)).tr (mo_fgr.fr _)).tr (mo_fgr.uf _)
  have nxt := l_MO_typed0 (G := G) (o := o) (h0 := h0) (nx := nx) (D0 := D) hB body 72 0 _ (by omega) (fun n hn => by
    unfold ac at hn
    rcases (show n = 192 ∨ n = 193 by omega) with e | e
    · subst e
      exact ⟨by simp [fr_D, fx_ua, fx_uf, upd, K0_], by simp [fr_D, fx_ua, fx_uf, upd], by simp [fr_D, fx_ua, fx_uf, upd], by simp [fr_D, fx_ua, fx_uf, upd]⟩
    · subst e
      exact ⟨by simp [fr_D, fx_ua, fx_uf, upd, K0_], by simp [fr_D, fx_ua, fx_uf, upd], by simp [fr_D, fx_ua, fx_uf, upd], by simp [fr_D, fx_ua, fx_uf, upd]⟩) (by simp [fx_uf, upd]) f0
  refine sd_aload_n dMO_isTyped_0 rfl rfl ?_
  refine sd_sipush (v := nI 192) dMO_isTyped_1 (by decide) ?_
  refine fx_puti 10 37 dMO_isTyped_4 fMO_161 rfl rfl rfl rfl hB ?_
  refine sd_aload_n dMO_isTyped_7 rfl rfl ?_
  refine sd_iconst (v := nI 1) dMO_isTyped_8 (by decide) ?_
  refine sd_iconst (v := nI 0) dMO_isTyped_9 (by decide) ?_
  refine sd_iconst (v := nI 0) dMO_isTyped_10 (by decide) ?_
  refine fx_cV 10 sR_MO [.int (nI (1)), .int (nI (0)), .int (nI (0))] [] dMO_isTyped_11 kMO_164 rfl rfl mMO_fresh_v (c_MO_fresh (n := 192) hB (by omega) (by simp [fx_uf, upd])) (by decide) (Nat.le_refl _) (Nat.le_refl _) (Nat.le_of_ble_eq_true rfl) rfl ?_
  refine sd_pop dMO_isTyped_14 rfl ?_
  refine sd_aload_n dMO_isTyped_15 rfl rfl ?_
  refine sd_iconst (v := nI 2) dMO_isTyped_16 (by decide) ?_
  refine sd_iconst (v := nI 0) dMO_isTyped_17 (by decide) ?_
  refine sd_iconst (v := nI 0) dMO_isTyped_18 (by decide) ?_
  refine fx_cV 10 sR_MO [.int (nI (2)), .int (nI (0)), .int (nI (0))] [] dMO_isTyped_19 kMO_164 rfl rfl mMO_fresh_v (c_MO_fresh (n := 192 + 1) hB (by omega) (by simp [fr_D, fx_ua, fx_uf, upd])) (by decide) (Nat.le_refl _) (Nat.le_refl _) (Nat.le_of_ble_eq_true rfl) rfl ?_
  refine sd_pop dMO_isTyped_22 rfl ?_
  refine sd_aload_n dMO_isTyped_23 rfl rfl ?_
  refine sd_iconst (v := nI 0) dMO_isTyped_24 (by decide) ?_
  refine fx_puti 10 37 dMO_isTyped_25 fMO_161 rfl rfl rfl rfl hB ?_
  refine sd_iconst (v := nI 0) dMO_isTyped_28 (by decide) ?_
  refine sd_istore_n dMO_isTyped_29 rfl (by decide) ?_
  refine sd_locp (al' := [(0, .ref (o + (0))), (1, .int (nI (0)))]) [1, 0] rfl ?_
  exact nxt
