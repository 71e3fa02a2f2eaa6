/-! ===== the class's Inference: what the symbols ask for ===== -/
/-- what kinds there are -/
def co_K (K : Nat → Nat) : Prop := (∀ n, n < 50 → K n = K1_ n) ∧ ∀ n, 50 ≤ n → K n = 0 ∨ K n = 3
def sat (P : List (Nat × Nat)) (σ : Nat → ft) : Prop := ∀ p ∈ P, σ p.1 = σ p.2
/-- the first k symbols have been asked -/
def co_I (l : tl_T) (nt : Nat → Nat) (k N : Nat) (K L R : Nat → Nat) (P : List (Nat × Nat)) : Prop :=
  (∀ σ, gsol K L R σ → sat P σ → ∀ j, j < k → eqn l nt j σ) ∧
  (∀ σ, (∀ j, j < k → eqn l nt j σ) → ∃ τ, gsol K L R τ ∧ sat P τ ∧ ∀ n, n < 48 → τ n = σ n) ∧
  (∀ n, 50 ≤ n → n < N → ∀ σ, gsol K L R σ → sat P σ → tt_len (σ n) ≤ 24 ∨ ∃ j, j < l.length ∧ σ n = σ j) ∧
  N ≤ 50 + 7 * k ∧ P.length ≤ 2 * k ∧ co_K K
theorem co_0 (l : tl_T) (nt : Nat → Nat) : co_I l nt 0 50 K1_ (fun _ => 0) (fun _ => 0) [] := by
  refine ⟨fun σ _ _ j hj => by omega, fun σ _ => ⟨fun n => if n = 48 then .nil else if n = 49 then .line else σ n, fun n => ?_, fun p hp => (by cases hp), fun n hn => ?_⟩, fun n h1 h2 => by omega, by omega, by simp, fun _ _ => rfl, fun n hn => Or.inl (by unfold K1_; rw [if_neg (by omega), if_neg (by omega)])⟩
  · unfold K1_
    by_cases e1 : n = 48
    · subst e1
      exact ⟨fun _ => rfl, fun q => by simp at q, fun q => by simp at q⟩
    · by_cases e2 : n = 49
      · subst e2
        exact ⟨fun q => by simp at q, fun _ => rfl, fun q => by simp at q⟩
      · simp only [e1, e2, if_false]
        exact ⟨fun q => by omega, fun q => by omega, fun q => by omega⟩
  · simp only [show ¬ n = 48 by omega, show ¬ n = 49 by omega, if_false]
theorem bd_le (l : tl_T) (j : Nat) : bd l j ≤ j := bdr_lt j _
theorem eqn_48 {l : tl_T} {nt : Nat → Nat} {k : Nat} {σ σ' : Nat → ft} (hr : ty_row l) (hk : k < l.length) (e : ∀ n, n < 48 → σ n = σ' n) (h : eqn l nt k σ) : eqn l nt k σ' := by
  obtain ⟨h1, h2, h3, h4, h5⟩ := h
  obtain ⟨-, r2, r1⟩ := hr.2 k hk
  have l24 := hr.1
  refine ⟨fun q => ?_, fun q => ?_, fun q => ?_, fun q => ?_, fun q => ?_⟩
  · rw [← e k (by omega)]
    exact h1 q
  · have q2 := r2 (by rw [q]; rfl)
    have q1 := r1 (by rw [q]; decide)
    rw [← e k (by omega), ← e (k + 1) (by omega), ← e _ (show tl_end l (k + 1) < 48 by omega)]
    exact h2 q
  · have q2 := r2 (by rw [q]; rfl)
    have q1 := r1 (by rw [q]; decide)
    rw [← e k (by omega), ← e (k + 1) (by omega), ← e _ (show tl_end l (k + 1) < 48 by omega)]
    exact h3 q
  · have q1 := r1 (by rw [q]; decide)
    rw [← e k (by omega), ← e (k + 1) (by omega), ← e (24 + k) (by omega)]
    exact h4 q
  · have := bd_le l k
    rw [← e k (by omega), ← e (24 + bd l k) (by omega)]
    exact h5 q
theorem sat_app {P Q : List (Nat × Nat)} {σ : Nat → ft} : sat (P ++ Q) σ ↔ sat P σ ∧ sat Q σ := ⟨fun h => ⟨fun p hp => h p (List.mem_append_left _ hp), fun p hp => h p (List.mem_append_right _ hp)⟩, fun h p hp => (List.mem_append.mp hp).elim (h.1 p) (h.2 p)⟩
theorem co_step {l : tl_T} {nt : Nat → Nat} {k N N' : Nat} {K L R K' L' R' lk : Nat → Nat} {P Q : List (Nat × Nat)} (hr : ty_row l) (hk : k < l.length) (hb : in_B N K L R lk) (h : co_I l nt k N K L R P) (hP : ∀ p ∈ P, p.1 < N ∧ p.2 < N) (gx : gxx N K L R N' K' L' R') (ha : ∀ σ, gsol K' L' R' σ → sat Q σ → eqn l nt k σ) (hb2 : ∀ σ, gsol K' L' R' σ → eqn l nt k σ → sat Q σ) (hc : ∀ n, N ≤ n → n < N' → ∀ σ, gsol K' L' R' σ → sat Q σ → tt_len (σ n) ≤ 24 ∨ ∃ j, j < l.length ∧ σ n = σ j) (hN : N' ≤ N + 7) (hQ : Q.length ≤ 2) (hK : ∀ n, N ≤ n → K' n = 0 ∨ K' n = 3) : co_I l nt (k + 1) N' K' L' R' (P ++ Q) := by
  obtain ⟨h1, h2, h3, h4, h5, h6, h7⟩ := h
  have b1 := hb.1
  refine ⟨fun σ g s j hj => ?_, fun σ hσ => ?_, fun n q1 q2 σ g s => ?_, by omega, by simp only [List.length_append]; omega, fun n hn => by rw [(gx.2.1 n (by omega)).1]; exact h6 n hn, fun n hn => by
    by_cases z : n < N
    · rw [(gx.2.1 n z).1]
      exact h7 n hn
    · exact hK n (by omega)⟩
  · obtain ⟨s1, s2⟩ := sat_app.mp s
    by_cases e : j = k
    · subst e
      exact ha σ g s2
    · exact h1 σ (gx.back hb g) s1 j (by omega)
  · obtain ⟨τ, t1, t2, t3⟩ := h2 σ (fun j hj => hσ j (by omega))
    obtain ⟨τ', u1, u2⟩ := gx.2.2 τ t1
    have ag : ∀ n, n < 48 → σ n = τ' n := fun n hn => by rw [u2 n (by omega), t3 n hn]
    refine ⟨τ', u1, sat_app.mpr ⟨fun p hp => ?_, hb2 τ' u1 (eqn_48 hr hk ag (hσ k (by omega)))⟩, fun n hn => (ag n hn).symm⟩
    obtain ⟨p1, p2⟩ := hP p hp
    rw [u2 _ p1, u2 _ p2]
    exact t2 p hp
  · obtain ⟨s1, s2⟩ := sat_app.mp s
    by_cases e : n < N
    · exact h3 n q1 e σ (gx.back hb g) s1
    · exact hc n (by omega) q2 σ g s2
theorem sat_1 {a b : Nat} {σ : Nat → ft} : sat [(a, b)] σ ↔ σ a = σ b := ⟨fun h => h (a, b) (by simp), fun h p hp => by simp at hp; subst hp; exact h⟩
theorem sat_2 {a b c d : Nat} {σ : Nat → ft} : sat [(a, b), (c, d)] σ ↔ σ a = σ b ∧ σ c = σ d := ⟨fun h => ⟨h (a, b) (by simp), h (c, d) (by simp)⟩, fun h p hp => by
  simp at hp
  rcases hp with rfl | rfl
  · exact h.1
  · exact h.2⟩
def co_S (l : tl_T) (nt : Nat → Nat) (k : Nat) (D : fx_D) : Prop := ∃ N K L R P, in_G D N K L R (fun n => n) ∧ in_B N K L R (fun n => n) ∧ in_E D P N ∧ co_I l nt k N K L R P
theorem in_E.lt {D : fx_D} {P : List (Nat × Nat)} {N : Nat} (h : in_E D P N) : ∀ p ∈ P, p.1 < N ∧ p.2 < N := fun p hp => by
  obtain ⟨i, hi⟩ := List.mem_iff_getElem?.mp hp
  exact ⟨(h.2.2 i p hi).2.2.1, (h.2.2 i p hi).2.2.2⟩
theorem dIN_variableOf_0 : decode prog_5_method_4_code 0 = .ok (.bipush (24), 2) := by decide +kernel
theorem dIN_variableOf_2 : decode prog_5_method_4_code 2 = .ok (.iload_n 0, 1) := by decide +kernel
theorem dIN_variableOf_3 : decode prog_5_method_4_code 3 = .ok (.iadd, 1) := by decide +kernel
theorem dIN_variableOf_4 : decode prog_5_method_4_code 4 = .ok (.ireturn, 1) := by decide +kernel
theorem c_IN_variableOf {G : sd_G} {h : sd_H} {nx a : Nat} : sd_Ct G mIN_variableOf 0 0 0 [.int (nI a)] h nx (sd_is (some (.int (nI (24 + a)))) h nx) := by
  refine sd_Ct_of (by decide) (Nat.le_of_ble_eq_true rfl) ?_
  refine sd_bipush (v := nI 24) dIN_variableOf_0 (by decide) ?_
  refine sd_iload_n dIN_variableOf_2 rfl rfl ?_
  refine nn_iadd dIN_variableOf_3 ?_
  exact sd_iret dIN_variableOf_4 rfl (Nat.le_refl _) (Nat.le_refl _) ⟨rfl, rfl, rfl⟩
theorem dIN_demand_0 : decode prog_5_method_5_code 0 = .ok (.aload_n 1, 1) := by decide +kernel
theorem dIN_demand_1 : decode prog_5_method_5_code 1 = .ok (.getfield 77, 3) := by decide +kernel
theorem dIN_demand_4 : decode prog_5_method_5_code 4 = .ok (.iload_n 2, 1) := by decide +kernel
theorem dIN_demand_5 : decode prog_5_method_5_code 5 = .ok (.iaload, 1) := by decide +kernel
theorem dIN_demand_6 : decode prog_5_method_5_code 6 = .ok (.istore 4, 2) := by decide +kernel
theorem dIN_demand_8 : decode prog_5_method_5_code 8 = .ok (.iload 4, 2) := by decide +kernel
theorem dIN_demand_10 : decode prog_5_method_5_code 10 = .ok (.bipush (8), 2) := by decide +kernel
theorem dIN_demand_12 : decode prog_5_method_5_code 12 = .ok (.if_icmp .ne (26), 3) := by decide +kernel
theorem dIN_demand_15 : decode prog_5_method_5_code 15 = .ok (.aload_n 0, 1) := by decide +kernel
theorem dIN_demand_16 : decode prog_5_method_5_code 16 = .ok (.iload_n 2, 1) := by decide +kernel
theorem dIN_demand_17 : decode prog_5_method_5_code 17 = .ok (.iconst 1, 1) := by decide +kernel
theorem dIN_demand_18 : decode prog_5_method_5_code 18 = .ok (.iadd, 1) := by decide +kernel
theorem dIN_demand_19 : decode prog_5_method_5_code 19 = .ok (.aload_n 0, 1) := by decide +kernel
theorem dIN_demand_20 : decode prog_5_method_5_code 20 = .ok (.aload_n 1, 1) := by decide +kernel
theorem dIN_demand_21 : decode prog_5_method_5_code 21 = .ok (.getfield 80, 3) := by decide +kernel
theorem dIN_demand_24 : decode prog_5_method_5_code 24 = .ok (.iload_n 2, 1) := by decide +kernel
theorem dIN_demand_25 : decode prog_5_method_5_code 25 = .ok (.iconst 1, 1) := by decide +kernel
theorem dIN_demand_26 : decode prog_5_method_5_code 26 = .ok (.iadd, 1) := by decide +kernel
theorem dIN_demand_27 : decode prog_5_method_5_code 27 = .ok (.iaload, 1) := by decide +kernel
theorem dIN_demand_28 : decode prog_5_method_5_code 28 = .ok (.iload_n 2, 1) := by decide +kernel
theorem dIN_demand_29 : decode prog_5_method_5_code 29 = .ok (.invokevirtual 83, 3) := by decide +kernel
theorem dIN_demand_32 : decode prog_5_method_5_code 32 = .ok (.invokevirtual 46, 3) := by decide +kernel
theorem dIN_demand_35 : decode prog_5_method_5_code 35 = .ok (.goto (83), 3) := by decide +kernel
theorem dIN_demand_38 : decode prog_5_method_5_code 38 = .ok (.iload 4, 2) := by decide +kernel
theorem dIN_demand_40 : decode prog_5_method_5_code 40 = .ok (.bipush (9), 2) := by decide +kernel
theorem dIN_demand_42 : decode prog_5_method_5_code 42 = .ok (.if_icmp .ne (28), 3) := by decide +kernel
theorem dIN_demand_45 : decode prog_5_method_5_code 45 = .ok (.aload_n 0, 1) := by decide +kernel
theorem dIN_demand_46 : decode prog_5_method_5_code 46 = .ok (.iload_n 2, 1) := by decide +kernel
theorem dIN_demand_47 : decode prog_5_method_5_code 47 = .ok (.bipush (48), 2) := by decide +kernel
theorem dIN_demand_49 : decode prog_5_method_5_code 49 = .ok (.invokevirtual 46, 3) := by decide +kernel
theorem dIN_demand_52 : decode prog_5_method_5_code 52 = .ok (.aload_n 0, 1) := by decide +kernel
theorem dIN_demand_53 : decode prog_5_method_5_code 53 = .ok (.iload_n 2, 1) := by decide +kernel
theorem dIN_demand_54 : decode prog_5_method_5_code 54 = .ok (.iconst 1, 1) := by decide +kernel
theorem dIN_demand_55 : decode prog_5_method_5_code 55 = .ok (.iadd, 1) := by decide +kernel
theorem dIN_demand_56 : decode prog_5_method_5_code 56 = .ok (.aload_n 1, 1) := by decide +kernel
theorem dIN_demand_57 : decode prog_5_method_5_code 57 = .ok (.getfield 80, 3) := by decide +kernel
theorem dIN_demand_60 : decode prog_5_method_5_code 60 = .ok (.iload_n 2, 1) := by decide +kernel
theorem dIN_demand_61 : decode prog_5_method_5_code 61 = .ok (.iconst 1, 1) := by decide +kernel
theorem dIN_demand_62 : decode prog_5_method_5_code 62 = .ok (.iadd, 1) := by decide +kernel
theorem dIN_demand_63 : decode prog_5_method_5_code 63 = .ok (.iaload, 1) := by decide +kernel
theorem dIN_demand_64 : decode prog_5_method_5_code 64 = .ok (.invokevirtual 46, 3) := by decide +kernel
theorem dIN_demand_67 : decode prog_5_method_5_code 67 = .ok (.goto (51), 3) := by decide +kernel
theorem dIN_demand_70 : decode prog_5_method_5_code 70 = .ok (.iload 4, 2) := by decide +kernel
theorem dIN_demand_72 : decode prog_5_method_5_code 72 = .ok (.bipush (10), 2) := by decide +kernel
theorem dIN_demand_74 : decode prog_5_method_5_code 74 = .ok (.if_icmp .ne (22), 3) := by decide +kernel
theorem dIN_demand_77 : decode prog_5_method_5_code 77 = .ok (.aload_n 0, 1) := by decide +kernel
theorem dIN_demand_78 : decode prog_5_method_5_code 78 = .ok (.iload_n 2, 1) := by decide +kernel
theorem dIN_demand_79 : decode prog_5_method_5_code 79 = .ok (.aload_n 0, 1) := by decide +kernel
theorem dIN_demand_80 : decode prog_5_method_5_code 80 = .ok (.iload_n 2, 1) := by decide +kernel
theorem dIN_demand_81 : decode prog_5_method_5_code 81 = .ok (.invokestatic 42, 3) := by decide +kernel
theorem dIN_demand_84 : decode prog_5_method_5_code 84 = .ok (.iload_n 2, 1) := by decide +kernel
theorem dIN_demand_85 : decode prog_5_method_5_code 85 = .ok (.iconst 1, 1) := by decide +kernel
theorem dIN_demand_86 : decode prog_5_method_5_code 86 = .ok (.iadd, 1) := by decide +kernel
theorem dIN_demand_87 : decode prog_5_method_5_code 87 = .ok (.invokevirtual 83, 3) := by decide +kernel
theorem dIN_demand_90 : decode prog_5_method_5_code 90 = .ok (.invokevirtual 46, 3) := by decide +kernel
theorem dIN_demand_93 : decode prog_5_method_5_code 93 = .ok (.goto (25), 3) := by decide +kernel
theorem dIN_demand_96 : decode prog_5_method_5_code 96 = .ok (.iload 4, 2) := by decide +kernel
theorem dIN_demand_98 : decode prog_5_method_5_code 98 = .ok (.invokestatic 87, 3) := by decide +kernel
theorem dIN_demand_101 : decode prog_5_method_5_code 101 = .ok (.ifCond .eq (17), 3) := by decide +kernel
theorem dIN_demand_104 : decode prog_5_method_5_code 104 = .ok (.aload_n 0, 1) := by decide +kernel
theorem dIN_demand_105 : decode prog_5_method_5_code 105 = .ok (.iload_n 2, 1) := by decide +kernel
theorem dIN_demand_106 : decode prog_5_method_5_code 106 = .ok (.aload_n 0, 1) := by decide +kernel
theorem dIN_demand_107 : decode prog_5_method_5_code 107 = .ok (.aload_n 3, 1) := by decide +kernel
theorem dIN_demand_108 : decode prog_5_method_5_code 108 = .ok (.iload 4, 2) := by decide +kernel
theorem dIN_demand_110 : decode prog_5_method_5_code 110 = .ok (.iaload, 1) := by decide +kernel
theorem dIN_demand_111 : decode prog_5_method_5_code 111 = .ok (.iconst 0, 1) := by decide +kernel
theorem dIN_demand_112 : decode prog_5_method_5_code 112 = .ok (.invokevirtual 91, 3) := by decide +kernel
theorem dIN_demand_115 : decode prog_5_method_5_code 115 = .ok (.invokevirtual 46, 3) := by decide +kernel
theorem dIN_demand_118 : decode prog_5_method_5_code 118 = .ok (.return_, 1) := by decide +kernel
theorem c_IN_demand {G : sd_G} {o : Nat} {D : fx_D} {h0 : sd_H} {nx r i : Nat} {l : tl_T} {nt : Nat → Nat} (hB : G.2.1 ≤ o) (hr : r < 73) (hrow : ty_row l) (hi : i < l.length) (hs : D.1 (tmo r + 1) i = nI (tl_at l i).1) (he : ∀ j, j < l.length → D.1 (tmo r + 3) j = nI (tl_end l j)) (hnt : dk_nt D nt) (h11 : (tl_at l i).1 < 11) (h : co_S l nt i D) : sd_Ct G mIN_demand 27 0 0 [.ref (o + 299), .ref (o + tmo r), .int (nI i), .ref (o + 2)] (fx_h G.1.2 dk_S o D h0) nx (fx_is G.1.2 dk_S o h0 nx none (fun D' => co_S l nt (i + 1) D' ∧ in_f D D')) := by
  refine sd_Ct_of (by decide) (Nat.le_of_ble_eq_true rfl) ?_
  obtain ⟨N, K, L, R, P, hG, hb, hE, hc⟩ := h
  have l24 := hrow.1
  obtain ⟨-, r2, r1⟩ := hrow.2 i hi
  have hN := hc.2.2.2.1
  have hPl := hc.2.2.2.2.1
  have h0N : ∀ n, N ≤ n → K n = 0 := fun n hn => (hb.2.2.2.2.1 n hn).1
  have hKf : ∀ n, N ≤ n → upN K N 3 n = 0 ∨ upN K N 3 n = 3 := fun n hn => by
    unfold upN
    split
    · exact Or.inr rfl
    · exact Or.inl (h0N n hn)
  have b1 := hb.1
  have hlt := hE.lt
  by_cases s8 : (tl_at l i).1 = 8
  · have q2 := r2 (by rw [s8]; rfl)
    have q1 := r1 (by rw [s8]; decide)
    have gx := gxx.fn (a := tl_end l (i + 1)) (b := i) hb (by omega) (by omega)
    have hE1 := (fn_E (n := N) (a := tl_end l (i + 1)) (b := i) hE).mono (show N ≤ N + 1 by omega)
    have fin : co_S l nt (i + 1) (eq_D (fn_D D N (tl_end l (i + 1)) i) P.length (i + 1) N) := by
      refine ⟨_, _, _, _, _, eq_G (fn_G hG hb), fn_B hb (by omega) (by omega) (by omega), eq_E hE1 (by omega) (by omega) (by omega), co_step hrow hi hb hc hlt gx (fun σ g s => ?_) (fun σ g e => ?_) (fun n n1 n2 σ g s => ?_) (by omega) (by simp) hKf⟩
      · have e := (g N).2.2 (by simp [upN])
        simp only [upN, if_true] at e
        rw [sat_1, e] at s
        exact ⟨fun q => by omega, fun _ => s, fun q => by omega, fun q => by omega, fun q => by omega⟩
      · have e2 := (g N).2.2 (by simp [upN])
        simp only [upN, if_true] at e2
        rw [sat_1, e2]
        exact e.2.1 s8
      · obtain rfl : n = N := by omega
        rw [sat_1] at s
        exact Or.inr ⟨i + 1, by omega, s.symm⟩
    refine sd_aload_n dIN_demand_0 rfl rfl ?_
    refine fx_getr 7 0 (tmo (r) + 1) dIN_demand_1 fIN_77 (dk_tm (by omega)) rfl ?_
    refine sd_iload_n dIN_demand_4 rfl rfl ?_
    refine fx_ialdv (v := (nI ((tl_at l i).1))) (i) dIN_demand_5 (dk_tm1 (by omega)) rfl (by omega) (by decide) (hs) ?_
    refine sd_istore dIN_demand_6 (by decide) ?_
    refine sd_iload dIN_demand_8 rfl ?_
    refine sd_bipush (v := nI 8) dIN_demand_10 (by decide) ?_
    refine nn_icmp_ne 38 dIN_demand_12 (by decide) (by omega) (by omega) (fun c12 => ?_) (fun c12 => ?_)
    ·
      exact absurd s8 c12
    ·
      refine sd_aload_n dIN_demand_15 rfl rfl ?_
      refine sd_iload_n dIN_demand_16 rfl rfl ?_
      refine sd_iconst (v := nI 1) dIN_demand_17 (by decide) ?_
      refine nn_iadd dIN_demand_18 ?_
      refine sd_aload_n dIN_demand_19 rfl rfl ?_
      refine sd_aload_n dIN_demand_20 rfl rfl ?_
      refine fx_getr 7 2 (tmo (r) + 3) dIN_demand_21 fIN_80 (dk_tm (by omega)) rfl ?_
      refine sd_iload_n dIN_demand_24 rfl rfl ?_
      refine sd_iconst (v := nI 1) dIN_demand_25 (by decide) ?_
      refine nn_iadd dIN_demand_26 ?_
      refine fx_ialdv (v := (nI (tl_end l (i + 1)))) (i + 1) dIN_demand_27 (dk_tm3 (by omega)) rfl (by omega) (by decide) (he _ (by omega)) ?_
      refine sd_iload_n dIN_demand_28 rfl rfl ?_
      refine fx_cV 4 sR_IN [.int (nI (tl_end l (i + 1))), .int (nI (i))] [.int (nI (i + 1)), .ref (o + (299))] dIN_demand_29 kIN_83 rfl rfl mIN_functionNode_v (c_IN_functionNode hB hG.1 (by omega) (by omega) (by omega)) (by omega) (Nat.le_refl _) (Nat.le_refl _) (Nat.le_of_ble_eq_true rfl) rfl ?_
      refine fx_cV 4 sR_IN [.int (nI (i + 1)), .int (nI (N))] [] dIN_demand_32 kIN_46 rfl rfl mIN_equate_v (c_IN_equate hB hE1.2.1 (by omega) (by omega) (by omega)) (by decide) (Nat.le_refl _) (Nat.le_refl _) (Nat.le_of_ble_eq_true rfl) rfl ?_
      refine sd_goto 118 dIN_demand_35 (by decide) ?_
      exact sd_vret dIN_demand_118 rfl (Nat.le_refl _) (Nat.le_refl _) ⟨rfl, rfl, _, rfl, fin, fn_f.tr eq_f⟩
  · by_cases s9 : (tl_at l i).1 = 9
    · have q2 := r2 (by rw [s9]; rfl)
      have q1 := r1 (by rw [s9]; decide)
      have hE1 := eq_E (a := i) (b := 48) hE (by omega) (by omega) (by omega)
      have fin : co_S l nt (i + 1) (eq_D (eq_D D P.length i 48) (P.length + 1) (i + 1) (tl_end l (i + 1))) := by
        have hE2 := eq_E (a := i + 1) (b := tl_end l (i + 1)) hE1 (by simp; omega) (by omega) (by omega)
        rw [List.length_append, List.append_assoc] at hE2
        refine ⟨_, _, _, _, _, eq_G (eq_G hG), hb, hE2, co_step hrow hi hb hc hlt (gxx.rf _ _ _ _) (fun σ g s => ?_) (fun σ g e => ?_) (fun n n1 n2 => by omega) (by omega) (by simp) (fun n hn => Or.inl (h0N n hn))⟩
        · have e := (g 48).1 hb.2.2.2.2.2.1
          have s' := sat_2.mp s
          rw [e] at s'
          exact ⟨fun q => by omega, fun q => by omega, fun _ => ⟨s'.2, s'.1⟩, fun q => by omega, fun q => by omega⟩
        · have e2 := (g 48).1 hb.2.2.2.2.2.1
          obtain ⟨e3, e4⟩ := e.2.2.1 s9
          exact sat_2.mpr ⟨by rw [e2]; exact e4, e3⟩
      refine sd_aload_n dIN_demand_0 rfl rfl ?_
      refine fx_getr 7 0 (tmo (r) + 1) dIN_demand_1 fIN_77 (dk_tm (by omega)) rfl ?_
      refine sd_iload_n dIN_demand_4 rfl rfl ?_
      refine fx_ialdv (v := (nI ((tl_at l i).1))) (i) dIN_demand_5 (dk_tm1 (by omega)) rfl (by omega) (by decide) (hs) ?_
      refine sd_istore dIN_demand_6 (by decide) ?_
      refine sd_iload dIN_demand_8 rfl ?_
      refine sd_bipush (v := nI 8) dIN_demand_10 (by decide) ?_
      refine nn_icmp_ne 38 dIN_demand_12 (by decide) (by omega) (by omega) (fun c12 => ?_) (fun c12 => ?_)
      ·
        refine sd_iload dIN_demand_38 rfl ?_
        refine sd_bipush (v := nI 9) dIN_demand_40 (by decide) ?_
        refine nn_icmp_ne 70 dIN_demand_42 (by decide) (by omega) (by omega) (fun c42 => ?_) (fun c42 => ?_)
        ·
          exact absurd s9 c42
        ·
          refine sd_aload_n dIN_demand_45 rfl rfl ?_
          refine sd_iload_n dIN_demand_46 rfl rfl ?_
          refine sd_bipush (v := nI 48) dIN_demand_47 (by decide) ?_
          refine fx_cV 4 sR_IN [.int (nI (i)), .int (nI (48))] [] dIN_demand_49 kIN_46 rfl rfl mIN_equate_v (c_IN_equate hB hE.2.1 (by omega) (by omega) (by omega)) (by decide) (Nat.le_refl _) (Nat.le_refl _) (Nat.le_of_ble_eq_true rfl) rfl ?_
          refine sd_aload_n dIN_demand_52 rfl rfl ?_
          refine sd_iload_n dIN_demand_53 rfl rfl ?_
          refine sd_iconst (v := nI 1) dIN_demand_54 (by decide) ?_
          refine nn_iadd dIN_demand_55 ?_
          refine sd_aload_n dIN_demand_56 rfl rfl ?_
          refine fx_getr 7 2 (tmo (r) + 3) dIN_demand_57 fIN_80 (dk_tm (by omega)) rfl ?_
          refine sd_iload_n dIN_demand_60 rfl rfl ?_
          refine sd_iconst (v := nI 1) dIN_demand_61 (by decide) ?_
          refine nn_iadd dIN_demand_62 ?_
          refine fx_ialdv (v := (nI (tl_end l (i + 1)))) (i + 1) dIN_demand_63 (dk_tm3 (by omega)) rfl (by omega) (by decide) ((by rw [(eq_f (D := D) (n := P.length) (a := i) (b := 48) (tmo r + 3) (by unfold tmo; omega)).1]; exact he _ (by omega))) ?_
          refine fx_cV 4 sR_IN [.int (nI (i + 1)), .int (nI (tl_end l (i + 1)))] [] dIN_demand_64 kIN_46 rfl rfl mIN_equate_v (c_IN_equate (n := P.length + 1) hB (by have := hE1.2.1; simpa using this) (by omega) (by omega) (by omega)) (by decide) (Nat.le_refl _) (Nat.le_refl _) (Nat.le_of_ble_eq_true rfl) rfl ?_
          refine sd_goto 118 dIN_demand_67 (by decide) ?_
          exact sd_vret dIN_demand_118 rfl (Nat.le_refl _) (Nat.le_refl _) ⟨rfl, rfl, _, rfl, fin, eq_f.tr eq_f⟩
      ·
        exact absurd c12 s8
    · by_cases s10 : (tl_at l i).1 = 10
      · have q1 := r1 (by rw [s10]; decide)
        have gx := gxx.fn (a := 24 + i) (b := i + 1) hb (by omega) (by omega)
        have hE1 := (fn_E (n := N) (a := 24 + i) (b := i + 1) hE).mono (show N ≤ N + 1 by omega)
        have fin : co_S l nt (i + 1) (eq_D (fn_D D N (24 + i) (i + 1)) P.length i N) := by
          refine ⟨_, _, _, _, _, eq_G (fn_G hG hb), fn_B hb (by omega) (by omega) (by omega), eq_E hE1 (by omega) (by omega) (by omega), co_step hrow hi hb hc hlt gx (fun σ g s => ?_) (fun σ g e => ?_) (fun n n1 n2 σ g s => ?_) (by omega) (by simp) hKf⟩
          · have e := (g N).2.2 (by simp [upN])
            simp only [upN, if_true] at e
            rw [sat_1, e] at s
            exact ⟨fun q => by omega, fun q => by omega, fun q => by omega, fun _ => s, fun q => by omega⟩
          · have e2 := (g N).2.2 (by simp [upN])
            simp only [upN, if_true] at e2
            rw [sat_1, e2]
            exact e.2.2.2.1 s10
          · obtain rfl : n = N := by omega
            rw [sat_1] at s
            exact Or.inr ⟨i, by omega, s.symm⟩
        refine sd_aload_n dIN_demand_0 rfl rfl ?_
        refine fx_getr 7 0 (tmo (r) + 1) dIN_demand_1 fIN_77 (dk_tm (by omega)) rfl ?_
        refine sd_iload_n dIN_demand_4 rfl rfl ?_
        refine fx_ialdv (v := (nI ((tl_at l i).1))) (i) dIN_demand_5 (dk_tm1 (by omega)) rfl (by omega) (by decide) (hs) ?_
        refine sd_istore dIN_demand_6 (by decide) ?_
        refine sd_iload dIN_demand_8 rfl ?_
        refine sd_bipush (v := nI 8) dIN_demand_10 (by decide) ?_
        refine nn_icmp_ne 38 dIN_demand_12 (by decide) (by omega) (by omega) (fun c12 => ?_) (fun c12 => ?_)
        ·
          refine sd_iload dIN_demand_38 rfl ?_
          refine sd_bipush (v := nI 9) dIN_demand_40 (by decide) ?_
          refine nn_icmp_ne 70 dIN_demand_42 (by decide) (by omega) (by omega) (fun c42 => ?_) (fun c42 => ?_)
          ·
            refine sd_iload dIN_demand_70 rfl ?_
            refine sd_bipush (v := nI 10) dIN_demand_72 (by decide) ?_
            refine nn_icmp_ne 96 dIN_demand_74 (by decide) (by omega) (by omega) (fun c74 => ?_) (fun c74 => ?_)
            ·
              exact absurd s10 c74
            ·
              refine sd_aload_n dIN_demand_77 rfl rfl ?_
              refine sd_iload_n dIN_demand_78 rfl rfl ?_
              refine sd_aload_n dIN_demand_79 rfl rfl ?_
              refine sd_iload_n dIN_demand_80 rfl rfl ?_
              refine sd_cS [.int (nI (i))] [.ref (o + (299)), .int (nI (i)), .ref (o + (299))] dIN_demand_81 kIN_42 mIN_variableOf_s (c_IN_variableOf) (by omega) (Nat.le_refl _) (Nat.le_refl _) (Nat.le_of_ble_eq_true rfl) rfl ?_
              refine sd_iload_n dIN_demand_84 rfl rfl ?_
              refine sd_iconst (v := nI 1) dIN_demand_85 (by decide) ?_
              refine nn_iadd dIN_demand_86 ?_
              refine fx_cV 4 sR_IN [.int (nI (24 + i)), .int (nI (i + 1))] [.int (nI (i)), .ref (o + (299))] dIN_demand_87 kIN_83 rfl rfl mIN_functionNode_v (c_IN_functionNode hB hG.1 (by omega) (by omega) (by omega)) (by omega) (Nat.le_refl _) (Nat.le_refl _) (Nat.le_of_ble_eq_true rfl) rfl ?_
              refine fx_cV 4 sR_IN [.int (nI (i)), .int (nI (N))] [] dIN_demand_90 kIN_46 rfl rfl mIN_equate_v (c_IN_equate hB hE1.2.1 (by omega) (by omega) (by omega)) (by decide) (Nat.le_refl _) (Nat.le_refl _) (Nat.le_of_ble_eq_true rfl) rfl ?_
              refine sd_goto 118 dIN_demand_93 (by decide) ?_
              exact sd_vret dIN_demand_118 rfl (Nat.le_refl _) (Nat.le_refl _) ⟨rfl, rfl, _, rfl, fin, fn_f.tr eq_f⟩
          ·
            exact absurd c42 s9
        ·
          exact absurd c12 s8
      · have s7 : (tl_at l i).1 < 8 := by omega
        obtain ⟨n1, tok⟩ := hnt _ s7
        obtain ⟨tto, ttn, -, ttl⟩ := ty_tree_n tok
        have cn := c_IN_nodeOf (G := G) (o := o) (h0 := h0) (nx := nx) hB (ty_tree (nt (tl_at l i).1)) tto 0 N K L R (fun n => n) D (by omega) hG hb (by omega)
        rw [ttn] at cn
        have tlt := tok.1
        refine sd_aload_n dIN_demand_0 rfl rfl ?_
        refine fx_getr 7 0 (tmo (r) + 1) dIN_demand_1 fIN_77 (dk_tm (by omega)) rfl ?_
        refine sd_iload_n dIN_demand_4 rfl rfl ?_
        refine fx_ialdv (v := (nI ((tl_at l i).1))) (i) dIN_demand_5 (dk_tm1 (by omega)) rfl (by omega) (by decide) (hs) ?_
        refine sd_istore dIN_demand_6 (by decide) ?_
        refine sd_iload dIN_demand_8 rfl ?_
        refine sd_bipush (v := nI 8) dIN_demand_10 (by decide) ?_
        refine nn_icmp_ne 38 dIN_demand_12 (by decide) (by omega) (by omega) (fun c12 => ?_) (fun c12 => ?_)
        ·
          refine sd_iload dIN_demand_38 rfl ?_
          refine sd_bipush (v := nI 9) dIN_demand_40 (by decide) ?_
          refine nn_icmp_ne 70 dIN_demand_42 (by decide) (by omega) (by omega) (fun c42 => ?_) (fun c42 => ?_)
          ·
            refine sd_iload dIN_demand_70 rfl ?_
            refine sd_bipush (v := nI 10) dIN_demand_72 (by decide) ?_
            refine nn_icmp_ne 96 dIN_demand_74 (by decide) (by omega) (by omega) (fun c74 => ?_) (fun c74 => ?_)
            ·
              refine sd_iload dIN_demand_96 rfl ?_
              refine sd_cS [.int (nI ((tl_at l i).1))] [] dIN_demand_98 kIN_87 mDK_isName_s (c_DK_isName (b := 1) (by omega) (by simp only [true_iff]; exact ⟨_, s7, rfl⟩)) (by decide) (Nat.le_refl _) (Nat.le_refl _) (Nat.le_of_ble_eq_true rfl) rfl ?_
              refine nn_if_eq 118 dIN_demand_101 (by decide) (by decide) (fun c => absurd c (by decide)) (fun _ => ?_)
              refine sd_aload_n dIN_demand_104 rfl rfl ?_
              refine sd_iload_n dIN_demand_105 rfl rfl ?_
              refine sd_aload_n dIN_demand_106 rfl rfl ?_
              refine sd_aload_n dIN_demand_107 rfl rfl ?_
              refine sd_iload dIN_demand_108 rfl ?_
              refine fx_ialdv (v := (nI (nt (tl_at l i).1))) ((tl_at l i).1) dIN_demand_110 rfl rfl (by omega) (by decide) (n1) ?_
              refine sd_iconst (v := nI 0) dIN_demand_111 (by decide) ?_
              refine fx_cE 4 sR_IN [.int (nI (nt (tl_at l i).1)), .int (nI (0))] [.int (nI (i)), .ref (o + (299))] dIN_demand_112 kIN_91 rfl rfl mIN_nodeOf_v (cn) (by omega) (Nat.le_refl _) (Nat.le_refl _) (Nat.le_of_ble_eq_true rfl) rfl (fun m D1 h1 => ?_)
              obtain ⟨N', K', L', R', g1, gb1, gE1, gn1, gx1, gr1, gm1, gf1, gc1⟩ := h1
              have hE1 := gE1 P hE
              refine fx_cV 4 sR_IN [.int (nI (i)), .int (nI (m))] [] dIN_demand_115 kIN_46 rfl rfl mIN_equate_v (c_IN_equate hB hE1.2.1 (by omega) (by omega) (by have := gb1.2.1; omega)) (by decide) (Nat.le_refl _) (Nat.le_refl _) (Nat.le_of_ble_eq_true rfl) rfl ?_
              refine sd_vret dIN_demand_118 rfl (Nat.le_refl _) (Nat.le_refl _) ⟨rfl, rfl, _, rfl, ⟨_, _, _, _, _, eq_G g1, gb1, eq_E hE1 (by omega) (by have := gx1.1; omega) gm1, co_step hrow hi hb hc hlt gx1 (fun σ g s => ?_) (fun σ g e => ?_) (fun n q1 q2 σ g s => ?_) (by omega) (by simp) (fun n hn => ?_)⟩, gf1.tr eq_f⟩
              · rw [sat_1, gr1 σ g] at s
                exact ⟨fun _ => s, fun q => by omega, fun q => by omega, fun q => by omega, fun q => by omega⟩
              · rw [sat_1, gr1 σ g]
                exact e.1 s7
              · have := (gc1 n q1 q2).2 σ g
                exact Or.inl (by omega)
              · by_cases z : n < N'
                · exact Or.inr (gc1 n hn z).1
                · exact Or.inl (gb1.2.2.2.2.1 n (by omega)).1
            ·
              exact absurd c74 s10
          ·
            exact absurd c42 s9
        ·
          exact absurd c12 s8
