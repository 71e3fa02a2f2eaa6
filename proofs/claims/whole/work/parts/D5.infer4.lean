/-! ===== the class's Inference: solve ===== -/
def in_F (K ρ : Nat → Nat) : Nat := cn_r 242 (fun n => decide (K n = 3) && decide (ρ n = n))
theorem lkn_root {ρ : Nat → Nat} {x y n : Nat} (hy : ρ y = y) (h : lkn ρ x y n = n) : ρ n = n := by
  unfold lkn at h
  by_cases e : ρ n = x
  · rw [if_pos e] at h
    rw [← h]
    exact hy
  · rw [if_neg e] at h
    exact h
theorem in_F_le {K ρ : Nat → Nat} {x y : Nat} (hy : ρ y = y) : in_F K (lkn ρ x y) ≤ in_F K ρ := by
  refine cn_r_sub (fun n h => ?_) 242
  simp only [Bool.and_eq_true, decide_eq_true_eq] at h ⊢
  exact ⟨h.1, lkn_root hy h.2⟩
theorem in_F_lt {K ρ : Nat → Nat} {x y : Nat} (hx : ρ x = x) (hy : ρ y = y) (hne : x ≠ y) (k : K x = 3) (hl : x < 242) : in_F K (lkn ρ x y) < in_F K ρ := by
  refine cn_r_lt (x := x) (fun n h => ?_) ?_ ?_ 242 hl
  · simp only [Bool.and_eq_true, decide_eq_true_eq] at h ⊢
    exact ⟨h.1, lkn_root hy h.2⟩
  · have : lkn ρ x y x = y := by unfold lkn; rw [if_pos hx]
    simp only [this, Bool.and_eq_false_iff, decide_eq_false_iff_not]
    exact Or.inr (fun e => hne e.symm)
  · simp [k, hx]
theorem cn_r_rng {P : Nat → Bool} {a : Nat} (h : ∀ n, n < a → P n = false) : ∀ k, cn_r k P ≤ k - a
  | 0 => by simp [cn_r]
  | k + 1 => by
    rw [cn_r_succ]
    have := cn_r_rng h k
    by_cases e : k < a
    · rw [h k e]
      simp
      omega
    · split <;> omega
theorem in_F_bd {N : Nat} {K L R lk ρ : Nat → Nat} (hb : in_B N K L R lk) (hK : co_K K) : in_F K ρ ≤ N - 50 := by
  unfold in_F
  have e : cn_r 242 (fun n => decide (K n = 3) && decide (ρ n = n)) = cn_r N (fun n => decide (K n = 3) && decide (ρ n = n)) := by
    have b2 := hb.2.1
    rw [show 242 = N + (242 - N) by omega]
    exact cn_r_more _ _ (fun i hi => by simp [(hb.2.2.2.2.1 i hi).1])
  rw [e]
  refine cn_r_rng (fun n hn => ?_) N
  rw [hK.1 n hn]
  unfold K1_
  split
  · rfl
  · split <;> rfl
theorem in_G_link {D : fx_D} {N x y : Nat} {K L R lk : Nat → Nat} (h : in_G D N K L R lk) : in_G (fx_ua D 300 x (nI y)) N K L R (upN lk x y) := ⟨h.1, fun n hn => by
  obtain ⟨a, b, c⟩ := h.2 n hn
  refine ⟨?_, by simpa [fx_ua] using b, fun q => by simpa [fx_ua] using c q⟩
  by_cases e : n = x
  · subst e
    simp [fx_ua, upd, upN]
  · simpa [fx_ua, upd, upN, e] using a⟩
theorem in_B_link {N x y : Nat} {K L R lk : Nat → Nat} (h : in_B N K L R lk) (hx : x < N) (hy : y < N) : in_B N K L R (upN lk x y) := by
  obtain ⟨b1, b2, b3, b4, b5, b6, b7⟩ := h
  refine ⟨b1, b2, fun n hn => ⟨?_, (b3 n hn).2⟩, b4, fun n hn => ⟨(b5 n hn).1, ?_⟩, b6, b7⟩
  · unfold upN
    split
    · exact hy
    · exact (b3 n hn).1
  · simp only [upN, show ¬ n = x by omega, if_false]
    exact (b5 n hn).2
theorem lk_f {D : fx_D} {x : Nat} {v : Int32} : in_f D (fx_ua D 300 x v) := fun z hz => ag_ua (by omega)
theorem in_E_link {D : fx_D} {N x : Nat} {v : Int32} {P : List (Nat × Nat)} (h : in_E D P N) : in_E (fx_ua D 300 x v) P N := ⟨h.1, h.2.1, fun i p hp => by simpa [fx_ua] using h.2.2 i p hp⟩
theorem lkn_eq {ρ : Nat → Nat} {x y a b : Nat} (h : ρ a = ρ b) : lkn ρ x y a = lkn ρ x y b := by
  unfold lkn
  rw [h]
theorem lkn_join {ρ : Nat → Nat} {x y : Nat} (hne : x ≠ y) {a b : Nat} (hab : (ρ a = x ∧ ρ b = y) ∨ (ρ b = x ∧ ρ a = y)) : lkn ρ x y a = lkn ρ x y b := by
  unfold lkn
  rcases hab with ⟨e1, e2⟩ | ⟨e1, e2⟩
  · rw [if_pos e1, e2, if_neg (fun z => hne z.symm)]
  · rw [if_pos e1, e2, if_neg (fun z => hne z.symm)]
def so_yes (N : Nat) (K L R : Nat → Nat) (P : List (Nat × Nat)) (D D' : fx_D) : Prop := ∃ lk ρ, in_G D' N K L R lk ∧ in_B N K L R lk ∧ lkr lk ρ ∧ uf_inv K L R ρ [] ∧ (∀ p ∈ P, ρ p.1 = ρ p.2) ∧ (∀ σ, gsol K L R σ → sat P σ → rsp σ ρ) ∧ in_f D D'
def so_no (K L R : Nat → Nat) (P : List (Nat × Nat)) (D D' : fx_D) : Prop := (∀ σ, gsol K L R σ → sat P σ → False) ∧ in_f D D'
theorem dIN_solve_0 : decode prog_5_method_10_code 0 = .ok (.iconst 0, 1) := by decide +kernel
theorem dIN_solve_1 : decode prog_5_method_10_code 1 = .ok (.istore_n 1, 1) := by decide +kernel
theorem dIN_solve_2 : decode prog_5_method_10_code 2 = .ok (.iload_n 1, 1) := by decide +kernel
theorem dIN_solve_3 : decode prog_5_method_10_code 3 = .ok (.aload_n 0, 1) := by decide +kernel
theorem dIN_solve_4 : decode prog_5_method_10_code 4 = .ok (.getfield 71, 3) := by decide +kernel
theorem dIN_solve_7 : decode prog_5_method_10_code 7 = .ok (.if_icmp .ge (148), 3) := by decide +kernel
theorem dIN_solve_10 : decode prog_5_method_10_code 10 = .ok (.iload_n 1, 1) := by decide +kernel
theorem dIN_solve_11 : decode prog_5_method_10_code 11 = .ok (.sipush (432), 3) := by decide +kernel
theorem dIN_solve_14 : decode prog_5_method_10_code 14 = .ok (.if_icmp .ge (141), 3) := by decide +kernel
theorem dIN_solve_17 : decode prog_5_method_10_code 17 = .ok (.aload_n 0, 1) := by decide +kernel
theorem dIN_solve_18 : decode prog_5_method_10_code 18 = .ok (.aload_n 0, 1) := by decide +kernel
theorem dIN_solve_19 : decode prog_5_method_10_code 19 = .ok (.getfield 27, 3) := by decide +kernel
theorem dIN_solve_22 : decode prog_5_method_10_code 22 = .ok (.iload_n 1, 1) := by decide +kernel
theorem dIN_solve_23 : decode prog_5_method_10_code 23 = .ok (.iaload, 1) := by decide +kernel
theorem dIN_solve_24 : decode prog_5_method_10_code 24 = .ok (.invokevirtual 68, 3) := by decide +kernel
theorem dIN_solve_27 : decode prog_5_method_10_code 27 = .ok (.istore_n 2, 1) := by decide +kernel
theorem dIN_solve_28 : decode prog_5_method_10_code 28 = .ok (.aload_n 0, 1) := by decide +kernel
theorem dIN_solve_29 : decode prog_5_method_10_code 29 = .ok (.aload_n 0, 1) := by decide +kernel
theorem dIN_solve_30 : decode prog_5_method_10_code 30 = .ok (.getfield 30, 3) := by decide +kernel
theorem dIN_solve_33 : decode prog_5_method_10_code 33 = .ok (.iload_n 1, 1) := by decide +kernel
theorem dIN_solve_34 : decode prog_5_method_10_code 34 = .ok (.iaload, 1) := by decide +kernel
theorem dIN_solve_35 : decode prog_5_method_10_code 35 = .ok (.invokevirtual 68, 3) := by decide +kernel
theorem dIN_solve_38 : decode prog_5_method_10_code 38 = .ok (.istore_n 3, 1) := by decide +kernel
theorem dIN_solve_39 : decode prog_5_method_10_code 39 = .ok (.iload_n 2, 1) := by decide +kernel
theorem dIN_solve_40 : decode prog_5_method_10_code 40 = .ok (.iload_n 3, 1) := by decide +kernel
theorem dIN_solve_41 : decode prog_5_method_10_code 41 = .ok (.if_icmp .ne (6), 3) := by decide +kernel
theorem dIN_solve_44 : decode prog_5_method_10_code 44 = .ok (.goto (105), 3) := by decide +kernel
theorem dIN_solve_47 : decode prog_5_method_10_code 47 = .ok (.aload_n 0, 1) := by decide +kernel
theorem dIN_solve_48 : decode prog_5_method_10_code 48 = .ok (.getfield 15, 3) := by decide +kernel
theorem dIN_solve_51 : decode prog_5_method_10_code 51 = .ok (.iload_n 2, 1) := by decide +kernel
theorem dIN_solve_52 : decode prog_5_method_10_code 52 = .ok (.iaload, 1) := by decide +kernel
theorem dIN_solve_53 : decode prog_5_method_10_code 53 = .ok (.ifCond .ne (13), 3) := by decide +kernel
theorem dIN_solve_56 : decode prog_5_method_10_code 56 = .ok (.aload_n 0, 1) := by decide +kernel
theorem dIN_solve_57 : decode prog_5_method_10_code 57 = .ok (.getfield 11, 3) := by decide +kernel
theorem dIN_solve_60 : decode prog_5_method_10_code 60 = .ok (.iload_n 2, 1) := by decide +kernel
theorem dIN_solve_61 : decode prog_5_method_10_code 61 = .ok (.iload_n 3, 1) := by decide +kernel
theorem dIN_solve_62 : decode prog_5_method_10_code 62 = .ok (.iastore, 1) := by decide +kernel
theorem dIN_solve_63 : decode prog_5_method_10_code 63 = .ok (.goto (86), 3) := by decide +kernel
theorem dIN_solve_66 : decode prog_5_method_10_code 66 = .ok (.aload_n 0, 1) := by decide +kernel
theorem dIN_solve_67 : decode prog_5_method_10_code 67 = .ok (.getfield 15, 3) := by decide +kernel
theorem dIN_solve_70 : decode prog_5_method_10_code 70 = .ok (.iload_n 3, 1) := by decide +kernel
theorem dIN_solve_71 : decode prog_5_method_10_code 71 = .ok (.iaload, 1) := by decide +kernel
theorem dIN_solve_72 : decode prog_5_method_10_code 72 = .ok (.ifCond .ne (13), 3) := by decide +kernel
theorem dIN_solve_75 : decode prog_5_method_10_code 75 = .ok (.aload_n 0, 1) := by decide +kernel
theorem dIN_solve_76 : decode prog_5_method_10_code 76 = .ok (.getfield 11, 3) := by decide +kernel
theorem dIN_solve_79 : decode prog_5_method_10_code 79 = .ok (.iload_n 3, 1) := by decide +kernel
theorem dIN_solve_80 : decode prog_5_method_10_code 80 = .ok (.iload_n 2, 1) := by decide +kernel
theorem dIN_solve_81 : decode prog_5_method_10_code 81 = .ok (.iastore, 1) := by decide +kernel
theorem dIN_solve_82 : decode prog_5_method_10_code 82 = .ok (.goto (67), 3) := by decide +kernel
theorem dIN_solve_85 : decode prog_5_method_10_code 85 = .ok (.aload_n 0, 1) := by decide +kernel
theorem dIN_solve_86 : decode prog_5_method_10_code 86 = .ok (.getfield 15, 3) := by decide +kernel
theorem dIN_solve_89 : decode prog_5_method_10_code 89 = .ok (.iload_n 2, 1) := by decide +kernel
theorem dIN_solve_90 : decode prog_5_method_10_code 90 = .ok (.iaload, 1) := by decide +kernel
theorem dIN_solve_91 : decode prog_5_method_10_code 91 = .ok (.iconst 1, 1) := by decide +kernel
theorem dIN_solve_92 : decode prog_5_method_10_code 92 = .ok (.if_icmp .ne (55), 3) := by decide +kernel
theorem dIN_solve_95 : decode prog_5_method_10_code 95 = .ok (.aload_n 0, 1) := by decide +kernel
theorem dIN_solve_96 : decode prog_5_method_10_code 96 = .ok (.getfield 15, 3) := by decide +kernel
theorem dIN_solve_99 : decode prog_5_method_10_code 99 = .ok (.iload_n 3, 1) := by decide +kernel
theorem dIN_solve_100 : decode prog_5_method_10_code 100 = .ok (.iaload, 1) := by decide +kernel
theorem dIN_solve_101 : decode prog_5_method_10_code 101 = .ok (.iconst 1, 1) := by decide +kernel
theorem dIN_solve_102 : decode prog_5_method_10_code 102 = .ok (.if_icmp .ne (45), 3) := by decide +kernel
theorem dIN_solve_105 : decode prog_5_method_10_code 105 = .ok (.aload_n 0, 1) := by decide +kernel
theorem dIN_solve_106 : decode prog_5_method_10_code 106 = .ok (.getfield 11, 3) := by decide +kernel
theorem dIN_solve_109 : decode prog_5_method_10_code 109 = .ok (.iload_n 2, 1) := by decide +kernel
theorem dIN_solve_110 : decode prog_5_method_10_code 110 = .ok (.iload_n 3, 1) := by decide +kernel
theorem dIN_solve_111 : decode prog_5_method_10_code 111 = .ok (.iastore, 1) := by decide +kernel
theorem dIN_solve_112 : decode prog_5_method_10_code 112 = .ok (.aload_n 0, 1) := by decide +kernel
theorem dIN_solve_113 : decode prog_5_method_10_code 113 = .ok (.aload_n 0, 1) := by decide +kernel
theorem dIN_solve_114 : decode prog_5_method_10_code 114 = .ok (.getfield 18, 3) := by decide +kernel
theorem dIN_solve_117 : decode prog_5_method_10_code 117 = .ok (.iload_n 2, 1) := by decide +kernel
theorem dIN_solve_118 : decode prog_5_method_10_code 118 = .ok (.iaload, 1) := by decide +kernel
theorem dIN_solve_119 : decode prog_5_method_10_code 119 = .ok (.aload_n 0, 1) := by decide +kernel
theorem dIN_solve_120 : decode prog_5_method_10_code 120 = .ok (.getfield 18, 3) := by decide +kernel
theorem dIN_solve_123 : decode prog_5_method_10_code 123 = .ok (.iload_n 3, 1) := by decide +kernel
theorem dIN_solve_124 : decode prog_5_method_10_code 124 = .ok (.iaload, 1) := by decide +kernel
theorem dIN_solve_125 : decode prog_5_method_10_code 125 = .ok (.invokevirtual 46, 3) := by decide +kernel
theorem dIN_solve_128 : decode prog_5_method_10_code 128 = .ok (.aload_n 0, 1) := by decide +kernel
theorem dIN_solve_129 : decode prog_5_method_10_code 129 = .ok (.aload_n 0, 1) := by decide +kernel
theorem dIN_solve_130 : decode prog_5_method_10_code 130 = .ok (.getfield 21, 3) := by decide +kernel
theorem dIN_solve_133 : decode prog_5_method_10_code 133 = .ok (.iload_n 2, 1) := by decide +kernel
theorem dIN_solve_134 : decode prog_5_method_10_code 134 = .ok (.iaload, 1) := by decide +kernel
theorem dIN_solve_135 : decode prog_5_method_10_code 135 = .ok (.aload_n 0, 1) := by decide +kernel
theorem dIN_solve_136 : decode prog_5_method_10_code 136 = .ok (.getfield 21, 3) := by decide +kernel
theorem dIN_solve_139 : decode prog_5_method_10_code 139 = .ok (.iload_n 3, 1) := by decide +kernel
theorem dIN_solve_140 : decode prog_5_method_10_code 140 = .ok (.iaload, 1) := by decide +kernel
theorem dIN_solve_141 : decode prog_5_method_10_code 141 = .ok (.invokevirtual 46, 3) := by decide +kernel
theorem dIN_solve_144 : decode prog_5_method_10_code 144 = .ok (.goto (5), 3) := by decide +kernel
theorem dIN_solve_147 : decode prog_5_method_10_code 147 = .ok (.iconst 0, 1) := by decide +kernel
theorem dIN_solve_148 : decode prog_5_method_10_code 148 = .ok (.ireturn, 1) := by decide +kernel
theorem dIN_solve_149 : decode prog_5_method_10_code 149 = .ok (.iinc 1 (1), 3) := by decide +kernel
theorem dIN_solve_152 : decode prog_5_method_10_code 152 = .ok (.goto (-150), 3) := by decide +kernel
theorem dIN_solve_155 : decode prog_5_method_10_code 155 = .ok (.iconst 1, 1) := by decide +kernel
theorem dIN_solve_156 : decode prog_5_method_10_code 156 = .ok (.ireturn, 1) := by decide +kernel
theorem l_IN_solve {G : sd_G} {o : Nat} {D0 : fx_D} {h0 : sd_H} {nx N : Nat} {K L R : Nat → Nat} {P : List (Nat × Nat)} (hB : G.2.1 ≤ o) (hK : co_K K) : ∀ (M e : Nat) (E : List (Nat × Nat)) (ρ lk : Nat → Nat) (D : fx_D), (E.length - e) + 2 * in_F K ρ ≤ M → e ≤ E.length → E.length + 2 * in_F K ρ ≤ 432 → in_G D N K L R lk → in_B N K L R lk → in_E D E N → lkr lk ρ → uf_inv K L R ρ (E.drop e) → (∀ p ∈ E.take e, ρ p.1 = ρ p.2) → (∀ σ, gsol K L R σ → sat P σ → rsp σ ρ ∧ sat E σ) → (∀ p ∈ P, p ∈ E) → in_f D0 D → sd_W G mIN_solve 1 0 0 (fx_b2 G.1.2 dk_S o h0 nx (so_yes N K L R P D0) (so_no K L R P D0)) 2 [(0, .ref (o + 299)), (1, .int (nI e))] [] (fx_h G.1.2 dk_S o D h0) nx 0 0 := by
  intro M
  induction M with
  | zero =>
    intro e E ρ lk D hM he h432 hG hb hE hr hu hd hs hP hf
    have e1 : e = E.length := by omega
    have hu' : uf_inv K L R ρ [] := by rw [List.drop_of_length_le (by omega)] at hu; exact hu
    have hd' : ∀ p ∈ P, ρ p.1 = ρ p.2 := fun p hp => hd p (by rw [List.take_of_length_le (by omega)]; exact hP p hp)
    have hE1 := hE.1
    refine sd_iload_n dIN_solve_2 rfl rfl ?_
    refine sd_aload_n dIN_solve_3 rfl rfl ?_
    refine fx_getiv (v := (nI (E.length))) 4 8 dIN_solve_4 fIN_71 rfl rfl (hE.2.1) ?_
    refine nn_icmp_ge 155 dIN_solve_7 (by decide) (by omega) (by omega) (fun c7 => ?_) (fun c7 => ?_)
    ·
      refine sd_iconst (v := nI 1) dIN_solve_155 (by decide) ?_
      exact sd_zret dIN_solve_156 rfl (Or.inr rfl) (Nat.le_refl _) (Nat.le_refl _) ⟨rfl, _, rfl, Or.inl ⟨rfl, lk, ρ, hG, hb, hr, hu', hd', fun σ g s => (hs σ g s).1, hf⟩⟩
    ·
      exact absurd c7 (by omega)
  | succ M ih =>
    intro e E ρ lk D hM he h432 hG hb hE hr hu hd hs hP hf
    have hE1 := hE.1
    by_cases hend : e = E.length
    · have hu' : uf_inv K L R ρ [] := by rw [List.drop_of_length_le (by omega)] at hu; exact hu
      have hd' : ∀ p ∈ P, ρ p.1 = ρ p.2 := fun p hp => hd p (by rw [List.take_of_length_le (by omega)]; exact hP p hp)
      refine sd_iload_n dIN_solve_2 rfl rfl ?_
      refine sd_aload_n dIN_solve_3 rfl rfl ?_
      refine fx_getiv (v := (nI (E.length))) 4 8 dIN_solve_4 fIN_71 rfl rfl (hE.2.1) ?_
      refine nn_icmp_ge 155 dIN_solve_7 (by decide) (by omega) (by omega) (fun c7 => ?_) (fun c7 => ?_)
      ·
        refine sd_iconst (v := nI 1) dIN_solve_155 (by decide) ?_
        exact sd_zret dIN_solve_156 rfl (Or.inr rfl) (Nat.le_refl _) (Nat.le_refl _) ⟨rfl, _, rfl, Or.inl ⟨rfl, lk, ρ, hG, hb, hr, hu', hd', fun σ g s => (hs σ g s).1, hf⟩⟩
      ·
        exact absurd c7 (by omega)
    · have hlt : e < E.length := by omega
      obtain ⟨p, hp⟩ : ∃ p, E[e]? = some p := ⟨_, List.getElem?_eq_getElem hlt⟩
      have hdr : E.drop e = p :: E.drop (e + 1) := by
        obtain ⟨z1, z2⟩ := List.getElem?_eq_some_iff.mp hp
        rw [List.drop_eq_getElem_cons z1, z2]
      have htk : E.take (e + 1) = E.take e ++ [p] := by
        rw [List.take_succ, hp]
        rfl
      obtain ⟨p1, p2, p3, p4⟩ := hE.2.2 e p hp
      have b2 := hb.2.1
      have lkN := fun m (hm : m < N) => (hb.2.2.1 m hm).1
      have x1 := lkr_lt hr lkN p3
      have y1 := lkr_lt hr lkN p4
      have hxx := hr.idem p.1
      have hyy := hr.idem p.2
      have ra := c_IN_root (G := G) (o := o) (h0 := h0) (nx := nx) hG hb hr p3
      have rb := c_IN_root (G := G) (o := o) (h0 := h0) (nx := nx) hG hb hr p4
      obtain ⟨a, b⟩ := p
      simp only at *
      rw [hdr] at hu
      obtain ⟨-, kx, lx⟩ := hG.2 _ x1
      obtain ⟨-, ky, ly⟩ := hG.2 _ y1
      have kx4 := hb.2.2.2.1 (ρ a)
      have ky4 := hb.2.2.2.1 (ρ b)
      by_cases exy : ρ a = ρ b
      · skip
        refine sd_iload_n dIN_solve_2 rfl rfl ?_
        refine sd_aload_n dIN_solve_3 rfl rfl ?_
        refine fx_getiv (v := (nI (E.length))) 4 8 dIN_solve_4 fIN_71 rfl rfl (hE.2.1) ?_
        refine nn_icmp_ge 155 dIN_solve_7 (by decide) (by omega) (by omega) (fun c7 => ?_) (fun c7 => ?_)
        ·
          exact absurd c7 (by omega)
        ·
          refine sd_iload_n dIN_solve_10 rfl rfl ?_
          refine sd_sipush (v := nI 432) dIN_solve_11 (by decide) ?_
          refine nn_icmp_ge 155 dIN_solve_14 (by decide) (by omega) (by omega) (fun c14 => ?_) (fun c14 => ?_)
          ·
            exact absurd c14 (by omega)
          ·
            refine sd_aload_n dIN_solve_17 rfl rfl ?_
            refine sd_aload_n dIN_solve_18 rfl rfl ?_
            refine fx_getr 4 5 (305) dIN_solve_19 fIN_27 rfl rfl ?_
            refine sd_iload_n dIN_solve_22 rfl rfl ?_
            refine fx_ialdv (v := (nI (a))) (e) dIN_solve_23 rfl rfl (by omega) (by decide) (p1) ?_
            refine fx_cV 4 sR_IN [.int (nI (a))] [] dIN_solve_24 kIN_68 rfl rfl mIN_root_v (ra) (by decide) (Nat.le_refl _) (Nat.le_refl _) (Nat.le_of_ble_eq_true rfl) rfl ?_
            refine sd_istore_n dIN_solve_27 rfl (by decide) ?_
            refine sd_aload_n dIN_solve_28 rfl rfl ?_
            refine sd_aload_n dIN_solve_29 rfl rfl ?_
            refine fx_getr 4 6 (306) dIN_solve_30 fIN_30 rfl rfl ?_
            refine sd_iload_n dIN_solve_33 rfl rfl ?_
            refine fx_ialdv (v := (nI (b))) (e) dIN_solve_34 rfl rfl (by omega) (by decide) (p2) ?_
            refine fx_cV 4 sR_IN [.int (nI (b))] [] dIN_solve_35 kIN_68 rfl rfl mIN_root_v (rb) (by decide) (Nat.le_refl _) (Nat.le_refl _) (Nat.le_of_ble_eq_true rfl) rfl ?_
            refine sd_istore_n dIN_solve_38 rfl (by decide) ?_
            refine sd_iload_n dIN_solve_39 rfl rfl ?_
            refine sd_iload_n dIN_solve_40 rfl rfl ?_
            refine nn_icmp_ne 47 dIN_solve_41 (by decide) (by omega) (by omega) (fun c41 => ?_) (fun c41 => ?_)
            ·
              exact absurd exy c41
            ·
              refine sd_goto 149 dIN_solve_44 (by decide) ?_
              refine nn_iinc 1 dIN_solve_149 rfl (by decide) ?_
              refine sd_goto 2 dIN_solve_152 (by decide) ?_
              refine sd_locp (al' := [(0, .ref (o + (299))), (1, .int (nI (e + 1)))]) [3, 0] rfl ?_
              exact ih (e + 1) E ρ lk D (by omega) (by omega) h432 hG hb hE hr (uf_same hu exy) (fun q hq => by rw [htk] at hq; rcases List.mem_append.mp hq with hq | hq; exact hd q hq; rw [List.mem_singleton.mp hq]; exact exy) hs hP hf
      · have step : ∀ (x y : Nat), ρ x = x → ρ y = y → x ≠ y → x < N → y < N → ((ρ a = x ∧ ρ b = y) ∨ (ρ b = x ∧ ρ a = y)) → (lkr (upN lk x y) (lkn ρ x y)) ∧ (∀ q ∈ E.take (e + 1), lkn ρ x y q.1 = lkn ρ x y q.2) ∧ (∀ σ, gsol K L R σ → sat P σ → rsp σ (lkn ρ x y) ∧ sat E σ) := by
          intro x y hx hy hne hxN hyN hab
          refine ⟨lkr_up hr hx hy hne, fun q hq => ?_, fun σ g s => ?_⟩
          · rw [htk] at hq
            rcases List.mem_append.mp hq with hq | hq
            · exact lkn_eq (hd q hq)
            · rw [List.mem_singleton.mp hq]
              exact lkn_join hne hab
          · obtain ⟨s1, s2⟩ := hs σ g s
            refine ⟨rsp_lkn s1 ?_, s2⟩
            have := s2 (a, b) (List.mem_of_getElem? hp)
            simp only at this
            rcases hab with ⟨e1, e2⟩ | ⟨e1, e2⟩
            · rw [← e1, ← e2, s1, s1]
              exact this
            · rw [← e1, ← e2, s1, s1]
              exact this.symm
        by_cases k0 : K (ρ a) = 0
        · rw [k0] at kx
          obtain ⟨t1, t2, t3⟩ := step (ρ a) (ρ b) hxx hyy exy x1 y1 (Or.inl ⟨rfl, rfl⟩)
          have fle := in_F_le (K := K) (x := ρ a) hyy
          refine sd_iload_n dIN_solve_2 rfl rfl ?_
          refine sd_aload_n dIN_solve_3 rfl rfl ?_
          refine fx_getiv (v := (nI (E.length))) 4 8 dIN_solve_4 fIN_71 rfl rfl (hE.2.1) ?_
          refine nn_icmp_ge 155 dIN_solve_7 (by decide) (by omega) (by omega) (fun c7 => ?_) (fun c7 => ?_)
          ·
            exact absurd c7 (by omega)
          ·
            refine sd_iload_n dIN_solve_10 rfl rfl ?_
            refine sd_sipush (v := nI 432) dIN_solve_11 (by decide) ?_
            refine nn_icmp_ge 155 dIN_solve_14 (by decide) (by omega) (by omega) (fun c14 => ?_) (fun c14 => ?_)
            ·
              exact absurd c14 (by omega)
            ·
              refine sd_aload_n dIN_solve_17 rfl rfl ?_
              refine sd_aload_n dIN_solve_18 rfl rfl ?_
              refine fx_getr 4 5 (305) dIN_solve_19 fIN_27 rfl rfl ?_
              refine sd_iload_n dIN_solve_22 rfl rfl ?_
              refine fx_ialdv (v := (nI (a))) (e) dIN_solve_23 rfl rfl (by omega) (by decide) (p1) ?_
              refine fx_cV 4 sR_IN [.int (nI (a))] [] dIN_solve_24 kIN_68 rfl rfl mIN_root_v (ra) (by decide) (Nat.le_refl _) (Nat.le_refl _) (Nat.le_of_ble_eq_true rfl) rfl ?_
              refine sd_istore_n dIN_solve_27 rfl (by decide) ?_
              refine sd_aload_n dIN_solve_28 rfl rfl ?_
              refine sd_aload_n dIN_solve_29 rfl rfl ?_
              refine fx_getr 4 6 (306) dIN_solve_30 fIN_30 rfl rfl ?_
              refine sd_iload_n dIN_solve_33 rfl rfl ?_
              refine fx_ialdv (v := (nI (b))) (e) dIN_solve_34 rfl rfl (by omega) (by decide) (p2) ?_
              refine fx_cV 4 sR_IN [.int (nI (b))] [] dIN_solve_35 kIN_68 rfl rfl mIN_root_v (rb) (by decide) (Nat.le_refl _) (Nat.le_refl _) (Nat.le_of_ble_eq_true rfl) rfl ?_
              refine sd_istore_n dIN_solve_38 rfl (by decide) ?_
              refine sd_iload_n dIN_solve_39 rfl rfl ?_
              refine sd_iload_n dIN_solve_40 rfl rfl ?_
              refine nn_icmp_ne 47 dIN_solve_41 (by decide) (by omega) (by omega) (fun c41 => ?_) (fun c41 => ?_)
              ·
                refine sd_aload_n dIN_solve_47 rfl rfl ?_
                refine fx_getr 4 1 (301) dIN_solve_48 fIN_15 rfl rfl ?_
                refine sd_iload_n dIN_solve_51 rfl rfl ?_
                refine fx_ialdv (v := (nI (0))) (ρ a) dIN_solve_52 rfl rfl (by omega) (by decide) (kx) ?_
                refine nn_if_ne 66 dIN_solve_53 (by decide) (by decide) (fun c => absurd c (by decide)) (fun _ => ?_)
                refine sd_aload_n dIN_solve_56 rfl rfl ?_
                refine fx_getr 4 0 (300) dIN_solve_57 fIN_11 rfl rfl ?_
                refine sd_iload_n dIN_solve_60 rfl rfl ?_
                refine sd_iload_n dIN_solve_61 rfl rfl ?_
                refine fx_iast (ρ a) dIN_solve_62 rfl rfl (by omega) (by decide) hB ?_
                refine sd_goto 149 dIN_solve_63 (by decide) ?_
                refine nn_iinc 1 dIN_solve_149 rfl (by decide) ?_
                refine sd_goto 2 dIN_solve_152 (by decide) ?_
                refine sd_locp (al' := [(0, .ref (o + (299))), (1, .int (nI (e + 1)))]) [3, 0] rfl ?_
                exact ih (e + 1) E _ _ _ (by omega) (by omega) (by omega) (in_G_link hG) (in_B_link hb x1 y1) (in_E_link hE) t1 (uf_open hu hxx hyy exy (Or.inl ⟨rfl, rfl⟩) k0) t2 t3 hP (hf.tr (fun z hz => ag_ua (by omega)))
              ·
                exact absurd c41 exy
        · by_cases k1 : K (ρ b) = 0
          · rw [k1] at ky
            obtain ⟨t1, t2, t3⟩ := step (ρ b) (ρ a) hyy hxx (fun z => exy z.symm) y1 x1 (Or.inr ⟨rfl, rfl⟩)
            have fle := in_F_le (K := K) (x := ρ b) hxx
            have kn : in_ck (K (ρ a)) ≠ 0 := by unfold in_ck; split; omega; split; omega; split <;> omega
            have kn9 : in_ck (K (ρ a)) < 9 := by unfold in_ck; split; omega; split; omega; split <;> omega
            refine sd_iload_n dIN_solve_2 rfl rfl ?_
            refine sd_aload_n dIN_solve_3 rfl rfl ?_
            refine fx_getiv (v := (nI (E.length))) 4 8 dIN_solve_4 fIN_71 rfl rfl (hE.2.1) ?_
            refine nn_icmp_ge 155 dIN_solve_7 (by decide) (by omega) (by omega) (fun c7 => ?_) (fun c7 => ?_)
            ·
              exact absurd c7 (by omega)
            ·
              refine sd_iload_n dIN_solve_10 rfl rfl ?_
              refine sd_sipush (v := nI 432) dIN_solve_11 (by decide) ?_
              refine nn_icmp_ge 155 dIN_solve_14 (by decide) (by omega) (by omega) (fun c14 => ?_) (fun c14 => ?_)
              ·
                exact absurd c14 (by omega)
              ·
                refine sd_aload_n dIN_solve_17 rfl rfl ?_
                refine sd_aload_n dIN_solve_18 rfl rfl ?_
                refine fx_getr 4 5 (305) dIN_solve_19 fIN_27 rfl rfl ?_
                refine sd_iload_n dIN_solve_22 rfl rfl ?_
                refine fx_ialdv (v := (nI (a))) (e) dIN_solve_23 rfl rfl (by omega) (by decide) (p1) ?_
                refine fx_cV 4 sR_IN [.int (nI (a))] [] dIN_solve_24 kIN_68 rfl rfl mIN_root_v (ra) (by decide) (Nat.le_refl _) (Nat.le_refl _) (Nat.le_of_ble_eq_true rfl) rfl ?_
                refine sd_istore_n dIN_solve_27 rfl (by decide) ?_
                refine sd_aload_n dIN_solve_28 rfl rfl ?_
                refine sd_aload_n dIN_solve_29 rfl rfl ?_
                refine fx_getr 4 6 (306) dIN_solve_30 fIN_30 rfl rfl ?_
                refine sd_iload_n dIN_solve_33 rfl rfl ?_
                refine fx_ialdv (v := (nI (b))) (e) dIN_solve_34 rfl rfl (by omega) (by decide) (p2) ?_
                refine fx_cV 4 sR_IN [.int (nI (b))] [] dIN_solve_35 kIN_68 rfl rfl mIN_root_v (rb) (by decide) (Nat.le_refl _) (Nat.le_refl _) (Nat.le_of_ble_eq_true rfl) rfl ?_
                refine sd_istore_n dIN_solve_38 rfl (by decide) ?_
                refine sd_iload_n dIN_solve_39 rfl rfl ?_
                refine sd_iload_n dIN_solve_40 rfl rfl ?_
                refine nn_icmp_ne 47 dIN_solve_41 (by decide) (by omega) (by omega) (fun c41 => ?_) (fun c41 => ?_)
                ·
                  refine sd_aload_n dIN_solve_47 rfl rfl ?_
                  refine fx_getr 4 1 (301) dIN_solve_48 fIN_15 rfl rfl ?_
                  refine sd_iload_n dIN_solve_51 rfl rfl ?_
                  refine fx_ialdv (v := (nI (in_ck (K (ρ a))))) (ρ a) dIN_solve_52 rfl rfl (by omega) (by decide) (kx) ?_
                  refine nn_if_ne 66 dIN_solve_53 (by decide) (by omega) (fun c53 => ?_) (fun c53 => ?_)
                  ·
                    refine sd_aload_n dIN_solve_66 rfl rfl ?_
                    refine fx_getr 4 1 (301) dIN_solve_67 fIN_15 rfl rfl ?_
                    refine sd_iload_n dIN_solve_70 rfl rfl ?_
                    refine fx_ialdv (v := (nI (0))) (ρ b) dIN_solve_71 rfl rfl (by omega) (by decide) (ky) ?_
                    refine nn_if_ne 85 dIN_solve_72 (by decide) (by decide) (fun c => absurd c (by decide)) (fun _ => ?_)
                    refine sd_aload_n dIN_solve_75 rfl rfl ?_
                    refine fx_getr 4 0 (300) dIN_solve_76 fIN_11 rfl rfl ?_
                    refine sd_iload_n dIN_solve_79 rfl rfl ?_
                    refine sd_iload_n dIN_solve_80 rfl rfl ?_
                    refine fx_iast (ρ b) dIN_solve_81 rfl rfl (by omega) (by decide) hB ?_
                    refine sd_goto 149 dIN_solve_82 (by decide) ?_
                    refine nn_iinc 1 dIN_solve_149 rfl (by decide) ?_
                    refine sd_goto 2 dIN_solve_152 (by decide) ?_
                    refine sd_locp (al' := [(0, .ref (o + (299))), (1, .int (nI (e + 1)))]) [3, 0] rfl ?_
                    exact ih (e + 1) E _ _ _ (by omega) (by omega) (by omega) (in_G_link hG) (in_B_link hb y1 x1) (in_E_link hE) t1 (uf_open hu hyy hxx (fun z => exy z.symm) (Or.inr ⟨rfl, rfl⟩) k1) t2 t3 hP (hf.tr (fun z hz => ag_ua (by omega)))
                  ·
                    exact absurd c53 kn
                ·
                  exact absurd c41 exy
          · have kn : in_ck (K (ρ a)) ≠ 0 := by unfold in_ck; split; omega; split; omega; split <;> omega
            have km : in_ck (K (ρ b)) ≠ 0 := by unfold in_ck; split; omega; split; omega; split <;> omega
            have kn9 : in_ck (K (ρ a)) < 9 := by unfold in_ck; split; omega; split; omega; split <;> omega
            have km9 : in_ck (K (ρ b)) < 9 := by unfold in_ck; split; omega; split; omega; split <;> omega
            have ka3 : in_ck (K (ρ a)) = 1 ↔ K (ρ a) = 3 := by unfold in_ck; split; omega; split; omega; split <;> omega
            have kb3 : in_ck (K (ρ b)) = 1 ↔ K (ρ b) = 3 := by unfold in_ck; split; omega; split; omega; split <;> omega
            by_cases k3 : K (ρ a) = 3 ∧ K (ρ b) = 3
            · obtain ⟨k3a, k3b⟩ := k3
              obtain ⟨t1, t2, t3⟩ := step (ρ a) (ρ b) hxx hyy exy x1 y1 (Or.inl ⟨rfl, rfl⟩)
              have flt := in_F_lt (K := K) hxx hyy exy k3a (by omega)
              obtain ⟨la, ra'⟩ := lx k3a
              obtain ⟨lb, rb'⟩ := ly k3b
              obtain ⟨laN, raN⟩ := (hb.2.2.1 _ x1).2 k3a
              obtain ⟨lbN, rbN⟩ := (hb.2.2.1 _ y1).2 k3b
              have kx' : D.1 301 (ρ a) = nI 1 := by rw [kx, ka3.mpr k3a]
              have ky' : D.1 301 (ρ b) = nI 1 := by rw [ky, kb3.mpr k3b]
              have hE1' := eq_E (a := L (ρ a)) (b := L (ρ b)) (in_E_link (x := ρ a) (v := nI (ρ b)) hE) (by omega) laN lbN
              have hE2 := eq_E (a := R (ρ a)) (b := R (ρ b)) hE1' (by simp; omega) raN rbN
              rw [List.length_append] at hE2
              have hsat : ∀ σ, gsol K L R σ → sat P σ → rsp σ (lkn ρ (ρ a) (ρ b)) ∧ sat (E ++ [(L (ρ a), L (ρ b))] ++ [(R (ρ a), R (ρ b))]) σ := fun σ g s => by
                obtain ⟨s1, s2⟩ := t3 σ g s
                have r0 := (hs σ g s).1
                have eab : σ (ρ a) = σ (ρ b) := by
                  rw [r0, r0]
                  exact s2 (a, b) (List.mem_of_getElem? hp)
                obtain ⟨q1, q2⟩ := gsol_fun g k3a k3b eab
                exact ⟨s1, sat_app.mpr ⟨sat_app.mpr ⟨s2, sat_1.mpr q1⟩, sat_1.mpr q2⟩⟩
              have huf := (uf_fun hu hxx hyy exy (Or.inl ⟨rfl, rfl⟩) k3a k3b).mem (Q := (E ++ [(L (ρ a), L (ρ b))] ++ [(R (ρ a), R (ρ b))]).drop (e + 1)) (fun q hq => by
                rw [List.append_assoc, List.drop_append_of_le_length (by omega)]
                rcases List.mem_cons.mp hq with rfl | hq
                · exact List.mem_append_right _ (by simp)
                · rcases List.mem_cons.mp hq with rfl | hq
                  · exact List.mem_append_right _ (by simp)
                  · exact List.mem_append_left _ hq)
              have t2' : ∀ q ∈ (E ++ [(L (ρ a), L (ρ b))] ++ [(R (ρ a), R (ρ b))]).take (e + 1), lkn ρ (ρ a) (ρ b) q.1 = lkn ρ (ρ a) (ρ b) q.2 := fun q hq => by
                rw [List.append_assoc, List.take_append_of_le_length (by omega)] at hq
                exact t2 q hq
              refine sd_iload_n dIN_solve_2 rfl rfl ?_
              refine sd_aload_n dIN_solve_3 rfl rfl ?_
              refine fx_getiv (v := (nI (E.length))) 4 8 dIN_solve_4 fIN_71 rfl rfl (hE.2.1) ?_
              refine nn_icmp_ge 155 dIN_solve_7 (by decide) (by omega) (by omega) (fun c7 => ?_) (fun c7 => ?_)
              ·
                exact absurd c7 (by omega)
              ·
                refine sd_iload_n dIN_solve_10 rfl rfl ?_
                refine sd_sipush (v := nI 432) dIN_solve_11 (by decide) ?_
                refine nn_icmp_ge 155 dIN_solve_14 (by decide) (by omega) (by omega) (fun c14 => ?_) (fun c14 => ?_)
                ·
                  exact absurd c14 (by omega)
                ·
                  refine sd_aload_n dIN_solve_17 rfl rfl ?_
                  refine sd_aload_n dIN_solve_18 rfl rfl ?_
                  refine fx_getr 4 5 (305) dIN_solve_19 fIN_27 rfl rfl ?_
                  refine sd_iload_n dIN_solve_22 rfl rfl ?_
                  refine fx_ialdv (v := (nI (a))) (e) dIN_solve_23 rfl rfl (by omega) (by decide) (p1) ?_
                  refine fx_cV 4 sR_IN [.int (nI (a))] [] dIN_solve_24 kIN_68 rfl rfl mIN_root_v (ra) (by decide) (Nat.le_refl _) (Nat.le_refl _) (Nat.le_of_ble_eq_true rfl) rfl ?_
                  refine sd_istore_n dIN_solve_27 rfl (by decide) ?_
                  refine sd_aload_n dIN_solve_28 rfl rfl ?_
                  refine sd_aload_n dIN_solve_29 rfl rfl ?_
                  refine fx_getr 4 6 (306) dIN_solve_30 fIN_30 rfl rfl ?_
                  refine sd_iload_n dIN_solve_33 rfl rfl ?_
                  refine fx_ialdv (v := (nI (b))) (e) dIN_solve_34 rfl rfl (by omega) (by decide) (p2) ?_
                  refine fx_cV 4 sR_IN [.int (nI (b))] [] dIN_solve_35 kIN_68 rfl rfl mIN_root_v (rb) (by decide) (Nat.le_refl _) (Nat.le_refl _) (Nat.le_of_ble_eq_true rfl) rfl ?_
                  refine sd_istore_n dIN_solve_38 rfl (by decide) ?_
                  refine sd_iload_n dIN_solve_39 rfl rfl ?_
                  refine sd_iload_n dIN_solve_40 rfl rfl ?_
                  refine nn_icmp_ne 47 dIN_solve_41 (by decide) (by omega) (by omega) (fun c41 => ?_) (fun c41 => ?_)
                  ·
                    refine sd_aload_n dIN_solve_47 rfl rfl ?_
                    refine fx_getr 4 1 (301) dIN_solve_48 fIN_15 rfl rfl ?_
                    refine sd_iload_n dIN_solve_51 rfl rfl ?_
                    refine fx_ialdv (v := (nI (1))) (ρ a) dIN_solve_52 rfl rfl (by omega) (by decide) (kx') ?_
                    refine nn_if_ne 66 dIN_solve_53 (by decide) (by decide) (fun _ => ?_) (fun c => absurd c (by decide))
                    refine sd_aload_n dIN_solve_66 rfl rfl ?_
                    refine fx_getr 4 1 (301) dIN_solve_67 fIN_15 rfl rfl ?_
                    refine sd_iload_n dIN_solve_70 rfl rfl ?_
                    refine fx_ialdv (v := (nI (1))) (ρ b) dIN_solve_71 rfl rfl (by omega) (by decide) (ky') ?_
                    refine nn_if_ne 85 dIN_solve_72 (by decide) (by decide) (fun _ => ?_) (fun c => absurd c (by decide))
                    refine sd_aload_n dIN_solve_85 rfl rfl ?_
                    refine fx_getr 4 1 (301) dIN_solve_86 fIN_15 rfl rfl ?_
                    refine sd_iload_n dIN_solve_89 rfl rfl ?_
                    refine fx_ialdv (v := (nI (1))) (ρ a) dIN_solve_90 rfl rfl (by omega) (by decide) (kx') ?_
                    refine sd_iconst (v := nI 1) dIN_solve_91 (by decide) ?_
                    refine nn_icmp_ne 147 dIN_solve_92 (by decide) (by decide) (by decide) (fun c => absurd c (by decide)) (fun _ => ?_)
                    refine sd_aload_n dIN_solve_95 rfl rfl ?_
                    refine fx_getr 4 1 (301) dIN_solve_96 fIN_15 rfl rfl ?_
                    refine sd_iload_n dIN_solve_99 rfl rfl ?_
                    refine fx_ialdv (v := (nI (1))) (ρ b) dIN_solve_100 rfl rfl (by omega) (by decide) (ky') ?_
                    refine sd_iconst (v := nI 1) dIN_solve_101 (by decide) ?_
                    refine nn_icmp_ne 147 dIN_solve_102 (by decide) (by decide) (by decide) (fun c => absurd c (by decide)) (fun _ => ?_)
                    refine sd_aload_n dIN_solve_105 rfl rfl ?_
                    refine fx_getr 4 0 (300) dIN_solve_106 fIN_11 rfl rfl ?_
                    refine sd_iload_n dIN_solve_109 rfl rfl ?_
                    refine sd_iload_n dIN_solve_110 rfl rfl ?_
                    refine fx_iast (ρ a) dIN_solve_111 rfl rfl (by omega) (by decide) hB ?_
                    refine sd_aload_n dIN_solve_112 rfl rfl ?_
                    refine sd_aload_n dIN_solve_113 rfl rfl ?_
                    refine fx_getr 4 2 (302) dIN_solve_114 fIN_18 rfl rfl ?_
                    refine sd_iload_n dIN_solve_117 rfl rfl ?_
                    refine fx_ialdv (v := (nI (L (ρ a)))) (ρ a) dIN_solve_118 rfl rfl (by omega) (by decide) ((by simpa [fx_ua] using la)) ?_
                    refine sd_aload_n dIN_solve_119 rfl rfl ?_
                    refine fx_getr 4 2 (302) dIN_solve_120 fIN_18 rfl rfl ?_
                    refine sd_iload_n dIN_solve_123 rfl rfl ?_
                    refine fx_ialdv (v := (nI (L (ρ b)))) (ρ b) dIN_solve_124 rfl rfl (by omega) (by decide) ((by simpa [fx_ua] using lb)) ?_
                    refine fx_cV 4 sR_IN [.int (nI (L (ρ a))), .int (nI (L (ρ b)))] [] dIN_solve_125 kIN_46 rfl rfl mIN_equate_v (c_IN_equate (n := E.length) hB (in_E_link hE).2.1 (by omega) (by omega) (by omega)) (by decide) (Nat.le_refl _) (Nat.le_refl _) (Nat.le_of_ble_eq_true rfl) rfl ?_
                    refine sd_aload_n dIN_solve_128 rfl rfl ?_
                    refine sd_aload_n dIN_solve_129 rfl rfl ?_
                    refine fx_getr 4 3 (303) dIN_solve_130 fIN_21 rfl rfl ?_
                    refine sd_iload_n dIN_solve_133 rfl rfl ?_
                    refine fx_ialdv (v := (nI (R (ρ a)))) (ρ a) dIN_solve_134 rfl rfl (by omega) (by decide) ((by simpa [eq_D, fx_ua, fx_uf] using ra')) ?_
                    refine sd_aload_n dIN_solve_135 rfl rfl ?_
                    refine fx_getr 4 3 (303) dIN_solve_136 fIN_21 rfl rfl ?_
                    refine sd_iload_n dIN_solve_139 rfl rfl ?_
                    refine fx_ialdv (v := (nI (R (ρ b)))) (ρ b) dIN_solve_140 rfl rfl (by omega) (by decide) ((by simpa [eq_D, fx_ua, fx_uf] using rb')) ?_
                    refine fx_cV 4 sR_IN [.int (nI (R (ρ a))), .int (nI (R (ρ b)))] [] dIN_solve_141 kIN_46 rfl rfl mIN_equate_v (c_IN_equate (n := E.length + 1) hB (by have z := hE1'.2.1; simpa using z) (by omega) (by omega) (by omega)) (by decide) (Nat.le_refl _) (Nat.le_refl _) (Nat.le_of_ble_eq_true rfl) rfl ?_
                    refine sd_goto 149 dIN_solve_144 (by decide) ?_
                    refine nn_iinc 1 dIN_solve_149 rfl (by decide) ?_
                    refine sd_goto 2 dIN_solve_152 (by decide) ?_
                    refine sd_locp (al' := [(0, .ref (o + (299))), (1, .int (nI (e + 1)))]) [3, 0] rfl ?_
                    exact ih (e + 1) _ _ _ _ (by simp only [List.length_append, List.length_singleton]; omega) (by simp only [List.length_append, List.length_singleton]; omega) (by simp only [List.length_append, List.length_singleton]; omega) (eq_G (eq_G (in_G_link hG))) (in_B_link hb x1 y1) hE2 t1 huf t2' hsat (fun q hq => List.mem_append_left _ (List.mem_append_left _ (hP q hq))) (hf.tr (in_f.tr lk_f (eq_f.tr eq_f)))
                  ·
                    exact absurd c41 exy
            · have hno : ∀ σ, gsol K L R σ → sat P σ → False := fun σ g s => by
                obtain ⟨s1, s2⟩ := hs σ g s
                have eab : σ (ρ a) = σ (ρ b) := by
                  rw [s1, s1]
                  exact s2 (a, b) (List.mem_of_getElem? hp)
                refine gsol_no g (by omega) (by omega) (fun ekk => ?_) eab
                have uniq : ∀ n, K n = 1 → n = 48 := fun n hn => by
                  by_cases z : n < 50
                  · have := hK.1 n z
                    rw [hn] at this
                    unfold K1_ at this
                    split at this
                    · assumption
                    · split at this <;> omega
                  · have := hK.2 n (by omega)
                    omega
                have uniq2 : ∀ n, K n = 2 → n = 49 := fun n hn => by
                  by_cases z : n < 50
                  · have := hK.1 n z
                    rw [hn] at this
                    unfold K1_ at this
                    split at this
                    · omega
                    · split at this
                      · assumption
                      · omega
                  · have := hK.2 n (by omega)
                    omega
                rcases (show K (ρ a) = 1 ∨ K (ρ a) = 2 ∨ K (ρ a) = 3 by omega) with q | q | q
                · exact exy ((uniq _ q).trans (uniq _ (by omega)).symm)
                · exact exy ((uniq2 _ q).trans (uniq2 _ (by omega)).symm)
                · exact k3 ⟨q, by omega⟩
              refine sd_iload_n dIN_solve_2 rfl rfl ?_
              refine sd_aload_n dIN_solve_3 rfl rfl ?_
              refine fx_getiv (v := (nI (E.length))) 4 8 dIN_solve_4 fIN_71 rfl rfl (hE.2.1) ?_
              refine nn_icmp_ge 155 dIN_solve_7 (by decide) (by omega) (by omega) (fun c7 => ?_) (fun c7 => ?_)
              ·
                exact absurd c7 (by omega)
              ·
                refine sd_iload_n dIN_solve_10 rfl rfl ?_
                refine sd_sipush (v := nI 432) dIN_solve_11 (by decide) ?_
                refine nn_icmp_ge 155 dIN_solve_14 (by decide) (by omega) (by omega) (fun c14 => ?_) (fun c14 => ?_)
                ·
                  exact absurd c14 (by omega)
                ·
                  refine sd_aload_n dIN_solve_17 rfl rfl ?_
                  refine sd_aload_n dIN_solve_18 rfl rfl ?_
                  refine fx_getr 4 5 (305) dIN_solve_19 fIN_27 rfl rfl ?_
                  refine sd_iload_n dIN_solve_22 rfl rfl ?_
                  refine fx_ialdv (v := (nI (a))) (e) dIN_solve_23 rfl rfl (by omega) (by decide) (p1) ?_
                  refine fx_cV 4 sR_IN [.int (nI (a))] [] dIN_solve_24 kIN_68 rfl rfl mIN_root_v (ra) (by decide) (Nat.le_refl _) (Nat.le_refl _) (Nat.le_of_ble_eq_true rfl) rfl ?_
                  refine sd_istore_n dIN_solve_27 rfl (by decide) ?_
                  refine sd_aload_n dIN_solve_28 rfl rfl ?_
                  refine sd_aload_n dIN_solve_29 rfl rfl ?_
                  refine fx_getr 4 6 (306) dIN_solve_30 fIN_30 rfl rfl ?_
                  refine sd_iload_n dIN_solve_33 rfl rfl ?_
                  refine fx_ialdv (v := (nI (b))) (e) dIN_solve_34 rfl rfl (by omega) (by decide) (p2) ?_
                  refine fx_cV 4 sR_IN [.int (nI (b))] [] dIN_solve_35 kIN_68 rfl rfl mIN_root_v (rb) (by decide) (Nat.le_refl _) (Nat.le_refl _) (Nat.le_of_ble_eq_true rfl) rfl ?_
                  refine sd_istore_n dIN_solve_38 rfl (by decide) ?_
                  refine sd_iload_n dIN_solve_39 rfl rfl ?_
                  refine sd_iload_n dIN_solve_40 rfl rfl ?_
                  refine nn_icmp_ne 47 dIN_solve_41 (by decide) (by omega) (by omega) (fun c41 => ?_) (fun c41 => ?_)
                  ·
                    refine sd_aload_n dIN_solve_47 rfl rfl ?_
                    refine fx_getr 4 1 (301) dIN_solve_48 fIN_15 rfl rfl ?_
                    refine sd_iload_n dIN_solve_51 rfl rfl ?_
                    refine fx_ialdv (v := (nI (in_ck (K (ρ a))))) (ρ a) dIN_solve_52 rfl rfl (by omega) (by decide) (kx) ?_
                    refine nn_if_ne 66 dIN_solve_53 (by decide) (by omega) (fun c53 => ?_) (fun c53 => ?_)
                    ·
                      refine sd_aload_n dIN_solve_66 rfl rfl ?_
                      refine fx_getr 4 1 (301) dIN_solve_67 fIN_15 rfl rfl ?_
                      refine sd_iload_n dIN_solve_70 rfl rfl ?_
                      refine fx_ialdv (v := (nI (in_ck (K (ρ b))))) (ρ b) dIN_solve_71 rfl rfl (by omega) (by decide) (ky) ?_
                      refine nn_if_ne 85 dIN_solve_72 (by decide) (by omega) (fun c72 => ?_) (fun c72 => ?_)
                      ·
                        refine sd_aload_n dIN_solve_85 rfl rfl ?_
                        refine fx_getr 4 1 (301) dIN_solve_86 fIN_15 rfl rfl ?_
                        refine sd_iload_n dIN_solve_89 rfl rfl ?_
                        refine fx_ialdv (v := (nI (in_ck (K (ρ a))))) (ρ a) dIN_solve_90 rfl rfl (by omega) (by decide) (kx) ?_
                        refine sd_iconst (v := nI 1) dIN_solve_91 (by decide) ?_
                        refine nn_icmp_ne 147 dIN_solve_92 (by decide) (by omega) (by omega) (fun c92 => ?_) (fun c92 => ?_)
                        ·
                          refine sd_iconst (v := nI 0) dIN_solve_147 (by decide) ?_
                          exact sd_zret dIN_solve_148 rfl (Or.inl rfl) (Nat.le_refl _) (Nat.le_refl _) ⟨rfl, _, rfl, Or.inr ⟨rfl, hno, hf⟩⟩
                        ·
                          refine sd_aload_n dIN_solve_95 rfl rfl ?_
                          refine fx_getr 4 1 (301) dIN_solve_96 fIN_15 rfl rfl ?_
                          refine sd_iload_n dIN_solve_99 rfl rfl ?_
                          refine fx_ialdv (v := (nI (in_ck (K (ρ b))))) (ρ b) dIN_solve_100 rfl rfl (by omega) (by decide) (ky) ?_
                          refine sd_iconst (v := nI 1) dIN_solve_101 (by decide) ?_
                          refine nn_icmp_ne 147 dIN_solve_102 (by decide) (by omega) (by omega) (fun c102 => ?_) (fun c102 => ?_)
                          ·
                            refine sd_iconst (v := nI 0) dIN_solve_147 (by decide) ?_
                            exact sd_zret dIN_solve_148 rfl (Or.inl rfl) (Nat.le_refl _) (Nat.le_refl _) ⟨rfl, _, rfl, Or.inr ⟨rfl, hno, hf⟩⟩
                          ·
                            exact absurd ⟨ka3.mp (Decidable.not_not.mp (fun z => absurd c92 z)), kb3.mp c102⟩ k3
                      ·
                        exact absurd c72 km
                    ·
                      exact absurd c53 kn
                  ·
                    exact absurd c41 exy
theorem c_IN_solve {G : sd_G} {o : Nat} {D : fx_D} {h0 : sd_H} {nx N : Nat} {K L R : Nat → Nat} {P : List (Nat × Nat)} (hB : G.2.1 ≤ o) (hK : co_K K) (hG : in_G D N K L R (fun n => n)) (hb : in_B N K L R (fun n => n)) (hE : in_E D P N) (hl : P.length ≤ 48) (hN : N ≤ 218) : sd_Ct G mIN_solve 1 0 0 [.ref (o + 299)] (fx_h G.1.2 dk_S o D h0) nx (fx_b2 G.1.2 dk_S o h0 nx (so_yes N K L R P D) (so_no K L R P D)) := by
  refine sd_Ct_of (by decide) (Nat.le_of_ble_eq_true rfl) ?_
  have fb := in_F_bd (ρ := fun n => n) hb hK
  refine sd_iconst (v := nI 0) dIN_solve_0 (by decide) ?_
  refine sd_istore_n dIN_solve_1 rfl (by decide) ?_
  refine sd_locp (al' := [(0, .ref (o + (299))), (1, .int (nI (0)))]) [1, 0] rfl ?_
  exact l_IN_solve hB hK _ 0 P (fun n => n) (fun n => n) D (Nat.le_refl _) (by omega) (by omega) hG hb hE ⟨fun n => rfl, fun n => ⟨0, rfl⟩⟩ ⟨fun n => rfl, fun n _ => rfl, fun n _ => ⟨fun f h1 h2 => rfl, fun f h1 h2 => rfl⟩⟩ (fun p hp => by simp at hp) (fun σ g s => ⟨fun n => rfl, s⟩) (fun p hp => hp) (in_f.rf D)
