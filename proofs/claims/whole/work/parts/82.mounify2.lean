/-! ===== the model: unify ===== -/
theorem uf_eq {K L R ρ : Nat → Nat} {P : List (Nat × Nat)} {a b x y : Nat} (h : uf_inv K L R ρ ((a, b) :: P)) (hx : ρ x = x) (hy : ρ y = y) (hne : x ≠ y) (hab : (ρ a = x ∧ ρ b = y) ∨ (ρ b = x ∧ ρ a = y)) (hk : K x = K y) (h3 : K x ≠ 3) : uf_inv K L R (lkn ρ x y) P := by
  obtain ⟨h1, h2, h3'⟩ := h
  refine ⟨lkn_idem h1 hy hne, fun n hn => ?_, fun n hn => ?_⟩
  · unfold lkn
    by_cases e : ρ n = x
    · rw [if_pos e, ← hk]
      have := h2 n hn
      rw [e] at this
      exact this
    · rw [if_neg e]
      exact h2 n hn
  · have e : ¬ ρ n = x := fun e => by
      have := h2 n (by omega)
      rw [e] at this
      omega
    have hL : lkn ρ x y n = ρ n := by unfold lkn; rw [if_neg e]
    rw [hL]
    exact ⟨eqv_lkn h1 hx hab (h3' n hn).1, eqv_lkn h1 hx hab (h3' n hn).2⟩
/-- how many functions stand for themselves -/
def uf_F (K ρ : Nat → Nat) : Nat := cn_r 194 (fun n => decide (K n = 3) && decide (ρ n = n))
theorem cn_r_le (P : Nat → Bool) : ∀ k, cn_r k P ≤ k
  | 0 => Nat.le_refl _
  | k + 1 => by
    rw [cn_r_succ]
    have := cn_r_le P k
    split <;> omega
theorem cn_r_sub {P Q : Nat → Bool} (h : ∀ i, P i = true → Q i = true) : ∀ k, cn_r k P ≤ cn_r k Q
  | 0 => Nat.le_refl _
  | k + 1 => by
    rw [cn_r_succ, cn_r_succ]
    have := cn_r_sub h k
    by_cases e : P k = true
    · rw [if_pos e, if_pos (h k e)]
      omega
    · rw [if_neg e]
      omega
theorem cn_r_lt {P Q : Nat → Bool} {x : Nat} (h : ∀ i, P i = true → Q i = true) (h1 : P x = false) (h2 : Q x = true) : ∀ k, x < k → cn_r k P < cn_r k Q
  | 0, hx => by omega
  | k + 1, hx => by
    rw [cn_r_succ, cn_r_succ]
    by_cases e : x = k
    · subst e
      rw [h1, if_pos h2]
      have := cn_r_sub h x
      simp
      omega
    · have := cn_r_lt h h1 h2 k (by omega)
      by_cases e2 : P k = true
      · rw [if_pos e2, if_pos (h k e2)]
        omega
      · rw [if_neg e2]
        omega
theorem lkn_fix {ρ : Nat → Nat} {x y n : Nat} (hy : ρ y = y) (h : lkn ρ x y n = n) : ρ n = n := by
  unfold lkn at h
  by_cases e : ρ n = x
  · rw [if_pos e] at h
    rw [← h]
    exact hy
  · rw [if_neg e] at h
    exact h
theorem uf_F_le {K ρ : Nat → Nat} {x y : Nat} (hy : ρ y = y) : uf_F K (lkn ρ x y) ≤ uf_F K ρ := by
  apply cn_r_sub
  intro i hi
  simp only [Bool.and_eq_true, decide_eq_true_eq] at hi ⊢
  exact ⟨hi.1, lkn_fix hy hi.2⟩
theorem uf_F_lt {K ρ : Nat → Nat} {x y : Nat} (hx : ρ x = x) (hy : ρ y = y) (hne : x ≠ y) (k : K x = 3) (hl : x < 194) : uf_F K (lkn ρ x y) < uf_F K ρ := by
  apply cn_r_lt (x := x) _ _ _ 194 hl
  · intro i hi
    simp only [Bool.and_eq_true, decide_eq_true_eq] at hi ⊢
    exact ⟨hi.1, lkn_fix hy hi.2⟩
  · have : ¬ lkn ρ x y x = x := by
      unfold lkn
      rw [if_pos hx]
      exact fun z => hne z.symm
    simp [this]
  · simp [k, hx]
/-- pairs to be made equal, the next one at the end -/
def sk2 (N : Nat) (D : fx_D) (P : List (Nat × Nat)) : Prop := ∀ (i : Nat) p, P[i]? = some p → D.1 29 (2 * i) = nI p.1 ∧ D.1 29 (2 * i + 1) = nI p.2 ∧ ac N p.1 ∧ ac N p.2
theorem sk2_pop {N : Nat} {D : fx_D} {P : List (Nat × Nat)} {p : Nat × Nat} (h : sk2 N D (P ++ [p])) : sk2 N D P := fun i q hi => h i q (by rw [List.getElem?_append_left (getE_lt hi)]; exact hi)
theorem sk2_top {N : Nat} {D : fx_D} {P : List (Nat × Nat)} {p : Nat × Nat} (h : sk2 N D (P ++ [p])) : D.1 29 (2 * P.length) = nI p.1 ∧ D.1 29 (2 * P.length + 1) = nI p.2 ∧ ac N p.1 ∧ ac N p.2 := h P.length p (by rw [List.getElem?_append_right (Nat.le_refl _), Nat.sub_self]; rfl)
theorem sk2_fr {N : Nat} {D D' : fx_D} {P : List (Nat × Nat)} (h : sk2 N D P) (hf : ∀ i, i < 2 * P.length → D'.1 29 i = D.1 29 i) : sk2 N D' P := fun i p hi => by
  have := getE_lt hi
  rw [hf _ (by omega), hf _ (by omega)]
  exact h i p hi
theorem sk2_push {N : Nat} {D : fx_D} {P : List (Nat × Nat)} {a b : Nat} (h : sk2 N D P) (e1 : D.1 29 (2 * P.length) = nI a) (e2 : D.1 29 (2 * P.length + 1) = nI b) (ha : ac N a) (hb : ac N b) : sk2 N D (P ++ [(a, b)]) := by
  intro i p hi
  by_cases hl : i < P.length
  · rw [List.getElem?_append_left hl] at hi
    exact h i p hi
  · have hgl := getE_lt hi
    rw [List.length_append, List.length_singleton] at hgl
    have e : i = P.length := by omega
    subst e
    rw [List.getElem?_append_right (Nat.le_refl _), Nat.sub_self] at hi
    cases hi
    exact ⟨e1, e2, ha, hb⟩
/-- D' differs from D in links and in what is to be done -/
def mo_fu (D D' : fx_D) : Prop := (∀ x, x ≠ 26 → x ≠ 29 → D'.1 x = D.1 x) ∧ D'.2 = D.2
theorem mo_fu.rf (D : fx_D) : mo_fu D D := ⟨fun _ _ _ => rfl, rfl⟩
theorem mo_fu.tr {D D' D2 : fx_D} (h : mo_fu D D') (h2 : mo_fu D' D2) : mo_fu D D2 := ⟨fun x a b => (h2.1 x a b).trans (h.1 x a b), h2.2.trans h.2⟩
theorem mo_fu.ua (D : fx_D) {x i : Nat} {v : Int32} (h : x = 26 ∨ x = 29) : mo_fu D (fx_ua D x i v) := ⟨fun y a b => by simp [fx_ua, show ¬ y = x by omega], rfl⟩
theorem ug_fu {D D' : fx_D} {N : Nat} {K L R lk : Nat → Nat} (h : ug D N K L R lk) (hf : mo_fu D D') (h26 : D'.1 26 = D.1 26) : ug D' N K L R lk := fun n hn => by
  rw [hf.1 23 (by decide) (by decide), hf.1 24 (by decide) (by decide), hf.1 25 (by decide) (by decide), h26]
  exact h n hn
theorem ug_lk {D : fx_D} {N : Nat} {K L R lk : Nat → Nat} {x y : Nat} (h : ug D N K L R lk) : ug (fx_ua D 26 x (nI y)) N K L R (upN lk x y) := fun n hn => by
  obtain ⟨h1, h2, h3, h4⟩ := h n hn
  refine ⟨by simpa [fx_ua] using h1, by simpa [fx_ua] using h2, by simpa [fx_ua] using h3, ?_⟩
  rw [ua_at]
  unfold upN
  by_cases e : n = x
  · rw [if_pos e, if_pos e]
  · rw [if_neg e, if_neg e]
    exact h4
theorem ug_b_lk {N : Nat} {K L R lk : Nat → Nat} {x y : Nat} (h : ug_b N K L R lk) (hx : ac N x) (hy : ac N y) : ug_b N K L R (upN lk x y) := by
  obtain ⟨h1, h2, h3, h4⟩ := h
  refine ⟨h1, h2, fun n hn => ?_, fun n hn => ?_⟩
  · obtain ⟨a, b, c⟩ := h3 n hn
    refine ⟨a, b, ?_⟩
    unfold upN
    split
    · exact hy
    · exact c
  · obtain ⟨a, b⟩ := h4 n hn
    refine ⟨a, ?_⟩
    unfold upN
    rw [if_neg (fun e => hn (by rw [e]; exact hx))]
    exact b
/-- what is said of functions is said of what they are made of -/
def cg {α : Type} (K L R : Nat → Nat) (g : Nat → α) : Prop := ∀ x y, K x = 3 → K y = 3 → g x = g y → g (L x) = g (L y) ∧ g (R x) = g (R y)
theorem gsol_cg {K L R : Nat → Nat} {τ : Nat → ft} (h : gsol K L R τ) : cg K L R τ := fun _ _ a b e => gsol_fun h a b e
theorem rsg_lkn {α : Type} {g : Nat → α} {ρ : Nat → Nat} {x y : Nat} (h : ∀ n, g (ρ n) = g n) (hxy : g x = g y) : ∀ n, g (lkn ρ x y n) = g n := by
  intro n
  unfold lkn
  by_cases e : ρ n = x
  · rw [if_pos e, ← hxy, ← e]
    exact h n
  · rw [if_neg e]
    exact h n
/-- unify made P equal -/
def un_yes (N : Nat) (K L R ρ : Nat → Nat) (P : List (Nat × Nat)) (D : fx_D) (D' : fx_D) : Prop := ∃ ρ' lk', ug D' N K L R lk' ∧ ug_b N K L R lk' ∧ lkr lk' ρ' ∧ uf_inv K L R ρ' [] ∧ (∀ c d, eqv ρ P c d → ρ' c = ρ' d) ∧ (∀ (α : Type) (g : Nat → α), cg K L R g → (∀ n, g (ρ n) = g n) → (∀ p ∈ P, g p.1 = g p.2) → ∀ n, g (ρ' n) = g n) ∧ mo_fu D D'
/-- P can't be made equal -/
def un_no (K L R ρ : Nat → Nat) (P : List (Nat × Nat)) : Prop := ∀ τ, gsol K L R τ → rsp τ ρ → (∀ p ∈ P, τ p.1 = τ p.2) → False
theorem dMO_unify_0 : decode prog_13_method_35_code 0 = .ok (.iconst 0, 1) := by decide +kernel
theorem dMO_unify_1 : decode prog_13_method_35_code 1 = .ok (.istore_n 3, 1) := by decide +kernel
theorem dMO_unify_2 : decode prog_13_method_35_code 2 = .ok (.aload_n 0, 1) := by decide +kernel
theorem dMO_unify_3 : decode prog_13_method_35_code 3 = .ok (.getfield 94, 3) := by decide +kernel
theorem dMO_unify_6 : decode prog_13_method_35_code 6 = .ok (.iload_n 3, 1) := by decide +kernel
theorem dMO_unify_7 : decode prog_13_method_35_code 7 = .ok (.iinc 3 (1), 3) := by decide +kernel
theorem dMO_unify_10 : decode prog_13_method_35_code 10 = .ok (.iload_n 1, 1) := by decide +kernel
theorem dMO_unify_11 : decode prog_13_method_35_code 11 = .ok (.iastore, 1) := by decide +kernel
theorem dMO_unify_12 : decode prog_13_method_35_code 12 = .ok (.aload_n 0, 1) := by decide +kernel
theorem dMO_unify_13 : decode prog_13_method_35_code 13 = .ok (.getfield 94, 3) := by decide +kernel
theorem dMO_unify_16 : decode prog_13_method_35_code 16 = .ok (.iload_n 3, 1) := by decide +kernel
theorem dMO_unify_17 : decode prog_13_method_35_code 17 = .ok (.iinc 3 (1), 3) := by decide +kernel
theorem dMO_unify_20 : decode prog_13_method_35_code 20 = .ok (.iload_n 2, 1) := by decide +kernel
theorem dMO_unify_21 : decode prog_13_method_35_code 21 = .ok (.iastore, 1) := by decide +kernel
theorem dMO_unify_22 : decode prog_13_method_35_code 22 = .ok (.iload_n 3, 1) := by decide +kernel
theorem dMO_unify_23 : decode prog_13_method_35_code 23 = .ok (.ifCond .le (196), 3) := by decide +kernel
theorem dMO_unify_26 : decode prog_13_method_35_code 26 = .ok (.aload_n 0, 1) := by decide +kernel
theorem dMO_unify_27 : decode prog_13_method_35_code 27 = .ok (.aload_n 0, 1) := by decide +kernel
theorem dMO_unify_28 : decode prog_13_method_35_code 28 = .ok (.getfield 94, 3) := by decide +kernel
theorem dMO_unify_31 : decode prog_13_method_35_code 31 = .ok (.iinc 3 (-1), 3) := by decide +kernel
theorem dMO_unify_34 : decode prog_13_method_35_code 34 = .ok (.iload_n 3, 1) := by decide +kernel
theorem dMO_unify_35 : decode prog_13_method_35_code 35 = .ok (.iaload, 1) := by decide +kernel
theorem dMO_unify_36 : decode prog_13_method_35_code 36 = .ok (.invokevirtual 168, 3) := by decide +kernel
theorem dMO_unify_39 : decode prog_13_method_35_code 39 = .ok (.istore 4, 2) := by decide +kernel
theorem dMO_unify_41 : decode prog_13_method_35_code 41 = .ok (.aload_n 0, 1) := by decide +kernel
theorem dMO_unify_42 : decode prog_13_method_35_code 42 = .ok (.aload_n 0, 1) := by decide +kernel
theorem dMO_unify_43 : decode prog_13_method_35_code 43 = .ok (.getfield 94, 3) := by decide +kernel
theorem dMO_unify_46 : decode prog_13_method_35_code 46 = .ok (.iinc 3 (-1), 3) := by decide +kernel
theorem dMO_unify_49 : decode prog_13_method_35_code 49 = .ok (.iload_n 3, 1) := by decide +kernel
theorem dMO_unify_50 : decode prog_13_method_35_code 50 = .ok (.iaload, 1) := by decide +kernel
theorem dMO_unify_51 : decode prog_13_method_35_code 51 = .ok (.invokevirtual 168, 3) := by decide +kernel
theorem dMO_unify_54 : decode prog_13_method_35_code 54 = .ok (.istore 5, 2) := by decide +kernel
theorem dMO_unify_56 : decode prog_13_method_35_code 56 = .ok (.iload 5, 2) := by decide +kernel
theorem dMO_unify_58 : decode prog_13_method_35_code 58 = .ok (.iload 4, 2) := by decide +kernel
theorem dMO_unify_60 : decode prog_13_method_35_code 60 = .ok (.if_icmp .ne (6), 3) := by decide +kernel
theorem dMO_unify_63 : decode prog_13_method_35_code 63 = .ok (.goto (-41), 3) := by decide +kernel
theorem dMO_unify_66 : decode prog_13_method_35_code 66 = .ok (.aload_n 0, 1) := by decide +kernel
theorem dMO_unify_67 : decode prog_13_method_35_code 67 = .ok (.getfield 76, 3) := by decide +kernel
theorem dMO_unify_70 : decode prog_13_method_35_code 70 = .ok (.iload 5, 2) := by decide +kernel
theorem dMO_unify_72 : decode prog_13_method_35_code 72 = .ok (.iaload, 1) := by decide +kernel
theorem dMO_unify_73 : decode prog_13_method_35_code 73 = .ok (.ifCond .ne (15), 3) := by decide +kernel
theorem dMO_unify_76 : decode prog_13_method_35_code 76 = .ok (.aload_n 0, 1) := by decide +kernel
theorem dMO_unify_77 : decode prog_13_method_35_code 77 = .ok (.getfield 85, 3) := by decide +kernel
theorem dMO_unify_80 : decode prog_13_method_35_code 80 = .ok (.iload 5, 2) := by decide +kernel
theorem dMO_unify_82 : decode prog_13_method_35_code 82 = .ok (.iload 4, 2) := by decide +kernel
theorem dMO_unify_84 : decode prog_13_method_35_code 84 = .ok (.iastore, 1) := by decide +kernel
theorem dMO_unify_85 : decode prog_13_method_35_code 85 = .ok (.goto (131), 3) := by decide +kernel
theorem dMO_unify_88 : decode prog_13_method_35_code 88 = .ok (.aload_n 0, 1) := by decide +kernel
theorem dMO_unify_89 : decode prog_13_method_35_code 89 = .ok (.getfield 76, 3) := by decide +kernel
theorem dMO_unify_92 : decode prog_13_method_35_code 92 = .ok (.iload 4, 2) := by decide +kernel
theorem dMO_unify_94 : decode prog_13_method_35_code 94 = .ok (.iaload, 1) := by decide +kernel
theorem dMO_unify_95 : decode prog_13_method_35_code 95 = .ok (.ifCond .ne (15), 3) := by decide +kernel
theorem dMO_unify_98 : decode prog_13_method_35_code 98 = .ok (.aload_n 0, 1) := by decide +kernel
theorem dMO_unify_99 : decode prog_13_method_35_code 99 = .ok (.getfield 85, 3) := by decide +kernel
theorem dMO_unify_102 : decode prog_13_method_35_code 102 = .ok (.iload 4, 2) := by decide +kernel
theorem dMO_unify_104 : decode prog_13_method_35_code 104 = .ok (.iload 5, 2) := by decide +kernel
theorem dMO_unify_106 : decode prog_13_method_35_code 106 = .ok (.iastore, 1) := by decide +kernel
theorem dMO_unify_107 : decode prog_13_method_35_code 107 = .ok (.goto (109), 3) := by decide +kernel
theorem dMO_unify_110 : decode prog_13_method_35_code 110 = .ok (.aload_n 0, 1) := by decide +kernel
theorem dMO_unify_111 : decode prog_13_method_35_code 111 = .ok (.getfield 76, 3) := by decide +kernel
theorem dMO_unify_114 : decode prog_13_method_35_code 114 = .ok (.iload 5, 2) := by decide +kernel
theorem dMO_unify_116 : decode prog_13_method_35_code 116 = .ok (.iaload, 1) := by decide +kernel
theorem dMO_unify_117 : decode prog_13_method_35_code 117 = .ok (.aload_n 0, 1) := by decide +kernel
theorem dMO_unify_118 : decode prog_13_method_35_code 118 = .ok (.getfield 76, 3) := by decide +kernel
theorem dMO_unify_121 : decode prog_13_method_35_code 121 = .ok (.iload 4, 2) := by decide +kernel
theorem dMO_unify_123 : decode prog_13_method_35_code 123 = .ok (.iaload, 1) := by decide +kernel
theorem dMO_unify_124 : decode prog_13_method_35_code 124 = .ok (.if_icmp .eq (5), 3) := by decide +kernel
theorem dMO_unify_127 : decode prog_13_method_35_code 127 = .ok (.iconst 0, 1) := by decide +kernel
theorem dMO_unify_128 : decode prog_13_method_35_code 128 = .ok (.ireturn, 1) := by decide +kernel
theorem dMO_unify_129 : decode prog_13_method_35_code 129 = .ok (.aload_n 0, 1) := by decide +kernel
theorem dMO_unify_130 : decode prog_13_method_35_code 130 = .ok (.getfield 85, 3) := by decide +kernel
theorem dMO_unify_133 : decode prog_13_method_35_code 133 = .ok (.iload 5, 2) := by decide +kernel
theorem dMO_unify_135 : decode prog_13_method_35_code 135 = .ok (.iload 4, 2) := by decide +kernel
theorem dMO_unify_137 : decode prog_13_method_35_code 137 = .ok (.iastore, 1) := by decide +kernel
theorem dMO_unify_138 : decode prog_13_method_35_code 138 = .ok (.aload_n 0, 1) := by decide +kernel
theorem dMO_unify_139 : decode prog_13_method_35_code 139 = .ok (.getfield 76, 3) := by decide +kernel
theorem dMO_unify_142 : decode prog_13_method_35_code 142 = .ok (.iload 5, 2) := by decide +kernel
theorem dMO_unify_144 : decode prog_13_method_35_code 144 = .ok (.iaload, 1) := by decide +kernel
theorem dMO_unify_145 : decode prog_13_method_35_code 145 = .ok (.iconst 3, 1) := by decide +kernel
theorem dMO_unify_146 : decode prog_13_method_35_code 146 = .ok (.if_icmp .eq (6), 3) := by decide +kernel
theorem dMO_unify_149 : decode prog_13_method_35_code 149 = .ok (.goto (-127), 3) := by decide +kernel
theorem dMO_unify_152 : decode prog_13_method_35_code 152 = .ok (.aload_n 0, 1) := by decide +kernel
theorem dMO_unify_153 : decode prog_13_method_35_code 153 = .ok (.getfield 94, 3) := by decide +kernel
theorem dMO_unify_156 : decode prog_13_method_35_code 156 = .ok (.iload_n 3, 1) := by decide +kernel
theorem dMO_unify_157 : decode prog_13_method_35_code 157 = .ok (.iinc 3 (1), 3) := by decide +kernel
theorem dMO_unify_160 : decode prog_13_method_35_code 160 = .ok (.aload_n 0, 1) := by decide +kernel
theorem dMO_unify_161 : decode prog_13_method_35_code 161 = .ok (.getfield 79, 3) := by decide +kernel
theorem dMO_unify_164 : decode prog_13_method_35_code 164 = .ok (.iload 5, 2) := by decide +kernel
theorem dMO_unify_166 : decode prog_13_method_35_code 166 = .ok (.iaload, 1) := by decide +kernel
theorem dMO_unify_167 : decode prog_13_method_35_code 167 = .ok (.iastore, 1) := by decide +kernel
theorem dMO_unify_168 : decode prog_13_method_35_code 168 = .ok (.aload_n 0, 1) := by decide +kernel
theorem dMO_unify_169 : decode prog_13_method_35_code 169 = .ok (.getfield 94, 3) := by decide +kernel
theorem dMO_unify_172 : decode prog_13_method_35_code 172 = .ok (.iload_n 3, 1) := by decide +kernel
theorem dMO_unify_173 : decode prog_13_method_35_code 173 = .ok (.iinc 3 (1), 3) := by decide +kernel
theorem dMO_unify_176 : decode prog_13_method_35_code 176 = .ok (.aload_n 0, 1) := by decide +kernel
theorem dMO_unify_177 : decode prog_13_method_35_code 177 = .ok (.getfield 79, 3) := by decide +kernel
theorem dMO_unify_180 : decode prog_13_method_35_code 180 = .ok (.iload 4, 2) := by decide +kernel
theorem dMO_unify_182 : decode prog_13_method_35_code 182 = .ok (.iaload, 1) := by decide +kernel
theorem dMO_unify_183 : decode prog_13_method_35_code 183 = .ok (.iastore, 1) := by decide +kernel
theorem dMO_unify_184 : decode prog_13_method_35_code 184 = .ok (.aload_n 0, 1) := by decide +kernel
theorem dMO_unify_185 : decode prog_13_method_35_code 185 = .ok (.getfield 94, 3) := by decide +kernel
theorem dMO_unify_188 : decode prog_13_method_35_code 188 = .ok (.iload_n 3, 1) := by decide +kernel
theorem dMO_unify_189 : decode prog_13_method_35_code 189 = .ok (.iinc 3 (1), 3) := by decide +kernel
theorem dMO_unify_192 : decode prog_13_method_35_code 192 = .ok (.aload_n 0, 1) := by decide +kernel
theorem dMO_unify_193 : decode prog_13_method_35_code 193 = .ok (.getfield 82, 3) := by decide +kernel
theorem dMO_unify_196 : decode prog_13_method_35_code 196 = .ok (.iload 5, 2) := by decide +kernel
theorem dMO_unify_198 : decode prog_13_method_35_code 198 = .ok (.iaload, 1) := by decide +kernel
theorem dMO_unify_199 : decode prog_13_method_35_code 199 = .ok (.iastore, 1) := by decide +kernel
theorem dMO_unify_200 : decode prog_13_method_35_code 200 = .ok (.aload_n 0, 1) := by decide +kernel
theorem dMO_unify_201 : decode prog_13_method_35_code 201 = .ok (.getfield 94, 3) := by decide +kernel
theorem dMO_unify_204 : decode prog_13_method_35_code 204 = .ok (.iload_n 3, 1) := by decide +kernel
theorem dMO_unify_205 : decode prog_13_method_35_code 205 = .ok (.iinc 3 (1), 3) := by decide +kernel
theorem dMO_unify_208 : decode prog_13_method_35_code 208 = .ok (.aload_n 0, 1) := by decide +kernel
theorem dMO_unify_209 : decode prog_13_method_35_code 209 = .ok (.getfield 82, 3) := by decide +kernel
theorem dMO_unify_212 : decode prog_13_method_35_code 212 = .ok (.iload 4, 2) := by decide +kernel
theorem dMO_unify_214 : decode prog_13_method_35_code 214 = .ok (.iaload, 1) := by decide +kernel
theorem dMO_unify_215 : decode prog_13_method_35_code 215 = .ok (.iastore, 1) := by decide +kernel
theorem dMO_unify_216 : decode prog_13_method_35_code 216 = .ok (.goto (-194), 3) := by decide +kernel
theorem dMO_unify_219 : decode prog_13_method_35_code 219 = .ok (.iconst 1, 1) := by decide +kernel
theorem dMO_unify_220 : decode prog_13_method_35_code 220 = .ok (.ireturn, 1) := by decide +kernel
theorem l_MO_unify {G : sd_G} {o : Nat} {h0 : sd_H} {nx N : Nat} {K L R : Nat → Nat} {Q : sd_Q} (hB : G.2.1 ≤ o) : ∀ (M : Nat) (ρ lk : Nat → Nat) (P : List (Nat × Nat)) (D : fx_D), 2 * uf_F K ρ + P.length < M → P.length + uf_F K ρ ≤ 197 → ug D N K L R lk → ug_b N K L R lk → lkr lk ρ → uf_inv K L R ρ P → sk2 N D P → (∀ D' : fx_D, un_yes N K L R ρ P D D' → Q (some (.int (nI 1))) (fx_h G.1.2 mo_S o D' h0) nx) → (∀ D' : fx_D, un_no K L R ρ P → mo_fu D D' → Q (some (.int (nI 0))) (fx_h G.1.2 mo_S o D' h0) nx) → sd_W G mMO_unify 1 0 0 Q 22 [(0, .ref (o + 0)), (3, .int (nI (2 * P.length)))] [] (fx_h G.1.2 mo_S o D h0) nx 0 0 := by
  intro M
  induction M with
  | zero => intro ρ lk P D hM; omega
  | succ M ih =>
    intro ρ lk P D hM hP hu hb hr hi hsk K1 K0
    rcases List.eq_nil_or_concat P with rfl | ⟨P0, p, rfl⟩
    · have fin : Q (some (.int (nI 1))) (fx_h G.1.2 mo_S o D h0) nx := K1 D ⟨ρ, lk, hu, hb, hr, hi, fun c d h => eqv_nil hi.1 h, fun _ _ _ h _ => h, mo_fu.rf D⟩
      refine sd_iload_n dMO_unify_22 rfl rfl ?_
      refine nn_if_le 219 dMO_unify_23 (by decide) (by decide) (fun _ => ?_) (fun c => absurd c (by decide))
      refine sd_iconst (v := nI 1) dMO_unify_219 (by decide) ?_
      exact sd_zret dMO_unify_220 rfl (Or.inr rfl) (Nat.le_refl _) (Nat.le_refl _) fin
    · obtain ⟨a, b⟩ := p
      rw [List.concat_eq_append] at *
      obtain ⟨s1, s2, ha, hb'⟩ := sk2_top hsk
      have hsk0 := sk2_pop hsk
      rw [List.length_append, List.length_singleton] at hM hP ⊢
      have aa := hr.ac hb ha
      have ab := hr.ac hb hb'
      have la := hb.lt aa
      have lb := hb.lt ab
      have hal := hb.lt ha
      have hbl := hb.lt hb'
      have hi' : uf_inv K L R ρ ((a, b) :: P0) := hi.mem (fun p hp => by
        rcases List.mem_append.mp hp with h | h
        · exact List.mem_cons_of_mem _ h
        · rw [List.mem_singleton] at h
          rw [h]
          exact List.mem_cons_self ..)
      have hm1 : ∀ p ∈ P0 ++ [(a, b)], p ∈ (a, b) :: P0 := fun p hp => by
        rcases List.mem_append.mp hp with h | h
        · exact List.mem_cons_of_mem _ h
        · rw [List.mem_singleton] at h
          rw [h]
          exact List.mem_cons_self ..
      have xa := hr.idem a
      have xb := hr.idem b
      have hab1 : (ρ a = ρ a ∧ ρ b = ρ b) ∨ (ρ b = ρ a ∧ ρ a = ρ b) := Or.inl ⟨rfl, rfl⟩
      have hab2 : (ρ a = ρ b ∧ ρ b = ρ a) ∨ (ρ b = ρ b ∧ ρ a = ρ a) := Or.inr ⟨rfl, rfl⟩
      have c1 := c_MO_root (G := G) (o := o) (h0 := h0) (nx := nx) hu hb hr hb'
      have c2 := c_MO_root (G := G) (o := o) (h0 := h0) (nx := nx) hu hb hr ha
      obtain ⟨ka1, ka2, ka3, ka4⟩ := hu (ρ a) aa
      obtain ⟨kb1, kb2, kb3, kb4⟩ := hu (ρ b) ab
      have kla := hb.2.1 (ρ a)
      have klb := hb.2.1 (ρ b)
      have bLa := (hb.2.2.1 (ρ a) aa).1
      have bLb := (hb.2.2.1 (ρ b) ab).1
      have bRa := (hb.2.2.1 (ρ a) aa).2.1
      have bRb := (hb.2.2.1 (ρ b) ab).2.1
      -- trees that make P equal make a and b equal
      have tab : ∀ {α : Type} (τ : Nat → α), (∀ p ∈ P0 ++ [(a, b)], τ p.1 = τ p.2) → τ a = τ b := fun τ h => h (a, b) (List.mem_append_right _ (List.mem_cons_self ..))
      have trt : ∀ {α : Type} (τ : Nat → α), (∀ n, τ (ρ n) = τ n) → (∀ p ∈ P0 ++ [(a, b)], τ p.1 = τ p.2) → τ (ρ a) = τ (ρ b) := fun τ h h' => by rw [h, h, tab τ h']
      have e12 : 2 * (P0.length + 1) - 1 = 2 * P0.length + 1 := by omega
      have e13 : 2 * (P0.length + 1) - 1 - 1 = 2 * P0.length := by omega
      have hyp : 2 * (P0.length + 1) < 400 := by omega
      by_cases exy : ρ a = ρ b
      · have nxt := ih ρ lk P0 D (by omega) (by omega) hu hb hr (uf_same hi' exy) hsk0 (fun D' hy => K1 D' (by
          obtain ⟨ρ', lk', y1, y2, y3, y4, y5, y6, y7⟩ := hy
          exact ⟨ρ', lk', y1, y2, y3, y4, fun c d h => y5 c d (eqv_same exy (h.mem hm1)), fun α τ t1 t2 t3 => y6 α τ t1 t2 (fun p hp => t3 p (List.mem_append_left _ hp)), y7⟩)) (fun D' hn hf => K0 D' (fun τ t1 t2 t3 => hn τ t1 t2 (fun p hp => t3 p (List.mem_append_left _ hp))) hf)
        refine sd_iload_n dMO_unify_22 rfl rfl ?_
        refine nn_if_le 219 dMO_unify_23 (by decide) (by omega) (fun c23 => ?_) (fun c23 => ?_)
        ·
          exact absurd c23 (by omega)
        ·
          refine sd_aload_n dMO_unify_26 rfl rfl ?_
          refine sd_aload_n dMO_unify_27 rfl rfl ?_
          refine fx_getr 10 36 (29) dMO_unify_28 fMO_94 rfl rfl ?_
          refine nn_idec dMO_unify_31 rfl (by omega) (by decide) ?_
          refine sd_iload_n dMO_unify_34 rfl rfl ?_
          refine fx_ialdv (v := (nI (b))) (2 * (P0.length + 1) - 1) dMO_unify_35 rfl rfl (by omega) (by decide) ((by rw [e12]; exact s2)) ?_
          refine fx_cV 10 sR_MO [.int (nI (b))] [] dMO_unify_36 kMO_168 rfl rfl mMO_root_v (c1) (by decide) (Nat.le_refl _) (Nat.le_refl _) (Nat.le_of_ble_eq_true rfl) rfl ?_
          refine sd_istore dMO_unify_39 (by decide) ?_
          refine sd_aload_n dMO_unify_41 rfl rfl ?_
          refine sd_aload_n dMO_unify_42 rfl rfl ?_
          refine fx_getr 10 36 (29) dMO_unify_43 fMO_94 rfl rfl ?_
          refine nn_idec dMO_unify_46 rfl (by omega) (by decide) ?_
          refine sd_iload_n dMO_unify_49 rfl rfl ?_
          refine fx_ialdv (v := (nI (a))) (2 * (P0.length + 1) - 1 - 1) dMO_unify_50 rfl rfl (by omega) (by decide) ((by rw [e13]; exact s1)) ?_
          refine fx_cV 10 sR_MO [.int (nI (a))] [] dMO_unify_51 kMO_168 rfl rfl mMO_root_v (c2) (by decide) (Nat.le_refl _) (Nat.le_refl _) (Nat.le_of_ble_eq_true rfl) rfl ?_
          refine sd_istore dMO_unify_54 (by decide) ?_
          refine sd_iload dMO_unify_56 rfl ?_
          refine sd_iload dMO_unify_58 rfl ?_
          refine nn_icmp_ne 66 dMO_unify_60 (by decide) (by omega) (by omega) (fun c60 => ?_) (fun c60 => ?_)
          ·
            exact absurd exy c60
          ·
            refine sd_goto 22 dMO_unify_63 (by decide) ?_
            refine sd_locp (al' := [(0, .ref (o + (0))), (3, .int (nI (2 * (P0.length + 1) - 1 - 1)))]) [3, 1] rfl ?_
            rw [e13]
            exact nxt
      · have lnk : ∀ (x y : Nat) (hx : ρ x = x) (hy : ρ y = y) (hne : x ≠ y) (lx : ac N x) (ly : ac N y) (D' : fx_D) (P' : List (Nat × Nat)), ((ρ a = x ∧ ρ b = y) ∨ (ρ b = x ∧ ρ a = y)) → uf_inv K L R (lkn ρ x y) P' → ug D' N K L R (upN lk x y) → mo_fu D D' → sk2 N D' P' → 2 * uf_F K (lkn ρ x y) + P'.length < M → P'.length + uf_F K (lkn ρ x y) ≤ 197 → (∀ p ∈ P0, p ∈ P') → (∀ (α : Type) (τ : Nat → α), cg K L R τ → (∀ n, τ (ρ n) = τ n) → (∀ p ∈ P0 ++ [(a, b)], τ p.1 = τ p.2) → ∀ p ∈ P', τ p.1 = τ p.2) → sd_W G mMO_unify 1 0 0 Q 22 [(0, .ref (o + 0)), (3, .int (nI (2 * P'.length)))] [] (fx_h G.1.2 mo_S o D' h0) nx 0 0 := by
          intro x y hx hy hne lx ly D' P' hab hi2 hu2 hf2 hsk2 hM2 hP2 hsub ht
          have rl : ∀ {α : Type} (τ : Nat → α), (∀ n, τ (ρ n) = τ n) → (∀ p ∈ P0 ++ [(a, b)], τ p.1 = τ p.2) → ∀ n, τ (lkn ρ x y n) = τ n := fun τ t2 t3 => rsg_lkn t2 (by
            have := trt τ t2 t3
            rcases hab with ⟨z1, z2⟩ | ⟨z1, z2⟩
            · rw [← z1, ← z2]; exact this
            · rw [← z1, ← z2]; exact this.symm)
          refine ih (lkn ρ x y) (upN lk x y) P' D' hM2 hP2 hu2 (ug_b_lk hb lx ly) (lkr_up hr hx hy hne) hi2 hsk2 (fun D2 hy2 => K1 D2 ?_) (fun D2 hn hf => K0 D2 ?_ (hf2.tr hf))
          · obtain ⟨ρ', lk', y1, y2, y3, y4, y5, y6, y7⟩ := hy2
            exact ⟨ρ', lk', y1, y2, y3, y4, fun c d h => y5 c d ((eqv_lkn hi.1 hx hab (h.mem hm1)).mem hsub), fun α τ t1 t2 t3 => y6 α τ t1 (rl τ t2 t3) (ht α τ t1 t2 t3), hf2.tr y7⟩
          · intro τ t1 t2 t3
            exact hn τ t1 (rl τ t2 t3) (ht ft τ (gsol_cg t1) t2 t3)
        by_cases k0 : K (ρ a) = 0
        · have nxt := lnk (ρ a) (ρ b) xa xb exy aa ab (fx_ua D 26 (ρ a) (nI (ρ b))) P0 hab1 (uf_open hi' xa xb exy hab1 k0) (ug_lk hu) (mo_fu.ua D (Or.inl rfl)) (sk2_fr hsk0 (fun i _ => by simp [fx_ua])) (by have := uf_F_le (K := K) (x := ρ a) xb; omega) (by have := uf_F_le (K := K) (x := ρ a) xb; omega) (fun p hp => hp) (fun _ τ _ _ t3 p hp => t3 p (List.mem_append_left _ hp))
          rw [k0] at ka1
          refine sd_iload_n dMO_unify_22 rfl rfl ?_
          refine nn_if_le 219 dMO_unify_23 (by decide) (by omega) (fun c23 => ?_) (fun c23 => ?_)
          ·
            exact absurd c23 (by omega)
          ·
            refine sd_aload_n dMO_unify_26 rfl rfl ?_
            refine sd_aload_n dMO_unify_27 rfl rfl ?_
            refine fx_getr 10 36 (29) dMO_unify_28 fMO_94 rfl rfl ?_
            refine nn_idec dMO_unify_31 rfl (by omega) (by decide) ?_
            refine sd_iload_n dMO_unify_34 rfl rfl ?_
            refine fx_ialdv (v := (nI (b))) (2 * (P0.length + 1) - 1) dMO_unify_35 rfl rfl (by omega) (by decide) ((by rw [e12]; exact s2)) ?_
            refine fx_cV 10 sR_MO [.int (nI (b))] [] dMO_unify_36 kMO_168 rfl rfl mMO_root_v (c1) (by decide) (Nat.le_refl _) (Nat.le_refl _) (Nat.le_of_ble_eq_true rfl) rfl ?_
            refine sd_istore dMO_unify_39 (by decide) ?_
            refine sd_aload_n dMO_unify_41 rfl rfl ?_
            refine sd_aload_n dMO_unify_42 rfl rfl ?_
            refine fx_getr 10 36 (29) dMO_unify_43 fMO_94 rfl rfl ?_
            refine nn_idec dMO_unify_46 rfl (by omega) (by decide) ?_
            refine sd_iload_n dMO_unify_49 rfl rfl ?_
            refine fx_ialdv (v := (nI (a))) (2 * (P0.length + 1) - 1 - 1) dMO_unify_50 rfl rfl (by omega) (by decide) ((by rw [e13]; exact s1)) ?_
            refine fx_cV 10 sR_MO [.int (nI (a))] [] dMO_unify_51 kMO_168 rfl rfl mMO_root_v (c2) (by decide) (Nat.le_refl _) (Nat.le_refl _) (Nat.le_of_ble_eq_true rfl) rfl ?_
            refine sd_istore dMO_unify_54 (by decide) ?_
            refine sd_iload dMO_unify_56 rfl ?_
            refine sd_iload dMO_unify_58 rfl ?_
            refine nn_icmp_ne 66 dMO_unify_60 (by decide) (by omega) (by omega) (fun c60 => ?_) (fun c60 => ?_)
            ·
              refine sd_aload_n dMO_unify_66 rfl rfl ?_
              refine fx_getr 10 30 (23) dMO_unify_67 fMO_76 rfl rfl ?_
              refine sd_iload dMO_unify_70 rfl ?_
              refine fx_ialdv (v := (nI (0))) (ρ a) dMO_unify_72 rfl rfl (by omega) (by decide) (ka1) ?_
              refine nn_if_ne 88 dMO_unify_73 (by decide) (by decide) (fun c => absurd c (by decide)) (fun _ => ?_)
              refine sd_aload_n dMO_unify_76 rfl rfl ?_
              refine fx_getr 10 33 (26) dMO_unify_77 fMO_85 rfl rfl ?_
              refine sd_iload dMO_unify_80 rfl ?_
              refine sd_iload dMO_unify_82 rfl ?_
              refine fx_iast (ρ a) dMO_unify_84 rfl rfl (by omega) (by decide) hB ?_
              refine sd_goto 216 dMO_unify_85 (by decide) ?_
              refine sd_goto 22 dMO_unify_216 (by decide) ?_
              refine sd_locp (al' := [(0, .ref (o + (0))), (3, .int (nI (2 * (P0.length + 1) - 1 - 1)))]) [3, 1] rfl ?_
              rw [e13]
              exact nxt
            ·
              exact absurd c60 exy
        · by_cases k0' : K (ρ b) = 0
          · have nxt := lnk (ρ b) (ρ a) xb xa (fun z => exy z.symm) ab aa (fx_ua D 26 (ρ b) (nI (ρ a))) P0 hab2 (uf_open hi' xb xa (fun z => exy z.symm) hab2 k0') (ug_lk hu) (mo_fu.ua D (Or.inl rfl)) (sk2_fr hsk0 (fun i _ => by simp [fx_ua])) (by have := uf_F_le (K := K) (x := ρ b) xa; omega) (by have := uf_F_le (K := K) (x := ρ b) xa; omega) (fun p hp => hp) (fun _ τ _ _ t3 p hp => t3 p (List.mem_append_left _ hp))
            rw [k0'] at kb1
            refine sd_iload_n dMO_unify_22 rfl rfl ?_
            refine nn_if_le 219 dMO_unify_23 (by decide) (by omega) (fun c23 => ?_) (fun c23 => ?_)
            ·
              exact absurd c23 (by omega)
            ·
              refine sd_aload_n dMO_unify_26 rfl rfl ?_
              refine sd_aload_n dMO_unify_27 rfl rfl ?_
              refine fx_getr 10 36 (29) dMO_unify_28 fMO_94 rfl rfl ?_
              refine nn_idec dMO_unify_31 rfl (by omega) (by decide) ?_
              refine sd_iload_n dMO_unify_34 rfl rfl ?_
              refine fx_ialdv (v := (nI (b))) (2 * (P0.length + 1) - 1) dMO_unify_35 rfl rfl (by omega) (by decide) ((by rw [e12]; exact s2)) ?_
              refine fx_cV 10 sR_MO [.int (nI (b))] [] dMO_unify_36 kMO_168 rfl rfl mMO_root_v (c1) (by decide) (Nat.le_refl _) (Nat.le_refl _) (Nat.le_of_ble_eq_true rfl) rfl ?_
              refine sd_istore dMO_unify_39 (by decide) ?_
              refine sd_aload_n dMO_unify_41 rfl rfl ?_
              refine sd_aload_n dMO_unify_42 rfl rfl ?_
              refine fx_getr 10 36 (29) dMO_unify_43 fMO_94 rfl rfl ?_
              refine nn_idec dMO_unify_46 rfl (by omega) (by decide) ?_
              refine sd_iload_n dMO_unify_49 rfl rfl ?_
              refine fx_ialdv (v := (nI (a))) (2 * (P0.length + 1) - 1 - 1) dMO_unify_50 rfl rfl (by omega) (by decide) ((by rw [e13]; exact s1)) ?_
              refine fx_cV 10 sR_MO [.int (nI (a))] [] dMO_unify_51 kMO_168 rfl rfl mMO_root_v (c2) (by decide) (Nat.le_refl _) (Nat.le_refl _) (Nat.le_of_ble_eq_true rfl) rfl ?_
              refine sd_istore dMO_unify_54 (by decide) ?_
              refine sd_iload dMO_unify_56 rfl ?_
              refine sd_iload dMO_unify_58 rfl ?_
              refine nn_icmp_ne 66 dMO_unify_60 (by decide) (by omega) (by omega) (fun c60 => ?_) (fun c60 => ?_)
              ·
                refine sd_aload_n dMO_unify_66 rfl rfl ?_
                refine fx_getr 10 30 (23) dMO_unify_67 fMO_76 rfl rfl ?_
                refine sd_iload dMO_unify_70 rfl ?_
                refine fx_ialdv (v := (nI (K (ρ a)))) (ρ a) dMO_unify_72 rfl rfl (by omega) (by decide) (ka1) ?_
                refine nn_if_ne 88 dMO_unify_73 (by decide) (by omega) (fun c73 => ?_) (fun c73 => ?_)
                ·
                  refine sd_aload_n dMO_unify_88 rfl rfl ?_
                  refine fx_getr 10 30 (23) dMO_unify_89 fMO_76 rfl rfl ?_
                  refine sd_iload dMO_unify_92 rfl ?_
                  refine fx_ialdv (v := (nI (0))) (ρ b) dMO_unify_94 rfl rfl (by omega) (by decide) (kb1) ?_
                  refine nn_if_ne 110 dMO_unify_95 (by decide) (by decide) (fun c => absurd c (by decide)) (fun _ => ?_)
                  refine sd_aload_n dMO_unify_98 rfl rfl ?_
                  refine fx_getr 10 33 (26) dMO_unify_99 fMO_85 rfl rfl ?_
                  refine sd_iload dMO_unify_102 rfl ?_
                  refine sd_iload dMO_unify_104 rfl ?_
                  refine fx_iast (ρ b) dMO_unify_106 rfl rfl (by omega) (by decide) hB ?_
                  refine sd_goto 216 dMO_unify_107 (by decide) ?_
                  refine sd_goto 22 dMO_unify_216 (by decide) ?_
                  refine sd_locp (al' := [(0, .ref (o + (0))), (3, .int (nI (2 * (P0.length + 1) - 1 - 1)))]) [3, 1] rfl ?_
                  rw [e13]
                  exact nxt
                ·
                  exact absurd c73 k0
              ·
                exact absurd c60 exy
          · by_cases kk : K (ρ a) = K (ρ b)
            · by_cases k3 : K (ρ a) = 3
              · have k3' : K (ρ b) = 3 := by rw [← kk]; exact k3
                have hF := uf_F_lt xa xb exy k3 la
                rw [k3] at ka1
                rw [k3'] at kb1
                have nxt := lnk (ρ a) (ρ b) xa xb exy aa ab (fx_ua (fx_ua (fx_ua (fx_ua (fx_ua D 26 (ρ a) (nI (ρ b))) 29 (2 * P0.length) (nI (L (ρ a)))) 29 (2 * P0.length + 1) (nI (L (ρ b)))) 29 (2 * P0.length + 1 + 1) (nI (R (ρ a)))) 29 (2 * P0.length + 1 + 1 + 1) (nI (R (ρ b)))) (P0 ++ [(L (ρ a), L (ρ b))] ++ [(R (ρ a), R (ρ b))]) hab1 ((uf_fun hi' xa xb exy hab1 k3 k3').mem (fun p hp => by
                  rcases List.mem_cons.mp hp with rfl | hp
                  · exact List.mem_append_left _ (List.mem_append_right _ (List.mem_cons_self ..))
                  · rcases List.mem_cons.mp hp with rfl | hp
                    · exact List.mem_append_right _ (List.mem_cons_self ..)
                    · exact List.mem_append_left _ (List.mem_append_left _ hp))) (ug_fu (ug_lk hu) ((((mo_fu.ua _ (Or.inr rfl)).tr (mo_fu.ua _ (Or.inr rfl))).tr (mo_fu.ua _ (Or.inr rfl))).tr (mo_fu.ua _ (Or.inr rfl))) (by simp [fx_ua])) ((((((mo_fu.ua D (Or.inl rfl)).tr (mo_fu.ua _ (Or.inr rfl))).tr (mo_fu.ua _ (Or.inr rfl))).tr (mo_fu.ua _ (Or.inr rfl))).tr (mo_fu.ua _ (Or.inr rfl)))) (sk2_push (sk2_push (sk2_fr hsk0 (fun i hi => by simp only [ua_at, show ¬ i = 2 * P0.length by omega, show ¬ i = 2 * P0.length + 1 by omega, show ¬ i = 2 * P0.length + 1 + 1 by omega, show ¬ i = 2 * P0.length + 1 + 1 + 1 by omega, if_false]; simp [fx_ua])) (by simp only [ua_at, show ¬ 2 * P0.length = 2 * P0.length + 1 by omega, show ¬ 2 * P0.length = 2 * P0.length + 1 + 1 by omega, show ¬ 2 * P0.length = 2 * P0.length + 1 + 1 + 1 by omega, if_false, if_true]) (by simp only [ua_at, show ¬ 2 * P0.length + 1 = 2 * P0.length + 1 + 1 by omega, show ¬ 2 * P0.length + 1 = 2 * P0.length + 1 + 1 + 1 by omega, if_false, if_true]) bLa bLb) (by rw [List.length_append, List.length_singleton, show 2 * (P0.length + 1) = 2 * P0.length + 1 + 1 by omega]; simp only [ua_at, show ¬ 2 * P0.length + 1 + 1 = 2 * P0.length + 1 + 1 + 1 by omega, if_false, if_true]) (by rw [List.length_append, List.length_singleton, show 2 * (P0.length + 1) + 1 = 2 * P0.length + 1 + 1 + 1 by omega]; simp only [ua_at, if_true]) bRa bRb) (by simp only [List.length_append, List.length_singleton]; omega) (by simp only [List.length_append, List.length_singleton]; omega) (fun p hp => List.mem_append_left _ (List.mem_append_left _ hp)) (fun _ τ t1 t2 t3 p hp => by
                  obtain ⟨z1, z2⟩ := t1 _ _ k3 k3' (trt τ t2 t3)
                  rcases List.mem_append.mp hp with hp | hp
                  · rcases List.mem_append.mp hp with hp | hp
                    · exact t3 p (List.mem_append_left _ hp)
                    · rw [List.mem_singleton] at hp
                      rw [hp]
                      exact z1
                  · rw [List.mem_singleton] at hp
                    rw [hp]
                    exact z2)
                simp only [List.length_append, List.length_singleton] at nxt
                rw [show 2 * (P0.length + 1 + 1) = 2 * P0.length + 1 + 1 + 1 + 1 by omega] at nxt
                refine sd_iload_n dMO_unify_22 rfl rfl ?_
                refine nn_if_le 219 dMO_unify_23 (by decide) (by omega) (fun c23 => ?_) (fun c23 => ?_)
                ·
                  exact absurd c23 (by omega)
                ·
                  refine sd_aload_n dMO_unify_26 rfl rfl ?_
                  refine sd_aload_n dMO_unify_27 rfl rfl ?_
                  refine fx_getr 10 36 (29) dMO_unify_28 fMO_94 rfl rfl ?_
                  refine nn_idec dMO_unify_31 rfl (by omega) (by decide) ?_
                  refine sd_iload_n dMO_unify_34 rfl rfl ?_
                  refine fx_ialdv (v := (nI (b))) (2 * (P0.length + 1) - 1) dMO_unify_35 rfl rfl (by omega) (by decide) ((by rw [e12]; exact s2)) ?_
                  refine fx_cV 10 sR_MO [.int (nI (b))] [] dMO_unify_36 kMO_168 rfl rfl mMO_root_v (c1) (by decide) (Nat.le_refl _) (Nat.le_refl _) (Nat.le_of_ble_eq_true rfl) rfl ?_
                  refine sd_istore dMO_unify_39 (by decide) ?_
                  refine sd_aload_n dMO_unify_41 rfl rfl ?_
                  refine sd_aload_n dMO_unify_42 rfl rfl ?_
                  refine fx_getr 10 36 (29) dMO_unify_43 fMO_94 rfl rfl ?_
                  refine nn_idec dMO_unify_46 rfl (by omega) (by decide) ?_
                  refine sd_iload_n dMO_unify_49 rfl rfl ?_
                  refine fx_ialdv (v := (nI (a))) (2 * (P0.length + 1) - 1 - 1) dMO_unify_50 rfl rfl (by omega) (by decide) ((by rw [e13]; exact s1)) ?_
                  refine fx_cV 10 sR_MO [.int (nI (a))] [] dMO_unify_51 kMO_168 rfl rfl mMO_root_v (c2) (by decide) (Nat.le_refl _) (Nat.le_refl _) (Nat.le_of_ble_eq_true rfl) rfl ?_
                  refine sd_istore dMO_unify_54 (by decide) ?_
                  refine sd_iload dMO_unify_56 rfl ?_
                  refine sd_iload dMO_unify_58 rfl ?_
                  refine nn_icmp_ne 66 dMO_unify_60 (by decide) (by omega) (by omega) (fun c60 => ?_) (fun c60 => ?_)
                  ·
                    refine sd_aload_n dMO_unify_66 rfl rfl ?_
                    refine fx_getr 10 30 (23) dMO_unify_67 fMO_76 rfl rfl ?_
                    refine sd_iload dMO_unify_70 rfl ?_
                    refine fx_ialdv (v := (nI (3))) (ρ a) dMO_unify_72 rfl rfl (by omega) (by decide) (ka1) ?_
                    refine nn_if_ne 88 dMO_unify_73 (by decide) (by decide) (fun _ => ?_) (fun c => absurd c (by decide))
                    refine sd_aload_n dMO_unify_88 rfl rfl ?_
                    refine fx_getr 10 30 (23) dMO_unify_89 fMO_76 rfl rfl ?_
                    refine sd_iload dMO_unify_92 rfl ?_
                    refine fx_ialdv (v := (nI (3))) (ρ b) dMO_unify_94 rfl rfl (by omega) (by decide) (kb1) ?_
                    refine nn_if_ne 110 dMO_unify_95 (by decide) (by decide) (fun _ => ?_) (fun c => absurd c (by decide))
                    refine sd_aload_n dMO_unify_110 rfl rfl ?_
                    refine fx_getr 10 30 (23) dMO_unify_111 fMO_76 rfl rfl ?_
                    refine sd_iload dMO_unify_114 rfl ?_
                    refine fx_ialdv (v := (nI (3))) (ρ a) dMO_unify_116 rfl rfl (by omega) (by decide) (ka1) ?_
                    refine sd_aload_n dMO_unify_117 rfl rfl ?_
                    refine fx_getr 10 30 (23) dMO_unify_118 fMO_76 rfl rfl ?_
                    refine sd_iload dMO_unify_121 rfl ?_
                    refine fx_ialdv (v := (nI (3))) (ρ b) dMO_unify_123 rfl rfl (by omega) (by decide) (kb1) ?_
                    refine nn_icmp_eq 129 dMO_unify_124 (by decide) (by decide) (by decide) (fun _ => ?_) (fun c => absurd c (by decide))
                    refine sd_aload_n dMO_unify_129 rfl rfl ?_
                    refine fx_getr 10 33 (26) dMO_unify_130 fMO_85 rfl rfl ?_
                    refine sd_iload dMO_unify_133 rfl ?_
                    refine sd_iload dMO_unify_135 rfl ?_
                    refine fx_iast (ρ a) dMO_unify_137 rfl rfl (by omega) (by decide) hB ?_
                    refine sd_aload_n dMO_unify_138 rfl rfl ?_
                    refine fx_getr 10 30 (23) dMO_unify_139 fMO_76 rfl rfl ?_
                    refine sd_iload dMO_unify_142 rfl ?_
                    refine fx_ialdv (v := (nI (3))) (ρ a) dMO_unify_144 rfl rfl (by omega) (by decide) ((by simpa [fx_ua] using ka1)) ?_
                    refine sd_iconst (v := nI 3) dMO_unify_145 (by decide) ?_
                    refine nn_icmp_eq 152 dMO_unify_146 (by decide) (by decide) (by decide) (fun _ => ?_) (fun c => absurd c (by decide))
                    refine sd_aload_n dMO_unify_152 rfl rfl ?_
                    refine fx_getr 10 36 (29) dMO_unify_153 fMO_94 rfl rfl ?_
                    refine sd_iload_n dMO_unify_156 rfl rfl ?_
                    refine nn_iinc 1 dMO_unify_157 rfl (by decide) ?_
                    refine sd_aload_n dMO_unify_160 rfl rfl ?_
                    refine fx_getr 10 31 (24) dMO_unify_161 fMO_79 rfl rfl ?_
                    refine sd_iload dMO_unify_164 rfl ?_
                    refine fx_ialdv (v := (nI (L (ρ a)))) (ρ a) dMO_unify_166 rfl rfl (by omega) (by decide) ((by simpa [fx_ua] using ka2)) ?_
                    refine fx_iast (2 * (P0.length + 1) - 1 - 1) dMO_unify_167 rfl rfl (by omega) (by decide) hB ?_
                    refine sd_aload_n dMO_unify_168 rfl rfl ?_
                    refine fx_getr 10 36 (29) dMO_unify_169 fMO_94 rfl rfl ?_
                    refine sd_iload_n dMO_unify_172 rfl rfl ?_
                    refine nn_iinc 1 dMO_unify_173 rfl (by decide) ?_
                    refine sd_aload_n dMO_unify_176 rfl rfl ?_
                    refine fx_getr 10 31 (24) dMO_unify_177 fMO_79 rfl rfl ?_
                    refine sd_iload dMO_unify_180 rfl ?_
                    refine fx_ialdv (v := (nI (L (ρ b)))) (ρ b) dMO_unify_182 rfl rfl (by omega) (by decide) ((by simpa [fx_ua] using kb2)) ?_
                    refine fx_iast (2 * (P0.length + 1) - 1 - 1 + 1) dMO_unify_183 rfl rfl (by omega) (by decide) hB ?_
                    refine sd_aload_n dMO_unify_184 rfl rfl ?_
                    refine fx_getr 10 36 (29) dMO_unify_185 fMO_94 rfl rfl ?_
                    refine sd_iload_n dMO_unify_188 rfl rfl ?_
                    refine nn_iinc 1 dMO_unify_189 rfl (by decide) ?_
                    refine sd_aload_n dMO_unify_192 rfl rfl ?_
                    refine fx_getr 10 32 (25) dMO_unify_193 fMO_82 rfl rfl ?_
                    refine sd_iload dMO_unify_196 rfl ?_
                    refine fx_ialdv (v := (nI (R (ρ a)))) (ρ a) dMO_unify_198 rfl rfl (by omega) (by decide) ((by simpa [fx_ua] using ka3)) ?_
                    refine fx_iast (2 * (P0.length + 1) - 1 - 1 + 1 + 1) dMO_unify_199 rfl rfl (by omega) (by decide) hB ?_
                    refine sd_aload_n dMO_unify_200 rfl rfl ?_
                    refine fx_getr 10 36 (29) dMO_unify_201 fMO_94 rfl rfl ?_
                    refine sd_iload_n dMO_unify_204 rfl rfl ?_
                    refine nn_iinc 1 dMO_unify_205 rfl (by decide) ?_
                    refine sd_aload_n dMO_unify_208 rfl rfl ?_
                    refine fx_getr 10 32 (25) dMO_unify_209 fMO_82 rfl rfl ?_
                    refine sd_iload dMO_unify_212 rfl ?_
                    refine fx_ialdv (v := (nI (R (ρ b)))) (ρ b) dMO_unify_214 rfl rfl (by omega) (by decide) ((by simpa [fx_ua] using kb3)) ?_
                    refine fx_iast (2 * (P0.length + 1) - 1 - 1 + 1 + 1 + 1) dMO_unify_215 rfl rfl (by omega) (by decide) hB ?_
                    refine sd_goto 22 dMO_unify_216 (by decide) ?_
                    refine sd_locp (al' := [(0, .ref (o + (0))), (3, .int (nI (2 * (P0.length + 1) - 1 - 1 + 1 + 1 + 1 + 1)))]) [3, 0] rfl ?_
                    rw [e13]
                    exact nxt
                  ·
                    exact absurd c60 exy
              · have nxt := lnk (ρ a) (ρ b) xa xb exy aa ab (fx_ua D 26 (ρ a) (nI (ρ b))) P0 hab1 (uf_eq hi' xa xb exy hab1 kk k3) (ug_lk hu) (mo_fu.ua D (Or.inl rfl)) (sk2_fr hsk0 (fun i _ => by simp [fx_ua])) (by have := uf_F_le (K := K) (x := ρ a) xb; omega) (by have := uf_F_le (K := K) (x := ρ a) xb; omega) (fun p hp => hp) (fun _ τ _ _ t3 p hp => t3 p (List.mem_append_left _ hp))
                refine sd_iload_n dMO_unify_22 rfl rfl ?_
                refine nn_if_le 219 dMO_unify_23 (by decide) (by omega) (fun c23 => ?_) (fun c23 => ?_)
                ·
                  exact absurd c23 (by omega)
                ·
                  refine sd_aload_n dMO_unify_26 rfl rfl ?_
                  refine sd_aload_n dMO_unify_27 rfl rfl ?_
                  refine fx_getr 10 36 (29) dMO_unify_28 fMO_94 rfl rfl ?_
                  refine nn_idec dMO_unify_31 rfl (by omega) (by decide) ?_
                  refine sd_iload_n dMO_unify_34 rfl rfl ?_
                  refine fx_ialdv (v := (nI (b))) (2 * (P0.length + 1) - 1) dMO_unify_35 rfl rfl (by omega) (by decide) ((by rw [e12]; exact s2)) ?_
                  refine fx_cV 10 sR_MO [.int (nI (b))] [] dMO_unify_36 kMO_168 rfl rfl mMO_root_v (c1) (by decide) (Nat.le_refl _) (Nat.le_refl _) (Nat.le_of_ble_eq_true rfl) rfl ?_
                  refine sd_istore dMO_unify_39 (by decide) ?_
                  refine sd_aload_n dMO_unify_41 rfl rfl ?_
                  refine sd_aload_n dMO_unify_42 rfl rfl ?_
                  refine fx_getr 10 36 (29) dMO_unify_43 fMO_94 rfl rfl ?_
                  refine nn_idec dMO_unify_46 rfl (by omega) (by decide) ?_
                  refine sd_iload_n dMO_unify_49 rfl rfl ?_
                  refine fx_ialdv (v := (nI (a))) (2 * (P0.length + 1) - 1 - 1) dMO_unify_50 rfl rfl (by omega) (by decide) ((by rw [e13]; exact s1)) ?_
                  refine fx_cV 10 sR_MO [.int (nI (a))] [] dMO_unify_51 kMO_168 rfl rfl mMO_root_v (c2) (by decide) (Nat.le_refl _) (Nat.le_refl _) (Nat.le_of_ble_eq_true rfl) rfl ?_
                  refine sd_istore dMO_unify_54 (by decide) ?_
                  refine sd_iload dMO_unify_56 rfl ?_
                  refine sd_iload dMO_unify_58 rfl ?_
                  refine nn_icmp_ne 66 dMO_unify_60 (by decide) (by omega) (by omega) (fun c60 => ?_) (fun c60 => ?_)
                  ·
                    refine sd_aload_n dMO_unify_66 rfl rfl ?_
                    refine fx_getr 10 30 (23) dMO_unify_67 fMO_76 rfl rfl ?_
                    refine sd_iload dMO_unify_70 rfl ?_
                    refine fx_ialdv (v := (nI (K (ρ a)))) (ρ a) dMO_unify_72 rfl rfl (by omega) (by decide) (ka1) ?_
                    refine nn_if_ne 88 dMO_unify_73 (by decide) (by omega) (fun c73 => ?_) (fun c73 => ?_)
                    ·
                      refine sd_aload_n dMO_unify_88 rfl rfl ?_
                      refine fx_getr 10 30 (23) dMO_unify_89 fMO_76 rfl rfl ?_
                      refine sd_iload dMO_unify_92 rfl ?_
                      refine fx_ialdv (v := (nI (K (ρ b)))) (ρ b) dMO_unify_94 rfl rfl (by omega) (by decide) (kb1) ?_
                      refine nn_if_ne 110 dMO_unify_95 (by decide) (by omega) (fun c95 => ?_) (fun c95 => ?_)
                      ·
                        refine sd_aload_n dMO_unify_110 rfl rfl ?_
                        refine fx_getr 10 30 (23) dMO_unify_111 fMO_76 rfl rfl ?_
                        refine sd_iload dMO_unify_114 rfl ?_
                        refine fx_ialdv (v := (nI (K (ρ a)))) (ρ a) dMO_unify_116 rfl rfl (by omega) (by decide) (ka1) ?_
                        refine sd_aload_n dMO_unify_117 rfl rfl ?_
                        refine fx_getr 10 30 (23) dMO_unify_118 fMO_76 rfl rfl ?_
                        refine sd_iload dMO_unify_121 rfl ?_
                        refine fx_ialdv (v := (nI (K (ρ b)))) (ρ b) dMO_unify_123 rfl rfl (by omega) (by decide) (kb1) ?_
                        refine nn_icmp_eq 129 dMO_unify_124 (by decide) (by omega) (by omega) (fun c124 => ?_) (fun c124 => ?_)
                        ·
                          refine sd_aload_n dMO_unify_129 rfl rfl ?_
                          refine fx_getr 10 33 (26) dMO_unify_130 fMO_85 rfl rfl ?_
                          refine sd_iload dMO_unify_133 rfl ?_
                          refine sd_iload dMO_unify_135 rfl ?_
                          refine fx_iast (ρ a) dMO_unify_137 rfl rfl (by omega) (by decide) hB ?_
                          refine sd_aload_n dMO_unify_138 rfl rfl ?_
                          refine fx_getr 10 30 (23) dMO_unify_139 fMO_76 rfl rfl ?_
                          refine sd_iload dMO_unify_142 rfl ?_
                          refine fx_ialdv (v := (nI (K (ρ a)))) (ρ a) dMO_unify_144 rfl rfl (by omega) (by decide) ((by simpa [fx_ua] using ka1)) ?_
                          refine sd_iconst (v := nI 3) dMO_unify_145 (by decide) ?_
                          refine nn_icmp_eq 152 dMO_unify_146 (by decide) (by omega) (by omega) (fun c146 => ?_) (fun c146 => ?_)
                          ·
                            exact absurd c146 k3
                          ·
                            refine sd_goto 22 dMO_unify_149 (by decide) ?_
                            refine sd_locp (al' := [(0, .ref (o + (0))), (3, .int (nI (2 * (P0.length + 1) - 1 - 1)))]) [3, 1] rfl ?_
                            rw [e13]
                            exact nxt
                        ·
                          exact absurd kk c124
                      ·
                        exact absurd c95 k0'
                    ·
                      exact absurd c73 k0
                  ·
                    exact absurd c60 exy
            · have no : Q (some (.int (nI 0))) (fx_h G.1.2 mo_S o D h0) nx := K0 D (fun τ t1 t2 t3 => gsol_no t1 (by omega) (by omega) kk (trt τ t2 t3)) (mo_fu.rf D)
              refine sd_iload_n dMO_unify_22 rfl rfl ?_
              refine nn_if_le 219 dMO_unify_23 (by decide) (by omega) (fun c23 => ?_) (fun c23 => ?_)
              ·
                exact absurd c23 (by omega)
              ·
                refine sd_aload_n dMO_unify_26 rfl rfl ?_
                refine sd_aload_n dMO_unify_27 rfl rfl ?_
                refine fx_getr 10 36 (29) dMO_unify_28 fMO_94 rfl rfl ?_
                refine nn_idec dMO_unify_31 rfl (by omega) (by decide) ?_
                refine sd_iload_n dMO_unify_34 rfl rfl ?_
                refine fx_ialdv (v := (nI (b))) (2 * (P0.length + 1) - 1) dMO_unify_35 rfl rfl (by omega) (by decide) ((by rw [e12]; exact s2)) ?_
                refine fx_cV 10 sR_MO [.int (nI (b))] [] dMO_unify_36 kMO_168 rfl rfl mMO_root_v (c1) (by decide) (Nat.le_refl _) (Nat.le_refl _) (Nat.le_of_ble_eq_true rfl) rfl ?_
                refine sd_istore dMO_unify_39 (by decide) ?_
                refine sd_aload_n dMO_unify_41 rfl rfl ?_
                refine sd_aload_n dMO_unify_42 rfl rfl ?_
                refine fx_getr 10 36 (29) dMO_unify_43 fMO_94 rfl rfl ?_
                refine nn_idec dMO_unify_46 rfl (by omega) (by decide) ?_
                refine sd_iload_n dMO_unify_49 rfl rfl ?_
                refine fx_ialdv (v := (nI (a))) (2 * (P0.length + 1) - 1 - 1) dMO_unify_50 rfl rfl (by omega) (by decide) ((by rw [e13]; exact s1)) ?_
                refine fx_cV 10 sR_MO [.int (nI (a))] [] dMO_unify_51 kMO_168 rfl rfl mMO_root_v (c2) (by decide) (Nat.le_refl _) (Nat.le_refl _) (Nat.le_of_ble_eq_true rfl) rfl ?_
                refine sd_istore dMO_unify_54 (by decide) ?_
                refine sd_iload dMO_unify_56 rfl ?_
                refine sd_iload dMO_unify_58 rfl ?_
                refine nn_icmp_ne 66 dMO_unify_60 (by decide) (by omega) (by omega) (fun c60 => ?_) (fun c60 => ?_)
                ·
                  refine sd_aload_n dMO_unify_66 rfl rfl ?_
                  refine fx_getr 10 30 (23) dMO_unify_67 fMO_76 rfl rfl ?_
                  refine sd_iload dMO_unify_70 rfl ?_
                  refine fx_ialdv (v := (nI (K (ρ a)))) (ρ a) dMO_unify_72 rfl rfl (by omega) (by decide) (ka1) ?_
                  refine nn_if_ne 88 dMO_unify_73 (by decide) (by omega) (fun c73 => ?_) (fun c73 => ?_)
                  ·
                    refine sd_aload_n dMO_unify_88 rfl rfl ?_
                    refine fx_getr 10 30 (23) dMO_unify_89 fMO_76 rfl rfl ?_
                    refine sd_iload dMO_unify_92 rfl ?_
                    refine fx_ialdv (v := (nI (K (ρ b)))) (ρ b) dMO_unify_94 rfl rfl (by omega) (by decide) (kb1) ?_
                    refine nn_if_ne 110 dMO_unify_95 (by decide) (by omega) (fun c95 => ?_) (fun c95 => ?_)
                    ·
                      refine sd_aload_n dMO_unify_110 rfl rfl ?_
                      refine fx_getr 10 30 (23) dMO_unify_111 fMO_76 rfl rfl ?_
                      refine sd_iload dMO_unify_114 rfl ?_
                      refine fx_ialdv (v := (nI (K (ρ a)))) (ρ a) dMO_unify_116 rfl rfl (by omega) (by decide) (ka1) ?_
                      refine sd_aload_n dMO_unify_117 rfl rfl ?_
                      refine fx_getr 10 30 (23) dMO_unify_118 fMO_76 rfl rfl ?_
                      refine sd_iload dMO_unify_121 rfl ?_
                      refine fx_ialdv (v := (nI (K (ρ b)))) (ρ b) dMO_unify_123 rfl rfl (by omega) (by decide) (kb1) ?_
                      refine nn_icmp_eq 129 dMO_unify_124 (by decide) (by omega) (by omega) (fun c124 => ?_) (fun c124 => ?_)
                      ·
                        exact absurd c124 kk
                      ·
                        refine sd_iconst (v := nI 0) dMO_unify_127 (by decide) ?_
                        exact sd_zret dMO_unify_128 rfl (Or.inl rfl) (Nat.le_refl _) (Nat.le_refl _) no
                    ·
                      exact absurd c95 k0'
                  ·
                    exact absurd c73 k0
                ·
                  exact absurd c60 exy
