/-! ===== types are trees ===== -/
/-- the digits of a tree behind the first one -/
def dgs : ft → Nat
  | .append l r => (2 ^ tt_len l + dgs l) * 2 ^ tt_len r + dgs r
  | .nil => 0
  | _ => 1
theorem dgs_lt : ∀ t, dgs t < 2 ^ tt_len t
  | .nil => by decide
  | .line => by decide
  | .align _ => by simp [dgs, tt_len]
  | .text _ => by simp [dgs, tt_len]
  | .nest _ _ => by simp [dgs, tt_len]
  | .group _ _ => by simp [dgs, tt_len]
  | .tag _ _ => by simp [dgs, tt_len]
  | .append l r => by
    have h1 := dgs_lt l
    have h2 := dgs_lt r
    simp only [dgs, tt_len]
    have e : 2 ^ (1 + tt_len l + tt_len r) = (2 ^ tt_len l + 2 ^ tt_len l) * 2 ^ tt_len r := by
      rw [Nat.pow_add, Nat.pow_add, Nat.pow_one, Nat.two_mul]
    rw [e]
    have h3 : (2 ^ tt_len l + dgs l + 1) * 2 ^ tt_len r ≤ (2 ^ tt_len l + 2 ^ tt_len l) * 2 ^ tt_len r := Nat.mul_le_mul_right _ (by omega)
    rw [Nat.add_mul _ 1, Nat.one_mul] at h3
    omega
theorem tt_n_dg : ∀ t, tt_ok t → tt_n t = 2 ^ tt_len t + dgs t
  | .nil, _ => rfl
  | .line, _ => rfl
  | .align _, h => h.elim
  | .text _, h => h.elim
  | .nest _ _, h => h.elim
  | .group _ _, h => h.elim
  | .tag _ _, h => h.elim
  | .append l r, h => by
    have h1 := tt_n_dg l h.1
    have h2 := tt_n_dg r h.2
    have g1 := (tt_log l h.1).1
    have g2 := (tt_log r h.2).1
    have d2 := dgs_lt r
    simp only [tt_n, ty_jn, dgs, tt_len]
    rw [g1, g2, h2, Nat.add_mod_left, Nat.mod_eq_of_lt d2, h1]
    have e : 2 ^ (1 + tt_len l + tt_len r) = 2 ^ (tt_len l + 1) * 2 ^ tt_len r := by
      rw [Nat.add_comm 1, Nat.pow_add]
    rw [e, Nat.add_mul, Nat.add_assoc]
theorem ex_tree : ∀ (τ : ft), tt_ok τ → ∀ t h0 e, t / 2 ^ h0 % 2 ^ tt_len τ = dgs τ → ty_ex t (h0 + tt_len τ) (e + 1) = ty_ex t h0 e ∧ ty_fo t (h0 + tt_len τ) = τ :: ty_fo t h0
  | .nil, _, t, h0, e, h => by
    simp only [tt_len, dgs] at h ⊢
    have b1 : ¬ t / 2 ^ (h0 + 1) % 2 = 1 := by
      rw [Nat.pow_succ, ← Nat.div_div_eq_div_mul]
      omega
    have b0 : t / 2 ^ h0 % 2 = 0 := by omega
    rw [ty_ex, if_neg b1, ty_fo, if_neg b1, if_pos b0]
    exact ⟨rfl, rfl⟩
  | .line, _, t, h0, e, h => by
    simp only [tt_len, dgs] at h ⊢
    have b1 : ¬ t / 2 ^ (h0 + 1) % 2 = 1 := by
      rw [Nat.pow_succ, ← Nat.div_div_eq_div_mul]
      omega
    have b0 : ¬ t / 2 ^ h0 % 2 = 0 := by omega
    rw [ty_ex, if_neg b1, ty_fo, if_neg b1, if_neg b0]
    exact ⟨rfl, rfl⟩
  | .align _, h, _, _, _, _ => h.elim
  | .text _, h, _, _, _, _ => h.elim
  | .nest _ _, h, _, _, _, _ => h.elim
  | .group _ _, h, _, _, _, _ => h.elim
  | .tag _ _, h, _, _, _, _ => h.elim
  | .append l r, hok, t, h0, e, h => by
    simp only [tt_len, dgs] at h
    have dl := dgs_lt l
    have dr := dgs_lt r
    generalize hy : t / 2 ^ h0 = y at h
    have pl := Nat.two_pow_pos (tt_len l)
    have pr := Nat.two_pow_pos (tt_len r)
    have e2 : 2 ^ (1 + tt_len l + tt_len r) = 2 ^ tt_len r * (2 ^ tt_len l * 2) := by
      rw [Nat.pow_add, Nat.pow_add, Nat.pow_one]
      rw [Nat.mul_comm, Nat.mul_comm 2]
    rw [e2] at h
    have q1 : y / 2 ^ tt_len r % (2 ^ tt_len l * 2) = 2 ^ tt_len l + dgs l := by
      rw [← Nat.mod_mul_right_div_self, h, Nat.mul_comm, Nat.add_comm, Nat.add_mul_div_left _ _ pr, Nat.div_eq_of_lt dr, Nat.zero_add]
    have q2 : y % 2 ^ tt_len r = dgs r := by
      have := congrArg (· % 2 ^ tt_len r) h
      simp only [Nat.mod_mul_right_mod] at this
      rw [this, Nat.mul_comm, Nat.mul_add_mod, Nat.mod_eq_of_lt dr]
    have q3 : y / 2 ^ tt_len r % 2 ^ tt_len l = dgs l := by
      have := congrArg (· % 2 ^ tt_len l) q1
      simp only [Nat.mod_mul_right_mod] at this
      rw [this, Nat.add_mod_left, Nat.mod_eq_of_lt dl]
    have q4 : y / 2 ^ tt_len r / 2 ^ tt_len l % 2 = 1 := by
      rw [← Nat.mod_mul_right_div_self, q1, Nat.add_div_left _ pl, Nat.div_eq_of_lt dl]
    have bt : t / 2 ^ (h0 + tt_len r + tt_len l) % 2 = 1 := by
      rw [Nat.pow_add, Nat.pow_add, ← Nat.div_div_eq_div_mul, ← Nat.div_div_eq_div_mul, hy]
      exact q4
    have bl : t / 2 ^ (h0 + tt_len r) % 2 ^ tt_len l = dgs l := by
      rw [Nat.pow_add, ← Nat.div_div_eq_div_mul, hy]
      exact q3
    have br : t / 2 ^ h0 % 2 ^ tt_len r = dgs r := by rw [hy]; exact q2
    obtain ⟨i1, i2⟩ := ex_tree l hok.1 t (h0 + tt_len r) (e + 1) bl
    obtain ⟨j1, j2⟩ := ex_tree r hok.2 t h0 e br
    have el : h0 + tt_len (.append l r) = (h0 + tt_len r + tt_len l - 1) + 2 := by
      simp only [tt_len]
      have := tt_len_2 r
      omega
    have e3 : h0 + tt_len r + tt_len l - 1 + 1 = h0 + tt_len r + tt_len l := by
      have := tt_len_2 r
      omega
    rw [el, ty_ex, ty_fo, e3, if_pos bt, if_pos bt, i1, j1, i2, j2]
    exact ⟨rfl, rfl⟩
theorem ty_of_tree {τ : ft} (h : tt_ok τ) (hl : tt_len τ ≤ 24) : ty_ok (tt_n τ) ∧ ty_tree (tt_n τ) = τ := by
  obtain ⟨l1, l2⟩ := tt_log τ h
  have e := tt_n_dg τ h
  have d := dgs_lt τ
  have hb : tt_n τ / 2 ^ 0 % 2 ^ tt_len τ = dgs τ := by
    rw [Nat.pow_zero, Nat.div_one, e, Nat.add_mod_left, Nat.mod_eq_of_lt d]
  obtain ⟨i1, i2⟩ := ex_tree τ h (tt_n τ) 0 0 hb
  rw [Nat.zero_add] at i1 i2
  refine ⟨⟨?_, l2, by rw [l1, i1]; rfl⟩, ?_⟩
  · have : 2 ^ tt_len τ ≤ 2 ^ 24 := Nat.pow_le_pow_right (by omega) hl
    omega
  · unfold ty_tree
    rw [l1, i2]
    rfl
theorem ty_app {l r : ft} (hl : tt_ok l) (hr : tt_ok r) : ty_isF (tt_n (.append l r)) = true ∧ ty_from (tt_n (.append l r)) = tt_n l ∧ ty_to (tt_n (.append l r)) = tt_n r := by
  have hok : tt_ok (.append l r) := ⟨hl, hr⟩
  obtain ⟨l1, l2⟩ := tt_log (.append l r) hok
  have e := tt_n_dg _ hok
  have dl := dgs_lt l
  have dr := dgs_lt r
  have el := tt_n_dg l hl
  have er := tt_n_dg r hr
  have pl := Nat.two_pow_pos (tt_len l)
  have pr := Nat.two_pow_pos (tt_len r)
  generalize hn : tt_n (.append l r) = N at *
  simp only [tt_len, dgs] at l1 e
  have e2 : 2 ^ (1 + tt_len l + tt_len r) = 2 ^ tt_len r * (2 ^ tt_len l * 2) := by
    rw [Nat.pow_add, Nat.pow_add, Nat.pow_one]
    rw [Nat.mul_comm, Nat.mul_comm 2]
  have q1 : N / 2 ^ tt_len r = 2 ^ tt_len l * 3 + dgs l := by
    rw [e, e2, Nat.mul_comm (2 ^ tt_len l + dgs l), ← Nat.add_assoc, ← Nat.mul_add, Nat.add_comm, Nat.add_mul_div_left _ _ pr, Nat.div_eq_of_lt dr]
    omega
  have q2 : N % 2 ^ tt_len r = dgs r := by
    rw [e, e2, Nat.mul_comm (2 ^ tt_len l + dgs l), ← Nat.add_assoc, ← Nat.mul_add, Nat.mul_add_mod, Nat.mod_eq_of_lt dr]
  have bl : N / 2 ^ (tt_len r) % 2 ^ tt_len l = dgs l := by
    rw [q1, Nat.mul_add_mod, Nat.mod_eq_of_lt dl]
  have hlog : Nat.log2 N - 1 = tt_len r + tt_len l := by omega
  obtain ⟨i1, -⟩ := ex_tree l hl N (tt_len r) 0 bl
  have hrem : ty_rem N = tt_len r := by
    unfold ty_rem
    rw [hlog, i1]
    simp [ty_ex]
  refine ⟨?_, ?_, ?_⟩
  · unfold ty_isF
    rw [hlog, Nat.pow_add, ← Nat.div_div_eq_div_mul, q1, Nat.mul_add_div pl, Nat.div_eq_of_lt dl]
    rfl
  · unfold ty_from
    rw [hrem, hlog, show tt_len r + tt_len l - tt_len r = tt_len l by omega, bl, el]
  · unfold ty_to
    rw [hrem, q2, er]
/-- the digits of trees one behind another -/
def dg_c : List ft → Nat
  | [] => 0
  | x :: xs => dgs x * 2 ^ (xs.map tt_len).sum + dg_c xs
theorem fo_dg {t : Nat} : ∀ (n h e : Nat), h ≤ n → ty_ex t h e = some 0 → (∀ x ∈ ty_fo t h, tt_ok x) ∧ ((ty_fo t h).map tt_len).sum = h ∧ t % 2 ^ h = dg_c (ty_fo t h) ∧ (ty_fo t h).length = e := by
  intro n
  induction n with
  | zero =>
    intro h e hh he
    obtain rfl : h = 0 := by omega
    cases e with
    | zero => exact ⟨fun x hx => by simp [ty_fo] at hx, rfl, by simp [ty_fo, dg_c, Nat.mod_one], rfl⟩
    | succ e => simp [ty_ex] at he
  | succ n ih =>
    intro h e hh he
    match h, e, he with
    | 0, 0, he => exact ⟨fun x hx => by simp [ty_fo] at hx, rfl, by simp [ty_fo, dg_c, Nat.mod_one], rfl⟩
    | h + 1, 0, he => simp [ty_ex] at he
    | 0, e + 1, he => simp [ty_ex] at he
    | 1, e + 1, he => simp [ty_ex] at he
    | h + 2, e + 1, he =>
      rw [ty_ex] at he
      rw [ty_fo]
      by_cases hb : t / 2 ^ (h + 1) % 2 = 1
      · rw [if_pos hb] at he ⊢
        obtain ⟨h1, h2, h3, h4⟩ := ih _ _ (by omega) he
        match hf : ty_fo t (h + 1), h1, h2, h3, h4 with
        | [], h1, h2, h3, h4 => simp at h4
        | [x], h1, h2, h3, h4 => simp at h4
        | l :: r :: rest, h1, h2, h3, h4 =>
          simp only [fo_fun, dg_c, List.map_cons, List.sum_cons, List.length_cons] at h1 h2 h3 h4 ⊢
          refine ⟨fun x hx => ?_, by simp only [tt_len]; omega, ?_, by omega⟩
          · rcases List.mem_cons.mp hx with rfl | hx
            · exact ⟨h1 l (by simp), h1 r (by simp)⟩
            · exact h1 x (by simp [hx])
          · have e1 : t % 2 ^ (h + 2) = t % 2 ^ (h + 1) + 2 ^ (h + 1) * (t / 2 ^ (h + 1) % 2) := by
              rw [show h + 2 = (h + 1) + 1 from rfl, Nat.pow_succ, Nat.mod_mul]
            rw [e1, hb, h3, Nat.mul_one]
            simp only [dgs]
            have e3 : 2 ^ (h + 1) = 2 ^ tt_len l * 2 ^ tt_len r * 2 ^ (rest.map tt_len).sum := by
              rw [← h2, ← Nat.pow_add, ← Nat.pow_add, Nat.add_assoc]
            rw [e3, Nat.pow_add, Nat.add_mul, Nat.add_mul, Nat.add_mul, Nat.mul_assoc (dgs l)]
            omega
      · rw [if_neg hb] at he ⊢
        obtain ⟨h1, h2, h3, h4⟩ := ih _ _ (by omega) he
        have e1 : t % 2 ^ (h + 2) = t % 2 ^ h + 2 ^ h * (t / 2 ^ h % 2) := by
          rw [Nat.pow_add, Nat.mod_mul]
          have e4 : t / 2 ^ h % 2 ^ 2 = t / 2 ^ h % 2 := by
            rw [Nat.pow_succ, ← Nat.div_div_eq_div_mul] at hb
            omega
          rw [e4]
        refine ⟨fun x hx => ?_, ?_, ?_, by simp only [List.length_cons]; omega⟩
        · rcases List.mem_cons.mp hx with rfl | hx
          · split <;> trivial
          · exact h1 x hx
        · simp only [List.map_cons, List.sum_cons, h2]
          split <;> simp [tt_len] <;> omega
        · rw [e1, h3]
          simp only [dg_c, h2]
          by_cases h0 : t / 2 ^ h % 2 = 0
          · rw [if_pos h0, h0]
            simp [dgs]
          · rw [if_neg h0, show t / 2 ^ h % 2 = 1 by omega]
            simp [dgs]
            omega
theorem ty_tree_n {t : Nat} (h : ty_ok t) : tt_ok (ty_tree t) ∧ tt_n (ty_tree t) = t ∧ tt_len (ty_tree t) = Nat.log2 t ∧ tt_len (ty_tree t) ≤ 24 := by
  obtain ⟨h1, h2, h3, -⟩ := fo_dg _ _ _ (Nat.le_refl _) h.2.2
  rw [ty_tree_one h] at h1 h2 h3
  have ok := h1 (ty_tree t) (by simp)
  simp only [List.map_cons, List.map_nil, List.sum_cons, List.sum_nil, Nat.add_zero] at h2
  simp only [dg_c, List.map_nil, List.sum_nil, Nat.pow_zero, Nat.mul_one, Nat.add_zero] at h3
  have h0 : t ≠ 0 := by have := h.2.1; omega
  have lo := Nat.log2_self_le h0
  have hi := Nat.lt_log2_self (n := t)
  refine ⟨ok, ?_, h2, ?_⟩
  · rw [tt_n_dg _ ok, h2, ← h3]
    have : t % 2 ^ Nat.log2 t = t - 2 ^ Nat.log2 t := by
      rw [Nat.mod_eq_sub_mod lo, Nat.mod_eq_of_lt]
      rw [Nat.pow_succ] at hi
      omega
    omega
  · rw [h2]
    have := (Nat.log2_lt h0).mpr h.1
    omega
theorem ty_F_tree {t : Nat} (h : ty_ok t) (hF : ty_isF t = true) : ∃ l r, ty_tree t = .append l r ∧ tt_ok l ∧ tt_ok r ∧ ty_from t = tt_n l ∧ ty_to t = tt_n r ∧ 1 + tt_len l + tt_len r ≤ 24 := by
  obtain ⟨ok, e, -, le⟩ := ty_tree_n h
  match ht : ty_tree t, ok, e, le with
  | .nil, _, e, _ => rw [← e] at hF; exact absurd hF (by decide)
  | .line, _, e, _ => rw [← e] at hF; exact absurd hF (by decide)
  | .append l r, ok, e, le =>
    obtain ⟨-, h2, h3⟩ := ty_app ok.1 ok.2
    rw [e] at h2 h3
    exact ⟨l, r, rfl, ok.1, ok.2, h2, h3, le⟩
  | .align _, ok, _, _ => exact ok.elim
  | .text _, ok, _, _ => exact ok.elim
  | .nest _ _, ok, _, _ => exact ok.elim
  | .group _ _, ok, _, _ => exact ok.elim
  | .tag _ _, ok, _, _ => exact ok.elim
theorem ty_FT {t : Nat} (h : ty_ok t) (hF : ty_isF t = true) : ty_ok (ty_from t) ∧ ty_ok (ty_to t) ∧ ty_tree t = .append (ty_tree (ty_from t)) (ty_tree (ty_to t)) ∧ ty_jn (ty_from t) (ty_to t) = t := by
  obtain ⟨l, r, e, hl, hr, e1, e2, le⟩ := ty_F_tree h hF
  have q1 := ty_of_tree hl (by omega)
  have q2 := ty_of_tree hr (by omega)
  have := (ty_tree_n h).2.1
  rw [e] at this
  rw [e1, e2, e, q1.2, q2.2]
  exact ⟨q1.1, q2.1, rfl, this⟩
theorem ty_jn_ok {a b : Nat} (ha : ty_ok a) (hb : ty_ok b) (hl : Nat.log2 a + Nat.log2 b ≤ 23) : ty_ok (ty_jn a b) ∧ ty_isF (ty_jn a b) = true ∧ ty_from (ty_jn a b) = a ∧ ty_to (ty_jn a b) = b := by
  obtain ⟨o1, e1, l1, -⟩ := ty_tree_n ha
  obtain ⟨o2, e2, l2, -⟩ := ty_tree_n hb
  have h := ty_of_tree (τ := .append (ty_tree a) (ty_tree b)) ⟨o1, o2⟩ (by simp only [tt_len]; omega)
  have g := ty_app o1 o2
  simp only [tt_n, e1, e2] at h g
  exact ⟨h.1, g⟩
