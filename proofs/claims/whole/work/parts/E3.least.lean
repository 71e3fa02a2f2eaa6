/-! ===== where types can be found there are least ones ===== -/
/-- what two trees have in common -/
def mt : ft → ft → ft
  | .nil, .nil => .nil
  | .append l r, .append l' r' => .append (mt l l') (mt r r')
  | _, _ => .line
theorem mt_ok : ∀ s t, tt_ok (mt s t)
  | .append l r, .append l' r' => ⟨mt_ok l l', mt_ok r r'⟩
  | .nil, .nil => trivial
  | .nil, .line => trivial
  | .nil, .align _ => trivial
  | .nil, .text _ => trivial
  | .nil, .nest _ _ => trivial
  | .nil, .group _ _ => trivial
  | .nil, .tag _ _ => trivial
  | .nil, .append _ _ => trivial
  | .append _ _, .nil => trivial
  | .append _ _, .line => trivial
  | .append _ _, .align _ => trivial
  | .append _ _, .text _ => trivial
  | .append _ _, .nest _ _ => trivial
  | .append _ _, .group _ _ => trivial
  | .append _ _, .tag _ _ => trivial
  | .line, _ => trivial
  | .align _, _ => trivial
  | .text _, _ => trivial
  | .nest _ _, _ => trivial
  | .group _ _, _ => trivial
  | .tag _ _, _ => trivial
theorem mt_self : ∀ s, tt_ok s → mt s s = s
  | .nil, _ => rfl
  | .line, _ => rfl
  | .append l r, h => by rw [mt, mt_self l h.1, mt_self r h.2]
  | .align _, h => h.elim
  | .text _, h => h.elim
  | .nest _ _, h => h.elim
  | .group _ _, h => h.elim
  | .tag _ _, h => h.elim
def szt : ft → Nat
  | .nil => 2
  | .append l r => 2 + szt l + szt r
  | _ => 1
theorem szt_pos : ∀ s, 1 ≤ szt s
  | .nil => by decide
  | .append l r => by simp only [szt]; omega
  | .line => by decide
  | .align _ => by simp [szt]
  | .text _ => by simp [szt]
  | .nest _ _ => by simp [szt]
  | .group _ _ => by simp [szt]
  | .tag _ _ => by simp [szt]
theorem mt_sz : ∀ s t, tt_ok s → szt (mt s t) ≤ szt s ∧ (szt (mt s t) = szt s → tt_le s t ∧ mt s t = s)
  | .append l r, .append l' r', h => by
    obtain ⟨a1, a2⟩ := mt_sz l l' h.1
    obtain ⟨b1, b2⟩ := mt_sz r r' h.2
    simp only [mt, szt]
    refine ⟨by omega, fun e => ?_⟩
    obtain ⟨c1, c2⟩ := a2 (by omega)
    obtain ⟨d1, d2⟩ := b2 (by omega)
    exact ⟨⟨c1, d1⟩, by rw [c2, d2]⟩
  | .nil, .nil, _ => ⟨Nat.le_refl _, fun _ => ⟨rfl, rfl⟩⟩
  | .nil, .line, _ => ⟨by decide, fun e => absurd e (by decide)⟩
  | .nil, .align _, _ => ⟨by simp [mt, szt], fun e => by simp [mt, szt] at e⟩
  | .nil, .text _, _ => ⟨by simp [mt, szt], fun e => by simp [mt, szt] at e⟩
  | .nil, .nest _ _, _ => ⟨by simp [mt, szt], fun e => by simp [mt, szt] at e⟩
  | .nil, .group _ _, _ => ⟨by simp [mt, szt], fun e => by simp [mt, szt] at e⟩
  | .nil, .tag _ _, _ => ⟨by simp [mt, szt], fun e => by simp [mt, szt] at e⟩
  | .nil, .append _ _, _ => ⟨by simp [mt, szt], fun e => by simp [mt, szt] at e⟩
  | .append l r, .nil, _ => by have := szt_pos l; exact ⟨by simp only [mt, szt]; omega, fun e => by simp only [mt, szt] at e; omega⟩
  | .append l r, .line, _ => by have := szt_pos l; exact ⟨by simp only [mt, szt]; omega, fun e => by simp only [mt, szt] at e; omega⟩
  | .append l r, .align _, _ => by have := szt_pos l; exact ⟨by simp only [mt, szt]; omega, fun e => by simp only [mt, szt] at e; omega⟩
  | .append l r, .text _, _ => by have := szt_pos l; exact ⟨by simp only [mt, szt]; omega, fun e => by simp only [mt, szt] at e; omega⟩
  | .append l r, .nest _ _, _ => by have := szt_pos l; exact ⟨by simp only [mt, szt]; omega, fun e => by simp only [mt, szt] at e; omega⟩
  | .append l r, .group _ _, _ => by have := szt_pos l; exact ⟨by simp only [mt, szt]; omega, fun e => by simp only [mt, szt] at e; omega⟩
  | .append l r, .tag _ _, _ => by have := szt_pos l; exact ⟨by simp only [mt, szt]; omega, fun e => by simp only [mt, szt] at e; omega⟩
  | .line, t, _ => ⟨by simp [mt, szt], fun _ => ⟨trivial, by simp [mt]⟩⟩
  | .align _, _, h => h.elim
  | .text _, _, h => h.elim
  | .nest _ _, _, h => h.elim
  | .group _ _, _, h => h.elim
  | .tag _ _, _, h => h.elim
theorem eqn_mt {l : tl_T} {nt : Nat → Nat} {k : Nat} {σ τ : Nat → ft} (hn : ∀ v, v < 8 → ty_ok (nt v)) (h1 : eqn l nt k σ) (h2 : eqn l nt k τ) : eqn l nt k (fun n => mt (σ n) (τ n)) := by
  obtain ⟨a1, a2, a3, a4, a5⟩ := h1
  obtain ⟨b1, b2, b3, b4, b5⟩ := h2
  refine ⟨fun q => ?_, fun q => ?_, fun q => ⟨?_, ?_⟩, fun q => ?_, fun q => ?_⟩
  · show mt (σ k) (τ k) = _
    rw [a1 q, b1 q]
    exact mt_self _ (ty_tree_n (hn _ q)).1
  · show mt (σ (k + 1)) (τ (k + 1)) = _
    rw [a2 q, b2 q, mt]
  · show mt (σ (k + 1)) (τ (k + 1)) = mt _ _
    rw [(a3 q).1, (b3 q).1]
  · show mt (σ k) (τ k) = _
    rw [(a3 q).2, (b3 q).2, mt]
  · show mt (σ k) (τ k) = _
    rw [a4 q, b4 q, mt]
  · show mt (σ k) (τ k) = mt _ _
    rw [a5 q, b5 q]
def szs (σ : Nat → ft) : Nat → Nat
  | 0 => 0
  | n + 1 => szs σ n + szt (σ n)
theorem szs_mt {σ τ : Nat → ft} : ∀ n, (∀ k, k < n → tt_ok (σ k)) → szs (fun n => mt (σ n) (τ n)) n ≤ szs σ n ∧ (szs (fun n => mt (σ n) (τ n)) n = szs σ n → ∀ k, k < n → tt_le (σ k) (τ k))
  | 0, _ => ⟨Nat.le_refl _, fun _ k hk => by omega⟩
  | n + 1, h => by
    obtain ⟨i1, i2⟩ := szs_mt (σ := σ) (τ := τ) n (fun k hk => h k (by omega))
    obtain ⟨j1, j2⟩ := mt_sz (σ n) (τ n) (h n (by omega))
    simp only [szs]
    refine ⟨by omega, fun e k hk => ?_⟩
    by_cases q : k = n
    · subst q
      exact (j2 (by omega)).1
    · exact i2 (by omega) k (by omega)
theorem lst_ex {l : tl_T} {nt : Nat → Nat} {n : Nat} (hn : ∀ v, v < 8 → ty_ok (nt v)) : ∀ (m : Nat) (σ : Nat → ft), szs σ n ≤ m → eqs l nt n σ → (∀ k, k < n → tt_ok (σ k)) → ∃ τ, lst l nt n τ := by
  intro m
  induction m with
  | zero =>
    intro σ hm he hok
    cases n with
    | zero => exact ⟨σ, he, hok, fun σ' _ k hk => by omega⟩
    | succ n =>
      have := szt_pos (σ n)
      simp only [szs] at hm
      omega
  | succ m ih =>
    intro σ hm he hok
    by_cases hl : ∀ σ', eqs l nt n σ' → ∀ k, k < n → tt_le (σ k) (σ' k)
    · exact ⟨σ, he, hok, hl⟩
    · have : ∃ σ', eqs l nt n σ' ∧ ¬ ∀ k, k < n → tt_le (σ k) (σ' k) := by
        apply Classical.byContradiction
        intro hno
        exact hl (fun σ' h => Classical.byContradiction fun q => hno ⟨σ', h, q⟩)
      obtain ⟨σ', h1, h2⟩ := this
      obtain ⟨i1, i2⟩ := szs_mt (σ := σ) (τ := σ') n hok
      have hlt : szs (fun n => mt (σ n) (σ' n)) n < szs σ n := by
        rcases Nat.lt_or_eq_of_le i1 with q | q
        · exact q
        · exact absurd (i2 q) h2
      exact ih _ (by omega) (fun j hj => eqn_mt hn (he j hj) (h1 j hj)) (fun k _ => mt_ok _ _)
theorem lst_or {l : tl_T} {nt : Nat → Nat} {n : Nat} (hn : ∀ v, v < 8 → ty_ok (nt v)) : (∀ σ, eqs l nt n σ → False) ∨ ∃ σ, lst l nt n σ := by
  by_cases h : ∃ σ, eqs l nt n σ
  · obtain ⟨σ, h⟩ := h
    exact Or.inr (lst_ex hn _ (fun n => mt (σ n) (σ n)) (Nat.le_refl _) (fun j hj => eqn_mt hn (h j hj) (h j hj)) (fun k _ => mt_ok _ _))
  · exact Or.inl (fun σ q => h ⟨σ, q⟩)
theorem sp_read_ex {S : st_S} (hn : ∀ v, v < 8 → ty_ok (st_nt S v)) : ∃ a S', sp_read S a S' := by
  by_cases h : tl_cp 1 (dk_l (st_dr S))
  · rcases lst_or (l := sp_l (st_dr S)) (nt := st_nt S) (n := (sp_l (st_dr S)).length) hn with q | ⟨σ, q⟩
    · exact ⟨-3, S, Or.inr (Or.inl ⟨h, q, rfl, rfl⟩)⟩
    · exact ⟨(rd_do S (sp_l (st_dr S)) σ).1, (rd_do S (sp_l (st_dr S)) σ).2, Or.inr (Or.inr ⟨h, σ, q, rfl⟩)⟩
  · exact ⟨-2, S, Or.inl ⟨h, rfl, rfl⟩⟩
theorem sp_function_ex (x y : Int32) : ∃ a, sp_function x y a := by
  by_cases h : ty_is x ∧ ty_is y
  · obtain ⟨⟨s, s1, s2⟩, ⟨t, t1, t2⟩⟩ := h
    exact ⟨_, Or.inr ⟨s, t, s1, t1, s2, t2, rfl⟩⟩
  · exact ⟨_, Or.inl ⟨h, rfl⟩⟩
theorem sp_declare_ex (S : st_S) (x y : Int32) : ∃ a S', sp_declare S x y a S' := by
  by_cases h : nn_lt x 8 ∧ ty_is y
  · by_cases hT : st_T S = []
    · obtain ⟨⟨v, v1, v2⟩, ⟨t, t1, t2⟩⟩ := h
      exact ⟨_, _, Or.inr (Or.inr ⟨v, t, v1, v2, t1, t2, hT, rfl, rfl⟩)⟩
    · exact ⟨_, _, Or.inr (Or.inl ⟨h.1, h.2, hT, rfl, rfl⟩)⟩
  · exact ⟨_, _, Or.inl ⟨h, rfl, rfl⟩⟩
theorem sp_token_ex (S : st_S) (h24 : (st_dr S).length ≤ 24) (x : Int32) : ∃ a S', sp_token S x a S' := by
  by_cases h : nn_lt x 18
  · by_cases hT : (st_dr S).length = 24
    · exact ⟨_, _, Or.inr (Or.inl ⟨h, hT, rfl, rfl⟩)⟩
    · obtain ⟨t, t1, t2⟩ := h
      exact ⟨_, _, Or.inr (Or.inr ⟨t, t1, t2, by omega, rfl, rfl⟩)⟩
  · exact ⟨_, _, Or.inl ⟨h, rfl, rfl⟩⟩
theorem sp_term_ex (S : st_S) (x y : Int32) : ∃ a, sp_term S x y a := by
  by_cases h : nn_lt x (st_T S).length ∧ nn_lt y 4
  · obtain ⟨⟨t, t1, rfl⟩, ⟨w, w1, rfl⟩⟩ := h
    exact ⟨_, Or.inr ⟨t, w, _, rfl, rfl, List.getElem?_eq_getElem t1, w1, rfl⟩⟩
  · exact ⟨_, Or.inl ⟨h, rfl⟩⟩
theorem sp_symbol_ex (S : st_S) (x y z : Int32) : ∃ a, sp_symbol S x y z a := by
  by_cases h : ∃ (t i w : Nat) (l : tl_T) (q : Nat × Nat), x = nI t ∧ y = nI i ∧ z = nI w ∧ w < 2 ∧ (st_T S)[t]? = some l ∧ l[i]? = some q
  · obtain ⟨t, i, w, l, q, h1, h2, h3, h4, h5, h6⟩ := h
    exact ⟨_, Or.inr ⟨t, i, w, l, q, h1, h2, h3, h4, h5, h6, rfl⟩⟩
  · exact ⟨_, Or.inl ⟨h, rfl⟩⟩
theorem sp_rule_ex (S : st_S) (x y z w : Int32) : ∃ a S', sp_rule S x y z w a S' := by
  by_cases h : ∃ k a b c, ru_there S x y z w k a b c
  · obtain ⟨k, a, b, c, h⟩ := h
    exact ⟨(ru_do S k a b c).1, (ru_do S k a b c).2, Or.inr ⟨k, a, b, c, h, rfl⟩⟩
  · exact ⟨_, _, Or.inl ⟨h, rfl, rfl⟩⟩
theorem sp_theorem_ex (S : st_S) (x y : Int32) : ∃ a, sp_theorem S x y a := by
  by_cases h : nn_lt x (st_th S).length ∧ nn_lt y 6
  · obtain ⟨⟨t, t1, rfl⟩, ⟨w, w1, rfl⟩⟩ := h
    exact ⟨_, Or.inr ⟨t, w, _, rfl, rfl, List.getElem?_eq_getElem t1, w1, rfl⟩⟩
  · exact ⟨_, Or.inl ⟨h, rfl⟩⟩
theorem sp_hypothesis_ex (S : st_S) (x y : Int32) : ∃ a, sp_hypothesis S x y a := by
  by_cases h : ∃ p k t : Nat, p < (st_th S).length ∧ x = nI p ∧ y = nI k ∧ (st_hy S p)[k]? = some t
  · obtain ⟨p, k, t, h1, h2, h3, h4⟩ := h
    exact ⟨_, Or.inr ⟨p, k, t, h1, h2, h3, h4, rfl⟩⟩
  · exact ⟨_, Or.inl ⟨h, rfl⟩⟩
theorem sp_goal_ex (S : st_S) (x : Int32) : ∃ a S', sp_goal S x a S' := by
  by_cases h : nn_lt x (st_T S).length
  · obtain ⟨t, t1, rfl⟩ := h
    by_cases h4 : (tl_at (st_tm S t) 0).2 = 4
    · exact ⟨_, _, Or.inr ⟨t, t1, rfl, Or.inr ⟨h4, rfl, rfl⟩⟩⟩
    · exact ⟨_, _, Or.inr ⟨t, t1, rfl, Or.inl ⟨h4, rfl, rfl⟩⟩⟩
  · exact ⟨_, _, Or.inl ⟨h, rfl, rfl⟩⟩
theorem sp_tactic_ex (S : st_S) (x y : Int32) : ∃ a S', sp_tactic S x y a S' := by
  by_cases h : ∃ g k a, (st_op S).head? = some g ∧ tc_there S x y k a
  · obtain ⟨g, k, a, h1, h2⟩ := h
    exact ⟨(tc_do S k a g).1, (tc_do S k a g).2, Or.inr ⟨g, k, a, h1, h2, rfl⟩⟩
  · exact ⟨_, _, Or.inl ⟨h, rfl, rfl⟩⟩
theorem sp_undo_ex {S : st_S} (h : st_okU S) : ∃ a S', sp_undo S a S' := by
  cases e : st_dn S with
  | nil => exact ⟨_, _, Or.inl ⟨e, rfl, rfl⟩⟩
  | cons g dn =>
    obtain ⟨q, w, h1, h2, -⟩ := h g dn e
    exact ⟨_, _, Or.inr ⟨g, dn, q, w, e, h1, h2, rfl, rfl⟩⟩
theorem sp_repeat_ex (S : st_S) (x : Int32) : ∃ a S', sp_repeat S x a S' := by
  by_cases h : ∃ n : Nat, 1 ≤ n ∧ n ≤ 8 ∧ x = nI n
  · obtain ⟨n, h1, h2, h3⟩ := h
    exact ⟨_, _, Or.inr ⟨n, h1, h2, h3, rfl, rfl⟩⟩
  · exact ⟨_, _, Or.inl ⟨h, rfl, rfl⟩⟩
theorem sp_opn_ex (S : st_S) (x y : Int32) : ∃ a, sp_open S x y a := by
  by_cases h : ∃ k g j : Nat, (st_op S)[k]? = some g ∧ x = nI k ∧ y = nI j ∧ j < 2 + (st_gh S g).length
  · obtain ⟨k, g, j, h1, h2, h3, h4⟩ := h
    exact ⟨_, Or.inr ⟨k, g, j, h1, h2, h3, h4, rfl⟩⟩
  · exact ⟨_, Or.inl ⟨h, rfl⟩⟩
theorem sp_close_ex (S : st_S) : ∃ a S', sp_close S a S' := by
  by_cases h1 : st_gl S = []
  · exact ⟨_, _, Or.inl ⟨Or.inl h1, rfl, rfl⟩⟩
  · by_cases h2 : st_op S = []
    · by_cases h3 : 40 < (st_th S).length + cl_n (st_gl S)
      · exact ⟨_, _, Or.inr (Or.inl ⟨h1, h2, h3, rfl, rfl⟩)⟩
      · exact ⟨_, _, Or.inr (Or.inr ⟨h1, h2, by omega, rfl, rfl⟩)⟩
    · exact ⟨_, _, Or.inl ⟨Or.inr h2, rfl, rfl⟩⟩
theorem sp_count_ex (S : st_S) (x : Int32) : ∃ a, sp_count S x a := by
  by_cases h : nn_lt x 5
  · obtain ⟨w, h1, rfl⟩ := h
    exact ⟨_, Or.inr ⟨w, h1, rfl, rfl⟩⟩
  · exact ⟨_, Or.inl ⟨h, rfl⟩⟩
