/-! ===== the model: isTyped, step by step ===== -/
/-- the graph says just P -/
def tg (P : (Nat → ft) → Prop) (c b : Nat) (D : fx_D) (N : Nat) (K L R lk ρ : Nat → Nat) : Prop := gst D N K L R lk ρ ∧ 72 ≤ N ∧ N ≤ b ∧ (∀ j, c ≤ j → j < 24 → iso K L R ρ (48 + j)) ∧ (∀ τ, gsol K L R τ → rsp τ ρ → P τ) ∧ (∀ σ, P σ → ∃ τ, gsol K L R τ ∧ rsp τ ρ ∧ ∀ n, n < 48 → τ n = σ n)
theorem tg_yes {P Q : (Nat → ft) → Prop} {c b N x y : Nat} {D D' : fx_D} {K L R lk ρ : Nat → Nat} (h : tg P c b D N K L R lk ρ) (hu : un_yes N K L R ρ [(x, y)] D D') (h1 : ∀ τ, gsol K L R τ → rsp τ ρ → P τ → τ x = τ y → Q τ) (h2 : ∀ σ τ, Q σ → gsol K L R τ → rsp τ ρ → (∀ n, n < 48 → τ n = σ n) → τ x = τ y) (h3 : ∀ σ, Q σ → P σ) (hx : x < 48 + c ∨ 72 ≤ x) (hy : y < 48 + c ∨ 72 ≤ y) : ∃ ρ' lk', tg Q c b D' N K L R lk' ρ' ∧ mo_fu D D' := by
  obtain ⟨g1, g2, g3, g4, g5, g6⟩ := h
  obtain ⟨ρ', lk', u1, u2, u3, u4, u5⟩ := un_step g1 hu
  refine ⟨ρ', lk', ⟨u1, g2, g3, fun j a b => u4 _ (g4 j a b) (by omega) (by omega), fun τ t1 t2 => ?_, fun σ hσ => ?_⟩, u5⟩
  · obtain ⟨r1, r2⟩ := u2 τ t2
    exact h1 τ t1 r1 (g5 τ t1 r1) r2
  · obtain ⟨τ, t1, t2, t3⟩ := g6 σ (h3 σ hσ)
    exact ⟨τ, t1, u3 τ t1 t2 (h2 σ τ hσ t1 t2 t3), t3⟩
theorem tg_no {P Q : (Nat → ft) → Prop} {c b N x y : Nat} {D : fx_D} {K L R lk ρ : Nat → Nat} (h : tg P c b D N K L R lk ρ) (hu : un_no K L R ρ [(x, y)]) (h2 : ∀ σ τ, Q σ → gsol K L R τ → rsp τ ρ → (∀ n, n < 48 → τ n = σ n) → τ x = τ y) (h3 : ∀ σ, Q σ → P σ) : ∀ σ, Q σ → False := by
  intro σ hσ
  obtain ⟨τ, t1, t2, t3⟩ := h.2.2.2.2.2 σ (h3 σ hσ)
  exact hu τ t1 t2 (fun p hp => by rw [List.mem_singleton] at hp; rw [hp]; exact h2 σ τ hσ t1 t2 t3)
theorem tg_set {P : (Nat → ft) → Prop} {c b N l r : Nat} {D : fx_D} {K L R lk ρ : Nat → Nat} (h : tg P c b D N K L R lk ρ) (hb : b ≤ 192) (hc : c < 24) (hl : l < 48) (hr : r < 48) : tg P (c + 1) b (fx_ua (fx_ua (fx_ua D 23 (48 + c) (nI 3)) 24 (48 + c) (nI l)) 25 (48 + c) (nI r)) N (upN K (48 + c) 3) (upN L (48 + c) l) (upN R (48 + c) r) lk ρ := by
  obtain ⟨g1, g2, g3, g4, g5, g6⟩ := h
  have hz := g4 c (Nat.le_refl _) hc
  obtain ⟨s1, s2⟩ := gs_new (l := l) (r := r) hz.1 hz.2.1 hz.2.2.1 hz.2.2.2 (by omega) (by omega)
  refine ⟨gst_set g1 hz (by omega) (by omega) (Or.inl (by omega)) (Or.inl (by omega)), g2, g3, fun j a b => iso_set (g4 j (by omega) b) (by omega) (by omega) (by omega), fun τ t1 t2 => g5 τ (s1 τ t1) t2, fun σ hσ => ?_⟩
  obtain ⟨τ, t1, t2, t3⟩ := g6 σ hσ
  refine ⟨_, (s2 τ t1 t2).1, (s2 τ t1 t2).2, fun n hn => ?_⟩
  simp only [upN, show ¬ n = 48 + c by omega, if_false]
  exact t3 n hn
theorem tg_gx {P : (Nat → ft) → Prop} {c b b' N N' : Nat} {D D' : fx_D} {K L R K' L' R' lk ρ : Nat → Nat} (h : tg P c b D N K L R lk ρ) (hg : gst D' N' K' L' R' lk ρ) (hx : gx ρ N K L R N' K' L' R') (hi : ∀ z, z < 72 → iso K L R ρ z → iso K' L' R' ρ z) (hb : N' ≤ b') : tg P c b' D' N' K' L' R' lk ρ := by
  obtain ⟨g1, g2, g3, g4, g5, g6⟩ := h
  refine ⟨hg, Nat.le_trans g2 hx.1, hb, fun j a b => hi _ (by omega) (g4 j a b), fun τ t1 t2 => g5 τ (hx.2.1 τ t1) t2, fun σ hσ => ?_⟩
  obtain ⟨τ, t1, t2, t3⟩ := g6 σ hσ
  obtain ⟨τ', a1, a2, a3⟩ := hx.2.2 τ t1 t2
  exact ⟨τ', a1, a2, fun n hn => (a3 n (by omega)).trans (t3 n hn)⟩
theorem tg.c {P : (Nat → ft) → Prop} {c c' b b' N : Nat} {D : fx_D} {K L R lk ρ : Nat → Nat} (h : tg P c b D N K L R lk ρ) (hc : c ≤ c') (hb : b ≤ b') : tg P c' b' D N K L R lk ρ := by
  obtain ⟨g1, g2, g3, g4, g5, g6⟩ := h
  exact ⟨g1, g2, by omega, fun j a b => g4 j (by omega) b, g5, g6⟩
/-- what the first k symbols ask -/
def eqs (l : tl_T) (nt : Nat → Nat) (k : Nat) (σ : Nat → ft) : Prop := ∀ j, j < k → eqn l nt j σ
theorem eqs_succ {l : tl_T} {nt : Nat → Nat} {k : Nat} {σ : Nat → ft} : eqs l nt (k + 1) σ ↔ eqs l nt k σ ∧ eqn l nt k σ := by
  constructor
  · intro h
    exact ⟨fun j hj => h j (by omega), h k (by omega)⟩
  · rintro ⟨h1, h2⟩ j hj
    by_cases e : j = k
    · rw [e]; exact h2
    · exact h1 j (by omega)
/-- of the model's row of symbols -/
def ty_row (l : tl_T) : Prop := l.length ≤ 24 ∧ ∀ j, j < l.length → tl_ok 1 (l.drop j) ∧ (tl_ar (tl_at l j).1 = 2 → tl_end l (j + 1) < l.length) ∧ (1 ≤ tl_ar (tl_at l j).1 → j + 1 < l.length)
theorem ty_row_of {l : tl_T} (h : tl_wf l) : ty_row l := by
  refine ⟨h.2.2, fun j hj => ?_⟩
  have ho := tl_ok_drop l 1 j h.1 h.2.1 hj
  refine ⟨ho, fun e => (tl_two_at ho hj e).2.1, fun e => ?_⟩
  have hd := tl_drop_get (tl_at_some hj)
  rw [hd] at ho
  have ho2 : tl_ok (0 + tl_ar (tl_at l j).1) (l.drop (j + 1)) := ho
  exact tl_ok_lt (tl_ok_mono _ _ 1 (by omega) ho2)
