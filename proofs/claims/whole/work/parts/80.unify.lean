/-! ===== types as trees; making types equal ===== -/
/-- a tree: nil for TRUTHS, line for THINGS, append for functions -/
abbrev ft : Type := Std.Format
def tt_ok : ft → Prop
  | .nil => True
  | .line => True
  | .append l r => tt_ok l ∧ tt_ok r
  | _ => False
def tt_len : ft → Nat
  | .append l r => 1 + tt_len l + tt_len r
  | _ => 2
def tt_n : ft → Nat
  | .nil => 4
  | .append l r => ty_jn (tt_n l) (tt_n r)
  | _ => 5
/-- the second is the first with trees for some THINGS -/
def tt_le : ft → ft → Prop
  | .line, _ => True
  | .nil, t => t = .nil
  | .append l r, .append l' r' => tt_le l l' ∧ tt_le r r'
  | _, _ => False
/-- trees for nodes of a graph: kind 0 open, 1 TRUTHS, 2 THINGS, 3 a function of L and R -/
def gsol (K L R : Nat → Nat) (τ : Nat → ft) : Prop := ∀ n, (K n = 1 → τ n = .nil) ∧ (K n = 2 → τ n = .line) ∧ (K n = 3 → τ n = .append (τ (L n)) (τ (R n)))
/-- equal by ρ and the pairs P -/
def eqv (ρ : Nat → Nat) (P : List (Nat × Nat)) (a b : Nat) : Prop := ∀ f : Nat → Nat, (∀ n, f (ρ n) = f n) → (∀ p ∈ P, f p.1 = f p.2) → f a = f b
/-- ρ gives each node the one that stands for it; P is still to be made equal -/
def uf_inv (K L R ρ : Nat → Nat) (P : List (Nat × Nat)) : Prop := (∀ n, ρ (ρ n) = ρ n) ∧ (∀ n, K n ≠ 0 → K (ρ n) = K n) ∧ (∀ n, K n = 3 → eqv ρ P (L n) (L (ρ n)) ∧ eqv ρ P (R n) (R (ρ n)))
theorem eqv.mem {ρ : Nat → Nat} {P Q : List (Nat × Nat)} {a b : Nat} (h : eqv ρ P a b) (hm : ∀ p ∈ P, p ∈ Q) : eqv ρ Q a b := fun f h1 h2 => h f h1 (fun p hp => h2 p (hm p hp))
theorem uf_inv.mem {K L R ρ : Nat → Nat} {P Q : List (Nat × Nat)} (h : uf_inv K L R ρ P) (hm : ∀ p ∈ P, p ∈ Q) : uf_inv K L R ρ Q := ⟨h.1, h.2.1, fun n hn => ⟨(h.2.2 n hn).1.mem hm, (h.2.2 n hn).2.mem hm⟩⟩
theorem eqv_nil {ρ : Nat → Nat} {a b : Nat} (hi : ∀ n, ρ (ρ n) = ρ n) (h : eqv ρ [] a b) : ρ a = ρ b := h ρ hi (fun p hp => by cases hp)
theorem eqv_of {ρ : Nat → Nat} {P : List (Nat × Nat)} {a b : Nat} (h : ρ a = ρ b) : eqv ρ P a b := fun f h1 _ => by rw [← h1 a, ← h1 b, h]
theorem eqv_in {ρ : Nat → Nat} {P : List (Nat × Nat)} {p : Nat × Nat} (h : p ∈ P) : eqv ρ P p.1 p.2 := fun f _ h2 => h2 p h
theorem eqv.tr {ρ : Nat → Nat} {P : List (Nat × Nat)} {a b c : Nat} (h : eqv ρ P a b) (h' : eqv ρ P b c) : eqv ρ P a c := fun f h1 h2 => (h f h1 h2).trans (h' f h1 h2)
theorem eqv.sy {ρ : Nat → Nat} {P : List (Nat × Nat)} {a b : Nat} (h : eqv ρ P a b) : eqv ρ P b a := fun f h1 h2 => (h f h1 h2).symm
/-- the pair is equal already -/
theorem eqv_same {ρ : Nat → Nat} {P : List (Nat × Nat)} {a b c d : Nat} (e : ρ a = ρ b) (h : eqv ρ ((a, b) :: P) c d) : eqv ρ P c d := by
  intro f h1 h2
  refine h f h1 (fun p hp => ?_)
  rcases List.mem_cons.mp hp with rfl | hp
  · exact eqv_of (P := P) e f h1 h2
  · exact h2 p hp
theorem uf_same {K L R ρ : Nat → Nat} {P : List (Nat × Nat)} {a b : Nat} (h : uf_inv K L R ρ ((a, b) :: P)) (e : ρ a = ρ b) : uf_inv K L R ρ P := ⟨h.1, h.2.1, fun n hn => ⟨eqv_same e (h.2.2 n hn).1, eqv_same e (h.2.2 n hn).2⟩⟩
/-- y stands for what x stood for -/
def lkn (ρ : Nat → Nat) (x y : Nat) : Nat → Nat := fun n => if ρ n = x then y else ρ n
theorem eqv_lkn {ρ : Nat → Nat} {P : List (Nat × Nat)} {x y : Nat} {a b c d : Nat} (hi : ∀ n, ρ (ρ n) = ρ n) (hx : ρ x = x) (hab : (ρ a = x ∧ ρ b = y) ∨ (ρ b = x ∧ ρ a = y)) (h : eqv ρ ((a, b) :: P) c d) : eqv (lkn ρ x y) P c d := by
  intro f h1 h2
  have hxy : f x = f y := by
    have := h1 x
    unfold lkn at this
    rw [hx, if_pos rfl] at this
    exact this.symm
  have hρ : ∀ n, f (ρ n) = f n := by
    intro n
    by_cases e : ρ n = x
    · have := h1 n
      unfold lkn at this
      rw [if_pos e] at this
      rw [e, hxy]
      exact this
    · have := h1 n
      unfold lkn at this
      rw [if_neg e] at this
      exact this
  refine h f hρ (fun p hp => ?_)
  rcases List.mem_cons.mp hp with rfl | hp
  · show f a = f b
    rw [← hρ a, ← hρ b]
    rcases hab with ⟨e1, e2⟩ | ⟨e1, e2⟩
    · rw [e1, e2]; exact hxy
    · rw [e1, e2]; exact hxy.symm
  · exact h2 p hp
theorem lkn_idem {ρ : Nat → Nat} {x y : Nat} (hi : ∀ n, ρ (ρ n) = ρ n) (hy : ρ y = y) (hne : x ≠ y) : ∀ n, lkn ρ x y (lkn ρ x y n) = lkn ρ x y n := by
  intro n
  unfold lkn
  by_cases e : ρ n = x
  · rw [if_pos e, hy, if_neg (fun z => hne z.symm)]
  · rw [if_neg e, hi, if_neg e]
/-- an open node gets the other one -/
theorem uf_open {K L R ρ : Nat → Nat} {P : List (Nat × Nat)} {a b x y : Nat} (h : uf_inv K L R ρ ((a, b) :: P)) (hx : ρ x = x) (hy : ρ y = y) (hne : x ≠ y) (hab : (ρ a = x ∧ ρ b = y) ∨ (ρ b = x ∧ ρ a = y)) (h0 : K x = 0) : uf_inv K L R (lkn ρ x y) P := by
  obtain ⟨h1, h2, h3⟩ := h
  have hk : ∀ n, K n ≠ 0 → lkn ρ x y n = ρ n := fun n hn => by
    unfold lkn
    rw [if_neg]
    intro e
    have := h2 n hn
    rw [e, h0] at this
    exact hn this.symm
  refine ⟨lkn_idem h1 hy hne, fun n hn => by rw [hk n hn]; exact h2 n hn, fun n hn => ?_⟩
  rw [hk n (by omega)]
  exact ⟨eqv_lkn h1 hx hab (h3 n hn).1, eqv_lkn h1 hx hab (h3 n hn).2⟩
/-- two functions become one -/
theorem uf_fun {K L R ρ : Nat → Nat} {P : List (Nat × Nat)} {a b x y : Nat} (h : uf_inv K L R ρ ((a, b) :: P)) (hx : ρ x = x) (hy : ρ y = y) (hne : x ≠ y) (hab : (ρ a = x ∧ ρ b = y) ∨ (ρ b = x ∧ ρ a = y)) (k1 : K x = 3) (k2 : K y = 3) : uf_inv K L R (lkn ρ x y) ((L x, L y) :: (R x, R y) :: P) := by
  obtain ⟨h1, h2, h3⟩ := h
  have sub : ∀ p ∈ P, p ∈ (L x, L y) :: (R x, R y) :: P := fun p hp => List.mem_cons_of_mem _ (List.mem_cons_of_mem _ hp)
  refine ⟨lkn_idem h1 hy hne, fun n hn => ?_, fun n hn => ?_⟩
  · unfold lkn
    by_cases e : ρ n = x
    · rw [if_pos e, k2]
      have := h2 n hn
      rw [e, k1] at this
      exact this
    · rw [if_neg e]
      exact h2 n hn
  · obtain ⟨e1, e2⟩ := h3 n hn
    have e1' := (eqv_lkn h1 hx hab e1).mem sub
    have e2' := (eqv_lkn h1 hx hab e2).mem sub
    have hL : lkn ρ x y n = if ρ n = x then y else ρ n := rfl
    by_cases e : ρ n = x
    · rw [hL, if_pos e]
      rw [e] at e1' e2'
      exact ⟨e1'.tr (eqv_in (p := (L x, L y)) (List.mem_cons_self ..)), e2'.tr (eqv_in (p := (R x, R y)) (List.mem_cons_of_mem _ (List.mem_cons_self ..)))⟩
    · rw [hL, if_neg e]
      exact ⟨e1', e2'⟩
/-- trees that are the same for nodes that ρ makes equal -/
def rsp (τ : Nat → ft) (ρ : Nat → Nat) : Prop := ∀ n, τ (ρ n) = τ n
theorem rsp_lkn {τ : Nat → ft} {ρ : Nat → Nat} {x y : Nat} (h : rsp τ ρ) (hxy : τ x = τ y) : rsp τ (lkn ρ x y) := by
  intro n
  unfold lkn
  by_cases e : ρ n = x
  · rw [if_pos e, ← hxy, ← e]
    exact h n
  · rw [if_neg e]
    exact h n
theorem gsol_fun {K L R : Nat → Nat} {τ : Nat → ft} {x y : Nat} (h : gsol K L R τ) (k1 : K x = 3) (k2 : K y = 3) (e : τ x = τ y) : τ (L x) = τ (L y) ∧ τ (R x) = τ (R y) := by
  rw [(h x).2.2 k1, (h y).2.2 k2] at e
  injection e with e1 e2
  exact ⟨e1, e2⟩
theorem gsol_no {K L R : Nat → Nat} {τ : Nat → ft} {x y : Nat} (h : gsol K L R τ) (hx : K x = 1 ∨ K x = 2 ∨ K x = 3) (hy : K y = 1 ∨ K y = 2 ∨ K y = 3) (hne : K x ≠ K y) (e : τ x = τ y) : False := by
  obtain ⟨a1, a2, a3⟩ := h x
  obtain ⟨b1, b2, b3⟩ := h y
  rcases hx with hx | hx | hx <;> rcases hy with hy | hy | hy
  · omega
  · rw [a1 hx, b2 hy] at e; cases e
  · rw [a1 hx, b3 hy] at e; cases e
  · rw [a2 hx, b1 hy] at e; cases e
  · omega
  · rw [a2 hx, b3 hy] at e; cases e
  · rw [a3 hx, b1 hy] at e; cases e
  · rw [a3 hx, b2 hy] at e; cases e
  · omega
/-- where functions are within themselves there are no trees -/
theorem gsol_cyc {K L R ρ : Nat → Nat} {τ : Nat → ft} (h : gsol K L R τ) (hr : rsp τ ρ) {U : Nat → Prop} (hU : ∀ n, U n → K n = 3 ∧ (U (ρ (L n)) ∨ U (ρ (R n)))) : ∀ (m n : Nat), tt_len (τ n) < m → U n → False := by
  intro m
  induction m with
  | zero => intro n hn; omega
  | succ m ih =>
    intro n hn hu
    obtain ⟨k, hc⟩ := hU n hu
    have e := (h n).2.2 k
    rw [e] at hn
    simp only [tt_len] at hn
    rcases hc with hc | hc
    · exact ih _ (by rw [hr]; omega) hc
    · exact ih _ (by rw [hr]; omega) hc
/-- trees for the nodes that stand for others, and what they say of all -/
theorem gsol_of {K L R ρ : Nat → Nat} {T : Nat → ft} (h : uf_inv K L R ρ []) (hT : ∀ n, ρ n = n → (K n = 1 → T n = .nil) ∧ (K n = 2 → T n = .line) ∧ (K n = 3 → T n = .append (T (ρ (L n))) (T (ρ (R n))))) : gsol K L R (fun n => T (ρ n)) := by
  obtain ⟨h1, h2, h3⟩ := h
  intro n
  refine ⟨fun k => ?_, fun k => ?_, fun k => ?_⟩
  · exact (hT (ρ n) (h1 n)).1 (by rw [h2 n (by omega)]; exact k)
  · exact (hT (ρ n) (h1 n)).2.1 (by rw [h2 n (by omega)]; exact k)
  · obtain ⟨e1, e2⟩ := h3 n k
    have e1' := eqv_nil h1 e1
    have e2' := eqv_nil h1 e2
    have := (hT (ρ n) (h1 n)).2.2 (by rw [h2 n (by omega)]; exact k)
    show T (ρ n) = .append (T (ρ (L n))) (T (ρ (R n)))
    rw [this, e1', e2']
/-- they are the least ones -/
theorem gsol_least {K L R ρ : Nat → Nat} {T τ : Nat → ft} (hi : ∀ n, ρ (ρ n) = ρ n) (hK : ∀ n, K n < 4) (hT : ∀ n, ρ n = n → (K n = 0 → T n = .line) ∧ (K n = 1 → T n = .nil) ∧ (K n = 2 → T n = .line) ∧ (K n = 3 → T n = .append (T (ρ (L n))) (T (ρ (R n))))) (h : gsol K L R τ) (hr : rsp τ ρ) : ∀ (m n : Nat), tt_len (T n) < m → ρ n = n → tt_le (T n) (τ n) := by
  intro m
  induction m with
  | zero => intro n hn; omega
  | succ m ih =>
    intro n hn hρ
    obtain ⟨t0, t1, t2, t3⟩ := hT n hρ
    obtain ⟨a1, a2, a3⟩ := h n
    have := hK n
    rcases (show K n = 0 ∨ K n = 1 ∨ K n = 2 ∨ K n = 3 by omega) with k | k | k | k
    · rw [t0 k]; trivial
    · rw [t1 k, a1 k]; rfl
    · rw [t2 k]; trivial
    · rw [t3 k] at hn ⊢
      rw [a3 k]
      simp only [tt_len] at hn
      refine ⟨?_, ?_⟩
      · have := ih (ρ (L n)) (by omega) (hi _)
        rw [hr] at this
        exact this
      · have := ih (ρ (R n)) (by omega) (hi _)
        rw [hr] at this
        exact this
theorem tt_le_rf : ∀ t, tt_ok t → tt_le t t
  | .nil, _ => rfl
  | .line, _ => trivial
  | .append l r, h => ⟨tt_le_rf l h.1, tt_le_rf r h.2⟩
  | .align _, h => h.elim
  | .text _, h => h.elim
  | .nest _ _, h => h.elim
  | .group _ _, h => h.elim
  | .tag _ _, h => h.elim
/-- two trees each of which is the other with more are one -/
theorem tt_le_as : ∀ s t, tt_ok s → tt_ok t → tt_le s t → tt_le t s → s = t
  | .nil, t, _, _, h, _ => h.symm
  | .line, .line, _, _, _, _ => rfl
  | .line, .nil, _, _, _, h => h.symm ▸ rfl
  | .line, .append l r, _, _, _, h => by cases h
  | .append l r, .append l' r', a, b, h, h' => by rw [tt_le_as l l' a.1 b.1 h.1 h'.1, tt_le_as r r' a.2 b.2 h.2 h'.2]
  | .append l r, .nil, _, _, h, _ => by cases h
  | .append l r, .line, _, _, h, _ => by cases h
  | .line, .align _, _, b, _, _ => b.elim
  | .line, .text _, _, b, _, _ => b.elim
  | .line, .nest _ _, _, b, _, _ => b.elim
  | .line, .group _ _, _, b, _, _ => b.elim
  | .line, .tag _ _, _, b, _, _ => b.elim
  | .append _ _, .align _, _, b, _, _ => b.elim
  | .append _ _, .text _, _, b, _, _ => b.elim
  | .append _ _, .nest _ _, _, b, _, _ => b.elim
  | .append _ _, .group _ _, _, b, _, _ => b.elim
  | .append _ _, .tag _ _, _, b, _, _ => b.elim
  | .align _, _, a, _, _, _ => a.elim
  | .text _, _, a, _, _, _ => a.elim
  | .nest _ _, _, a, _, _, _ => a.elim
  | .group _ _, _, a, _, _, _ => a.elim
  | .tag _ _, _, a, _, _, _ => a.elim
