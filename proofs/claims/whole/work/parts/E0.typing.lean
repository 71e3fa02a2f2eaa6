/-! ===== terms are of their types ===== -/
/-- a list is a term of a type, with types for the variables of the LAMs around it -/
def wt (nt : Nat → Nat) : Nat → List Nat → tl_T → Nat → Prop
  | 0, _, _, _ => False
  | f + 1, Γ, l, t => ty_ok t ∧ ((∃ v, v < 8 ∧ l = [(v, t)] ∧ nt v = t) ∨ (∃ j, l = [(11 + j, t)] ∧ Γ[j]? = some t) ∨ (∃ u a b, l = (8, t) :: (a ++ b) ∧ ty_isF u = true ∧ t = ty_to u ∧ wt nt f Γ a u ∧ wt nt f Γ b (ty_from u)) ∨ (∃ u a b, l = (9, t) :: (a ++ b) ∧ t = 4 ∧ wt nt f Γ a u ∧ wt nt f Γ b u) ∨ (∃ a, l = (10, t) :: a ∧ ty_isF t = true ∧ wt nt f (ty_from t :: Γ) a (ty_to t)))
def WT (nt : Nat → Nat) (Γ : List Nat) (l : tl_T) (t : Nat) : Prop := ∃ f, wt nt f Γ l t
theorem wt_succ {nt : Nat → Nat} : ∀ (f : Nat) (Γ : List Nat) (l : tl_T) (t : Nat), wt nt f Γ l t → wt nt (f + 1) Γ l t := by
  intro f
  induction f with
  | zero => intro Γ l t h; exact h.elim
  | succ f ih =>
    intro Γ l t h
    obtain ⟨h0, h⟩ := h
    refine ⟨h0, ?_⟩
    rcases h with h | h | ⟨u, a, b, h1, h2, h3, h4, h5⟩ | ⟨u, a, b, h1, h2, h3, h4⟩ | ⟨a, h1, h2, h3⟩
    · exact Or.inl h
    · exact Or.inr (Or.inl h)
    · exact Or.inr (Or.inr (Or.inl ⟨u, a, b, h1, h2, h3, ih _ _ _ h4, ih _ _ _ h5⟩))
    · exact Or.inr (Or.inr (Or.inr (Or.inl ⟨u, a, b, h1, h2, ih _ _ _ h3, ih _ _ _ h4⟩)))
    · exact Or.inr (Or.inr (Or.inr (Or.inr ⟨a, h1, h2, ih _ _ _ h3⟩)))
theorem wt_mono {nt : Nat → Nat} {f : Nat} {Γ : List Nat} {l : tl_T} {t : Nat} (h : wt nt f Γ l t) : ∀ m, wt nt (f + m) Γ l t
  | 0 => h
  | m + 1 => wt_succ _ _ _ _ (wt_mono h m)
theorem WT.two {nt : Nat → Nat} {Γ : List Nat} {a b : tl_T} {t u : Nat} (h1 : WT nt Γ a t) (h2 : WT nt Γ b u) : ∃ f, wt nt f Γ a t ∧ wt nt f Γ b u := by
  obtain ⟨f, h1⟩ := h1
  obtain ⟨g, h2⟩ := h2
  exact ⟨f + g, wt_mono h1 g, by rw [Nat.add_comm]; exact wt_mono h2 f⟩
theorem WT.name {nt : Nat → Nat} {Γ : List Nat} {v : Nat} (hv : v < 8) (h : ty_ok (nt v)) : WT nt Γ [(v, nt v)] (nt v) := ⟨1, h, Or.inl ⟨v, hv, rfl, rfl⟩⟩
theorem WT.var {nt : Nat → Nat} {Γ : List Nat} {j t : Nat} (h : ty_ok t) (hj : Γ[j]? = some t) : WT nt Γ [(11 + j, t)] t := ⟨1, h, Or.inr (Or.inl ⟨j, rfl, hj⟩)⟩
theorem WT.app {nt : Nat → Nat} {Γ : List Nat} {a b : tl_T} {u t : Nat} (ht : ty_ok t) (hF : ty_isF u = true) (e : t = ty_to u) (ha : WT nt Γ a u) (hb : WT nt Γ b (ty_from u)) : WT nt Γ ((8, t) :: (a ++ b)) t := by
  obtain ⟨f, h1, h2⟩ := ha.two hb
  exact ⟨f + 1, ht, Or.inr (Or.inr (Or.inl ⟨u, a, b, rfl, hF, e, h1, h2⟩))⟩
theorem WT.eq {nt : Nat → Nat} {Γ : List Nat} {a b : tl_T} {u : Nat} (ha : WT nt Γ a u) (hb : WT nt Γ b u) : WT nt Γ ((9, 4) :: (a ++ b)) 4 := by
  obtain ⟨f, h1, h2⟩ := ha.two hb
  exact ⟨f + 1, ty_ok4, Or.inr (Or.inr (Or.inr (Or.inl ⟨u, a, b, rfl, rfl, h1, h2⟩)))⟩
theorem WT.lam {nt : Nat → Nat} {Γ : List Nat} {a : tl_T} {t : Nat} (ht : ty_ok t) (hF : ty_isF t = true) (ha : WT nt (ty_from t :: Γ) a (ty_to t)) : WT nt Γ ((10, t) :: a) t := by
  obtain ⟨f, h1⟩ := ha
  exact ⟨f + 1, ht, Or.inr (Or.inr (Or.inr (Or.inr ⟨a, rfl, hF, h1⟩)))⟩
theorem wt_cp {nt : Nat → Nat} : ∀ (f : Nat) (Γ : List Nat) (l : tl_T) (t : Nat), wt nt f Γ l t → tl_cp 1 l ∧ ty_ok t ∧ (∃ s r, l = (s, t) :: r) ∧ ∀ x ∈ l, ty_ok x.2 ∧ (x.1 = 10 → ty_isF x.2 = true) := by
  intro f
  induction f with
  | zero => intro Γ l t h; exact h.elim
  | succ f ih =>
    intro Γ l t h
    obtain ⟨h0, h⟩ := h
    rcases h with ⟨v, h1, rfl, -⟩ | ⟨j, rfl, -⟩ | ⟨u, a, b, rfl, h2, h3, h4, h5⟩ | ⟨u, a, b, rfl, h2, h3, h4⟩ | ⟨a, rfl, h2, h3⟩
    · refine ⟨tl_cp_one (by unfold tl_ar; rw [if_neg (by simp only; omega), if_neg (by simp only; omega)]), h0, ⟨v, [], rfl⟩, fun x hx => ?_⟩
      simp at hx
      subst hx
      exact ⟨h0, fun q => by simp only at q; omega⟩
    · refine ⟨tl_cp_one (by unfold tl_ar; rw [if_neg (by simp only; omega), if_neg (by simp only; omega)]), h0, ⟨_, [], rfl⟩, fun x hx => ?_⟩
      simp at hx
      subst hx
      exact ⟨h0, fun q => by simp only at q; omega⟩
    · obtain ⟨a1, -, -, a4⟩ := ih _ _ _ h4
      obtain ⟨b1, -, -, b4⟩ := ih _ _ _ h5
      refine ⟨cp_bin rfl a1 b1, h0, ⟨_, _, rfl⟩, fun x hx => ?_⟩
      rcases List.mem_cons.mp hx with rfl | hx
      · exact ⟨h0, fun q => by simp only at q; omega⟩
      · rcases List.mem_append.mp hx with hx | hx
        · exact a4 x hx
        · exact b4 x hx
    · obtain ⟨a1, -, -, a4⟩ := ih _ _ _ h3
      obtain ⟨b1, -, -, b4⟩ := ih _ _ _ h4
      refine ⟨cp_bin rfl a1 b1, h0, ⟨_, _, rfl⟩, fun x hx => ?_⟩
      rcases List.mem_cons.mp hx with rfl | hx
      · exact ⟨h0, fun q => by simp only at q; omega⟩
      · rcases List.mem_append.mp hx with hx | hx
        · exact a4 x hx
        · exact b4 x hx
    · obtain ⟨a1, -, -, a4⟩ := ih _ _ _ h3
      refine ⟨cp_lam rfl a1, h0, ⟨_, _, rfl⟩, fun x hx => ?_⟩
      rcases List.mem_cons.mp hx with rfl | hx
      · exact ⟨h0, fun _ => h2⟩
      · exact a4 x hx
theorem WT.cp {nt : Nat → Nat} {Γ : List Nat} {l : tl_T} {t : Nat} (h : WT nt Γ l t) : tl_cp 1 l ∧ ty_ok t ∧ (∃ s r, l = (s, t) :: r) ∧ ∀ x ∈ l, ty_ok x.2 ∧ (x.1 = 10 → ty_isF x.2 = true) := by
  obtain ⟨f, h⟩ := h
  exact wt_cp f Γ l t h
theorem WT.hd {nt : Nat → Nat} {Γ : List Nat} {l : tl_T} {t : Nat} (h : WT nt Γ l t) : (tl_at l 0).2 = t := by
  obtain ⟨-, -, ⟨s, r, rfl⟩, -⟩ := h.cp
  rfl
theorem wt_weak {nt : Nat → Nat} : ∀ (f : Nat) (Γ Δ : List Nat) (l : tl_T) (t : Nat), wt nt f Γ l t → wt nt f (Γ ++ Δ) l t := by
  intro f
  induction f with
  | zero => intro Γ Δ l t h; exact h.elim
  | succ f ih =>
    intro Γ Δ l t h
    obtain ⟨h0, h⟩ := h
    refine ⟨h0, ?_⟩
    rcases h with h | ⟨j, h1, h2⟩ | ⟨u, a, b, h1, h2, h3, h4, h5⟩ | ⟨u, a, b, h1, h2, h3, h4⟩ | ⟨a, h1, h2, h3⟩
    · exact Or.inl h
    · exact Or.inr (Or.inl ⟨j, h1, by rw [List.getElem?_append_left (getE_lt h2)]; exact h2⟩)
    · exact Or.inr (Or.inr (Or.inl ⟨u, a, b, h1, h2, h3, ih _ _ _ _ h4, ih _ _ _ _ h5⟩))
    · exact Or.inr (Or.inr (Or.inr (Or.inl ⟨u, a, b, h1, h2, ih _ _ _ _ h3, ih _ _ _ _ h4⟩)))
    · exact Or.inr (Or.inr (Or.inr (Or.inr ⟨a, h1, h2, ih (ty_from t :: Γ) Δ _ _ h3⟩)))
theorem WT.weak {nt : Nat → Nat} {l : tl_T} {t : Nat} (h : WT nt [] l t) (Δ : List Nat) : WT nt Δ l t := by
  obtain ⟨f, h⟩ := h
  exact ⟨f, wt_weak f [] Δ l t h⟩
theorem pl_app : ∀ (a r : tl_T) (e : Nat), tl_cp e a → tl_pl e (a ++ r) = a.length ∧ tl_ok e (a ++ r)
  | [], r, e, h => by
    cases e with
    | zero => cases r <;> exact ⟨rfl, trivial⟩
    | succ e => exact h.1.elim
  | x :: a, r, 0, h => absurd (tl_cp_zero h) (by simp)
  | x :: a, r, e + 1, h => by
    obtain ⟨h1, h2⟩ := pl_app a r _ (tl_cp_cons.mp h)
    rw [List.cons_append, tl_pl, h1]
    exact ⟨by simp; omega, h2⟩
/-- a complete part that stands at s -/
theorem at_part {l a rest : tl_T} {s : Nat} (h : l.drop s = a ++ rest) (hc : tl_cp 1 a) : tl_part l s = a ∧ tl_end l s = s + a.length := by
  have := (pl_app a rest 1 hc).1
  unfold tl_part tl_end
  rw [h, this]
  exact ⟨by simp, rfl⟩
theorem at_next {l a b rest : tl_T} {s : Nat} (h : l.drop s = a ++ (b ++ rest)) : l.drop (s + a.length) = b ++ rest := by
  rw [← List.drop_drop, h, List.drop_left]
theorem at_end {l a rest : tl_T} {s j : Nat} (h : l.drop s = a ++ rest) (hc : tl_cp 1 a) (hj : j < a.length) : tl_end l (s + j) ≤ s + a.length := by
  have hk := tl_ok_drop a 1 j hc.1 hc.2 hj
  have h2 : l.drop (s + j) = a.drop j ++ rest := by
    rw [← List.drop_drop, h, List.drop_append_of_le_length (by omega)]
  have h3 := (pl_app ((a.drop j).take (tl_pl 1 (a.drop j))) ((a.drop j).drop (tl_pl 1 (a.drop j)) ++ rest) 1 (tl_cp_take _ 1 hk)).1
  rw [← List.append_assoc, List.take_append_drop] at h3
  unfold tl_end
  rw [h2, h3]
  have := tl_pl_le (a.drop j) 1
  rw [List.length_take, List.length_drop] at *
  omega
theorem arn_app (l : tl_T) (k : Nat) : ∀ (m n i : Nat), tl_arn l k i (n + m) = tl_arn l k i n + tl_arn l k (i + n) m
  | m, 0, i => by rw [Nat.zero_add]; simp [tl_arn]
  | m, n + 1, i => by
    rw [show n + 1 + m = (n + m) + 1 by omega, tl_arn, tl_arn, arn_app l k m n (i + 1), show i + 1 + n = i + (n + 1) by omega, Nat.add_assoc]
theorem arn_zero {l a rest : tl_T} {s k : Nat} (h : l.drop s = a ++ rest) (hc : tl_cp 1 a) (hk : s + a.length ≤ k) : ∀ n, n ≤ a.length → tl_arn l k s n = 0
  | 0, _ => rfl
  | n + 1, hn => by
    rw [tl_arn_snoc, arn_zero h hc hk n (by omega), if_neg]
    rintro ⟨-, q⟩
    have := at_end h hc (show n < a.length by omega)
    omega
theorem sub_app (f : Nat → Nat × Nat → tl_T) (l : tl_T) : ∀ (n m k : Nat), tl_sub f l k (n + m) = tl_sub f l k n ++ tl_sub f l (k + n) m
  | 0, m, k => by rw [Nat.zero_add]; rfl
  | n + 1, m, k => by
    rw [show n + 1 + m = (n + m) + 1 by omega, tl_sub, tl_sub, sub_app f l n m (k + 1), show k + 1 + n = k + (n + 1) by omega, List.append_assoc]
/-- what is written for symbols, by how many LAMs are around them, makes a term of a term -/
theorem wt_sub {nt : Nat → Nat} {l : tl_T} {i : Nat} {F : Nat → Nat × Nat → tl_T} {Γ0 Γ1 : List Nat} (hN : ∀ (Δ : List Nat) v, v < 8 → ty_ok (nt v) → WT nt (Δ ++ Γ1) (F Δ.length (v, nt v)) (nt v)) (hV : ∀ (Δ : List Nat) j t, ty_ok t → (Δ ++ Γ0)[j]? = some t → WT nt (Δ ++ Γ1) (F Δ.length (11 + j, t)) t) (hS : ∀ δ t, F δ (8, t) = [(8, t)] ∧ F δ (9, t) = [(9, t)] ∧ F δ (10, t) = [(10, t)]) : ∀ (f : Nat) (Δ : List Nat) (a : tl_T) (t : Nat), wt nt f (Δ ++ Γ0) a t → ∀ (s : Nat) (rest : tl_T), l.drop s = a ++ rest → i ≤ s → (∀ k, s ≤ k → k < s + a.length → tl_arn l k i (s - i) = Δ.length) → WT nt (Δ ++ Γ1) (tl_sub (fun k x => F (tl_arn l k i (k - i)) x) l s a.length) t := by
  intro f
  induction f with
  | zero => intro Δ a t h; exact h.elim
  | succ f ih =>
    intro Δ a t h s rest hd hi hc
    obtain ⟨h0, h⟩ := h
    have first : ∀ {x : Nat × Nat} {r : tl_T}, a = x :: r → l[s]? = some x := fun {x r} e => by
      have : (l.drop s)[0]? = some x := by rw [hd, e]; rfl
      simpa using this
    rcases h with ⟨v, h1, rfl, h2⟩ | ⟨j, rfl, h2⟩ | ⟨u, p, q, rfl, h2, h3, h4, h5⟩ | ⟨u, p, q, rfl, h2, h3, h4⟩ | ⟨p, rfl, h2, h3⟩
    · subst h2
      rw [show ([(v, nt v)] : tl_T).length = 0 + 1 from rfl, tl_sub_get (first rfl), hc s (Nat.le_refl _) (by simp)]
      simpa [tl_sub] using hN Δ v h1 h0
    · rw [show ([(11 + j, t)] : tl_T).length = 0 + 1 from rfl, tl_sub_get (first rfl), hc s (Nat.le_refl _) (by simp)]
      simpa [tl_sub] using hV Δ j t h0 h2
    · have cp := (wt_cp _ _ _ _ h4).1
      have cq := (wt_cp _ _ _ _ h5).1
      have d1 : l.drop (s + 1) = p ++ (q ++ rest) := by
        rw [← List.drop_drop, hd]
        simp
      have d2 := at_next d1
      have g := first rfl
      have nl : ∀ k, tl_arn l k i (s + 1 - i) = tl_arn l k i (s - i) := fun k => by
        rw [show s + 1 - i = (s - i) + 1 by omega, tl_arn_snoc, show i + (s - i) = s by omega, g]
        simp
      have ip := ih Δ p _ h4 (s + 1) _ d1 (by omega) (fun k k1 k2 => by rw [nl]; exact hc k (by omega) (by simp; omega))
      have iq := ih Δ q _ h5 (s + 1 + p.length) _ d2 (by omega) (fun k k1 k2 => by
        rw [show s + 1 + p.length - i = (s + 1 - i) + p.length by omega, arn_app, show i + (s + 1 - i) = s + 1 by omega, arn_zero d1 cp k1 _ (Nat.le_refl _), nl, Nat.add_zero]
        exact hc k (by omega) (by simp; omega))
      rw [List.length_cons, tl_sub_get g, (hS _ t).1, List.length_append, sub_app]
      have fin := WT.app h0 h2 h3 ip iq
      exact fin
    · have cp := (wt_cp _ _ _ _ h3).1
      have cq := (wt_cp _ _ _ _ h4).1
      have d1 : l.drop (s + 1) = p ++ (q ++ rest) := by
        rw [← List.drop_drop, hd]
        simp
      have d2 := at_next d1
      have g := first rfl
      have nl : ∀ k, tl_arn l k i (s + 1 - i) = tl_arn l k i (s - i) := fun k => by
        rw [show s + 1 - i = (s - i) + 1 by omega, tl_arn_snoc, show i + (s - i) = s by omega, g]
        simp
      have ip := ih Δ p _ h3 (s + 1) _ d1 (by omega) (fun k k1 k2 => by rw [nl]; exact hc k (by omega) (by simp; omega))
      have iq := ih Δ q _ h4 (s + 1 + p.length) _ d2 (by omega) (fun k k1 k2 => by
        rw [show s + 1 + p.length - i = (s + 1 - i) + p.length by omega, arn_app, show i + (s + 1 - i) = s + 1 by omega, arn_zero d1 cp k1 _ (Nat.le_refl _), nl, Nat.add_zero]
        exact hc k (by omega) (by simp; omega))
      rw [List.length_cons, tl_sub_get g, (hS _ t).2.1, List.length_append, sub_app]
      subst h2
      have fin := WT.eq ip iq
      exact fin
    · have cp := (wt_cp _ _ _ _ h3).1
      have d1 : l.drop (s + 1) = p ++ rest := by
        rw [← List.drop_drop, hd]
        simp
      have g := first rfl
      have en : tl_end l s = s + 1 + p.length := by
        rw [(at_part (a := (10, t) :: p) hd (cp_lam rfl cp)).2, List.length_cons]
        omega
      have ip := ih (ty_from t :: Δ) p _ h3 (s + 1) _ d1 (by omega) (fun k k1 k2 => by
        rw [show s + 1 - i = (s - i) + 1 by omega, tl_arn_snoc, show i + (s - i) = s by omega, g, if_pos ⟨rfl, by omega⟩, hc k (by omega) (by simp; omega)]
        rfl)
      rw [List.length_cons, tl_sub_get g, (hS _ t).2.2]
      have fin := WT.lam h0 h2 ip
      exact fin
theorem WT.inst {nt : Nat → Nat} {l c : tl_T} {v t : Nat} (h : WT nt [] l t) (hc : WT nt [] c (nt v)) (hv : v < 8) : WT nt [] (tl_inst l v c) t := by
  obtain ⟨f, h⟩ := h
  have := wt_sub (nt := nt) (l := l) (i := 0) (F := fun _ x => if x.1 = v then c else [x]) (Γ0 := []) (Γ1 := []) (fun Δ w hw ok => by
    by_cases e : w = v
    · subst e
      simp only [if_true]
      exact hc.weak _
    · simp only [e, if_false]
      exact WT.name hw ok) (fun Δ j t ok hj => by
    simp only [show ¬ 11 + j = v by omega, if_false]
    exact WT.var ok hj) (fun δ t => by
    simp only [show ¬ 8 = v by omega, show ¬ 9 = v by omega, show ¬ 10 = v by omega, if_false]
    exact ⟨trivial, trivial, trivial⟩) f [] l t h 0 [] (by simp) (Nat.le_refl _) (fun k _ _ => rfl)
  exact this
theorem WT.abs {nt : Nat → Nat} {l a rest : tl_T} {i v t : Nat} (hd : l.drop i = a ++ rest) (h : WT nt [] a t) (hv : v < 8) : WT nt [nt v] (tl_abs l i v) t := by
  have he := (at_part hd h.cp.1).2
  obtain ⟨f, h⟩ := h
  have := wt_sub (nt := nt) (l := l) (i := i) (F := fun δ x => if x.1 = v then [(11 + δ, x.2)] else [x]) (Γ0 := []) (Γ1 := [nt v]) (fun Δ w hw ok => by
    by_cases e : w = v
    · subst e
      simp only [if_true]
      exact WT.var ok (by simp)
    · simp only [e, if_false]
      exact WT.name hw ok) (fun Δ j t ok hj => by
    simp only [show ¬ 11 + j = v by omega, if_false]
    rw [List.append_nil] at hj
    exact WT.var ok (by rw [List.getElem?_append_left (getE_lt hj)]; exact hj)) (fun δ t => by
    simp only [show ¬ 8 = v by omega, show ¬ 9 = v by omega, show ¬ 10 = v by omega, if_false]
    exact ⟨trivial, trivial, trivial⟩) f [] a t h i rest hd (Nat.le_refl _) (fun k _ _ => by rw [Nat.sub_self]; rfl)
  unfold tl_abs
  rw [he, show i + a.length - i = a.length by omega]
  exact this
def of_F (by_ : tl_T ⊕ Nat) (δ : Nat) (x : Nat × Nat) : tl_T := if x.1 = 11 + δ then (match by_ with | .inl b => b | .inr v => [(v, x.2)]) else [x]
theorem WT.fil {nt : Nat → Nat} {l a rest : tl_T} {i u t : Nat} {by_ : tl_T ⊕ Nat} (hd : l.drop i = a ++ rest) (h : WT nt [u] a t) (hb : ∀ b, by_ = .inl b → WT nt [] b u) (hx : ∀ x, by_ = .inr x → x < 8 ∧ nt x = u) : WT nt [] (tl_sub (tl_of l i by_) l i a.length) t := by
  obtain ⟨f, h⟩ := h
  have := wt_sub (nt := nt) (l := l) (i := i) (F := of_F by_) (Γ0 := [u]) (Γ1 := []) (fun Δ w hw ok => by
    unfold of_F
    simp only [show ¬ w = 11 + Δ.length by omega, if_false]
    exact WT.name hw ok) (fun Δ j t ok hj => by
    unfold of_F
    rw [List.append_nil]
    by_cases e : j = Δ.length
    · subst e
      simp only [if_true]
      have hu : u = t := by simpa using hj
      subst hu
      cases by_ with
      | inl b => exact (hb b rfl).weak _
      | inr x =>
        obtain ⟨x1, x2⟩ := hx x rfl
        have := WT.name (nt := nt) (Γ := Δ) x1 (by rw [x2]; exact ok)
        rw [x2] at this
        exact this
    · simp only [show ¬ 11 + j = 11 + Δ.length by omega, if_false]
      have hl := getE_lt hj
      simp at hl
      exact WT.var ok (by rw [List.getElem?_append_left (by omega)] at hj; exact hj)) (fun δ t => by
    unfold of_F
    simp only [show ¬ 8 = 11 + δ by omega, show ¬ 9 = 11 + δ by omega, show ¬ 10 = 11 + δ by omega, if_false]
    exact ⟨trivial, trivial, trivial⟩) f [] a t h i rest hd (Nat.le_refl _) (fun k _ _ => by rw [Nat.sub_self]; rfl)
  exact this
/-- variables of the LAM around a part are of its type -/
theorem wt_bv {nt : Nat → Nat} {l : tl_T} {i u : Nat} : ∀ (f : Nat) (Δ : List Nat) (a : tl_T) (t : Nat), wt nt f (Δ ++ [u]) a t → ∀ (s : Nat) (rest : tl_T), l.drop s = a ++ rest → i ≤ s → (∀ k, s ≤ k → k < s + a.length → tl_arn l k i (s - i) = Δ.length) → ∀ k y, s ≤ k → k < s + a.length → l[k]? = some y → y.1 = 11 + tl_arn l k i (k - i) → y.2 = u := by
  intro f
  induction f with
  | zero => intro Δ a t h; exact h.elim
  | succ f ih =>
    intro Δ a t h s rest hd hi hc k y k1 k2 hy hy2
    obtain ⟨h0, h⟩ := h
    have first : ∀ {x : Nat × Nat} {r : tl_T}, a = x :: r → l[s]? = some x := fun {x r} e => by
      have : (l.drop s)[0]? = some x := by rw [hd, e]; rfl
      simpa using this
    rcases h with ⟨v, h1, rfl, h2⟩ | ⟨j, rfl, h2⟩ | ⟨w, p, q, rfl, h2, h3, h4, h5⟩ | ⟨w, p, q, rfl, h2, h3, h4⟩ | ⟨p, rfl, h2, h3⟩
    · have e : k = s := by simp at k2; omega
      subst e
      rw [first rfl] at hy
      cases hy
      simp only at hy2
      omega
    · have e : k = s := by simp at k2; omega
      subst e
      rw [first rfl] at hy
      cases hy
      rw [hc k k1 k2] at hy2
      simp only at hy2
      have ej : j = Δ.length := by omega
      subst ej
      have : u = t := by simpa using h2
      exact this.symm
    · have cp := (wt_cp _ _ _ _ h4).1
      have d1 : l.drop (s + 1) = p ++ (q ++ rest) := by
        rw [← List.drop_drop, hd]
        simp
      have d2 := at_next d1
      have g := first rfl
      have nl : ∀ k, tl_arn l k i (s + 1 - i) = tl_arn l k i (s - i) := fun k => by
        rw [show s + 1 - i = (s - i) + 1 by omega, tl_arn_snoc, show i + (s - i) = s by omega, g]
        simp
      simp only [List.length_cons, List.length_append] at k2
      by_cases e : k = s
      · subst e
        rw [g] at hy
        cases hy
        simp only at hy2
        omega
      · by_cases e2 : k < s + 1 + p.length
        · exact ih Δ p _ h4 (s + 1) _ d1 (by omega) (fun k k1 k2 => by rw [nl]; exact hc k (by omega) (by simp; omega)) k y (by omega) e2 hy hy2
        · exact ih Δ q _ h5 (s + 1 + p.length) _ d2 (by omega) (fun k k1 k2 => by
            rw [show s + 1 + p.length - i = (s + 1 - i) + p.length by omega, arn_app, show i + (s + 1 - i) = s + 1 by omega, arn_zero d1 cp k1 _ (Nat.le_refl _), nl, Nat.add_zero]
            exact hc k (by omega) (by simp; omega)) k y (by omega) (by omega) hy hy2
    · have cp := (wt_cp _ _ _ _ h3).1
      have d1 : l.drop (s + 1) = p ++ (q ++ rest) := by
        rw [← List.drop_drop, hd]
        simp
      have d2 := at_next d1
      have g := first rfl
      have nl : ∀ k, tl_arn l k i (s + 1 - i) = tl_arn l k i (s - i) := fun k => by
        rw [show s + 1 - i = (s - i) + 1 by omega, tl_arn_snoc, show i + (s - i) = s by omega, g]
        simp
      simp only [List.length_cons, List.length_append] at k2
      by_cases e : k = s
      · subst e
        rw [g] at hy
        cases hy
        simp only at hy2
        omega
      · by_cases e2 : k < s + 1 + p.length
        · exact ih Δ p _ h3 (s + 1) _ d1 (by omega) (fun k k1 k2 => by rw [nl]; exact hc k (by omega) (by simp; omega)) k y (by omega) e2 hy hy2
        · exact ih Δ q _ h4 (s + 1 + p.length) _ d2 (by omega) (fun k k1 k2 => by
            rw [show s + 1 + p.length - i = (s + 1 - i) + p.length by omega, arn_app, show i + (s + 1 - i) = s + 1 by omega, arn_zero d1 cp k1 _ (Nat.le_refl _), nl, Nat.add_zero]
            exact hc k (by omega) (by simp; omega)) k y (by omega) (by omega) hy hy2
    · have cp := (wt_cp _ _ _ _ h3).1
      have d1 : l.drop (s + 1) = p ++ rest := by
        rw [← List.drop_drop, hd]
        simp
      have g := first rfl
      have en : tl_end l s = s + 1 + p.length := by
        rw [(at_part (a := (10, t) :: p) hd (cp_lam rfl cp)).2, List.length_cons]
        omega
      simp only [List.length_cons] at k2
      by_cases e : k = s
      · subst e
        rw [g] at hy
        cases hy
        simp only at hy2
        omega
      · exact ih (ty_from t :: Δ) p _ h3 (s + 1) _ d1 (by omega) (fun k k1 k2 => by
          rw [show s + 1 - i = (s - i) + 1 by omega, tl_arn_snoc, show i + (s - i) = s by omega, g, if_pos ⟨rfl, by omega⟩, hc k (by omega) (by simp; omega)]
          rfl) k y (by omega) (by omega) hy hy2
