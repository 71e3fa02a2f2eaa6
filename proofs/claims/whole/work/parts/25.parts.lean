/-! ===== rows of complete parts ===== -/
/-- l is e parts, and nothing else -/
def tl_cp (e : Nat) (l : tl_T) : Prop := tl_ok e l ∧ tl_pl e l = l.length
theorem tl_cp_nil : tl_cp 0 [] := ⟨trivial, rfl⟩
theorem tl_cp_cons {e : Nat} {x : Nat × Nat} {l : tl_T} : tl_cp (e + 1) (x :: l) ↔ tl_cp (e + tl_ar x.1) l := by
  unfold tl_cp
  simp only [tl_ok, tl_pl, List.length_cons]
  constructor
  · rintro ⟨h1, h2⟩; exact ⟨h1, by omega⟩
  · rintro ⟨h1, h2⟩; exact ⟨h1, by omega⟩
theorem tl_cp_zero {l : tl_T} (h : tl_cp 0 l) : l = [] := by
  cases l with
  | nil => rfl
  | cons x r => have := h.2; simp [tl_pl] at this
theorem tl_cp_app : ∀ (a b : tl_T) (e f : Nat), tl_cp e a → tl_cp f b → tl_cp (e + f) (a ++ b)
  | [], b, e, f, ha, hb => by
    cases e with
    | zero => simpa using hb
    | succ e => exact ha.1.elim
  | x :: a, b, 0, f, ha, hb => absurd (tl_cp_zero ha) (by simp)
  | x :: a, b, e + 1, f, ha, hb => by
    rw [show e + 1 + f = (e + f) + 1 by omega, List.cons_append, tl_cp_cons, show e + f + tl_ar x.1 = (e + tl_ar x.1) + f by omega]
    exact tl_cp_app a b _ f (tl_cp_cons.mp ha) hb
/-- the first part of what is there -/
theorem tl_cp_take : ∀ (l : tl_T) (e : Nat), tl_ok e l → tl_cp e (l.take (tl_pl e l))
  | [], 0, _ => tl_cp_nil
  | [], e + 1, h => h.elim
  | x :: r, 0, _ => by simp [tl_pl]; exact tl_cp_nil
  | x :: r, e + 1, h => by
    rw [tl_pl, show 1 + tl_pl (e + tl_ar x.1) r = tl_pl (e + tl_ar x.1) r + 1 by omega, List.take_succ_cons, tl_cp_cons]
    exact tl_cp_take r _ h
/-- and the rest behind it -/
theorem tl_cp_drop : ∀ (l : tl_T) (e f : Nat), tl_cp (e + f) l → tl_cp f (l.drop (tl_pl e l))
  | l, 0, f, h => by
    have : tl_pl 0 l = 0 := by cases l <;> rfl
    rw [this, List.drop_zero]
    simpa using h
  | [], e + 1, f, h => by rw [show e + 1 + f = (e + f) + 1 by omega] at h; exact h.1.elim
  | x :: r, e + 1, f, h => by
    rw [show e + 1 + f = (e + f) + 1 by omega, tl_cp_cons, show e + f + tl_ar x.1 = (e + tl_ar x.1) + f by omega] at h
    rw [tl_pl, show 1 + tl_pl (e + tl_ar x.1) r = tl_pl (e + tl_ar x.1) r + 1 by omega, List.drop_succ_cons]
    exact tl_cp_drop r _ f h
theorem tl_wf.cp {l : tl_T} (h : tl_wf l) : tl_cp 1 l := ⟨h.1, h.2.1⟩
theorem tl_part_cp {l : tl_T} (h : tl_wf l) {i : Nat} (hi : i < l.length) : tl_cp 1 (tl_part l i) := tl_cp_take _ 1 (tl_ok_drop l 1 i h.1 h.2.1 hi)
theorem tl_cp_pos {e : Nat} {l : tl_T} (h : tl_cp (e + 1) l) : ∃ x r, l = x :: r := by
  cases l with
  | nil => exact h.1.elim
  | cons x r => exact ⟨x, r, rfl⟩
/-- of a term that is EQ or APP: where its second part begins, and that it ends there -/
theorem tl_two {x : Nat × Nat} {r : tl_T} (h : tl_wf (x :: r)) (ha : tl_ar x.1 = 2) : tl_end (x :: r) 1 < (x :: r).length ∧ tl_end (x :: r) (tl_end (x :: r) 1) = (x :: r).length ∧ x :: r = x :: (tl_part (x :: r) 1 ++ tl_part (x :: r) (tl_end (x :: r) 1)) := by
  have h1 := tl_cp_cons.mp h.cp
  rw [ha] at h1
  have h2 := tl_cp_drop r 1 1 (by simpa using h1)
  have e1 : tl_end (x :: r) 1 = 1 + tl_pl 1 r := by simp [tl_end]
  have h3 : (x :: r).drop (1 + tl_pl 1 r) = r.drop (tl_pl 1 r) := by rw [Nat.add_comm, List.drop_succ_cons]
  obtain ⟨y, r2, hy⟩ := tl_cp_pos h2
  have hlen : (r.drop (tl_pl 1 r)).length = r.length - tl_pl 1 r := List.length_drop
  rw [hy] at hlen
  have hle := tl_pl_le r 1
  simp only [List.length_cons] at hlen
  refine ⟨by rw [e1]; simp only [List.length_cons]; omega, ?_, ?_⟩
  · rw [e1, tl_end, h3, h2.2, List.length_drop]
    simp only [List.length_cons]
    omega
  · rw [e1, tl_part, tl_part, h3, h2.2, List.take_length]
    simp only [List.drop_succ_cons, List.drop_zero]
    rw [List.take_append_drop]
/-- symbols without parts become parts, others stay: what was e parts is e parts -/
theorem tl_sub_cp {f : Nat → Nat × Nat → tl_T} {l : tl_T} (hf : ∀ (k : Nat) (x : Nat × Nat), l[k]? = some x → (tl_ar x.1 = 0 ∧ tl_cp 1 (f k x)) ∨ f k x = [x]) : ∀ (n k e : Nat), tl_cp e ((l.drop k).take n) → tl_cp e (tl_sub f l k n)
  | 0, k, e, h => by simpa [tl_sub] using h
  | n + 1, k, e, h => by
    cases hx : l[k]? with
    | none =>
      have hk : l.length ≤ k := by simpa using hx
      rw [List.drop_of_length_le hk] at h
      have e0 : e = 0 := by
        cases e with
        | zero => rfl
        | succ e => simp at h; exact h.1.elim
      subst e0
      have : ∀ (m j : Nat), k ≤ j → tl_sub f l j m = [] := by
        intro m
        induction m with
        | zero => intro j _; rfl
        | succ m ih => intro j hj; rw [tl_sub, List.getElem?_eq_none (by omega), ih (j + 1) (by omega)]; rfl
      rw [this (n + 1) k (Nat.le_refl _)]
      exact tl_cp_nil
    | some x =>
      rw [tl_drop_get hx, List.take_succ_cons] at h
      rw [tl_sub_get hx]
      cases e with
      | zero => exact absurd (tl_cp_zero h) (by simp)
      | succ e =>
        rw [tl_cp_cons] at h
        rcases hf k x hx with ⟨h0, h1⟩ | h1
        · rw [h0, Nat.add_zero] at h
          rw [Nat.add_comm]
          exact tl_cp_app _ _ 1 e h1 (tl_sub_cp hf n (k + 1) e h)
        · rw [h1, List.singleton_append, tl_cp_cons]
          exact tl_sub_cp hf n (k + 1) _ h
theorem tl_ar_name {s : Nat} (h : s < 8) : tl_ar s = 0 := by unfold tl_ar; rw [if_neg (by omega), if_neg (by omega)]
theorem tl_ar_var {s : Nat} (h : 11 ≤ s) : tl_ar s = 0 := by unfold tl_ar; rw [if_neg (by omega), if_neg (by omega)]
theorem tl_cp_one {x : Nat × Nat} (h : tl_ar x.1 = 0) : tl_cp 1 [x] := by
  rw [show (1 : Nat) = 0 + 1 from rfl, tl_cp_cons, h]
  exact tl_cp_nil
theorem tl_pf_cp {l : tl_T} {i v n k e : Nat} {by_ : Option tl_T} (hv : v < 8) (hb : ∀ b, by_ = some b → tl_cp 1 b) (h : tl_cp e ((l.drop k).take n)) : tl_cp e (tl_sub (tl_pf l i v by_) l k n) := by
  refine tl_sub_cp (fun j x hx => ?_) n k e h
  unfold tl_pf
  by_cases hxv : x.1 = v
  · rw [if_pos hxv]
    left
    refine ⟨by rw [hxv]; exact tl_ar_name hv, ?_⟩
    cases by_ with
    | none => exact tl_cp_one (tl_ar_var (by show 11 ≤ _; omega))
    | some b => exact hb b rfl
  · rw [if_neg hxv]
    exact Or.inr rfl
theorem tl_of_cp {l : tl_T} {i n k e : Nat} {by_ : tl_T ⊕ Nat} (hb : ∀ b, by_ = .inl b → tl_cp 1 b) (hv : ∀ v, by_ = .inr v → v < 8) (h : tl_cp e ((l.drop k).take n)) : tl_cp e (tl_sub (tl_of l i by_) l k n) := by
  refine tl_sub_cp (fun j x hx => ?_) n k e h
  unfold tl_of
  by_cases hxv : x.1 = 11 + tl_arn l j i (j - i)
  · rw [if_pos hxv]
    left
    refine ⟨tl_ar_var (by omega), ?_⟩
    cases by_ with
    | inl b => exact hb b rfl
    | inr v => exact tl_cp_one (tl_ar_name (hv v rfl))
  · rw [if_neg hxv]
    exact Or.inr rfl
/-! ===== the writer: what is added is there, or it is too long ===== -/
theorem mo_add_over {D : fx_D} {r : Nat} {s t : Int32} (h : D.2.1 0 7 = nI 1) : (mo_add D r s t).2.1 0 7 = nI 1 := by
  unfold mo_add
  split
  · simp [fx_uf, upd]
  · simp [fx_ua, h]
theorem mo_adds_over {r : Nat} : ∀ (l : tl_T) (D : fx_D), D.2.1 0 7 = nI 1 → (mo_adds D r l).2.1 0 7 = nI 1
  | [], D, h => h
  | x :: l, D, h => mo_adds_over l _ (mo_add_over h)
/-- D' differs from D in row r and in 'over' -/
def mo_fa (D D' : fx_D) (r : Nat) : Prop := (∀ x, x ≠ 1 → x ≠ 2 → x ≠ 3 → D'.1 x = D.1 x) ∧ (∀ x j, ¬ (x = 0 ∧ j = 7) → D'.2.1 x j = D.2.1 x j) ∧ D'.2.2 = D.2.2 ∧ (∀ q l, q ≠ r → mo_row D q l → mo_row D' q l) ∧ ∀ q, mo_okl D q → mo_okl D' q
theorem mo_fa.rf (D : fx_D) (r : Nat) : mo_fa D D r := ⟨fun _ _ _ _ => rfl, fun _ _ _ => rfl, rfl, fun _ _ _ h => h, fun _ h => h⟩
theorem mo_fa.tr {D D' D2 : fx_D} {r : Nat} (h : mo_fa D D' r) (h2 : mo_fa D' D2 r) : mo_fa D D2 r := ⟨fun x a b c => (h2.1 x a b c).trans (h.1 x a b c), fun x j a => (h2.2.1 x j a).trans (h.2.1 x j a), h2.2.2.1.trans h.2.2.1, fun q l a b => h2.2.2.2.1 q l a (h.2.2.2.1 q l a b), fun q a => h2.2.2.2.2 q (h.2.2.2.2 q a)⟩
theorem mo_add_fa {D : fx_D} {r : Nat} {s t : Int32} (hr : mo_okl D r) : mo_fa D (mo_add D r s t) r := by
  refine ⟨fun x a b c => ?_, fun x j h => ?_, ?_, fun q l hq h => mo_add_other h hq hr.ln.1, fun q h => mo_add_okl h hr⟩
  · unfold mo_add
    split
    · rfl
    · simp [fx_ua, a, b, c]
  · unfold mo_add
    split
    · by_cases hx : x = 0
      · subst hx
        have : ¬ j = 7 := fun z => h ⟨rfl, z⟩
        simp [fx_uf, upd, this]
      · simp [fx_uf, hx]
    · rfl
  · unfold mo_add
    split <;> rfl
theorem mo_adds_fa {r : Nat} : ∀ (l : tl_T) (D : fx_D), mo_okl D r → mo_fa D (mo_adds D r l) r
  | [], D, h => mo_fa.rf D r
  | x :: l, D, h => (mo_add_fa h).tr (mo_adds_fa l _ (mo_add_okl h h))
/-- row r holds l0; l is added: it holds l0 ++ l, or 'over' says that this is longer than 24 -/
theorem mo_adds_row {r : Nat} : ∀ (l : tl_T) (l0 : tl_T) (D : fx_D), mo_row D r l0 → (∀ x ∈ l, x.1 < 100 ∧ x.2 ≠ 0 ∧ x.2 < 2 ^ 25) → ((l0 ++ l).length ≤ 24 ∧ mo_row (mo_adds D r l) r (l0 ++ l) ∧ (mo_adds D r l).2.1 0 7 = D.2.1 0 7) ∨ (24 < (l0 ++ l).length ∧ (mo_adds D r l).2.1 0 7 = nI 1)
  | [], l0, D, h, _ => Or.inl ⟨by simpa using h.1, by simpa [mo_adds] using h, rfl⟩
  | x :: l, l0, D, h, hx => by
    have h24 := h.1
    obtain ⟨x1, x2, x3⟩ := hx x List.mem_cons_self
    by_cases hl : l0.length = 24
    · right
      refine ⟨by simp; omega, ?_⟩
      refine mo_adds_over l (mo_add D r (nI x.1) (nI x.2)) ?_
      unfold mo_add
      rw [if_pos (Or.inl (by rw [h.ln]; exact hl))]
      simp [fx_uf, upd]
    · have hr2 := mo_add_row h (by omega) x1 x2 x3
      have ho : (mo_add D r (nI x.1) (nI x.2)).2.1 0 7 = D.2.1 0 7 := by
        unfold mo_add
        rw [if_neg]
        · simp [fx_ua]
        · rw [h.ln]
          rintro (q | q)
          · exact hl q
          · exact x2 ((nI_eq (b := 0) (by omega) (by omega)).mp q)
      have := mo_adds_row l (l0 ++ [x]) _ hr2 (fun y hy => hx y (List.mem_cons_of_mem _ hy))
      rw [List.append_assoc, List.singleton_append, ho] at this
      exact this
