/-! ===== the rows that rules make: symbols, types, one part ===== -/
theorem tl_part_mem {l : tl_T} {i : Nat} {x : Nat × Nat} (h : x ∈ tl_part l i) : x ∈ l := List.mem_of_mem_drop (List.mem_of_mem_take h)
theorem tl_sub_mem {f : Nat → Nat × Nat → tl_T} {l : tl_T} {y : Nat × Nat} : ∀ (n k : Nat), y ∈ tl_sub f l k n → ∃ (j : Nat) (x : Nat × Nat), l[j]? = some x ∧ y ∈ f j x
  | 0, k, h => by simp [tl_sub] at h
  | n + 1, k, h => by
    rw [tl_sub] at h
    rcases List.mem_append.mp h with h | h
    · cases hx : l[k]? with
      | none => rw [hx] at h; simp at h
      | some x => rw [hx] at h; exact ⟨k, x, hx, h⟩
    · exact tl_sub_mem n (k + 1) h
theorem tl_pf_g1 {l : tl_T} {i v n k : Nat} {by_ : Option tl_T} (hl : ∀ x ∈ l, tl_g1 x) (h24 : l.length ≤ 24) (hb : ∀ b, by_ = some b → ∀ x ∈ b, tl_g1 x) : ∀ y ∈ tl_sub (tl_pf l i v by_) l k n, tl_g1 y := by
  intro y hy
  obtain ⟨j, x, hx, hy⟩ := tl_sub_mem n k hy
  have hg := hl x (List.mem_of_getElem? hx)
  have hj := getE_lt hx
  unfold tl_pf at hy
  split at hy
  · cases by_ with
    | none =>
      simp at hy
      subst hy
      have := tl_arn_le l j (j - i) i
      exact ⟨by show 11 + _ < 100; omega, hg.2⟩
    | some b => exact hb b rfl y hy
  · simp at hy
    subst hy
    exact hg
theorem tl_of_g1 {l : tl_T} {i n k : Nat} {by_ : tl_T ⊕ Nat} (hl : ∀ x ∈ l, tl_g1 x) (hb : ∀ b, by_ = .inl b → ∀ x ∈ b, tl_g1 x) (hv : ∀ v, by_ = .inr v → v < 100) : ∀ y ∈ tl_sub (tl_of l i by_) l k n, tl_g1 y := by
  intro y hy
  obtain ⟨j, x, hx, hy⟩ := tl_sub_mem n k hy
  have hg := hl x (List.mem_of_getElem? hx)
  unfold tl_of at hy
  split at hy
  · cases by_ with
    | inl b => exact hb b rfl y hy
    | inr v =>
      simp at hy
      subst hy
      exact ⟨hv v rfl, hg.2⟩
  · simp at hy
    subst hy
    exact hg
theorem st_g1 {S : st_S} {D : fx_D} (hR : mo_R S D) (hT : st_okT S) {t : Nat} (ht : t < (st_T S).length) : ∀ x ∈ st_tm S t, tl_g1 x := by
  intro x hx
  obtain ⟨h1, h2, -, -⟩ := mo_tm hR ht
  obtain ⟨k, hk⟩ := List.getElem?_of_mem hx
  obtain ⟨-, -, q3, q4⟩ := h2.2.2 k x hk
  have := (hT _ (List.mem_of_getElem? h1) x hx).1.2.1
  exact ⟨q3, by omega, q4⟩
theorem ty_to_g {t : Nat} (h : t < 2 ^ 25) (h4 : 4 ≤ t) (hr : ∃ r, ty_ex t (Nat.log2 t - 1) 1 = some r) : ty_to t ≠ 0 ∧ ty_to t < 2 ^ 25 := by
  obtain ⟨r, hr⟩ := hr
  have hl := tp_lg h (by omega)
  obtain ⟨-, e2⟩ := ty_xtr hr
  unfold ty_to
  have h1 := Nat.mod_lt t (Nat.two_pow_pos (ty_rem t))
  have h2 := Nat.two_pow_pos (ty_rem t)
  have h3 : 2 ^ (ty_rem t + 1) ≤ 2 ^ 24 := tp_pw (by omega)
  rw [Nat.pow_succ] at h3
  omega
theorem ty_jn_g {s t : Nat} (hs : s ≠ 0) (hc : Nat.log2 s + Nat.log2 t ≤ 23) : ty_jn s t ≠ 0 ∧ ty_jn s t < 2 ^ 25 := by
  have q1 := tp_lt s
  have q2 := Nat.mod_lt t (Nat.two_pow_pos (Nat.log2 t))
  have q6 := Nat.two_pow_pos (Nat.log2 t)
  have q5 : 2 ^ Nat.log2 t ≤ (2 ^ (Nat.log2 s + 1) + s) * 2 ^ Nat.log2 t := Nat.le_mul_of_pos_left _ (Nat.lt_of_lt_of_le (show 0 < s by omega) (Nat.le_add_left _ _))
  have q3 : (2 ^ (Nat.log2 s + 1) + s + 1) * 2 ^ Nat.log2 t ≤ 2 ^ (Nat.log2 s + 2) * 2 ^ Nat.log2 t := Nat.mul_le_mul_right _ (by rw [Nat.pow_succ _ (Nat.log2 s + 1)]; omega)
  rw [← Nat.pow_add, Nat.add_mul, Nat.one_mul] at q3
  have q4 : 2 ^ (Nat.log2 s + 2 + Nat.log2 t) ≤ 2 ^ 25 := tp_pw (by omega)
  unfold ty_jn
  omega
/-- what rule k asks of its numbers, as naturals -/
def ru_in (S : st_S) (k a b c : Nat) : Prop := (k = 0 ∨ k = 1 ∨ k = 5) ∧ a < (st_T S).length ∨ (k = 2 ∨ k = 3 ∨ k = 6 ∨ k = 7) ∧ a < (st_th S).length ∧ b < (st_th S).length ∨ k = 4 ∧ a < (st_th S).length ∧ b < 8 ∨ k = 8 ∧ a < (st_th S).length ∧ b < 8 ∧ c < (st_T S).length
theorem tl_g1_94 : tl_g1 (9, 4) := ⟨by decide, by decide, by decide⟩
theorem fm_app {α : Type} {p : α → Prop} {a b : List α} (ha : ∀ x ∈ a, p x) (hb : ∀ x ∈ b, p x) : ∀ x ∈ a ++ b, p x := fun x h => (List.mem_append.mp h).elim (ha x) (hb x)
theorem fm_cons {α : Type} {p : α → Prop} {y : α} {b : List α} (ha : p y) (hb : ∀ x ∈ b, p x) : ∀ x ∈ y :: b, p x := fun x h => (List.mem_cons.mp h).elim (fun e => e ▸ ha) (hb x)
theorem fm_part {p : Nat × Nat → Prop} {l : tl_T} {i : Nat} (h : ∀ x ∈ l, p x) : ∀ x ∈ tl_part l i, p x := fun x hx => h x (tl_part_mem hx)
theorem ru_g1 {S : st_S} {D : fx_D} {k a b c : Nat} {L : tl_T} (hR : mo_R S D) (hT : st_okT S) (hH : st_okH S) (hi : ru_in S k a b c) (hf : ru_fit S k a b c = true) (hL : ru_row S k a b c = some L) : ∀ x ∈ L, tl_g1 x := by
  rcases hi with ⟨rfl | rfl | rfl, ha⟩ | ⟨rfl | rfl | rfl | rfl, ha, hb⟩ | ⟨rfl, ha, hb⟩ | ⟨rfl, ha, hb, hc⟩
  · cases hL
    exact fm_cons tl_g1_94 (fm_app (st_g1 hR hT ha) (st_g1 hR hT ha))
  · cases hL
    exact st_g1 hR hT ha
  · cases hL
    exact fm_cons tl_g1_94 (fm_app (st_g1 hR hT ha) (tl_of_g1 (st_g1 hR hT ha) (fun b e => by cases e; exact fm_part (st_g1 hR hT ha)) (fun v e => by cases e)))
  · cases hL
    have A := st_g1 hR hT (mo_cn hR hH ha).2.1
    have B := st_g1 hR hT (mo_cn hR hH hb).2.1
    exact fm_cons tl_g1_94 (fm_app (fm_part A) (fm_part B))
  · cases hL
    have A := st_g1 hR hT (mo_cn hR hH ha).2.1
    have B := st_g1 hR hT (mo_cn hR hH hb).2.1
    simp only [ru_fit, Bool.and_eq_true] at hf
    obtain ⟨tP, -, m2, -⟩ := mo_tm hR (mo_cn hR hH ha).2.1
    obtain ⟨l1, -, -⟩ := m2.two (tl_E2 hf.1.1.1)
    have tok := (hT _ (List.mem_of_getElem? tP) _ (List.mem_of_getElem? (tl_at_some l1))).1
    have g8 : tl_g1 (8, ty_to (tl_at (st_tm S (st_cn S a)) 1).2) := ⟨by show 8 < 100; omega, ty_to_g tok.1 tok.2.1 (ty_fun_rem tok hf.1.2)⟩
    exact fm_cons tl_g1_94 (fm_cons g8 (fm_app (fm_part A) (fm_app (fm_part B) (fm_cons g8 (fm_app (fm_part A) (fm_part B))))))
  · cases hL
    exact fm_part (st_g1 hR hT (mo_cn hR hH ha).2.1)
  · cases hL
    exact fm_cons tl_g1_94 (fm_app (st_g1 hR hT (mo_cn hR hH ha).2.1) (st_g1 hR hT (mo_cn hR hH hb).2.1))
  · have A := st_g1 hR hT (mo_cn hR hH ha).2.1
    obtain ⟨-, m1, -, -⟩ := mo_tm hR (mo_cn hR hH ha).2.1
    have n4 := (hR.1 b hb).2.2.1
    unfold ru_row at hL
    simp only at hL
    split at hL
    · rename_i hj
      cases hL
      have g10 : tl_g1 (10, ty_jn (st_nt S b) (tl_at (st_tm S (st_cn S a)) 1).2) := ⟨by show 10 < 100; omega, ty_jn_g (by omega) hj⟩
      exact fm_cons tl_g1_94 (fm_cons g10 (fm_app (tl_pf_g1 A m1.1 (fun b e => by cases e)) (fm_cons g10 (tl_pf_g1 A m1.1 (fun b e => by cases e)))))
    · cases hL
  · cases hL
    have A := st_g1 hR hT (mo_cn hR hH ha).2.1
    obtain ⟨-, m1, -, -⟩ := mo_tm hR (mo_cn hR hH ha).2.1
    exact tl_pf_g1 A m1.1 (fun b e => by cases e; exact st_g1 hR hT hc)
theorem ru_hg1 {S : st_S} {D : fx_D} {a b c : Nat} (hR : mo_R S D) (hT : st_okT S) (hH : st_okH S) (ha : a < (st_th S).length) (hc : c < (st_T S).length) : ∀ l ∈ ru_hr S 8 a b c, ∀ x ∈ l, tl_g1 x := by
  intro l hl
  unfold ru_hr at hl
  rw [if_pos rfl] at hl
  obtain ⟨t, ht, rfl⟩ := List.mem_map.mp hl
  obtain ⟨k, hk⟩ := List.getElem?_of_mem ht
  have ht2 := ((mo_cn hR hH ha).2.2.2.2.2 k t hk).2
  obtain ⟨-, m1, -, -⟩ := mo_tm hR ht2
  exact tl_pf_g1 (st_g1 hR hT ht2) m1.1 (fun b e => by cases e; exact st_g1 hR hT hc)
theorem cp_bin {x : Nat × Nat} {a b : tl_T} (h : tl_ar x.1 = 2) (ha : tl_cp 1 a) (hb : tl_cp 1 b) : tl_cp 1 (x :: (a ++ b)) := by
  rw [show (1 : Nat) = 0 + 1 from rfl, tl_cp_cons, h]
  exact tl_cp_app a b 1 1 ha hb
theorem cp_lam {x : Nat × Nat} {a : tl_T} (h : tl_ar x.1 = 1) (ha : tl_cp 1 a) : tl_cp 1 (x :: a) := by
  rw [show (1 : Nat) = 0 + 1 from rfl, tl_cp_cons, h]
  exact ha
theorem cp_abs {l : tl_T} {i v : Nat} (h : tl_wf l) (hi : i < l.length) (hv : v < 8) : tl_cp 1 (tl_abs l i v) := by
  refine tl_pf_cp hv (fun b e => by cases e) ?_
  have := tl_part_cp h hi
  rw [show tl_end l i - i = tl_pl 1 (l.drop i) by unfold tl_end; omega]
  exact this
theorem cp_inst {l c : tl_T} {v : Nat} (h : tl_wf l) (hc : tl_wf c) (hv : v < 8) : tl_cp 1 (tl_inst l v c) := by
  refine tl_pf_cp hv (fun b e => by cases e; exact hc.cp) ?_
  rw [List.drop_zero, List.take_length]
  exact h.cp
/-- the body of a LAM, filled -/
theorem cp_fill {l : tl_T} {i : Nat} {by_ : tl_T ⊕ Nat} (h : tl_wf l) (hi : i < l.length) (h10 : (tl_at l i).1 = 10) (hb : ∀ b, by_ = .inl b → tl_cp 1 b) (hv : ∀ v, by_ = .inr v → v < 8) : tl_cp 1 (tl_fill l i by_) := by
  refine tl_of_cp hb hv ?_
  have ho := tl_ok_drop l 1 i h.1 h.2.1 hi
  have hx := tl_at_some hi
  rw [tl_drop_get hx] at ho
  have e1 : tl_end l i - (i + 1) = tl_pl 1 (l.drop (i + 1)) := by
    unfold tl_end
    rw [tl_drop_get hx, tl_pl, h10]
    show i + (1 + tl_pl (0 + 1) _) - (i + 1) = _
    rw [Nat.zero_add]
    omega
  rw [e1]
  apply tl_cp_take
  simp only [tl_ok, h10] at ho
  exact ho
theorem ru_cp {S : st_S} {D : fx_D} {k a b c : Nat} {L : tl_T} (hR : mo_R S D) (hH : st_okH S) (hi : ru_in S k a b c) (hf : ru_fit S k a b c = true) (hL : ru_row S k a b c = some L) : tl_cp 1 L := by
  rcases hi with ⟨rfl | rfl | rfl, ha⟩ | ⟨rfl | rfl | rfl | rfl, ha, hb⟩ | ⟨rfl, ha, hb⟩ | ⟨rfl, ha, hb, hc⟩
  · cases hL
    have A := (mo_tm hR ha).2.2.1
    exact cp_bin rfl A.cp A.cp
  · cases hL
    exact (mo_tm hR ha).2.2.1.cp
  · cases hL
    have A := (mo_tm hR ha).2.2.1
    obtain ⟨e1, e2⟩ := tl_isB_iff.mp hf
    obtain ⟨l1, l2, -⟩ := A.two (by rw [e1]; rfl)
    exact cp_bin rfl A.cp (cp_fill A l1 e2 (fun b e => by cases e; exact tl_part_cp A l2) (fun v e => by cases e))
  · cases hL
    have A := (mo_tm hR (mo_cn hR hH ha).2.1).2.2.1
    have B := (mo_tm hR (mo_cn hR hH hb).2.1).2.2.1
    simp only [ru_fit, Bool.and_eq_true] at hf
    exact cp_bin rfl (tl_part_cp A (A.two (tl_E2 hf.1.1)).1) (tl_part_cp B (B.two (tl_E2 hf.1.2)).2.1)
  · cases hL
    have A := (mo_tm hR (mo_cn hR hH ha).2.1).2.2.1
    have B := (mo_tm hR (mo_cn hR hH hb).2.1).2.2.1
    simp only [ru_fit, Bool.and_eq_true] at hf
    obtain ⟨a1, a2, -⟩ := A.two (tl_E2 hf.1.1.1)
    obtain ⟨b1, b2, -⟩ := B.two (tl_E2 hf.1.1.2)
    rw [← List.append_assoc, ← List.cons_append]
    exact cp_bin rfl (cp_bin rfl (tl_part_cp A a1) (tl_part_cp B b1)) (cp_bin rfl (tl_part_cp A a2) (tl_part_cp B b2))
  · cases hL
    have A := (mo_tm hR (mo_cn hR hH ha).2.1).2.2.1
    simp only [ru_fit, Bool.and_eq_true] at hf
    exact tl_part_cp A (A.two (tl_E2 hf.1)).2.1
  · cases hL
    exact cp_bin rfl (mo_tm hR (mo_cn hR hH ha).2.1).2.2.1.cp (mo_tm hR (mo_cn hR hH hb).2.1).2.2.1.cp
  · have A := (mo_tm hR (mo_cn hR hH ha).2.1).2.2.1
    unfold ru_fit at hf
    simp only [Bool.and_eq_true] at hf
    obtain ⟨a1, a2, -⟩ := A.two (tl_E2 hf.1)
    unfold ru_row at hL
    simp only at hL
    split at hL
    · cases hL
      rw [← List.cons_append]
      exact cp_bin rfl (cp_lam rfl (cp_abs A a1 hb)) (cp_lam rfl (cp_abs A a2 hb))
    · cases hL
  · cases hL
    exact cp_inst (mo_tm hR (mo_cn hR hH ha).2.1).2.2.1 (mo_tm hR hc).2.2.1 hb
theorem ru_hcp {S : st_S} {D : fx_D} {a b c : Nat} (hR : mo_R S D) (hH : st_okH S) (ha : a < (st_th S).length) (hb : b < 8) (hc : c < (st_T S).length) : ∀ l ∈ ru_hr S 8 a b c, tl_cp 1 l := by
  intro l hl
  unfold ru_hr at hl
  rw [if_pos rfl] at hl
  obtain ⟨t, ht, rfl⟩ := List.mem_map.mp hl
  obtain ⟨k, hk⟩ := List.getElem?_of_mem ht
  exact cp_inst (mo_tm hR ((mo_cn hR hH ha).2.2.2.2.2 k t hk).2).2.2.1 (mo_tm hR hc).2.2.1 hb
