/-! ===== what tactics keep ===== -/
theorem ty_ok4 : ty_ok 4 := ⟨by decide, by decide, by decide⟩
/-- a symbol whose type is good -/
def tl_g2 (x : Nat × Nat) : Prop := ty_ok x.2 ∧ (x.1 = 10 → ty_isF x.2 = true)
theorem tl_g2_94 : tl_g2 (9, 4) := ⟨ty_ok4, fun e => absurd e (by decide)⟩
theorem st_g2 {S : st_S} {D : fx_D} {t : Nat} (hR : mo_R S D) (hT : st_okT S) (ht : t < (st_T S).length) : ∀ x ∈ st_tm S t, tl_g2 x := hT _ (List.mem_of_getElem? (mo_tm hR ht).1)
theorem tl_of_g2 {l : tl_T} {i n k : Nat} {by_ : tl_T ⊕ Nat} (hl : ∀ x ∈ l, tl_g2 x) (hb : ∀ b, by_ = .inl b → ∀ x ∈ b, tl_g2 x) (hv : ∀ v, by_ = .inr v → v < 8) : ∀ y ∈ tl_sub (tl_of l i by_) l k n, tl_g2 y := by
  intro y hy
  obtain ⟨j, x, hx, hy⟩ := tl_sub_mem _ _ hy
  unfold tl_of at hy
  split at hy
  · cases hb2 : by_ with
    | inl b =>
      rw [hb2] at hy
      exact hb b hb2 y hy
    | inr v =>
      rw [hb2] at hy
      simp only [List.mem_singleton] at hy
      subst hy
      exact ⟨(hl x (List.mem_of_getElem? hx)).1, fun e => by have := hv v hb2; simp only at e; omega⟩
  · simp only [List.mem_singleton] at hy
    subst hy
    exact hl y (List.mem_of_getElem? hx)
theorem lv_g2 {S : st_S} {D : fx_D} {k a g : Nat} {x y : Int32} (hR : mo_R S D) (hT : st_okT S) (hG : st_okG S) (hg : g < (st_gl S).length) (ht : tc_there S x y k a) : ∀ l ∈ lv_rows S k a g, ∀ z ∈ l, tl_g2 z := by
  have A := st_g2 hR hT (mo_gg hR hG hg).2.1
  obtain ⟨-, h⟩ := ht
  rcases h with ⟨rfl | rfl | rfl | rfl | rfl, rfl⟩ | ⟨rfl | rfl, -, ha⟩ | ⟨rfl, -, ha⟩ | ⟨rfl, -, ha⟩
  · intro l hl; cases hl
  · intro l hl; cases hl
  · exact fm_cons (fm_cons tl_g2_94 (fm_app (fm_part A) (fm_part A))) (fm_cons (fm_cons tl_g2_94 (fm_app (fm_part A) (fm_part A))) (fun l hl => by cases hl))
  · intro l hl; cases hl
  · exact fm_cons (fm_part A) (fm_cons (fm_part A) (fun l hl => by cases hl))
  · have B := st_g2 hR hT ha
    exact fm_cons (fm_cons tl_g2_94 (fm_app (fm_part A) B)) (fm_cons (fm_cons tl_g2_94 (fm_app B (fm_part A))) (fun l hl => by cases hl))
  · have B := st_g2 hR hT ha
    exact fm_cons (fm_cons tl_g2_94 (fm_app B A)) (fm_cons B (fun l hl => by cases hl))
  · exact fm_cons (fm_cons tl_g2_94 (fm_app (tl_of_g2 A (fun b e => by cases e) (fun v e => by cases e; exact ha)) (tl_of_g2 A (fun b e => by cases e) (fun v e => by cases e; exact ha)))) (fun l hl => by cases hl)
  · intro l hl; cases hl
theorem tl_kt_mem {T : List tl_T} {l m : tl_T} (h : m ∈ tl_kt T l) : m ∈ T ∨ m = l := by
  unfold tl_kt at h
  cases hx : T.idxOf? l with
  | some t => rw [hx] at h; exact Or.inl h
  | none =>
    rw [hx] at h
    simp only at h
    split at h
    · exact Or.inl h
    · rcases List.mem_append.mp h with h | h
      · exact Or.inl h
      · exact Or.inr (List.mem_singleton.mp h)
theorem tl_all_mem : ∀ (rows : List tl_T) (T : List tl_T) (m : tl_T), m ∈ tl_all T rows → m ∈ T ∨ m ∈ rows
  | [], T, m, h => Or.inl h
  | l :: ls, T, m, h => by
    rcases tl_all_mem ls (tl_kt T l) m h with h | h
    · rcases tl_kt_mem h with h | h
      · exact Or.inl h
      · exact Or.inr (by rw [h]; exact List.mem_cons_self ..)
    · exact Or.inr (List.mem_cons_of_mem _ h)
theorem tl_all_pre : ∀ (rows : List tl_T) (T : List tl_T), ∃ X, tl_all T rows = T ++ X
  | [], T => ⟨[], by simp [tl_all]⟩
  | l :: ls, T => by
    obtain ⟨X, hX⟩ := tl_kt_pre (T := T) (l := l)
    obtain ⟨Y, hY⟩ := tl_all_pre ls (tl_kt T l)
    exact ⟨X ++ Y, by rw [tl_all, hY, hX, List.append_assoc]⟩
theorem tl_kp_lt {T : List tl_T} {l : tl_T} (h : tl_kp T l < 64) (hT : T.length ≤ 64) : tl_kp T l < (tl_kt T l).length := by
  unfold tl_kp at h
  unfold tl_kp tl_kt
  cases hx : T.idxOf? l with
  | some t => obtain ⟨h, -⟩ := List.idxOf?_eq_some_iff.mp hx; exact h
  | none =>
    rw [hx] at h
    simp only at h ⊢
    rw [if_neg (by omega), List.length_append, List.length_singleton]
    omega
theorem tl_kt_le {T : List tl_T} {l : tl_T} (hT : T.length ≤ 64) : (tl_kt T l).length ≤ 64 := by
  unfold tl_kt
  cases hx : T.idxOf? l with
  | some t => exact hT
  | none =>
    simp only
    split
    · exact hT
    · rw [List.length_append, List.length_singleton]
      omega
theorem tl_nums_lt : ∀ (rows : List tl_T) (T : List tl_T), T.length ≤ 64 → tl_full T rows = false → ∀ n ∈ tl_nums T rows, n < (tl_all T rows).length
  | [], T, _, _, n, h => by cases h
  | l :: ls, T, hT, hf, n, h => by
    rw [tl_full, Bool.or_eq_false_iff] at hf
    obtain ⟨X, hX⟩ := tl_all_pre ls (tl_kt T l)
    rcases List.mem_cons.mp h with h | h
    · have h1 : tl_kp T l < 64 := by simpa using hf.1
      have := tl_kp_lt h1 hT
      rw [tl_all, hX, List.length_append, h]
      omega
    · exact tl_nums_lt ls (tl_kt T l) (tl_kt_le hT) hf.2 n h
theorem tl_nums_len : ∀ (rows : List tl_T) (T : List tl_T), (tl_nums T rows).length = rows.length
  | [], T => rfl
  | l :: ls, T => by rw [tl_nums, List.length_cons, List.length_cons, tl_nums_len ls]
theorem ls_h_mem {hs : List Nat} {m u : Nat} (h : u ∈ ls_h hs m) : u ∈ hs ∨ u = m := by
  unfold ls_h at h
  split at h
  · exact Or.inl h
  · rcases List.mem_append.mp h with h | h
    · exact Or.inl h
    · exact Or.inr (List.mem_singleton.mp h)
theorem tc_kids_len {S : st_S} {k a g : Nat} : (tc_kids S k a g).length = (lv_rows S k a g).length := by
  have h := tl_nums_len (lv_rows S k a g) (st_T S)
  unfold tc_kids
  split
  · rename_i m n e
    rw [e] at h
    exact h
  · rw [List.length_map]
    exact h
/-- the goals left are no goals that were taken; of what they speak -/
theorem tc_kids_in {S : st_S} {k a g : Nat} {q : st_Gl} (h : q ∈ tc_kids S k a g) : q.2.2 = none ∧ q.1 ∈ tl_nums (st_T S) (lv_rows S k a g) ∧ ∀ u ∈ q.2.1, u ∈ st_gh S g ∨ u ∈ tl_nums (st_T S) (lv_rows S k a g) := by
  unfold tc_kids at h
  split at h
  · rename_i m n e
    rw [e]
    rcases List.mem_cons.mp h with rfl | h
    · refine ⟨rfl, by simp, fun u hu => ?_⟩
      rcases ls_h_mem hu with h | h
      · exact Or.inl h
      · exact Or.inr (by simp [h])
    · rcases List.mem_cons.mp h with rfl | h
      · refine ⟨rfl, by simp, fun u hu => ?_⟩
        rcases ls_h_mem hu with h | h
        · exact Or.inl h
        · exact Or.inr (by simp [h])
      · cases h
  · obtain ⟨n, hn, rfl⟩ := List.mem_map.mp h
    exact ⟨rfl, hn, fun u hu => Or.inl hu⟩
/-- what holds of every state -/
def st_ok (S : st_S) : Prop := st_okT S ∧ st_okH S ∧ st_okG S ∧ st_okO S ∧ st_okN S
theorem tc_ok {S : st_S} {D : fx_D} {k a g : Nat} {x y : Int32} (hR : mo_R S D) (hok : st_ok S) (hop : (st_op S).head? = some g) (ht : tc_there S x y k a) (hfull : tc_full S k a g = false) : st_ok (tc_S S k a g) := by
  obtain ⟨hT, hH, hG, hO, hN⟩ := hok
  obtain ⟨tl, hop⟩ := List.head?_eq_some_iff.mp hop
  have hg : g < (st_gl S).length := hO g (by rw [hop]; exact List.mem_cons_self ..)
  have h64 := hR.2.1.1
  obtain ⟨X, hX⟩ := tl_all_pre (lv_rows S k a g) (st_T S)
  have hl : (st_T S).length ≤ (tl_all (st_T S) (lv_rows S k a g)).length := by rw [hX, List.length_append]; omega
  have hf2 : tl_full (st_T S) (lv_rows S k a g) = false := by
    unfold tc_full at hfull
    rw [Bool.or_eq_false_iff] at hfull
    exact hfull.1
  have hn := tl_nums_lt (lv_rows S k a g) (st_T S) h64 hf2
  have e1 : st_T (tc_S S k a g) = tl_all (st_T S) (lv_rows S k a g) := rfl
  have e2 : st_gl (tc_S S k a g) = (st_gl S).set g (st_gt S g, st_gh S g, some (k, a, (st_gl S).length)) ++ tc_kids S k a g := rfl
  have e3 : st_op (tc_S S k a g) = (List.range (lv_rows S k a g).length).map (fun j => (st_gl S).length + j) ++ (st_op S).tail := rfl
  obtain ⟨-, gt, -, -, -, gh⟩ := mo_gg hR hG hg
  refine ⟨?_, ?_, ?_, ?_, ?_⟩
  · intro l hl z hz
    rw [e1] at hl
    rcases tl_all_mem _ _ _ hl with h | h
    · exact hT l h z hz
    · exact lv_g2 hR hT hG hg ht l h z hz
  · intro p h hp
    obtain ⟨a1, a2, a3⟩ := hH p h hp
    rw [e1]
    exact ⟨by omega, fun t ht => by have := a2 t ht; omega, a3⟩
  · intro i q hi
    rw [e2] at hi
    rw [e1]
    by_cases hlt : i < (st_gl S).length
    · rw [List.getElem?_append_left (by rw [List.length_set]; exact hlt)] at hi
      by_cases e : i = g
      · subst e
        rw [List.getElem?_set_self hlt] at hi
        cases hi
        refine ⟨by show st_gt S i < _; omega, fun t ht => ?_⟩
        obtain ⟨j, hj⟩ := List.mem_iff_getElem?.mp ht
        have := (gh j t hj).2
        omega
      · rw [List.getElem?_set_ne (fun z => e z.symm)] at hi
        obtain ⟨a1, a2⟩ := hG i q hi
        exact ⟨by omega, fun t ht => by have := a2 t ht; omega⟩
    · rw [List.getElem?_append_right (by rw [List.length_set]; omega)] at hi
      obtain ⟨-, b2, b3⟩ := tc_kids_in (List.mem_of_getElem? hi)
      refine ⟨hn _ b2, fun t ht => ?_⟩
      rcases b3 t ht with h | h
      · obtain ⟨j, hj⟩ := List.mem_iff_getElem?.mp h
        have := (gh j t hj).2
        omega
      · exact hn _ h
  · intro i hi
    rw [e3] at hi
    rw [e2, List.length_append, List.length_set, tc_kids_len]
    rcases List.mem_append.mp hi with h | h
    · obtain ⟨j, hj, rfl⟩ := List.mem_map.mp h
      rw [List.mem_range] at hj
      omega
    · have := hO i (List.mem_of_mem_tail h)
      omega
  · unfold st_okN at hN ⊢
    rw [e3, e2, List.length_append, List.length_append, List.length_set, List.length_map, List.length_range, tc_kids_len, hop]
    rw [hop, List.length_cons] at hN
    show _ + tl.length + (st_dn S).length.succ = _
    omega
