/-! ===== close: the theorems are good ===== -/
def thi (T : Nat) (th : List st_Th) : Prop := ∀ (p : Nat) (h : st_Th), th[p]? = some h → h.1 < T ∧ (∀ t ∈ h.2.1, t < T) ∧ h.2.1.length ≤ 6
theorem gi.tr {T : Nat} {th : List st_Th} {gl : List st_Gl} {dn : List Nat} (h : gi T th gl [] dn) : tr_ok gl := by
  obtain ⟨h1, h2, h3, h4, h5, h6⟩ := h
  refine ⟨fun g q hq => ?_, h6⟩
  cases hw : q.2.2 with
  | none => exact absurd (h4 g q hq hw) (by simp)
  | some w =>
    obtain ⟨k, x, n⟩ := w
    obtain ⟨a, b, c, -⟩ := h5 g q k x n hq hw
    exact ⟨k, x, n, rfl, a, b, c⟩
theorem hyL_of {th : List st_Th} {p : Nat} {h : st_Th} (e : th[p]? = some h) : hyL th p = h.2.1 ∧ cnL th p = h.1 := by
  unfold hyL cnL
  rw [e]
  exact ⟨rfl, rfl⟩
/-- a theorem for the goal q -/
def th_for (q : st_Gl) (h : st_Th) : Prop := h.1 = q.1 ∧ ∀ u ∈ h.2.1, u ∈ q.2.1
theorem dv_good {th : List st_Th} {q : st_Gl} {k : Nat} {a b : Option Nat} (h6 : q.2.1.length ≤ 6) (hs : ∀ u ∈ dv_hyp th k q.1 a b, u ∈ q.2.1) (hn : (dv_hyp th k q.1 a b).Nodup) : (dv_hyp th k q.1 a b).length ≤ 6 := Nat.le_trans (nd_len hn hs) h6
theorem dv_nodup (th : List st_Th) (k t : Nat) (a b : Option Nat) : (dv_hyp th k t a b).Nodup := by
  unfold dv_hyp
  split
  · split
    · exact ls_g_nodup _ _ _ (ls_g_nodup _ _ _ List.nodup_nil)
    · exact ls_g_nodup _ _ _ (ls_g_nodup _ _ _ List.nodup_nil)
  · exact ls_g_nodup _ _ _ List.nodup_nil
  · split
    · simp
    · exact List.nodup_nil
theorem dv_sub2 {th : List st_Th} {gl : List st_Gl} {th0 : List st_Th} {q q1 q2 : st_Gl} {k x n p r : Nat} {h1 h2 : st_Th} (hc : cl_k th0 gl q k x n) (hk : k = 2 ∨ k = 3 ∨ k = 6 ∨ k = 7) (g1 : gl[n]? = some q1) (g2 : gl[n + 1]? = some q2) (e1 : th[p]? = some h1) (e2 : th[r]? = some h2) (f1 : th_for q1 h1) (f2 : th_for q2 h2) : ∀ u ∈ dv_hyp th k q.1 (some p) (some r), u ∈ q.2.1 := by
  obtain ⟨i1, j1⟩ := hyL_of e1
  obtain ⟨i2, j2⟩ := hyL_of e2
  intro u hu
  unfold dv_hyp at hu
  simp only at hu
  split at hu
  · rename_i h7
    obtain ⟨q1', q2', a1, a2, a3, a4⟩ := hc.2.2.2.1 h7
    rw [g1] at a1
    rw [g2] at a2
    cases a1
    cases a2
    rw [i1, j1, i2, j2] at hu
    rcases ls_g_mem _ _ _ _ hu with hu | ⟨hu, hne⟩
    · rcases ls_g_mem _ _ _ _ hu with hu | ⟨hu, hne⟩
      · cases hu
      · have := f1.2 u hu
        rw [a3] at this
        rcases ls_h_mem this with h | h
        · exact h
        · exact absurd (by rw [h, f2.1]) hne
    · have := f2.2 u hu
      rw [a4] at this
      rcases ls_h_mem this with h | h
      · exact h
      · exact absurd (by rw [h, f1.1]) hne
  · rename_i h7
    obtain ⟨q1', q2', a1, a2, a3, a4⟩ := hc.2.2.1 (by omega)
    rw [g1] at a1
    rw [g2] at a2
    cases a1
    cases a2
    rw [i1, i2] at hu
    rcases ls_g_mem _ _ _ _ hu with hu | ⟨hu, -⟩
    · rcases ls_g_mem _ _ _ _ hu with hu | ⟨hu, -⟩
      · cases hu
      · have := f1.2 u hu
        rwa [a3] at this
    · have := f2.2 u hu
      rwa [a4] at this
theorem dv_sub1 {th : List st_Th} {gl : List st_Gl} {th0 : List st_Th} {q q1 : st_Gl} {k x n p : Nat} {h1 : st_Th} (hc : cl_k th0 gl q k x n) (hk : k = 4) (g1 : gl[n]? = some q1) (e1 : th[p]? = some h1) (f1 : th_for q1 h1) : ∀ u ∈ dv_hyp th k q.1 (some p) none, u ∈ q.2.1 := by
  obtain ⟨i1, j1⟩ := hyL_of e1
  intro u hu
  unfold dv_hyp at hu
  simp only at hu
  obtain ⟨q1', a1, a3⟩ := hc.2.1 hk
  rw [g1] at a1
  cases a1
  rw [i1] at hu
  rcases ls_g_mem _ _ _ _ hu with hu | ⟨hu, -⟩
  · cases hu
  · have := f1.2 u hu
    rwa [a3] at this
theorem dv_sub0 {th : List st_Th} {gl : List st_Gl} {th0 : List st_Th} {q : st_Gl} {k x n : Nat} (hc : cl_k th0 gl q k x n) : ∀ u ∈ dv_hyp th k q.1 none none, u ∈ q.2.1 := by
  intro u hu
  unfold dv_hyp at hu
  simp only at hu
  split at hu
  · rename_i h1
    rw [List.mem_singleton] at hu
    rw [hu]
    exact hc.1 h1
  · cases hu
theorem thi_app {T : Nat} {th : List st_Th} {h : st_Th} (a : thi T th) (h1 : h.1 < T) (h2 : ∀ t ∈ h.2.1, t < T) (h3 : h.2.1.length ≤ 6) : thi T (th ++ [h]) := by
  intro p h' hp
  by_cases hl : p < th.length
  · rw [List.getElem?_append_left hl] at hp
    exact a p h' hp
  · have hgl := getE_lt hp
    rw [List.length_append, List.length_singleton] at hgl
    rw [List.getElem?_append_right (by omega), show p - th.length = 0 by omega] at hp
    cases hp
    exact ⟨h1, h2, h3⟩
theorem gk_cases {k : Nat} (hk : k < 9) : (gk k = 0 ∧ (k = 0 ∨ k = 1 ∨ k = 5 ∨ k = 8)) ∨ (gk k = 1 ∧ k = 4) ∨ (gk k = 2 ∧ (k = 2 ∨ k = 3 ∨ k = 6 ∨ k = 7)) := by
  match k, hk with
  | 0, _ => exact Or.inl ⟨rfl, by omega⟩
  | 1, _ => exact Or.inl ⟨rfl, by omega⟩
  | 2, _ => exact Or.inr (Or.inr ⟨rfl, by omega⟩)
  | 3, _ => exact Or.inr (Or.inr ⟨rfl, by omega⟩)
  | 4, _ => exact Or.inr (Or.inl ⟨rfl, rfl⟩)
  | 5, _ => exact Or.inl ⟨rfl, by omega⟩
  | 6, _ => exact Or.inr (Or.inr ⟨rfl, by omega⟩)
  | 7, _ => exact Or.inr (Or.inr ⟨rfl, by omega⟩)
  | 8, _ => exact Or.inl ⟨rfl, by omega⟩
  | k + 9, h => omega
/-- what cl_go makes: the eldest stay, the theorem is there and is one for the goal -/
def cl_G (T : Nat) (th : List st_Th) (q : st_Gl) (r : List st_Th × Nat) : Prop := (∃ X, r.1 = th ++ X) ∧ thi T r.1 ∧ ∃ h, r.1[r.2]? = some h ∧ th_for q h
/-- cl_go at a goal, kind by kind -/
theorem cl_go_8 {gl : List st_Gl} {f g t x n : Nat} {hs : List Nat} {th : List st_Th} (hq : gl[g]? = some (t, hs, some (8, x, n))) : cl_go gl (f + 1) g th = (th, x) := by
  rw [cl_go, hq]
  rfl
theorem cl_go_0 {gl : List st_Gl} {f g t k x n : Nat} {hs : List Nat} {th : List st_Th} (hq : gl[g]? = some (t, hs, some (k, x, n))) (h8 : k ≠ 8) (k0 : gk k = 0) : cl_go gl (f + 1) g th = (th ++ [(t, dv_hyp th k t none none, k, none, none)], th.length) := by
  rw [cl_go, hq]
  simp only
  rw [if_neg h8, if_pos k0]
theorem cl_go_1 {gl : List st_Gl} {f g t k x n : Nat} {hs : List Nat} {th : List st_Th} (hq : gl[g]? = some (t, hs, some (k, x, n))) (h8 : k ≠ 8) (k1 : gk k = 1) : cl_go gl (f + 1) g th = ((cl_go gl f n th).1 ++ [(t, dv_hyp (cl_go gl f n th).1 k t (some (cl_go gl f n th).2) none, k, some (cl_go gl f n th).2, none)], (cl_go gl f n th).1.length) := by
  rw [cl_go, hq]
  simp only
  rw [if_neg h8, if_neg (by omega), if_pos k1]
theorem cl_go_2 {gl : List st_Gl} {f g t k x n : Nat} {hs : List Nat} {th : List st_Th} (hq : gl[g]? = some (t, hs, some (k, x, n))) (h8 : k ≠ 8) (k2 : gk k = 2) : cl_go gl (f + 1) g th = ((cl_go gl f (n + 1) (cl_go gl f n th).1).1 ++ [(t, dv_hyp (cl_go gl f (n + 1) (cl_go gl f n th).1).1 k t (some (cl_go gl f n th).2) (some (cl_go gl f (n + 1) (cl_go gl f n th).1).2), k, some (cl_go gl f n th).2, some (cl_go gl f (n + 1) (cl_go gl f n th).1).2)], (cl_go gl f (n + 1) (cl_go gl f n th).1).1.length) := by
  rw [cl_go, hq]
  simp only
  rw [if_neg h8, if_neg (by omega), if_neg (by omega)]
theorem cl_good {T : Nat} {th0 : List st_Th} {gl : List st_Gl} {dn : List Nat} (hg : gi T th0 gl [] dn) : ∀ (f g : Nat) (th : List st_Th) (q : st_Gl), gl[g]? = some q → gl.length ≤ g + f → (∃ X, th = th0 ++ X) → thi T th → cl_G T th q (cl_go gl f g th) := by
  intro f
  induction f with
  | zero =>
    intro g th q hq hf
    have := getE_lt hq
    omega
  | succ f ih =>
    intro g th q hq hf hX hth
    obtain ⟨k, x, n, hw, hk, hgn, hN⟩ := hg.tr.1 g q hq
    obtain ⟨-, -, -, hc⟩ := hg.2.2.2.2.1 g q k x n hq hw
    obtain ⟨b1, b2, b3⟩ := hg.1 g q hq
    obtain ⟨t, hs, w⟩ := q
    simp only at hw
    subst hw
    by_cases h8 : k = 8
    · subst h8
      rw [cl_go_8 hq]
      obtain ⟨h, e1, e2, e3⟩ := hc.2.2.2.2 rfl
      obtain ⟨X, rfl⟩ := hX
      refine ⟨⟨[], by simp⟩, hth, h, ?_, e2, e3⟩
      show (th0 ++ X)[x]? = some h
      rw [List.getElem?_append_left (getE_lt e1)]
      exact e1
    · have fin : ∀ (th' : List st_Th) (a b : Option Nat), (∃ X, th' = th ++ X) → thi T th' → (∀ u ∈ dv_hyp th' k t a b, u ∈ hs) → cl_G T th (t, hs, some (k, x, n)) (th' ++ [(t, dv_hyp th' k t a b, k, a, b)], th'.length) := by
        intro th' a b ⟨X, hX'⟩ hth' hsub
        refine ⟨⟨X ++ [(t, dv_hyp th' k t a b, k, a, b)], by simp only [hX', List.append_assoc]⟩, thi_app hth' b1 (fun u hu => b2 u (hsub u hu)) (dv_good (q := (t, hs, some (k, x, n))) b3 hsub (dv_nodup _ _ _ _ _)), (t, dv_hyp th' k t a b, k, a, b), ?_, rfl, hsub⟩
        show (th' ++ [_])[th'.length]? = _
        rw [List.getElem?_append_right (Nat.le_refl _), Nat.sub_self]
        rfl
      rcases gk_cases hk with ⟨k0, kk⟩ | ⟨k1, kk⟩ | ⟨k2, kk⟩
      · rw [cl_go_0 hq h8 k0]
        exact fin th none none ⟨[], by simp⟩ hth (dv_sub0 hc)
      · rw [cl_go_1 hq h8 k1]
        have hn : gl[n]? = some gl[n] := List.getElem?_eq_getElem (by omega)
        obtain ⟨⟨Y, hY⟩, r2, h1, r3, r4⟩ := ih n th gl[n] hn (by omega) hX hth
        exact fin _ _ _ ⟨Y, hY⟩ r2 (dv_sub1 hc kk hn r3 r4)
      · rw [cl_go_2 hq h8 k2]
        have hn : gl[n]? = some gl[n] := List.getElem?_eq_getElem (by omega)
        have hn1 : gl[n + 1]? = some gl[n + 1] := List.getElem?_eq_getElem (by omega)
        obtain ⟨⟨Y, hY⟩, r2, h1, r3, r4⟩ := ih n th gl[n] hn (by omega) hX hth
        obtain ⟨⟨Z, hZ⟩, s2, h2, s3, s4⟩ := ih (n + 1) (cl_go gl f n th).1 gl[n + 1] hn1 (by omega) (by obtain ⟨X, rfl⟩ := hX; exact ⟨X ++ Y, by rw [hY, List.append_assoc]⟩) r2
        have r3' : (cl_go gl f (n + 1) (cl_go gl f n th).1).1[(cl_go gl f n th).2]? = some h1 := by
          rw [hZ, List.getElem?_append_left (getE_lt r3)]
          exact r3
        exact fin _ _ _ ⟨Y ++ Z, by rw [hZ, hY, List.append_assoc]⟩ s2 (dv_sub2 hc kk hn hn1 r3' s3 r4 s4)
