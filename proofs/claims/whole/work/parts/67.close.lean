/-! ===== close: what it does ===== -/
def hyL (th : List st_Th) (p : Nat) : List Nat := ((th[p]?).map (fun h => h.2.1)).getD []
def cnL (th : List st_Th) (p : Nat) : Nat := ((th[p]?).map (fun h => h.1)).getD 0
/-- the hypotheses of the theorem for a goal -/
def dv_hyp (th : List st_Th) (k t : Nat) (a b : Option Nat) : List Nat :=
  match a, b with
  | some p, some q => if k = 7 then ls_g (ls_g [] (nI (cnL th q)) (hyL th p)) (nI (cnL th p)) (hyL th q) else ls_g (ls_g [] (-1) (hyL th p)) (-1) (hyL th q)
  | some p, none => ls_g [] (-1) (hyL th p)
  | none, _ => if k = 1 then [t] else []
/-- the theorem for the goal g: the theorems then, its number -/
def cl_go (gl : List st_Gl) : Nat → Nat → List st_Th → List st_Th × Nat
  | 0, _, th => (th, 0)
  | f + 1, g, th => match gl[g]? with
    | some (t, _, some (k, x, n)) =>
      if k = 8 then (th, x)
      else if gk k = 0 then (th ++ [(t, dv_hyp th k t none none, k, none, none)], th.length)
      else if gk k = 1 then ((cl_go gl f n th).1 ++ [(t, dv_hyp (cl_go gl f n th).1 k t (some (cl_go gl f n th).2) none, k, some (cl_go gl f n th).2, none)], (cl_go gl f n th).1.length)
      else ((cl_go gl f (n + 1) (cl_go gl f n th).1).1 ++ [(t, dv_hyp (cl_go gl f (n + 1) (cl_go gl f n th).1).1 k t (some (cl_go gl f n th).2) (some (cl_go gl f (n + 1) (cl_go gl f n th).1).2), k, some (cl_go gl f n th).2, some (cl_go gl f (n + 1) (cl_go gl f n th).1).2)], (cl_go gl f (n + 1) (cl_go gl f n th).1).1.length)
    | _ => (th, 0)
/-- whether a goal wants a theorem of its own -/
def cl_w (q : st_Gl) : Bool := match q.2.2 with
  | some w => !(w.1 == 8)
  | none => true
def cl_n (gl : List st_Gl) : Nat := (gl.filter cl_w).length
def sp_close (S : st_S) (ans : Int32) (S' : st_S) : Prop := ((st_gl S = [] ∨ st_op S ≠ []) ∧ ans = -1 ∧ S' = S) ∨ (st_gl S ≠ [] ∧ st_op S = [] ∧ 40 < (st_th S).length + cl_n (st_gl S) ∧ ans = -6 ∧ S' = S) ∨ (st_gl S ≠ [] ∧ st_op S = [] ∧ (st_th S).length + cl_n (st_gl S) ≤ 40 ∧ ans = nI (cl_go (st_gl S) 30 0 (st_th S)).2 ∧ S' = (S.1, S.2.1, S.2.2.1, (cl_go (st_gl S) 30 0 (st_th S)).1, [], [], []))
/-- what a tactic k, with x, made of the goal q: the goals from n on -/
def cl_k (th : List st_Th) (gl : List st_Gl) (q : st_Gl) (k x n : Nat) : Prop :=
  (k = 1 → q.1 ∈ q.2.1) ∧
  (k = 4 → ∃ q1, gl[n]? = some q1 ∧ q1.2.1 = q.2.1) ∧
  ((k = 2 ∨ k = 3 ∨ k = 6) → ∃ q1 q2, gl[n]? = some q1 ∧ gl[n + 1]? = some q2 ∧ q1.2.1 = q.2.1 ∧ q2.2.1 = q.2.1) ∧
  (k = 7 → ∃ q1 q2, gl[n]? = some q1 ∧ gl[n + 1]? = some q2 ∧ q1.2.1 = ls_h q.2.1 q2.1 ∧ q2.2.1 = ls_h q.2.1 q1.1) ∧
  (k = 8 → ∃ h, th[x]? = some h ∧ h.1 = q.1 ∧ ∀ u ∈ h.2.1, u ∈ q.2.1)
/-- what holds of goals all along -/
def gi (T : Nat) (th : List st_Th) (gl : List st_Gl) (op dn : List Nat) : Prop :=
  (∀ (g : Nat) q, gl[g]? = some q → q.1 < T ∧ (∀ t ∈ q.2.1, t < T) ∧ q.2.1.length ≤ 6) ∧
  (∀ g ∈ op, ∃ q, gl[g]? = some q ∧ q.2.2 = none) ∧
  op.length + dn.length = gl.length ∧
  (∀ (g : Nat) q, gl[g]? = some q → q.2.2 = none → g ∈ op) ∧
  (∀ (g : Nat) q k x n, gl[g]? = some q → q.2.2 = some (k, x, n) → k < 9 ∧ g < n ∧ n + gk k ≤ gl.length ∧ cl_k th gl q k x n) ∧
  (∀ (g g' : Nat) q q' k x n k' x' n', g ≠ g' → gl[g]? = some q → gl[g']? = some q' → q.2.2 = some (k, x, n) → q'.2.2 = some (k', x', n') → n + gk k ≤ n' ∨ n' + gk k' ≤ n)
/-- the goals that are gone through -/
def vis (gl : List st_Gl) : Nat → Nat → List Nat
  | 0, _ => []
  | f + 1, g => match gl[g]? with
    | some (_, _, some (k, _, n)) => (if gk k = 0 then [] else if gk k = 1 then vis gl f n else vis gl f n ++ vis gl f (n + 1)) ++ [g]
    | _ => []
/-- the tree of goals is a tree: kids are younger, and no goal's kids are another's -/
def tr_ok (gl : List st_Gl) : Prop := (∀ (g : Nat) q, gl[g]? = some q → ∃ k x n, q.2.2 = some (k, x, n) ∧ k < 9 ∧ g < n ∧ n + gk k ≤ gl.length) ∧ (∀ (g g' : Nat) q q' k x n k' x' n', g ≠ g' → gl[g]? = some q → gl[g']? = some q' → q.2.2 = some (k, x, n) → q'.2.2 = some (k', x', n') → n + gk k ≤ n' ∨ n' + gk k' ≤ n)
theorem vis_in {gl : List st_Gl} (h : tr_ok gl) : ∀ (f g j : Nat), j ∈ vis gl f g → g ≤ j ∧ j < gl.length := by
  intro f
  induction f with
  | zero => intro g j hj; cases hj
  | succ f ih =>
    intro g j hj
    rw [vis] at hj
    cases hq : gl[g]? with
    | none => rw [hq] at hj; cases hj
    | some q =>
      obtain ⟨k, x, n, hw, hk, hgn, hN⟩ := h.1 g q hq
      obtain ⟨t, hs, w⟩ := q
      simp only at hw
      subst hw
      rw [hq] at hj
      simp only at hj
      have hgl := getE_lt hq
      rcases List.mem_append.mp hj with hj | hj
      · split at hj
        · cases hj
        · split at hj
          · have := ih n j hj
            omega
          · rcases List.mem_append.mp hj with hj | hj
            · have := ih n j hj
              omega
            · have := ih (n + 1) j hj
              omega
      · rw [List.mem_singleton] at hj
        omega
/-- p's kids -/
def is_kid (gl : List st_Gl) (p j : Nat) : Prop := ∃ q k x n, gl[p]? = some q ∧ q.2.2 = some (k, x, n) ∧ n ≤ j ∧ j < n + gk k
theorem vis_par {gl : List st_Gl} (h : tr_ok gl) : ∀ (f g j : Nat), j ∈ vis gl f g → j ≠ g → ∃ p ∈ vis gl f g, is_kid gl p j := by
  intro f
  induction f with
  | zero => intro g j hj; cases hj
  | succ f ih =>
    intro g j hj hne
    cases hq : gl[g]? with
    | none => rw [vis, hq] at hj; cases hj
    | some q =>
      obtain ⟨k, x, n, hw, hk, hgn, hN⟩ := h.1 g q hq
      have hw0 := hw
      have hq0 := hq
      obtain ⟨t, hs, w⟩ := q
      simp only at hw
      subst hw
      rw [vis, hq] at hj ⊢
      simp only at hj ⊢
      have g2 := gk_le k
      rcases List.mem_append.mp hj with hj | hj
      · split at hj
        · cases hj
        · rename_i k0
          rw [if_neg k0]
          split at hj
          · rename_i k1
            rw [if_pos k1]
            by_cases e : j = n
            · exact ⟨g, by simp, _, k, x, n, hq0, hw0, by omega, by omega⟩
            · obtain ⟨p, hp, hk⟩ := ih n j hj e
              exact ⟨p, List.mem_append_left _ hp, hk⟩
          · rename_i k1
            rw [if_neg k1]
            rcases List.mem_append.mp hj with hj | hj
            · by_cases e : j = n
              · exact ⟨g, by simp, _, k, x, n, hq0, hw0, by omega, by omega⟩
              · obtain ⟨p, hp, hk⟩ := ih n j hj e
                exact ⟨p, List.mem_append_left _ (List.mem_append_left _ hp), hk⟩
            · by_cases e : j = n + 1
              · exact ⟨g, by simp, _, k, x, n, hq0, hw0, by omega, by omega⟩
              · obtain ⟨p, hp, hk⟩ := ih (n + 1) j hj e
                exact ⟨p, List.mem_append_left _ (List.mem_append_right _ hp), hk⟩
      · rw [List.mem_singleton] at hj
        exact absurd hj hne
theorem kid_one {gl : List st_Gl} (h : tr_ok gl) {p p' j : Nat} (a : is_kid gl p j) (b : is_kid gl p' j) : p = p' := by
  obtain ⟨q, k, x, n, a1, a2, a3, a4⟩ := a
  obtain ⟨q', k', x', n', b1, b2, b3, b4⟩ := b
  rcases Nat.decEq p p' with e | e
  · have := h.2 p p' q q' k x n k' x' n' e a1 b1 a2 b2
    omega
  · exact e
theorem kid_lt {gl : List st_Gl} (h : tr_ok gl) {p j : Nat} (a : is_kid gl p j) : p < j := by
  obtain ⟨q, k, x, n, a1, a2, a3, a4⟩ := a
  obtain ⟨k', x', n', b1, b2, b3, b4⟩ := h.1 p q a1
  rw [a2] at b1
  cases b1
  omega
theorem vis_disj {gl : List st_Gl} (h : tr_ok gl) {f g a b : Nat} (ha : is_kid gl g a) (hb : is_kid gl g b) (hab : a ≠ b) : ∀ (m j : Nat), j < m → j ∈ vis gl f a → j ∈ vis gl f b → False := by
  intro m
  induction m with
  | zero => intro j hj; omega
  | succ m ih =>
    intro j hj ja jb
    have la := kid_lt h ha
    have lb := kid_lt h hb
    by_cases e1 : j = a
    · subst e1
      obtain ⟨p, hp, hk⟩ := vis_par h f b j jb hab
      have := kid_one h hk ha
      have := (vis_in h f b p hp).1
      omega
    · by_cases e2 : j = b
      · subst e2
        obtain ⟨p, hp, hk⟩ := vis_par h f a j ja (fun z => hab z.symm)
        have := kid_one h hk hb
        have := (vis_in h f a p hp).1
        omega
      · obtain ⟨p, hp, hk⟩ := vis_par h f a j ja e1
        obtain ⟨p', hp', hk'⟩ := vis_par h f b j jb e2
        have e := kid_one h hk hk'
        subst e
        have := kid_lt h hk
        exact ih p (by omega) hp hp'
theorem vis_nodup {gl : List st_Gl} (h : tr_ok gl) : ∀ (f g : Nat), (vis gl f g).Nodup := by
  intro f
  induction f with
  | zero => intro g; exact List.nodup_nil
  | succ f ih =>
    intro g
    cases hq : gl[g]? with
    | none => rw [vis, hq]; exact List.nodup_nil
    | some q =>
      obtain ⟨k, x, n, hw, hk, hgn, hN⟩ := h.1 g q hq
      have hw0 := hw
      have hq0 := hq
      obtain ⟨t, hs, w⟩ := q
      simp only at hw
      subst hw
      rw [vis, hq]
      simp only
      have g2 := gk_le k
      rw [List.nodup_append]
      refine ⟨?_, by simp, ?_⟩
      · split
        · exact List.nodup_nil
        · split
          · exact ih n
          · rw [List.nodup_append]
            refine ⟨ih n, ih (n + 1), fun j ja j' jb e => ?_⟩
            subst e
            exact vis_disj h (g := g) ⟨_, k, x, n, hq0, hw0, by omega, by omega⟩ ⟨_, k, x, n, hq0, hw0, by omega, by omega⟩ (by omega) (j + 1) j (by omega) ja jb
      · intro j ja j' jb e
        rw [List.mem_singleton] at jb
        subst jb
        subst e
        split at ja
        · cases ja
        · split at ja
          · have := (vis_in h f n j ja).1
            omega
          · rcases List.mem_append.mp ja with ja | ja
            · have := (vis_in h f n j ja).1
              omega
            · have := (vis_in h f (n + 1) j ja).1
              omega
theorem nd_len {l m : List Nat} (h : l.Nodup) (hs : ∀ x ∈ l, x ∈ m) : l.length ≤ m.length := by
  induction l generalizing m with
  | nil => simp
  | cons a l ih =>
    rw [List.nodup_cons] at h
    have ha : a ∈ m := hs a (List.mem_cons_self ..)
    have := ih (m := m.erase a) h.2 (fun x hx => (List.mem_erase_of_ne (fun e => h.1 (by rw [← e]; exact hx))).mpr (hs x (List.mem_cons_of_mem _ hx)))
    rw [List.length_erase_of_mem ha] at this
    have hp : 0 < m.length := List.length_pos_of_mem ha
    rw [List.length_cons]
    omega
/-- the goals that want a theorem, by number -/
def cl_wj (gl : List st_Gl) (j : Nat) : Bool := ((gl[j]?).map cl_w).getD false
theorem cl_n_eq : ∀ (gl : List st_Gl), cl_n gl = ((List.range gl.length).filter (cl_wj gl)).length
  | [] => rfl
  | a :: l => by
    have ih := cl_n_eq l
    unfold cl_n at ih ⊢
    rw [List.length_cons, List.range_succ_eq_map, List.filter_cons, List.filter_cons, List.filter_map]
    have e0 : cl_wj (a :: l) 0 = cl_w a := rfl
    have e1 : (cl_wj (a :: l) ∘ Nat.succ) = cl_wj l := by
      funext j
      rfl
    rw [e0, e1]
    cases h : cl_w a
    · simp only [Bool.false_eq_true, if_false, List.length_map]
      exact ih
    · simp only [if_true, List.length_cons, List.length_map]
      rw [ih]
theorem cl_go_len {gl : List st_Gl} (h : tr_ok gl) : ∀ (f g : Nat) (th : List st_Th), (cl_go gl f g th).1.length = th.length + ((vis gl f g).filter (cl_wj gl)).length := by
  intro f
  induction f with
  | zero => intro g th; rfl
  | succ f ih =>
    intro g th
    cases hq : gl[g]? with
    | none => rw [vis, cl_go, hq]; rfl
    | some q =>
      obtain ⟨k, x, n, hw, hk, hgn, hN⟩ := h.1 g q hq
      obtain ⟨t, hs, w⟩ := q
      simp only at hw
      subst hw
      have hj : cl_wj gl g = !(k == 8) := by unfold cl_wj; rw [hq]; rfl
      rw [vis, cl_go, hq]
      simp only
      by_cases h8 : k = 8
      · subst h8
        rw [if_pos rfl, show gk 8 = 0 from rfl, if_pos rfl, List.nil_append, List.filter_cons, hj]
        simp
      · have hj2 : cl_wj gl g = true := by rw [hj]; simp [h8]
        rw [if_neg h8]
        by_cases k0 : gk k = 0
        · rw [if_pos k0, if_pos k0, List.nil_append, List.filter_cons, hj2]
          simp
        · rw [if_neg k0, if_neg k0]
          by_cases k1 : gk k = 1
          · rw [if_pos k1, if_pos k1, List.filter_append, List.filter_cons, hj2]
            simp only [List.length_append, if_true, List.filter_nil, List.length_singleton]
            rw [ih]
            omega
          · rw [if_neg k1, if_neg k1, List.filter_append, List.filter_append, List.filter_cons, hj2]
            simp only [List.length_append, if_true, List.filter_nil, List.length_singleton]
            rw [ih, ih]
            omega
theorem cl_go_le {gl : List st_Gl} (h : tr_ok gl) (f g : Nat) (th : List st_Th) : (cl_go gl f g th).1.length ≤ th.length + cl_n gl := by
  rw [cl_go_len h, cl_n_eq]
  have := nd_len (l := (vis gl f g).filter (cl_wj gl)) (m := (List.range gl.length).filter (cl_wj gl)) ((vis_nodup h f g).filter _) (fun j hj => by
    rw [List.mem_filter] at hj ⊢
    exact ⟨List.mem_range.mpr (vis_in h f g j hj.1).2, hj.2⟩)
  omega
theorem ls_h_nodup {rs : List Nat} {t : Nat} (h : rs.Nodup) : (ls_h rs t).Nodup := by
  unfold ls_h
  by_cases e : t ∈ rs
  · rw [if_pos e]; exact h
  · rw [if_neg e, List.nodup_append]
    refine ⟨h, by simp, fun a ha b hb z => ?_⟩
    rw [List.mem_singleton] at hb
    subst hb
    subst z
    exact e ha
theorem ls_g_nodup : ∀ (hs rs : List Nat) (but : Int32), rs.Nodup → (ls_g rs but hs).Nodup
  | [], rs, but, h => h
  | t :: hs, rs, but, h => by
    rw [ls_g]
    split
    · exact ls_g_nodup hs rs but h
    · exact ls_g_nodup hs _ but (ls_h_nodup h)
theorem ls_g_mem : ∀ (hs rs : List Nat) (but : Int32) (u : Nat), u ∈ ls_g rs but hs → u ∈ rs ∨ (u ∈ hs ∧ nI u ≠ but)
  | [], rs, but, u, h => Or.inl h
  | t :: hs, rs, but, u, h => by
    rw [ls_g] at h
    split at h
    · rcases ls_g_mem hs rs but u h with h | h
      · exact Or.inl h
      · exact Or.inr ⟨List.mem_cons_of_mem _ h.1, h.2⟩
    · rename_i hne
      rcases ls_g_mem hs _ but u h with h | h
      · rcases ls_h_mem h with h | h
        · exact Or.inl h
        · subst h
          exact Or.inr ⟨List.mem_cons_self .., hne⟩
      · exact Or.inr ⟨List.mem_cons_of_mem _ h.1, h.2⟩
