/-! ===== the goals' history ===== -/
/-- what holds of goals, of those before the latest tactic, and so on -/
def un_ok (T : Nat) (th : List st_Th) : List Nat → List st_Gl → List Nat → Prop
  | [], gl, op => gi T th gl op [] ∧ op.Nodup
  | g :: dn, gl, op => gi T th gl op (g :: dn) ∧ op.Nodup ∧ ∃ q w, gl[g]? = some q ∧ q.2.2 = some w ∧ gk w.1 ≤ op.length ∧ un_ok T th dn ((gl.take (gl.length - gk w.1)).set g (q.1, q.2.1, none)) (g :: op.drop (gk w.1))
def st_okX (S : st_S) : Prop := un_ok (st_T S).length (st_th S) (st_dn S) (st_gl S) (st_op S)
theorem un_ok.gi {T : Nat} {th : List st_Th} {dn : List Nat} {gl : List st_Gl} {op : List Nat} (h : un_ok T th dn gl op) : gi T th gl op dn ∧ op.Nodup := by
  cases dn with
  | nil => exact h
  | cons g dn => exact ⟨h.1, h.2.1⟩
theorem st_okX.G {S : st_S} (h : st_okX S) : st_okG S := fun g q hq => ⟨((un_ok.gi h).1.1 g q hq).1, ((un_ok.gi h).1.1 g q hq).2.1⟩
theorem st_okX.O {S : st_S} (h : st_okX S) : st_okO S := fun g hg => by
  obtain ⟨q, hq, -⟩ := (un_ok.gi h).1.2.1 g hg
  exact getE_lt hq
theorem st_okX.N {S : st_S} (h : st_okX S) : st_okN S := (un_ok.gi h).1.2.2.1
theorem st_okX.U {S : st_S} (h : st_okX S) : st_okU S := by
  intro g dn e
  unfold st_okX at h
  rw [e] at h
  obtain ⟨-, -, q, w, h1, h2, h3, -⟩ := h
  exact ⟨q, w, h1, h2, h3⟩
theorem gi_mono {T T' : Nat} {th : List st_Th} {X : List st_Th} {gl : List st_Gl} {op dn : List Nat} (hT : T ≤ T') (h : gi T th gl op dn) : gi T' (th ++ X) gl op dn := by
  obtain ⟨h1, h2, h3, h4, h5, h6⟩ := h
  refine ⟨fun g q hq => ?_, h2, h3, h4, fun g q k x n hq hw => ?_, h6⟩
  · obtain ⟨a, b, c⟩ := h1 g q hq
    exact ⟨by omega, fun t ht => by have := b t ht; omega, c⟩
  · obtain ⟨a, b, c, d1, d2, d3, d4, d5⟩ := h5 g q k x n hq hw
    refine ⟨a, b, c, d1, d2, d3, d4, fun e => ?_⟩
    obtain ⟨h, e1, e2⟩ := d5 e
    exact ⟨h, by rw [List.getElem?_append_left (getE_lt e1)]; exact e1, e2⟩
theorem un_mono {T T' : Nat} {th : List st_Th} {X : List st_Th} (hT : T ≤ T') : ∀ (dn : List Nat) (gl : List st_Gl) (op : List Nat), un_ok T th dn gl op → un_ok T' (th ++ X) dn gl op
  | [], gl, op, h => ⟨gi_mono hT h.1, h.2⟩
  | g :: dn, gl, op, h => by
    obtain ⟨h1, h2, q, w, h3, h4, h5, h6⟩ := h
    exact ⟨gi_mono hT h1, h2, q, w, h3, h4, h5, un_mono hT dn _ _ h6⟩
theorem un_goal {T t : Nat} {th : List st_Th} (ht : t < T) : un_ok T th [] [(t, [], none)] [0] := by
  have one : ∀ {g : Nat} {q : st_Gl}, ([(t, [], none)] : List st_Gl)[g]? = some q → g = 0 ∧ q = (t, [], none) := by
    intro g q h
    have hg : g < 1 := getE_lt h
    obtain rfl : g = 0 := by omega
    cases h
    exact ⟨rfl, rfl⟩
  refine ⟨⟨fun g q hq => ?_, fun g hg => ?_, rfl, fun g q hq hn => ?_, fun g q k x n hq hw => ?_, fun g g' q q' k x n k' x' n' hne hq hq' => ?_⟩, by simp⟩
  · obtain ⟨-, rfl⟩ := one hq
    exact ⟨ht, fun u hu => (by cases hu), by simp⟩
  · rw [List.mem_singleton] at hg
    subst hg
    exact ⟨_, rfl, rfl⟩
  · obtain ⟨rfl, -⟩ := one hq
    simp
  · obtain ⟨-, rfl⟩ := one hq
    cases hw
  · have := (one hq).1
    have := (one hq').1
    omega
theorem un_nil {T : Nat} {th : List st_Th} : un_ok T th [] [] [] := ⟨⟨fun g q h => (by simp at h), fun g h => (by cases h), rfl, fun g q h => (by simp at h), fun g q k x n h => (by simp at h), fun g g' q q' k x n k' x' n' _ h => (by simp at h)⟩, by simp⟩
theorem lv_gk {S : st_S} {k a g : Nat} {x y : Int32} (ht : tc_there S x y k a) : (lv_rows S k a g).length = gk k := by
  obtain ⟨-, h⟩ := ht
  rcases h with ⟨rfl | rfl | rfl | rfl | rfl, rfl⟩ | ⟨rfl | rfl, rfl, ha⟩ | ⟨rfl, rfl, ha⟩ | ⟨rfl, rfl, ha⟩ <;> rfl
theorem tc_k9 {S : st_S} {k a : Nat} {x y : Int32} (ht : tc_there S x y k a) : k < 9 := by have := ht.2; omega
theorem set_get {gl : List st_Gl} {g : Nat} {z : st_Gl} {i : Nat} {q : st_Gl} (hi : i < gl.length) : ((gl.set g z)[i]? = some q) → (i = g ∧ q = z) ∨ (i ≠ g ∧ gl[i]? = some q) := by
  intro h
  by_cases e : i = g
  · subst e
    rw [List.getElem?_set_self hi] at h
    cases h
    exact Or.inl ⟨rfl, rfl⟩
  · rw [List.getElem?_set_ne (fun z => e z.symm)] at h
    exact Or.inr ⟨e, h⟩
/-- goals keep their terms and hypotheses -/
theorem cl_k_app {th : List st_Th} {gl gl' : List st_Gl} {q : st_Gl} {k x n : Nat} (h : cl_k th gl q k x n) (hh : ∀ (i : Nat) q1, gl[i]? = some q1 → ∃ q2, gl'[i]? = some q2 ∧ q2.1 = q1.1 ∧ q2.2.1 = q1.2.1) : cl_k th gl' q k x n := by
  obtain ⟨h1, h2, h3, h4, h5⟩ := h
  refine ⟨h1, fun e => ?_, fun e => ?_, fun e => ?_, h5⟩
  · obtain ⟨q1, a, b⟩ := h2 e
    obtain ⟨q2, c, d, f⟩ := hh n q1 a
    exact ⟨q2, c, f.trans b⟩
  · obtain ⟨q1, q2, a, b, c, d⟩ := h3 e
    obtain ⟨p1, a1, a2, a3⟩ := hh n q1 a
    obtain ⟨p2, b1, b2, b3⟩ := hh (n + 1) q2 b
    exact ⟨p1, p2, a1, b1, a3.trans c, b3.trans d⟩
  · obtain ⟨q1, q2, a, b, c, d⟩ := h4 e
    obtain ⟨p1, a1, a2, a3⟩ := hh n q1 a
    obtain ⟨p2, b1, b2, b3⟩ := hh (n + 1) q2 b
    exact ⟨p1, p2, a1, b1, by rw [a3, b2]; exact c, by rw [b3, a2]; exact d⟩
/-- the goals that a tactic leaves are as close asks -/
theorem tc_cl {S : st_S} {k a g : Nat} {x y : Int32} {L : List st_Gl} (ht : tc_there S x y k a) (hf : su_fit S k a g = true) : cl_k (st_th S) (L ++ tc_kids S k a g) (st_gt S g, st_gh S g, some (k, a, L.length)) k a L.length := by
  have get : ∀ j, (L ++ tc_kids S k a g)[L.length + j]? = (tc_kids S k a g)[j]? := fun j => by
    rw [List.getElem?_append_right (by omega)]
    congr 1
    omega
  have get0 := get 0
  have get1 := get 1
  rw [Nat.add_zero] at get0
  refine ⟨fun e => ?_, fun e => ?_, fun e => ?_, fun e => ?_, fun e => ?_⟩
  · subst e
    simp only [su_fit, List.contains_iff_mem] at hf
    exact hf
  · subst e
    exact ⟨_, get0, rfl⟩
  · rcases e with rfl | rfl | rfl
    · exact ⟨_, _, get0, get1, rfl, rfl⟩
    · exact ⟨_, _, get0, get1, rfl, rfl⟩
    · exact ⟨_, _, get0, get1, rfl, rfl⟩
  · subst e
    exact ⟨_, _, get0, get1, rfl, rfl⟩
  · subst e
    have ha : a < (st_th S).length := by have := ht.2; omega
    have hx : (st_th S)[a]? = some (st_th S)[a] := List.getElem?_eq_getElem ha
    simp only [su_fit, Bool.and_eq_true, beq_iff_eq, List.all_eq_true, List.contains_iff_mem] at hf
    obtain ⟨h1, h2⟩ := hf
    unfold st_cn at h1
    unfold st_hy at h2
    rw [hx] at h1 h2
    exact ⟨_, hx, h1, h2⟩
theorem tc_okX {S : st_S} {D : fx_D} {k a g : Nat} {x y : Int32} (hR : mo_R S D) (hX : st_okX S) (hop : (st_op S).head? = some g) (ht : tc_there S x y k a) (hf : su_fit S k a g = true) (hbig : tc_big S k a g = false) (hfull : tc_full S k a g = false) : st_okX (tc_S S k a g) := by
  obtain ⟨tl, hop⟩ := List.head?_eq_some_iff.mp hop
  obtain ⟨⟨h1, h2, h3, h4, h5, h6⟩, hnd⟩ := un_ok.gi hX
  have h64 := hR.2.1.1
  obtain ⟨Xt, hXt⟩ := tl_all_pre (lv_rows S k a g) (st_T S)
  have hl : (st_T S).length ≤ (tl_all (st_T S) (lv_rows S k a g)).length := by rw [hXt, List.length_append]; omega
  have hf2 : tl_full (st_T S) (lv_rows S k a g) = false := by
    unfold tc_full at hfull
    rw [Bool.or_eq_false_iff] at hfull
    exact hfull.1
  have hn := tl_nums_lt (lv_rows S k a g) (st_T S) h64 hf2
  have hnb := tc_nbig hbig
  have hrl := lv_gk (g := g) ht
  have hkl : (tc_kids S k a g).length = gk k := tc_kids_len.trans hrl
  have hk9 := tc_k9 ht
  rw [hop] at h2 h3 h4 hnd
  rw [List.nodup_cons] at hnd
  obtain ⟨q, hq, hqn⟩ := h2 g (List.mem_cons_self ..)
  have hg := getE_lt hq
  have et : st_gt S g = q.1 := by unfold st_gt; rw [hq]; rfl
  have eh : st_gh S g = q.2.1 := by unfold st_gh; rw [hq]; rfl
  obtain ⟨b1, b2, b3⟩ := h1 g q hq
  have hcl := tc_cl (L := (st_gl S).set g (st_gt S g, st_gh S g, some (k, a, (st_gl S).length))) ht hf
  rw [List.length_set] at hcl
  show un_ok (tl_all (st_T S) (lv_rows S k a g)).length (st_th S) (g :: st_dn S) ((st_gl S).set g (st_gt S g, st_gh S g, some (k, a, (st_gl S).length)) ++ tc_kids S k a g) ((List.range (lv_rows S k a g).length).map (fun j => (st_gl S).length + j) ++ (st_op S).tail)
  rw [hrl, hop, List.tail_cons]
  have hsl : ((st_gl S).set g (st_gt S g, st_gh S g, some (k, a, (st_gl S).length))).length = (st_gl S).length := List.length_set ..
  have hgg : ((st_gl S).set g (st_gt S g, st_gh S g, some (k, a, (st_gl S).length)) ++ tc_kids S k a g)[g]? = some (st_gt S g, st_gh S g, some (k, a, (st_gl S).length)) := by
    rw [List.getElem?_append_left (by omega), List.getElem?_set_self hg]
  -- of every goal: it is an old one, the one taken, or a new one
  have cs : ∀ {i : Nat} {p : st_Gl}, ((st_gl S).set g (st_gt S g, st_gh S g, some (k, a, (st_gl S).length)) ++ tc_kids S k a g)[i]? = some p → (i = g ∧ p = (st_gt S g, st_gh S g, some (k, a, (st_gl S).length))) ∨ (i ≠ g ∧ (st_gl S)[i]? = some p) ∨ ((st_gl S).length ≤ i ∧ i < (st_gl S).length + gk k ∧ p ∈ tc_kids S k a g) := by
    intro i p hi
    by_cases hlt : i < (st_gl S).length
    · rw [List.getElem?_append_left (by omega)] at hi
      rcases set_get hlt hi with h | h
      · exact Or.inl h
      · exact Or.inr (Or.inl h)
    · have hgl := getE_lt hi
      rw [List.length_append, hsl, hkl] at hgl
      rw [List.getElem?_append_right (by omega)] at hi
      exact Or.inr (Or.inr ⟨by omega, hgl, List.mem_of_getElem? hi⟩)
  have hh : ∀ (i : Nat) q1, (st_gl S)[i]? = some q1 → ∃ q2, ((st_gl S).set g (st_gt S g, st_gh S g, some (k, a, (st_gl S).length)) ++ tc_kids S k a g)[i]? = some q2 ∧ q2.1 = q1.1 ∧ q2.2.1 = q1.2.1 := by
    intro i q1 hi
    by_cases e : i = g
    · subst e
      rw [hq] at hi
      cases hi
      exact ⟨_, hgg, et, eh⟩
    · exact ⟨q1, by rw [List.getElem?_append_left (by have := getE_lt hi; omega), List.getElem?_set_ne (fun z => e z.symm)]; exact hi, rfl, rfl⟩
  refine ⟨⟨fun i p hi => ?_, fun i hi => ?_, ?_, fun i p hi hn2 => ?_, fun i p k' x' n' hi hw => ?_, fun i i' p p' k' x' n' k'' x'' n'' hne hi hi' hw hw' => ?_⟩, ?_, ?_⟩
  · rcases cs hi with ⟨-, rfl⟩ | ⟨-, h⟩ | ⟨-, -, h⟩
    · refine ⟨by show st_gt S g < _; omega, fun t ht => ?_, by show (st_gh S g).length ≤ 6; rw [eh]; exact b3⟩
      have ht2 : t ∈ st_gh S g := ht
      rw [eh] at ht2
      have := b2 t ht2
      omega
    · obtain ⟨c1, c2, c3⟩ := h1 i p h
      exact ⟨by omega, fun t ht => by have := c2 t ht; omega, c3⟩
    · obtain ⟨-, c2, c3⟩ := tc_kids_in h
      refine ⟨hn _ c2, fun t ht => ?_, hnb p h⟩
      rcases c3 t ht with z | z
      · rw [eh] at z
        have := b2 t z
        omega
      · exact hn _ z
  · rcases List.mem_append.mp hi with hi | hi
    · obtain ⟨j, hj, rfl⟩ := List.mem_map.mp hi
      rw [List.mem_range] at hj
      have hx : (tc_kids S k a g)[j]? = some (tc_kids S k a g)[j] := List.getElem?_eq_getElem (by omega)
      refine ⟨_, ?_, (tc_kids_in (List.mem_of_getElem? hx)).1⟩
      rw [List.getElem?_append_right (by omega), hsl, show (st_gl S).length + j - (st_gl S).length = j by omega]
      exact hx
    · obtain ⟨p, c1, c2⟩ := h2 i (List.mem_cons_of_mem _ hi)
      have e : i ≠ g := fun e => hnd.1 (by rw [← e]; exact hi)
      refine ⟨p, ?_, c2⟩
      rw [List.getElem?_append_left (by have := getE_lt c1; omega), List.getElem?_set_ne (fun z => e z.symm)]
      exact c1
  · rw [List.length_append, List.length_append, List.length_map, List.length_range, hsl, hkl, List.length_cons]
    rw [List.length_cons] at h3
    omega
  · rcases cs hi with ⟨-, rfl⟩ | ⟨e, h⟩ | ⟨c1, c2, -⟩
    · cases hn2
    · rcases List.mem_cons.mp (h4 i p h hn2) with z | z
      · exact absurd z e
      · exact List.mem_append_right _ z
    · exact List.mem_append_left _ (List.mem_map.mpr ⟨i - (st_gl S).length, List.mem_range.mpr (by omega), by omega⟩)
  · rw [List.length_append, hsl, hkl]
    rcases cs hi with ⟨rfl, rfl⟩ | ⟨-, h⟩ | ⟨-, -, h⟩
    · cases hw
      exact ⟨hk9, by omega, by omega, hcl⟩
    · obtain ⟨c1, c2, c3, c4⟩ := h5 i p k' x' n' h hw
      exact ⟨c1, c2, by omega, cl_k_app c4 hh⟩
    · rw [(tc_kids_in h).1] at hw
      cases hw
  · rcases cs hi with ⟨rfl, rfl⟩ | ⟨e, h⟩ | ⟨-, -, h⟩
    · cases hw
      rcases cs hi' with ⟨e', -⟩ | ⟨-, h'⟩ | ⟨-, -, h'⟩
      · exact absurd e'.symm hne
      · obtain ⟨-, -, c3, -⟩ := h5 i' p' k'' x'' n'' h' hw'
        exact Or.inr c3
      · rw [(tc_kids_in h').1] at hw'
        cases hw'
    · rcases cs hi' with ⟨rfl, rfl⟩ | ⟨-, h'⟩ | ⟨-, -, h'⟩
      · cases hw'
        obtain ⟨-, -, c3, -⟩ := h5 i p k' x' n' h hw
        exact Or.inl c3
      · exact h6 i i' p p' k' x' n' k'' x'' n'' hne h h' hw hw'
      · rw [(tc_kids_in h').1] at hw'
        cases hw'
    · rw [(tc_kids_in h).1] at hw
      cases hw
  · rw [List.nodup_append]
    refine ⟨?_, hnd.2, fun u hu v hv e => ?_⟩
    · rw [List.nodup_iff_pairwise_ne] 
      exact List.Pairwise.map _ (fun a b h => by omega) (List.nodup_iff_pairwise_ne.mp List.nodup_range)
    · obtain ⟨j, hj, rfl⟩ := List.mem_map.mp hu
      subst e
      obtain ⟨p, c1, -⟩ := h2 _ (List.mem_cons_of_mem _ hv)
      have := getE_lt c1
      omega
  · refine ⟨_, _, hgg, rfl, ?_, ?_⟩
    · rw [List.length_append, List.length_map, List.length_range]
      show gk k ≤ _
      omega
    · show un_ok _ _ _ ((((st_gl S).set g (st_gt S g, st_gh S g, some (k, a, (st_gl S).length)) ++ tc_kids S k a g).take (((st_gl S).set g (st_gt S g, st_gh S g, some (k, a, (st_gl S).length)) ++ tc_kids S k a g).length - gk k)).set g (st_gt S g, st_gh S g, none)) (g :: ((List.range (gk k)).map (fun j => (st_gl S).length + j) ++ tl).drop (gk k))
      have e1 : ((st_gl S).set g (st_gt S g, st_gh S g, some (k, a, (st_gl S).length)) ++ tc_kids S k a g).take (((st_gl S).set g (st_gt S g, st_gh S g, some (k, a, (st_gl S).length)) ++ tc_kids S k a g).length - gk k) = (st_gl S).set g (st_gt S g, st_gh S g, some (k, a, (st_gl S).length)) := by
        rw [List.length_append, hkl, Nat.add_sub_cancel, List.take_left']
        rfl
      have e2 : ((st_gl S).set g (st_gt S g, st_gh S g, some (k, a, (st_gl S).length))).set g (st_gt S g, st_gh S g, none) = st_gl S := by
        rw [List.set_set]
        apply List.ext_getElem?
        intro i
        by_cases e : i = g
        · subst e
          rw [List.getElem?_set_self hg, hq, et, eh, ← hqn]
        · rw [List.getElem?_set_ne (fun z => e z.symm)]
      have e3 : ((List.range (gk k)).map (fun j => (st_gl S).length + j) ++ tl).drop (gk k) = tl := by
        rw [List.drop_left']
        rw [List.length_map, List.length_range]
      rw [e1, e2, e3, ← hop]
      have hm := un_mono (X := []) hl _ _ _ hX
      rw [List.append_nil] at hm
      exact hm
