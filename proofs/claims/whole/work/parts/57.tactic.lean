/-! ===== tactic: what it does ===== -/
/-- the numbers under which terms are kept one behind another, and the terms then -/
def tl_nums (T : List tl_T) : List tl_T → List Nat
  | [] => []
  | l :: ls => tl_kp T l :: tl_nums (tl_kt T l) ls
def tl_all (T : List tl_T) : List tl_T → List tl_T
  | [] => T
  | l :: ls => tl_all (tl_kt T l) ls
/-- the goals that are left -/
def tc_kids (S : st_S) (k x g : Nat) : List st_Gl := match k, tl_nums (st_T S) (lv_rows S k x g) with
  | 7, [m, n] => [(n, ls_h (st_gh S g) m, none), (m, ls_h (st_gh S g) n, none)]
  | _, ns => ns.map (fun n => (n, st_gh S g, none))
def tc_big (S : st_S) (k x g : Nat) : Bool := (lv_rows S k x g).any (fun l => 24 < l.length) || (tc_kids S k x g).any (fun q => 6 < q.2.1.length)
def tc_full (S : st_S) (k x g : Nat) : Bool := tl_full (st_T S) (lv_rows S k x g) || 30 < (st_gl S).length + (lv_rows S k x g).length
def tc_S (S : st_S) (k x g : Nat) : st_S := (S.1, tl_all (st_T S) (lv_rows S k x g), S.2.2.1, S.2.2.2.1, (st_gl S).set g (st_gt S g, st_gh S g, some (k, x, (st_gl S).length)) ++ tc_kids S k x g, (List.range (lv_rows S k x g).length).map (fun j => (st_gl S).length + j) ++ (st_op S).tail, g :: st_dn S)
def tc_do (S : st_S) (k x g : Nat) : Int32 × st_S := if su_fit S k x g = false then (-4, S) else if tc_big S k x g = true then (-5, S) else if tc_full S k x g = true then (-6, S) else (nI (st_op (tc_S S k x g)).length, tc_S S k x g)
def sp_tactic (S : st_S) (x y ans : Int32) (S' : st_S) : Prop := (¬ (∃ g k a, (st_op S).head? = some g ∧ tc_there S x y k a) ∧ ans = -1 ∧ S' = S) ∨ ∃ g k a, (st_op S).head? = some g ∧ tc_there S x y k a ∧ (ans, S') = tc_do S k a g
/-- open goals and those that were taken are all -/
def st_okN (S : st_S) : Prop := (st_op S).length + (st_dn S).length = (st_gl S).length
theorem tl_kp_some {T X : List tl_T} {l : tl_T} {t : Nat} (h : T.idxOf? l = some t) : tl_kp (T ++ X) l = t := by
  have h2 : (T ++ X).idxOf? l = some t := by
    rw [List.idxOf?_eq_some_iff] at h ⊢
    obtain ⟨h1, h2, h3⟩ := h
    refine ⟨by rw [List.length_append]; omega, by rw [List.getElem_append_left h1]; exact h2, fun j hj => ?_⟩
    rw [List.getElem_append_left (by omega)]
    exact h3 j hj
  unfold tl_kp
  rw [h2]
theorem tl_kp_none {T X : List tl_T} {l : tl_T} (h : T.idxOf? l = none) : T.length ≤ tl_kp (T ++ X) l := by
  unfold tl_kp
  cases hx : (T ++ X).idxOf? l with
  | none => simp
  | some t =>
    obtain ⟨h1, h2, h3⟩ := List.idxOf?_eq_some_iff.mp hx
    rcases Nat.lt_or_ge t T.length with q | q
    · rw [List.getElem_append_left q] at h2
      rw [List.idxOf?_eq_none_iff] at h
      exact absurd (h2 ▸ List.getElem_mem q) h
    · exact q
theorem ls_h_big {hs : List Nat} {m : Nat} (h : hs.length ≤ 6) : 6 < (ls_h hs m).length ↔ hs.length = 6 ∧ m ∉ hs := by
  unfold ls_h
  by_cases e : m ∈ hs
  · rw [if_pos e]
    constructor
    · intro z; omega
    · intro z; exact absurd e z.2
  · rw [if_neg e, List.length_append, List.length_singleton]
    constructor
    · intro z; exact ⟨by omega, e⟩
    · intro z; omega
/-- whether a term that is kept behind X is among the numbers hs -/
theorem tl_kp_mem {T X : List tl_T} {l : tl_T} {hs : List Nat} (hh : ∀ t ∈ hs, t < T.length) : tl_kp (T ++ X) l ∈ hs ↔ ∃ t, T.idxOf? l = some t ∧ t ∈ hs := by
  cases hx : T.idxOf? l with
  | none =>
    have h := tl_kp_none (X := X) hx
    constructor
    · intro z
      have := hh _ z
      omega
    · rintro ⟨t, e, -⟩
      cases e
  | some t =>
    rw [tl_kp_some hx]
    simp
/-- every row that a tactic leaves is a term -/
theorem lv_cp {S : st_S} {D : fx_D} {k a g : Nat} {x y : Int32} (hR : mo_R S D) (hG : st_okG S) (hg : g < (st_gl S).length) (ht : tc_there S x y k a) (hf : su_fit S k a g = true) : ∀ l ∈ lv_rows S k a g, tl_cp 1 l := by
  have A := (mo_tm hR (mo_gg hR hG hg).2.1).2.2.1
  obtain ⟨-, h⟩ := ht
  rcases h with ⟨rfl | rfl | rfl | rfl | rfl, rfl⟩ | ⟨rfl | rfl, -, ha⟩ | ⟨rfl, -, ha⟩ | ⟨rfl, -, ha⟩
  · intro l hl; cases hl
  · intro l hl; cases hl
  · simp only [su_fit, Bool.and_eq_true, beq_iff_eq, and_assoc] at hf
    obtain ⟨hE, h1, h2, -⟩ := hf
    obtain ⟨l1, l2, -⟩ := A.two (tl_E2 hE)
    obtain ⟨p1, p2, -, -, -⟩ := tl_two_at (tl_ok_drop _ 1 1 A.1 A.2.1 l1) l1 (show tl_ar (tl_at (st_tm S (st_gt S g)) 1).1 = 2 by rw [show (tl_at (st_tm S (st_gt S g)) 1).1 = 8 from h1]; rfl)
    obtain ⟨q1, q2, -, -, -⟩ := tl_two_at (tl_ok_drop _ 1 _ A.1 A.2.1 l2) l2 (show tl_ar (tl_at (st_tm S (st_gt S g)) (tl_end (st_tm S (st_gt S g)) 1)).1 = 2 by rw [show (tl_at (st_tm S (st_gt S g)) (tl_end (st_tm S (st_gt S g)) 1)).1 = 8 from h2]; rfl)
    exact fm_cons (cp_bin rfl (tl_part_cp A p1) (tl_part_cp A q1)) (fm_cons (cp_bin rfl (tl_part_cp A p2) (tl_part_cp A q2)) (fun l hl => by cases hl))
  · intro l hl; cases hl
  · simp only [su_fit, Bool.and_eq_true, beq_iff_eq, and_assoc] at hf
    obtain ⟨l1, l2, -⟩ := A.two (tl_E2 hf.1)
    exact fm_cons (tl_part_cp A l2) (fm_cons (tl_part_cp A l1) (fun l hl => by cases hl))
  · simp only [su_fit, Bool.and_eq_true, beq_iff_eq, and_assoc] at hf
    obtain ⟨l1, l2, -⟩ := A.two (tl_E2 hf.1)
    have B := (mo_tm hR ha).2.2.1
    exact fm_cons (cp_bin rfl (tl_part_cp A l1) B.cp) (fm_cons (cp_bin rfl B.cp (tl_part_cp A l2)) (fun l hl => by cases hl))
  · have B := (mo_tm hR ha).2.2.1
    exact fm_cons (cp_bin rfl B.cp A.cp) (fm_cons B.cp (fun l hl => by cases hl))
  · simp only [su_fit, Bool.and_eq_true, beq_iff_eq, and_assoc] at hf
    obtain ⟨hE, h1, h2, -⟩ := hf
    obtain ⟨l1, l2, -⟩ := A.two (tl_E2 hE)
    exact fm_cons (cp_bin rfl (cp_fill A l1 h1 (fun b e => by cases e) (fun v e => by cases e; exact ha)) (cp_fill A l2 h2 (fun b e => by cases e) (fun v e => by cases e; exact ha))) (fun l hl => by cases hl)
  · intro l hl; cases hl
/-! ===== the model: tactic, what it writes ===== -/
def tk_D (D : fx_D) (g k N many d : Nat) (y : Int32) : fx_D := fx_ua (fx_uf (fx_ua (fx_ua (fx_ua (fx_ua D 16 g (nI k)) 17 g y) 18 g (nI N)) 19 g (nI many)) 0 29 (nI (d + 1))) 21 d (nI g)
theorem tk_fg {D : fx_D} {g k N many d : Nat} {y : Int32} : mo_fg D (tk_D D g k N many d y) := (((((mo_fg.ua D (by omega) (by omega)).tr (mo_fg.ua _ (by omega) (by omega))).tr (mo_fg.ua _ (by omega) (by omega))).tr (mo_fg.ua _ (by omega) (by omega))).tr (mo_fg.uf _ (by omega) (by omega))).tr (mo_fg.ua _ (by omega) (by omega))
theorem tk_gl {D : fx_D} {L : List st_Gl} {g k a N many d : Nat} {q : st_Gl} {y : Int32} (hL : mo_gl D L) (hq : L[g]? = some q) (hy : k = 8 → y = nI a) (hm : many = [0, 0, 2, 2, 1, 0, 2, 2, 0].getD k 0) : mo_gl (tk_D D g k N many d y) (L.set g (q.1, q.2.1, some (k, a, N))) := by
  refine ⟨by rw [List.length_set]; exact hL.1, by rw [List.length_set]; simpa [tk_D, fx_ua, fx_uf, upd] using hL.2.1, fun i p hi => ?_⟩
  by_cases e : i = g
  · subst e
    rw [List.getElem?_set_self (getE_lt hq)] at hi
    cases hi
    obtain ⟨a1, a2, a3, a4, -⟩ := hL.2.2 i q hq
    refine ⟨by simpa [tk_D, fx_ua, fx_uf] using a1, by simpa [tk_D, fx_ua, fx_uf] using a2, a3, fun k t hk => by simpa [tk_D, fx_ua, fx_uf] using a4 k t hk, ?_⟩
    refine ⟨by simp [tk_D, fx_ua, fx_uf, upd], fun e => ?_, by simp [tk_D, fx_ua, fx_uf, upd], ?_⟩
    · rw [← hy e]
      simp [tk_D, fx_ua, fx_uf, upd]
    · show (tk_D D i k N many d y).1 19 i = nI ([0, 0, 2, 2, 1, 0, 2, 2, 0].getD k 0)
      rw [← hm]
      simp [tk_D, fx_ua, fx_uf, upd]
  · rw [List.getElem?_set_ne (fun z => e z.symm)] at hi
    obtain ⟨a1, a2, a3, a4, a5⟩ := hL.2.2 i p hi
    have s16 : (tk_D D g k N many d y).1 16 i = D.1 16 i := by simp [tk_D, fx_ua, fx_uf, upd, e]
    have s17 : (tk_D D g k N many d y).1 17 i = D.1 17 i := by simp [tk_D, fx_ua, fx_uf, upd, e]
    have s18 : (tk_D D g k N many d y).1 18 i = D.1 18 i := by simp [tk_D, fx_ua, fx_uf, upd, e]
    have s19 : (tk_D D g k N many d y).1 19 i = D.1 19 i := by simp [tk_D, fx_ua, fx_uf, upd, e]
    refine ⟨by simpa [tk_D, fx_ua, fx_uf] using a1, by simpa [tk_D, fx_ua, fx_uf] using a2, a3, fun k t hk => by simpa [tk_D, fx_ua, fx_uf] using a4 k t hk, ?_⟩
    rw [s16, s17, s18, s19]
    exact a5
theorem tk_dn {D : fx_D} {L : List Nat} {g k N many : Nat} {y : Int32} (hL : mo_dn D L) (h30 : L.length < 30) : mo_dn (tk_D D g k N many L.length y) (g :: L) := by
  refine ⟨by simp; omega, by simp [tk_D, fx_ua, fx_uf, upd], fun i p hi => ?_⟩
  rw [List.reverse_cons] at hi
  by_cases hlt : i < L.reverse.length
  · rw [List.getElem?_append_left hlt] at hi
    rw [List.length_reverse] at hlt
    have := hL.2.2 i p hi
    simp only [tk_D, fx_ua, fx_uf, upd, if_true, show ¬ i = L.length by omega, if_false, show ¬ (21 : Nat) = 19 by decide, show ¬ (21 : Nat) = 18 by decide, show ¬ (21 : Nat) = 17 by decide, show ¬ (21 : Nat) = 16 by decide]
    exact this
  · have hgl := getE_lt hi
    rw [List.length_append, List.length_singleton] at hgl
    have e : i = L.reverse.length := by omega
    subst e
    rw [List.getElem?_append_right (Nat.le_refl _), Nat.sub_self] at hi
    cases hi
    rw [List.length_reverse]
    simp [tk_D, fx_ua, upd]
theorem mo_gl_f {D D' : fx_D} {L : List st_Gl} (h : mo_gl D L) (f1 : ∀ x, 13 ≤ x → x ≤ 19 → D'.1 x = D.1 x) (f2 : D'.2.1 0 27 = D.2.1 0 27) : mo_gl D' L := by
  refine ⟨h.1, by rw [f2]; exact h.2.1, fun g q hg => ?_⟩
  rw [f1 13 (by omega) (by omega), f1 14 (by omega) (by omega), f1 15 (by omega) (by omega), f1 16 (by omega) (by omega), f1 17 (by omega) (by omega), f1 18 (by omega) (by omega), f1 19 (by omega) (by omega)]
  exact h.2.2 g q hg
theorem mo_dn_f {D D' : fx_D} {L : List Nat} (h : mo_dn D L) (f1 : D'.1 21 = D.1 21) (f2 : D'.2.1 0 29 = D.2.1 0 29) : mo_dn D' L := ⟨h.1, by rw [f2]; exact h.2.1, fun k g hg => by rw [f1]; exact h.2.2 k g hg⟩
/-- D' differs from D in the open goals -/
def mo_f20 (D D' : fx_D) : Prop := (∀ x, x ≠ 20 → D'.1 x = D.1 x) ∧ D'.2 = D.2
theorem mo_f20.rf (D : fx_D) : mo_f20 D D := ⟨fun _ _ => rfl, rfl⟩
theorem mo_f20.tr {D D' D2 : fx_D} (h : mo_f20 D D') (h2 : mo_f20 D' D2) : mo_f20 D D2 := ⟨fun x a => (h2.1 x a).trans (h.1 x a), h2.2.trans h.2⟩
theorem mo_f20.ua (D : fx_D) {i : Nat} {v : Int32} : mo_f20 D (fx_ua D 20 i v) := ⟨fun x hx => by simp [fx_ua, hx], rfl⟩
theorem mo_f20.fg {D D' : fx_D} (h : mo_f20 D D') : mo_fg D D' := ⟨fun x hx => h.1 x (by omega), fun x j _ => by rw [h.2], by rw [h.2]⟩
theorem ua_at {D : fx_D} {x i j : Nat} {v : Int32} : (fx_ua D x i v).1 x j = if j = i then v else D.1 x j := by
  simp only [fx_ua, if_true, upd]
