/-! ===== closing keeps what holds of every state ===== -/
/-- theorems whose conclusions are of TRUTHS and that rest on elder ones -/
def th_ok (S : st_S) (th : List st_Th) : Prop := st_okF (st_th' S th) ∧ ∀ (p : Nat) (h : st_Th), th[p]? = some h → h.1 < (st_T S).length ∧ (tl_at (st_tm S h.1) 0).2 = 4
theorem th_ok_app {S : st_S} {th : List st_Th} {h : st_Th} (hk : th_ok S th) (h1 : h.1 < (st_T S).length) (h2 : (tl_at (st_tm S h.1) 0).2 = 4) (h3 : ∀ a, h.2.2.2.1 = some a → a < th.length) (h4 : ∀ a, h.2.2.2.2 = some a → a < th.length) : th_ok S (th ++ [h]) := by
  refine ⟨st_okF_app (S := st_th' S th) (S' := st_th' S (th ++ [h])) hk.1 rfl h3 h4, fun p q hq => ?_⟩
  by_cases hp : p < th.length
  · rw [List.getElem?_append_left hp] at hq
    exact hk.2 p q hq
  · have : p = th.length := by
      have := getE_lt hq
      simp at this
      omega
    subst this
    have : q = h := by simpa using hq.symm
    subst this
    exact ⟨h1, h2⟩
theorem cl_th {S : st_S} {dn : List Nat} (hg : gi (st_T S).length (st_th S) (st_gl S) [] dn) (h4 : st_ok4 S) : ∀ (f g : Nat) (th : List st_Th) (q : st_Gl), (st_gl S)[g]? = some q → (st_gl S).length ≤ g + f → (∃ X, th = st_th S ++ X) → thi (st_T S).length th → th_ok S th → th_ok S (cl_go (st_gl S) f g th).1 := by
  intro f
  induction f with
  | zero =>
    intro g th q hq hf
    have := getE_lt hq
    omega
  | succ f ih =>
    intro g th q hq hf hX hth hk
    obtain ⟨k, x, n, hw, hk9, hgn, hN⟩ := hg.tr.1 g q hq
    have hgl := getE_lt hq
    have g4 := h4.2 g hgl
    have egt : st_gt S g = q.1 := by unfold st_gt; rw [hq]; rfl
    rw [egt] at g4
    obtain ⟨t, hs, w⟩ := q
    simp only at hw g4
    subst hw
    by_cases h8 : k = 8
    · subst h8
      rw [cl_go_8 hq]
      exact hk
    · rcases gk_cases hk9 with ⟨k0, -⟩ | ⟨k1, -⟩ | ⟨k2, -⟩
      · rw [cl_go_0 hq h8 k0]
        exact th_ok_app hk g4.1 g4.2 (fun a e => by cases e) (fun a e => by cases e)
      · rw [cl_go_1 hq h8 k1]
        obtain ⟨qn, hqn⟩ : ∃ qn, (st_gl S)[n]? = some qn := ⟨_, List.getElem?_eq_getElem (by omega)⟩
        have i1 := ih n th qn hqn (by omega) hX hth hk
        obtain ⟨-, -, hh1, e1, -⟩ := cl_good hg f n th qn hqn (by omega) hX hth
        have l1 := getE_lt e1
        exact th_ok_app i1 g4.1 g4.2 (fun a e => by cases e; exact l1) (fun a e => by cases e)
      · rw [cl_go_2 hq h8 k2]
        obtain ⟨qn, hqn⟩ : ∃ qn, (st_gl S)[n]? = some qn := ⟨_, List.getElem?_eq_getElem (by omega)⟩
        obtain ⟨qm, hqm⟩ : ∃ qm, (st_gl S)[n + 1]? = some qm := ⟨_, List.getElem?_eq_getElem (by omega)⟩
        have i1 := ih n th qn hqn (by omega) hX hth hk
        obtain ⟨⟨X1, x1⟩, t1, hh1, e1, -⟩ := cl_good hg f n th qn hqn (by omega) hX hth
        have l1 := getE_lt e1
        have hX2 : ∃ X, (cl_go (st_gl S) f n th).1 = st_th S ++ X := by
          obtain ⟨X, hX'⟩ := hX
          exact ⟨X ++ X1, by rw [x1, hX', List.append_assoc]⟩
        have i2 := ih (n + 1) _ qm hqm (by omega) hX2 t1 i1
        obtain ⟨⟨X2, x2⟩, t2, hh2, e2, -⟩ := cl_good hg f (n + 1) _ qm hqm (by omega) hX2 t1
        have l2 := getE_lt e2
        have len2 : (cl_go (st_gl S) f n th).1.length ≤ (cl_go (st_gl S) f (n + 1) (cl_go (st_gl S) f n th).1).1.length := by rw [x2, List.length_append]; omega
        exact th_ok_app i2 g4.1 g4.2 (fun a e => by cases e; exact Nat.lt_of_lt_of_le l1 len2) (fun a e => by cases e; exact l2)
theorem inv_close {S S' : st_S} {D : fx_D} {ans : Int32} (h : st_inv S) (hM : mo_R S D) (hs : sp_close S ans S') : st_inv S' := by
  rcases hs with ⟨-, -, rfl⟩ | ⟨-, -, -, -, rfl⟩ | ⟨hne, hop, hle, -, rfl⟩
  · exact h
  · exact h
  · obtain ⟨h1, h2, h3, h4, h5, h6, h7⟩ := h
    have hgi := (un_ok.gi h4).1
    rw [hop] at hgi
    have l1 : 0 < (st_gl S).length := List.length_pos_iff.mpr hne
    have g30 := hM.2.2.2.2.2.1.1
    have hk0 : th_ok S (st_th S) := ⟨h5, fun p q hq => by
      have hp := getE_lt hq
      have := h2.1 p hp
      have ec : st_cn S p = q.1 := by unfold st_cn; rw [hq]; rfl
      rw [ec] at this
      exact this⟩
    have hk := cl_th hgi h2 30 0 (st_th S) _ (List.getElem?_eq_getElem l1) (by omega) ⟨[], by simp⟩ h3 hk0
    obtain ⟨-, hth, -⟩ := cl_good hgi 30 0 (st_th S) _ (List.getElem?_eq_getElem l1) (by omega) ⟨[], by simp⟩ h3
    refine ⟨h1, ⟨fun p hp => ?_, fun g hg => ?_⟩, hth, un_nil, hk.1, h6, fun g q hq => ?_⟩
    · have e := List.getElem?_eq_getElem (l := (cl_go (st_gl S) 30 0 (st_th S)).1) (i := p) hp
      have ec : st_cn (S.1, S.2.1, S.2.2.1, (cl_go (st_gl S) 30 0 (st_th S)).1, [], [], []) p = ((cl_go (st_gl S) 30 0 (st_th S)).1[p]).1 := by
        unfold st_cn
        show (((cl_go (st_gl S) 30 0 (st_th S)).1[p]?).map _).getD 0 = _
        rw [e]
        rfl
      rw [ec]
      exact hk.2 p _ e
    · have : g < 0 := hg
      omega
    · have : ([] : List st_Gl)[g]? = some q := hq
      simp at this
/-- the state at the start -/
def st_0 : st_S := (fun _ => 5, [], [], [], [], [], [])
theorem inv_0 : st_inv st_0 := by
  refine ⟨fun t ht => ?_, ⟨fun p hp => ?_, fun g hg => ?_⟩, fun p h hp => ?_, un_nil, ⟨fun p a e => ?_, fun p a e => ?_⟩, List.nodup_nil, fun g q hq => ?_⟩
  · have : t < 0 := ht
    omega
  · have : p < 0 := hp
    omega
  · have : g < 0 := hg
    omega
  · have : ([] : List st_Th)[p]? = some h := hp
    simp at this
  · have : (([] : List st_Th)[p]?).bind (fun h => h.2.2.2.1) = some a := e
    simp at this
  · have : (([] : List st_Th)[p]?).bind (fun h => h.2.2.2.2) = some a := e
    simp at this
  · have : ([] : List st_Gl)[g]? = some q := hq
    simp at this
