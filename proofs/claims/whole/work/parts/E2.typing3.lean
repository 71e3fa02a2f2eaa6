/-! ===== what read makes is of its type ===== -/
/-- the LAMs before j that are around k, the nearest first -/
def en (l : tl_T) (k : Nat) : Nat → List Nat
  | 0 => []
  | j + 1 => if (tl_at l j).1 = 10 ∧ k < tl_end l j then j :: en l k j else en l k j
theorem en_bdr {l : tl_T} {k : Nat} : ∀ (j c : Nat), c < (en l k j).length → (en l k j)[c]? = some (bdr l k j c)
  | 0, c, h => by simp [en] at h
  | j + 1, c, h => by
    rw [bdr]
    unfold en at h ⊢
    by_cases q : (tl_at l j).1 = 10 ∧ k < tl_end l j
    · rw [if_pos q] at h ⊢
      rw [if_pos q]
      cases c with
      | zero => simp
      | succ c =>
        simp only [List.length_cons] at h
        rw [if_neg (by omega), List.getElem?_cons_succ, show c + 1 - 1 = c by omega]
        exact en_bdr j c (by omega)
    · rw [if_neg q] at h ⊢
      rw [if_neg q]
      exact en_bdr j c h
theorem sp_en {dr : List Nat} {l : tl_T} {k : Nat} (hl : sp_lam dr l) : ∀ (j b : Nat) (p : Nat × Nat), j ≤ dr.length → sp_b dr k j b = some p → p.2 - b < (en l k j).length := by
  intro j
  induction j with
  | zero => intro b p _ h; cases h
  | succ j ih =>
    intro b p hj h
    obtain ⟨a1, a2, a3⟩ := hl j (by omega)
    have hb := (sp_bdr hl _ _ _ hj h).1
    rw [sp_b] at h
    unfold en
    rw [a3]
    split at h
    · next c =>
      cases h
      rw [if_pos ⟨(a1.mpr (by omega)).2, c.2⟩]
      simp
    · next c =>
      have q := ih _ p (by omega) h
      have qb := (sp_bdr hl _ _ _ (by omega) h).1
      by_cases d : 9 < dr.getD j 0 ∧ k < tl_end (dk_l dr) j
      · rw [if_pos d] at q qb
        rw [if_pos ⟨(a1.mpr d.1).2, d.2⟩]
        simp only [List.length_cons]
        omega
      · rw [if_neg d] at q
        rw [if_neg (fun z => d ⟨a1.mp ⟨a2.mpr z.1, z.1⟩, z.2⟩)]
        exact q
theorem en_congr {l : tl_T} {k k' : Nat} : ∀ (m : Nat), (∀ j, j < m → (tl_at l j).1 = 10 → (k < tl_end l j ↔ k' < tl_end l j)) → en l k m = en l k' m
  | 0, _ => rfl
  | m + 1, h => by
    unfold en
    rw [en_congr m (fun j hj => h j (by omega))]
    by_cases q : (tl_at l m).1 = 10
    · have := h m (by omega) q
      by_cases z : k < tl_end l m
      · rw [if_pos ⟨q, z⟩, if_pos ⟨q, this.mp z⟩]
      · rw [if_neg (fun w => z w.2), if_neg (fun w => z (this.mpr w.2))]
    · rw [if_neg (fun w => q w.1), if_neg (fun w => q w.1)]
theorem en_skip {l : tl_T} {k s : Nat} : ∀ (n : Nat), (∀ j, s ≤ j → j < s + n → ¬ ((tl_at l j).1 = 10 ∧ k < tl_end l j)) → en l k (s + n) = en l k s
  | 0, _ => rfl
  | n + 1, h => by
    rw [show s + (n + 1) = (s + n) + 1 by omega, en, if_neg (h (s + n) (by omega) (by omega))]
    exact en_skip n (fun j h1 h2 => h j h1 (by omega))
theorem nest {l : tl_T} (h : tl_wf l) {j s : Nat} (hj : j < l.length) (h1 : j ≤ s) (h2 : s < tl_end l j) : tl_end l s ≤ tl_end l j := by
  have hk := tl_ok_drop l 1 j h.1 h.2.1 hj
  have hd : l.drop j = (l.drop j).take (tl_pl 1 (l.drop j)) ++ (l.drop j).drop (tl_pl 1 (l.drop j)) := (List.take_append_drop ..).symm
  have hc := tl_cp_take _ 1 hk
  have e := (at_part hd hc).2
  have := at_end (j := s - j) hd hc (by omega)
  rw [show j + (s - j) = s by omega] at this
  omega
def slc (r : tl_T) (a b : Nat) : tl_T := (r.drop a).take (b - a)
theorem slc_cons {r : tl_T} {s e : Nat} {x : Nat × Nat} (hx : r[s]? = some x) (he : s < e) : slc r s e = x :: slc r (s + 1) e := by
  unfold slc
  rw [tl_drop_get hx, show e - s = (e - (s + 1)) + 1 by omega, List.take_succ_cons]
theorem slc_app {r : tl_T} {a b c : Nat} (h1 : a ≤ b) (h2 : b ≤ c) : slc r a c = slc r a b ++ slc r b c := by
  unfold slc
  rw [show c - a = (b - a) + (c - b) by omega, List.take_add, List.drop_drop, show a + (b - a) = b by omega]
theorem rd_wt {dr : List Nat} {nt : Nat → Nat} {σ : Nat → ft} (hcp : tl_cp 1 (dk_l dr)) (h24 : dr.length ≤ 24) (h18 : ∀ (k x : Nat), dr[k]? = some x → x < 18) (hn : ∀ v, v < 8 → ty_ok (nt v)) (hσ : lst (sp_l dr) nt (sp_l dr).length σ) (hb : rd_big σ (sp_l dr).length = false) : WT nt [] (rd_row (sp_l dr) σ) (tt_n (σ 0)) := by
  have hwf := sp_l_wf hcp h24
  have hlen : (sp_l dr).length = dr.length := sp_p_len _ _
  have hlam := sp_l_lam h18 h24
  have ok : ∀ k, k < dr.length → tt_ok (σ k) ∧ tt_len (σ k) ≤ 24 := fun k hk => by
    refine ⟨hσ.2.1 k (by omega), ?_⟩
    by_cases z : tt_len (σ k) ≤ 24
    · exact z
    · have : rd_big σ (sp_l dr).length = true := by
        unfold rd_big
        exact List.any_eq_true.mpr ⟨k, List.mem_range.mpr (by omega), by simp; omega⟩
      rw [hb] at this
      cases this
  have row : ∀ s, s < dr.length → (rd_row (sp_l dr) σ)[s]? = some ((tl_at (sp_l dr) s).1, tt_n (σ s)) := fun s hs => by
    have g := tl_at_some (l := sp_l dr) (i := s) (by omega)
    have := rd_p_get (σ := σ) (m := (sp_l dr).length) g
    rw [if_pos (by omega)] at this
    exact this
  have key : ∀ (n s : Nat), s < dr.length → tl_end (sp_l dr) s - s ≤ n → WT nt ((en (sp_l dr) s s).map (fun j => tt_n (σ (24 + j)))) (slc (rd_row (sp_l dr) σ) s (tl_end (sp_l dr) s)) (tt_n (σ s)) := by
    intro n
    induction n with
    | zero =>
      intro s hs hn0
      have := tl_end_lt (l := sp_l dr) (i := s) (by omega)
      omega
    | succ n ih =>
      intro s hs hn0
      have hsl : s < (sp_l dr).length := by omega
      have hkd := tl_ok_drop (sp_l dr) 1 s hwf.1 hwf.2.1 hsl
      have lt1 := tl_end_lt hsl
      obtain ⟨q1, q2, q3, q4, q5⟩ := hσ.1 s hsl
      obtain ⟨ok1, ok2⟩ := ok s hs
      have tyo := (ty_of_tree ok1 ok2).1
      obtain ⟨ar0, ar1, -⟩ := tl_end_ar hkd hsl
      rw [slc_cons (row s hs) lt1]
      rcases (show (tl_at (sp_l dr) s).1 < 8 ∨ (tl_at (sp_l dr) s).1 = 8 ∨ (tl_at (sp_l dr) s).1 = 9 ∨ (tl_at (sp_l dr) s).1 = 10 ∨ 10 < (tl_at (sp_l dr) s).1 by omega) with hx | hx | hx | hx | hx
      · have e := ar0 (by unfold tl_ar; rw [if_neg (by omega), if_neg (by omega)])
        have et : tt_n (σ s) = nt (tl_at (sp_l dr) s).1 := by rw [q1 hx]; exact (ty_tree_n (hn _ hx)).2.1
        rw [e, et]
        have z : slc (rd_row (sp_l dr) σ) (s + 1) (s + 1) = [] := by unfold slc; simp
        rw [z]
        exact WT.name hx (hn _ hx)
      · obtain ⟨t1, t2, t3, -, -⟩ := tl_two_at hkd hsl (by rw [hx]; rfl)
        have lt2 := tl_end_lt t1
        have lt3 := tl_end_lt t2
        have eq := q2 hx
        obtain ⟨o1, o2⟩ := ok (s + 1) (by omega)
        rw [eq] at o1
        obtain ⟨b1, b2, b3⟩ := ty_app o1.1 o1.2
        have i1 := ih (s + 1) (by omega) (by omega)
        have i2 := ih (tl_end (sp_l dr) (s + 1)) (by omega) (by omega)
        have c1 : en (sp_l dr) (s + 1) (s + 1) = en (sp_l dr) s s := by
          rw [en, if_neg (fun w => by omega)]
          exact en_congr s (fun j hj _ => ⟨fun z => by omega, fun z => by have := nest hwf (by omega) (show j ≤ s by omega) z; omega⟩)
        have c2 : en (sp_l dr) (tl_end (sp_l dr) (s + 1)) (tl_end (sp_l dr) (s + 1)) = en (sp_l dr) s s := by
          have sk := en_skip (l := sp_l dr) (k := tl_end (sp_l dr) (s + 1)) (s := s) (tl_end (sp_l dr) (s + 1) - s) (fun j h1 h2 w => by
            by_cases ej : j = s
            · rw [ej] at w
              omega
            · have := nest hwf t1 (show s + 1 ≤ j by omega) (by omega)
              omega)
          rw [show s + (tl_end (sp_l dr) (s + 1) - s) = tl_end (sp_l dr) (s + 1) by omega] at sk
          rw [sk]
          exact en_congr s (fun j hj _ => ⟨fun z => by omega, fun z => by have := nest hwf (by omega) (show j ≤ s by omega) z; omega⟩)
        rw [c1] at i1
        rw [c2, t3] at i2
        rw [eq] at i1
        rw [slc_app (b := tl_end (sp_l dr) (s + 1)) (by omega) (by omega), hx]
        exact WT.app tyo b1 b3.symm i1 (by rw [b2]; exact i2)
      · obtain ⟨t1, t2, t3, -, -⟩ := tl_two_at hkd hsl (by rw [hx]; rfl)
        have lt2 := tl_end_lt t1
        have lt3 := tl_end_lt t2
        obtain ⟨eq, eq2⟩ := q3 hx
        have i1 := ih (s + 1) (by omega) (by omega)
        have i2 := ih (tl_end (sp_l dr) (s + 1)) (by omega) (by omega)
        have c1 : en (sp_l dr) (s + 1) (s + 1) = en (sp_l dr) s s := by
          rw [en, if_neg (fun w => by omega)]
          exact en_congr s (fun j hj _ => ⟨fun z => by omega, fun z => by have := nest hwf (by omega) (show j ≤ s by omega) z; omega⟩)
        have c2 : en (sp_l dr) (tl_end (sp_l dr) (s + 1)) (tl_end (sp_l dr) (s + 1)) = en (sp_l dr) s s := by
          have sk := en_skip (l := sp_l dr) (k := tl_end (sp_l dr) (s + 1)) (s := s) (tl_end (sp_l dr) (s + 1) - s) (fun j h1 h2 w => by
            by_cases ej : j = s
            · rw [ej] at w
              omega
            · have := nest hwf t1 (show s + 1 ≤ j by omega) (by omega)
              omega)
          rw [show s + (tl_end (sp_l dr) (s + 1) - s) = tl_end (sp_l dr) (s + 1) by omega] at sk
          rw [sk]
          exact en_congr s (fun j hj _ => ⟨fun z => by omega, fun z => by have := nest hwf (by omega) (show j ≤ s by omega) z; omega⟩)
        rw [c1] at i1
        rw [c2, t3] at i2
        rw [eq] at i1
        rw [slc_app (b := tl_end (sp_l dr) (s + 1)) (by omega) (by omega), hx, eq2]
        exact WT.eq i1 i2
      · obtain ⟨t1, t2⟩ := ar1 (by rw [hx]; rfl)
        have lt2 := tl_end_lt t1
        have eq := q4 hx
        rw [eq] at ok1
        obtain ⟨b1, b2, b3⟩ := ty_app ok1.1 ok1.2
        rw [← eq] at b1 b2 b3
        have i1 := ih (s + 1) (by omega) (by omega)
        have c1 : en (sp_l dr) (s + 1) (s + 1) = s :: en (sp_l dr) s s := by
          rw [en, if_pos ⟨hx, by omega⟩]
          congr 1
          exact en_congr s (fun j hj _ => ⟨fun z => by omega, fun z => by have := nest hwf (by omega) (show j ≤ s by omega) z; omega⟩)
        rw [c1, List.map_cons, ← t2, ← b2, ← b3] at i1
        rw [hx]
        exact WT.lam tyo b1 i1
      · have e := ar0 (by unfold tl_ar; rw [if_neg (by omega), if_neg (by omega)])
        obtain ⟨es, -⟩ := sp_l_sym hs
        have t18 := h18 s _ (List.getElem?_eq_getElem hs)
        have h7 : ¬ 7 < dr[s] := fun z => by
          rw [es] at hx
          unfold sp_s at hx
          rw [if_pos z] at hx
          have := (dk_s_lt t18).1
          omega
        obtain ⟨p, hp, hxp⟩ : ∃ p, sp_b dr s s 0 = some p ∧ (tl_at (sp_l dr) s).1 = 11 + p.2 := by
          rw [es] at hx ⊢
          unfold sp_s at hx ⊢
          rw [if_neg h7] at hx ⊢
          cases hb2 : sp_b dr s s 0 with
          | none => rw [hb2] at hx; simp only at hx; omega
          | some p => exact ⟨p, rfl, rfl⟩
        have hl2 := sp_en hlam s 0 p (by omega) hp
        rw [Nat.sub_zero] at hl2
        have hv := q5 hx
        unfold bd at hv
        rw [hxp, show 11 + p.2 - 11 = p.2 by omega] at hv
        have hz : slc (rd_row (sp_l dr) σ) (s + 1) (s + 1) = [] := by unfold slc; simp
        rw [e, hz, hxp]
        refine WT.var tyo ?_
        rw [List.getElem?_map, en_bdr s p.2 hl2, hv]
        rfl
  have hpos : 0 < dr.length := by have := hwf.pos; omega
  have := key _ 0 hpos (Nat.le_refl _)
  have e0 : tl_end (sp_l dr) 0 = dr.length := by
    unfold tl_end
    rw [List.drop_zero, hwf.2.1]
    omega
  rw [e0] at this
  have e1 : slc (rd_row (sp_l dr) σ) 0 dr.length = rd_row (sp_l dr) σ := by
    unfold slc
    rw [List.drop_zero, Nat.sub_zero, List.take_of_length_le]
    rw [show (rd_row (sp_l dr) σ).length = (sp_l dr).length from rd_p_len _ _ _]
    omega
  rw [e1] at this
  exact this
