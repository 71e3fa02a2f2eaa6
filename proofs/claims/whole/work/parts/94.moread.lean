/-! ===== read ===== -/
/-- the least trees that the first n symbols ask for -/
def lst (l : tl_T) (nt : Nat → Nat) (n : Nat) (σ : Nat → ft) : Prop := eqs l nt n σ ∧ (∀ k, k < n → tt_ok (σ k)) ∧ ∀ σ', eqs l nt n σ' → ∀ k, k < n → tt_le (σ k) (σ' k)
theorem lst_one {l : tl_T} {nt : Nat → Nat} {n : Nat} {σ σ' : Nat → ft} (h : lst l nt n σ) (h' : lst l nt n σ') : ∀ k, k < n → σ k = σ' k := fun k hk => tt_le_as _ _ (h.2.1 k hk) (h'.2.1 k hk) (h.2.2 σ' h'.1 k hk) (h'.2.2 σ h.1 k hk)
/-- the row when the first m types are written -/
def rd_p (l : tl_T) (σ : Nat → ft) (m : Nat) : tl_T := l.mapIdx (fun k x => (x.1, if k < m then tt_n (σ k) else x.2))
def rd_row (l : tl_T) (σ : Nat → ft) : tl_T := rd_p l σ l.length
def rd_big (σ : Nat → ft) (n : Nat) : Bool := (List.range n).any (fun k => 24 < tt_len (σ k))
def rd_do (S : st_S) (l : tl_T) (σ : Nat → ft) : Int32 × st_S := if rd_big σ l.length = true then (-5, S) else if tl_kp (st_T S) (rd_row l σ) < 64 then (nI (tl_kp (st_T S) (rd_row l σ)), (S.1, tl_kt (st_T S) (rd_row l σ), [], S.2.2.2)) else (-6, S)
def sp_read (S : st_S) (ans : Int32) (S' : st_S) : Prop := (¬ tl_cp 1 (dk_l (st_dr S)) ∧ ans = -2 ∧ S' = S) ∨ (tl_cp 1 (dk_l (st_dr S)) ∧ (∀ σ, eqs (sp_l (st_dr S)) (st_nt S) (sp_l (st_dr S)).length σ → False) ∧ ans = -3 ∧ S' = S) ∨ (tl_cp 1 (dk_l (st_dr S)) ∧ ∃ σ, lst (sp_l (st_dr S)) (st_nt S) (sp_l (st_dr S)).length σ ∧ (ans, S') = rd_do S (sp_l (st_dr S)) σ)
theorem rd_p_len (l : tl_T) (σ : Nat → ft) (m : Nat) : (rd_p l σ m).length = l.length := List.length_mapIdx
theorem rd_p_get {l : tl_T} {σ : Nat → ft} {m k : Nat} {x : Nat × Nat} (h : l[k]? = some x) : (rd_p l σ m)[k]? = some (x.1, if k < m then tt_n (σ k) else x.2) := by
  unfold rd_p
  rw [List.getElem?_mapIdx, h]
  rfl
theorem rd_p_zero (l : tl_T) (σ : Nat → ft) : rd_p l σ 0 = l := by
  apply List.ext_getElem?
  intro k
  cases h : l[k]? with
  | none =>
    rw [List.getElem?_eq_none_iff] at h ⊢
    rw [rd_p_len]
    exact h
  | some x =>
    rw [rd_p_get h, if_neg (by omega)]
theorem rd_p_congr {l : tl_T} {σ σ' : Nat → ft} {m : Nat} (h : ∀ k, k < l.length → σ k = σ' k) : rd_p l σ m = rd_p l σ' m := by
  apply List.ext_getElem?
  intro k
  cases hk : l[k]? with
  | none =>
    have e : l.length ≤ k := List.getElem?_eq_none_iff.mp hk
    rw [List.getElem?_eq_none (by rw [rd_p_len]; exact e), List.getElem?_eq_none (by rw [rd_p_len]; exact e)]
  | some x =>
    rw [rd_p_get hk, rd_p_get hk, h k (getE_lt hk)]
theorem rd_p_ar (l : tl_T) (σ : Nat → ft) (m : Nat) : (rd_p l σ m).map (fun x => tl_ar x.1) = l.map (fun x => tl_ar x.1) := by
  apply List.ext_getElem?
  intro k
  rw [List.getElem?_map, List.getElem?_map]
  cases hk : l[k]? with
  | none =>
    have e : l.length ≤ k := List.getElem?_eq_none_iff.mp hk
    rw [List.getElem?_eq_none (by rw [rd_p_len]; exact e)]
  | some x => rw [rd_p_get hk]; rfl
theorem wf_ar {l m : tl_T} (h : l.map (fun x => tl_ar x.1) = m.map (fun x => tl_ar x.1)) (hm : tl_wf m) : tl_wf l := by
  have hl : l.length = m.length := by
    have := congrArg List.length h
    rw [List.length_map, List.length_map] at this
    exact this
  obtain ⟨a, b⟩ := tl_ar_eq l m h 1
  exact ⟨b.mpr hm.1, by rw [a, hl]; exact hm.2.1, by rw [hl]; exact hm.2.2⟩
theorem sp_l_wf {dr : List Nat} (h : tl_cp 1 (dk_l dr)) (h24 : dr.length ≤ 24) : tl_wf (sp_l dr) := wf_ar (sp_p_ar dr dr.length) ⟨h.1, h.2, by unfold dk_l; rw [List.length_map]; exact h24⟩
theorem rd_big_congr {σ σ' : Nat → ft} {n : Nat} (h : ∀ k, k < n → σ k = σ' k) : rd_big σ n = rd_big σ' n := by
  unfold rd_big
  apply Bool.eq_iff_iff.mpr
  simp only [List.any_eq_true, List.mem_range]
  constructor
  · rintro ⟨k, hk, e⟩
    exact ⟨k, hk, by rw [← h k hk]; exact e⟩
  · rintro ⟨k, hk, e⟩
    exact ⟨k, hk, by rw [h k hk]; exact e⟩
theorem rd_do_congr {S : st_S} {l : tl_T} {σ σ' : Nat → ft} (h : ∀ k, k < l.length → σ k = σ' k) : rd_do S l σ = rd_do S l σ' := by
  unfold rd_do rd_row
  rw [rd_big_congr h, rd_p_congr h]
theorem tl_kt_full {T : List tl_T} {l : tl_T} (hT : T.length ≤ 64) (h : ¬ tl_kp T l < 64) : tl_kt T l = T := by
  unfold tl_kp at h
  unfold tl_kt
  cases hx : T.idxOf? l with
  | some t => rfl
  | none =>
    rw [hx] at h
    simp only at h ⊢
    rw [if_pos (by omega)]
theorem mo_R_fgr {S : st_S} {D D' : fx_D} (hR : mo_R S D) (hf : mo_fgr D D') : mo_R S D' := by
  obtain ⟨f1, f2, f3⟩ := hf
  obtain ⟨r1, r2, r3, r4, r5, r6, r7, r8⟩ := hR
  have fi : ∀ j, j ≠ 37 → D'.2.1 0 j = D.2.1 0 j := fun j hj => f2 0 j (fun z => hj z.2)
  have fr : ∀ q l, mo_row D q l → mo_row D' q l := fun q l h => ⟨h.1, by rw [f1 3 (by omega)]; exact h.2.1, fun k x hx => by rw [f1 1 (by omega), f1 2 (by omega)]; exact h.2.2 k x hx⟩
  refine ⟨fun v hv => ?_, ⟨r2.1, by rw [fi 5 (by decide)]; exact r2.2.1, fun t l ht => ⟨fr t l (r2.2.2 t l ht).1, (r2.2.2 t l ht).2⟩⟩, fun q h1 h2 => ?_, ⟨r4.1, by rw [fi 6 (by decide)]; exact r4.2.1, fun k x hx => ?_⟩, ⟨r5.1, by rw [fi 14 (by decide)]; exact r5.2.1, fun p h hp => ?_⟩, ⟨r6.1, by rw [fi 27 (by decide)]; exact r6.2.1, fun g q hg => ?_⟩, ⟨r7.1, by rw [fi 28 (by decide)]; exact r7.2.1, fun k g hg => ?_⟩, ⟨r8.1, by rw [fi 29 (by decide)]; exact r8.2.1, fun k g hg => ?_⟩⟩
  · rw [f1 4 (by omega)]; exact r1 v hv
  · obtain ⟨k, k1, k2⟩ := r3 q h1 h2
    exact ⟨k, k1, by rw [f1 3 (by omega)]; exact k2⟩
  · rw [f1 5 (by omega)]; exact r4.2.2 k x hx
  · rw [f1 6 (by omega), f1 7 (by omega), f1 8 (by omega), f1 9 (by omega), f1 10 (by omega), f1 11 (by omega)]
    exact r5.2.2 p h hp
  · rw [f1 13 (by omega), f1 14 (by omega), f1 15 (by omega), f1 16 (by omega), f1 17 (by omega), f1 18 (by omega), f1 19 (by omega)]
    exact r6.2.2 g q hg
  · rw [f1 20 (by omega)]; exact r7.2.2 k g hg
  · rw [f1 21 (by omega)]; exact r8.2.2 k g hg
theorem mo_R_fm {S : st_S} {D D' : fx_D} (hR : mo_R S D) (hf : mo_fm D D') : mo_R S D' := mo_R_arr hR (fun x hx => hf.1 x (by omega) (by omega)) hf.2
theorem mo_row_fm {D D' : fx_D} {q : Nat} {l : tl_T} (hf : mo_fm D D') (h : mo_row D q l) : mo_row D' q l := ⟨h.1, by rw [hf.1 3 (by decide) (by decide)]; exact h.2.1, fun k x hx => by rw [hf.1 1 (by decide) (by decide), hf.1 2 (by decide) (by decide)]; exact h.2.2 k x hx⟩
/-- a draft is read -/
theorem mo_R_read {S : st_S} {D : fx_D} {T' : List tl_T} (hR : mo_R (S.1, T', S.2.2) D) : mo_R (S.1, T', [], S.2.2.2) (fx_uf D 0 6 (nI 0)) := by
  obtain ⟨r1, r2, r3, r4, r5, r6, r7, r8⟩ := hR
  have fi : ∀ i, i ≠ 6 → (fx_uf D 0 6 (nI 0)).2.1 0 i = D.2.1 0 i := fun i h1 => by simp [fx_uf, upd, h1]
  exact ⟨r1, ⟨r2.1, by rw [fi 5 (by decide)]; exact r2.2.1, r2.2.2⟩, r3, ⟨by simp [st_dr], by simp [fx_uf, upd, st_dr], fun k x h => by simp [st_dr] at h⟩, ⟨r5.1, by rw [fi 14 (by decide)]; exact r5.2.1, r5.2.2⟩, ⟨r6.1, by rw [fi 27 (by decide)]; exact r6.2.1, r6.2.2⟩, ⟨r7.1, by rw [fi 28 (by decide)]; exact r7.2.1, r7.2.2⟩, ⟨r8.1, by rw [fi 29 (by decide)]; exact r8.2.1, r8.2.2⟩⟩
/-- the trees that measure has found are the least ones -/
theorem me_lst {l : tl_T} {nt : Nat → Nat} {N : Nat} {D D' : fx_D} {K L R lk ρ : Nat → Nat} {T : Nat → Option ft} (h : tg (eqs l nt l.length) 24 128 D N K L R lk ρ) (hl : l.length ≤ 24) (hm : mb D' N K L R ρ T) (ha : ∀ n, ac N n → ρ n = n → T n ≠ none) : ∃ σ, lst l nt l.length σ ∧ ∀ k, k < l.length → T (ρ k) = some (σ k) := by
  obtain ⟨g1, g2, g3, g4, g5, g6⟩ := h
  have hr := g1.2.2.1
  have hb := g1.2.1
  have act : ∀ n, K n ≠ 0 → ac N n := fun n hn => Classical.byContradiction (fun z => hn (hb.2.2.2 n z).1)
  obtain ⟨T1, hT1⟩ : ∃ T1 : Nat → ft, T1 = fun n => if K n = 0 then .line else (T n).getD .line := ⟨_, rfl⟩
  have t1 : ∀ n, ac N n → ∀ t, T n = some t → T1 n = t := fun n hn t ht => by
    rw [hT1]
    simp only
    by_cases e : K n = 0
    · rw [if_pos e]
      have := (hm.2 n hn).1 e
      rw [ht] at this
      cases this
      rfl
    · rw [if_neg e, ht]
      rfl
  have get : ∀ n, ac N n → ρ n = n → T n = some (T1 n) := fun n hn hρ => by
    cases hx : T n with
    | none => exact absurd hx (ha n hn hρ)
    | some t => rw [t1 n hn t hx]
  have hT : ∀ n, ρ n = n → (K n = 0 → T1 n = .line) ∧ (K n = 1 → T1 n = .nil) ∧ (K n = 2 → T1 n = .line) ∧ (K n = 3 → T1 n = .append (T1 (ρ (L n))) (T1 (ρ (R n)))) := fun n hρ => by
    refine ⟨fun k => by rw [hT1]; simp only; rw [if_pos k], fun k => ?_, fun k => ?_, fun k => ?_⟩
    · have a := act n (by omega)
      exact t1 n a _ ((hm.2 n a).2.1 k)
    · have a := act n (by omega)
      exact t1 n a _ ((hm.2 n a).2.2.1 k)
    · have a := act n (by omega)
      obtain ⟨x, y, e1, e2, e3⟩ := (hm.2 n a).2.2.2 k _ (get n a hρ)
      have aL := hr.ac hb (hb.2.2.1 n a).1
      have aR := hr.ac hb (hb.2.2.1 n a).2.1
      rw [t1 _ aL x e1, t1 _ aR y e2]
      exact e3
  have hs := gsol_of g1.2.2.2.1 (T := T1) (fun n hn => (hT n hn).2)
  have hrs : rsp (fun n => T1 (ρ n)) ρ := fun n => by
    show T1 (ρ (ρ n)) = T1 (ρ n)
    rw [hr.idem]
  have hk : ∀ k, k < l.length → ac N k := fun k hk => Or.inl (by omega)
  refine ⟨fun n => T1 (ρ n), ⟨g5 _ hs hrs, fun k hk' => ?_, fun σ' hσ' k hk' => ?_⟩, fun k hk' => get (ρ k) (hr.ac hb (hk k hk')) (hr.idem k)⟩
  · have a := hr.ac hb (hk k hk')
    exact ((hm.1 _ a).1 _ (get (ρ k) a (hr.idem k))).1
  · obtain ⟨τ, s1, s2, s3⟩ := g6 σ' hσ'
    have := gsol_least hr.idem hb.2.1 hT s1 s2 (tt_len (T1 (ρ k)) + 1) (ρ k) (Nat.lt_succ_self _) (hr.idem k)
    rw [s2, s3 k (by omega)] at this
    exact this
theorem mo_fa_ty {D : fx_D} {k : Nat} {v : Int32} (hk : k < 24) : mo_fa D (fx_ua D 2 (1536 + k) v) 64 := by
  refine ⟨fun x h1 h2 h3 => by simp [fx_ua, h2], fun _ _ _ => rfl, rfl, fun q l hq h => ⟨h.1, h.2.1, fun i x hx => ?_⟩, fun q h => h⟩
  have hi := getE_lt hx
  have h24 := h.1
  have hne : ¬ 24 * q + i = 1536 + k := by omega
  simp only [fx_ua, upd, if_true, hne, if_false, show ¬ (1 : Nat) = 2 by decide]
  exact h.2.2 i x hx
theorem rd_set {D : fx_D} {l : tl_T} {σ : Nat → ft} {m : Nat} (hm : m < l.length) (hlt : tt_n (σ m) < 2 ^ 25) (h : mo_row D 64 (rd_p l σ m)) : mo_row (fx_ua D 2 (1536 + m) (nI (tt_n (σ m)))) 64 (rd_p l σ (m + 1)) := by
  have l24 := h.1
  rw [rd_p_len] at l24
  refine ⟨by rw [rd_p_len]; exact l24, ?_, fun k x hx => ?_⟩
  · have := h.2.1
    rw [rd_p_len] at this ⊢
    exact this
  · have hk := getE_lt hx
    rw [rd_p_len] at hk
    have hg : l[k]? = some l[k] := List.getElem?_eq_getElem hk
    generalize l[k] = u at hg
    have h0 := h.2.2 k _ (rd_p_get hg)
    rw [rd_p_get hg] at hx
    cases hx
    by_cases e : k = m
    · subst e
      rw [if_pos (by omega)]
      exact ⟨by simpa [fx_ua] using h0.1, by simp [fx_ua, upd], h0.2.2.1, hlt⟩
    · have hne : ¬ 24 * 64 + k = 1536 + m := by omega
      have e2 : (if k < m + 1 then tt_n (σ k) else u.2) = (if k < m then tt_n (σ k) else u.2) := by
        by_cases z : k < m
        · rw [if_pos z, if_pos (by omega)]
        · rw [if_neg z, if_neg (by omega)]
      rw [e2]
      simp only [fx_ua, upd, if_true, hne, if_false, show ¬ (1 : Nat) = 2 by decide]
      exact h0
