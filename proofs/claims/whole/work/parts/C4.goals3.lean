/-! ===== the class's Goals: leave ===== -/
def ku_x (T : List tl_T) (L : tl_T) : List tl_T := if L.length ≤ 24 then tl_ku T L else T
def kp_x (T : List tl_T) (L : tl_T) : Int32 := if L.length ≤ 24 then nI (tl_kp T L) else -5
def so_x (L : tl_T) (H : List Nat) : List Nat := if L.length ≤ 24 then H else so_long
theorem ku_x_pre (T : List tl_T) (L : tl_T) : ∃ X, ku_x T L = T ++ X ∧ X.length ≤ 1 := by
  unfold ku_x
  split
  · exact tl_ku_pre T L
  · exact ⟨[], by simp, by simp⟩
theorem c_TS_kE {G : sd_G} {o : Nat} {D : fx_D} {h0 : sd_H} {nx q i p j : Nat} {T : List tl_T} {l m R : tl_T} (hB : G.2.1 ≤ o) (hT : ts_T D T) (hN : T.length ≤ 70) (hq : q < T.length) (hl : tm_row D (q + 1) l) (hs : tm_set D (q + 1) l) (hi : i < l.length) (hp : p < T.length) (hm : tm_row D (p + 1) m) (sm : tm_set D (p + 1) m) (hj : j < m.length) (hR : R = (9, 4) :: (tl_part l i ++ tl_part m j)) (hw : tl_cp 1 R) : sd_Ct G mTS_keepEquation 3 0 0 [.ref (o + 1), .ref (o + tmo (q + 1)), .int (nI i), .ref (o + tmo (p + 1)), .int (nI j)] (fx_h G.1.2 dk_S o D h0) nx (fx_is G.1.2 dk_S o h0 nx (some (.int (kp_x T R))) (fun D' => ts_T D' (ku_x T R) ∧ ts_f D D')) := by
  unfold kp_x ku_x
  by_cases h : R.length ≤ 24
  · rw [if_pos h, if_pos h]
    subst hR
    exact c_TS_keepEquation hB hT hN (by omega) (by omega) hl hs hi (by omega) (by omega) hm sm hj ⟨hw.1, hw.2, h⟩
  · rw [if_neg h, if_neg h]
    subst hR
    exact c_TS_keepEquationBig hB hT hN (by omega) (by omega) hl hs hi (by omega) (by omega) hm sm hj (by omega)
theorem c_ST_cx {G : sd_G} {o : Nat} {D : fx_D} {h0 : sd_H} {nx s : Nat} {T : List tl_T} {R : tl_T} {H : List Nat} (hB : G.2.1 ≤ o) (hso : dk_so s) (hT : T.length ≤ 100) (h : so_w D s H) : sd_Ct G mST_conclude 0 0 0 [.ref (o + s), .int (kp_x T R)] (fx_h G.1.2 dk_S o D h0) nx (fx_is G.1.2 dk_S o h0 nx none (fun D' => so_w D' s (so_x R H) ∧ D'.2.1 s 2 = kp_x T R ∧ ∀ x, x ≠ s → ag D D' x)) := by
  unfold kp_x so_x
  by_cases h1 : R.length ≤ 24
  · simp only [h1, if_true]
    have := tl_kp_lle T R
    exact sd_is_fx (c_ST_conclude hB hso (by omega)) ⟨so_w_uf2 h, by simp [fx_uf, upd], fun x hx => ag_uf hx⟩
  · simp only [h1, if_false]
    exact sd_is_fx (c_ST_concludeBig hB hso (by decide)) ⟨so_w_long (so_w_uf2 h), by simp [fx_uf, upd], fun x hx => (ag_uf hx).tr (ag_uf hx)⟩
/-- on the way through leave -/
def lv_B (S : st_S) (s0 s1 : Nat) (D : fx_D) (T : List tl_T) (H0 H1 : List Nat) (c0 c1 : Int32) (D' : fx_D) : Prop := ts_T D' T ∧ (∃ X, T = st_T S ++ X) ∧ so_w D' s0 H0 ∧ so_w D' s1 H1 ∧ (D'.2.1 s0 2 = c0 ∧ D'.2.1 s1 2 = c1) ∧ (436 ≤ s0 ∧ s1 = s0 + 3) ∧ ∀ x, ¬ (4 ≤ x ∧ x < 296) → x ≠ 1 → ¬ (s0 ≤ x ∧ x < s1 + 2) → ag D D' x
theorem lv_B.ts {S : st_S} {s0 s1 : Nat} {D D1 D2 : fx_D} {T T2 : List tl_T} {H0 H1 : List Nat} {c0 c1 : Int32} (h : lv_B S s0 s1 D T H0 H1 c0 c1 D1) (hp : ∃ X, T2 = T ++ X ∧ X.length ≤ 1) (h2 : ts_T D2 T2 ∧ ts_f D1 D2) : lv_B S s0 s1 D T2 H0 H1 c0 c1 D2 := by
  obtain ⟨b1, ⟨X, b2⟩, b3, b4, ⟨b5, b6⟩, e, b7⟩ := h
  obtain ⟨Y, y1, y2⟩ := hp
  have a : ∀ x, 296 ≤ x → ag D1 D2 x := fun x hx => h2.2.ag (by omega) (by omega)
  exact ⟨h2.1, ⟨X ++ Y, by rw [y1, b2, List.append_assoc]⟩, so_w_ag (a _ (by omega)) (a _ (by omega)) b3, so_w_ag (a _ (by omega)) (a _ (by omega)) b4, ⟨by rw [(a _ (by omega)).2.1]; exact b5, by rw [(a _ (by omega)).2.1]; exact b6⟩, e, fun x h1 h3 h4 => (b7 x h1 h3 h4).tr (h2.2.ag (by omega) h3)⟩
theorem ts_T_lo {D D' : fx_D} {T : List tl_T} (hf : ∀ x, x < 296 → ag D D' x) (h : ts_T D T) : ts_T D' T := by
  have h71 := h.1
  refine ⟨h.1, by rw [(hf 1 (by omega)).2.1]; exact h.2.1, fun t l hl => ?_⟩
  have ht := getE_lt hl
  obtain ⟨a, b, c⟩ := h.2.2 t l hl
  have g : ∀ i, i ≤ 3 → ag D D' (tmo (t + 1) + i) := fun i hi => hf _ (by unfold tmo; omega)
  exact ⟨tm_row_ag g a, tm_set_ag g b, c⟩
theorem lv_B.s0 {S : st_S} {s0 s1 : Nat} {D D1 D2 : fx_D} {T : List tl_T} {H0 H1 H : List Nat} {c0 c1 c : Int32} (h : lv_B S s0 s1 D T H0 H1 c0 c1 D1) (hH : so_w D2 s0 H) (hc : D2.2.1 s0 2 = c) (a : ∀ x, x ≠ s0 → x ≠ s0 + 1 → ag D1 D2 x) : lv_B S s0 s1 D T H H1 c c1 D2 := by
  obtain ⟨b1, b2, b3, b4, ⟨b5, b6⟩, e, b7⟩ := h
  exact ⟨ts_T_lo (fun x hx => a x (by omega) (by omega)) b1, b2, hH, so_w_ag (a _ (by omega) (by omega)) (a _ (by omega) (by omega)) b4, ⟨hc, by rw [(a _ (by omega) (by omega)).2.1]; exact b6⟩, e, fun x h1 h3 h4 => (b7 x h1 h3 h4).tr (a x (by omega) (by omega))⟩
theorem lv_B.s1 {S : st_S} {s0 s1 : Nat} {D D1 D2 : fx_D} {T : List tl_T} {H0 H1 H : List Nat} {c0 c1 c : Int32} (h : lv_B S s0 s1 D T H0 H1 c0 c1 D1) (hH : so_w D2 s1 H) (hc : D2.2.1 s1 2 = c) (a : ∀ x, x ≠ s1 → x ≠ s1 + 1 → ag D1 D2 x) : lv_B S s0 s1 D T H0 H c0 c D2 := by
  obtain ⟨b1, b2, b3, b4, ⟨b5, b6⟩, e, b7⟩ := h
  exact ⟨ts_T_lo (fun x hx => a x (by omega) (by omega)) b1, b2, so_w_ag (a _ (by omega) (by omega)) (a _ (by omega) (by omega)) b3, hH, ⟨by rw [(a _ (by omega) (by omega)).2.1]; exact b5, hc⟩, e, fun x h1 h3 h4 => (b7 x h1 h3 h4).tr (a x (by omega) (by omega))⟩
theorem lv_B.t0 {S : st_S} {s0 s1 : Nat} {D D1 D2 : fx_D} {T : List tl_T} {H0 H1 : List Nat} {c0 c1 : Int32} (h : lv_B S s0 s1 D T H0 H1 c0 c1 D1) (hf : tm_f 0 D1 D2) : lv_B S s0 s1 D T H0 H1 c0 c1 D2 := by
  obtain ⟨b1, b2, b3, b4, ⟨b5, b6⟩, e, b7⟩ := h
  have a : ∀ x, ¬ (4 ≤ x ∧ x < 8) → ag D1 D2 x := fun x hx => hf.ag (by unfold tmo; omega) (by unfold tmo; omega) (by unfold tmo; omega) (by unfold tmo; omega)
  exact ⟨ts_T_f (Or.inr rfl) hf b1, b2, so_w_ag (a _ (by omega)) (a _ (by omega)) b3, so_w_ag (a _ (by omega)) (a _ (by omega)) b4, ⟨by rw [(a _ (by omega)).2.1]; exact b5, by rw [(a _ (by omega)).2.1]; exact b6⟩, e, fun x h1 h3 h4 => (b7 x h1 h3 h4).tr (a x (by omega))⟩
theorem ls_h_app {L : List Nat} {t : Nat} (h : t ∉ L) : ls_h L t = L ++ [t] := by
  unfold ls_h
  rw [if_neg h]
theorem ls_g_nd : ∀ (M L : List Nat), (∀ t ∈ M, t < 2 ^ 30) → (L ++ M).Nodup → ls_g L (-1) M = L ++ M
  | [], L, _, _ => by simp [ls_g]
  | t :: M, L, h, hn => by
    rw [ls_g, if_neg (nI_ne_m1 (h t (List.mem_cons_self ..)))]
    have ht : t ∉ L := fun q => by
      have := (List.nodup_append.mp hn).2.2 t q t (List.mem_cons_self ..)
      exact this rfl
    rw [ls_h_app ht, ls_g_nd M (L ++ [t]) (fun u hu => h u (List.mem_cons_of_mem _ hu)) (by simpa using hn)]
    simp
/-- the class's numbers for rows -/
def ku_n (T : List tl_T) : List tl_T → List Nat
  | [] => []
  | l :: ls => tl_kp T l :: ku_n (tl_ku T l) ls
theorem idx_app {T X : List tl_T} {l : tl_T} {k : Nat} (h : T.idxOf? l = some k) : (T ++ X).idxOf? l = some k := by
  obtain ⟨h1, h2, h3⟩ := List.idxOf?_eq_some_iff.mp h
  refine tl_first (by rw [List.getElem?_append_left h1, List.getElem?_eq_getElem h1, h2]) (fun j hj q => ?_)
  rw [List.getElem?_append_left (by omega), List.getElem?_eq_getElem (by omega)] at q
  exact h3 j hj (Option.some.inj q)
theorem tl_ku_idx (T : List tl_T) (l : tl_T) : (tl_ku T l).idxOf? l = some (tl_kp T l) := by
  unfold tl_ku tl_kp
  cases e : T.idxOf? l with
  | some k => exact e
  | none =>
    refine tl_first (by simp) (fun j hj q => ?_)
    have hj' : j < T.length := hj
    rw [List.getElem?_append_left hj'] at q
    have := List.idxOf?_eq_none_iff.mp e
    exact this (List.mem_of_getElem? q)
theorem tl_k_idx {T : List tl_T} {l : tl_T} {k : Nat} (h : T.idxOf? l = some k) : tl_kp T l = k ∧ tl_ku T l = T := by
  unfold tl_kp tl_ku
  rw [h]
  exact ⟨rfl, rfl⟩
theorem nd_idx {T : List tl_T} {a : Nat} {l : tl_T} (hN : T.Nodup) (h : T[a]? = some l) : T.idxOf? l = some a := tl_first h (fun j hj q => by
    have ha := getE_lt h
    have e1 : T[j]'(by omega) = T[a] := by
      have := q.trans h.symm
      rw [List.getElem?_eq_getElem (by omega), List.getElem?_eq_getElem ha] at this
      exact Option.some.inj this
    exact (List.pairwise_iff_getElem.mp hN j a (by omega) ha hj) e1)
theorem ku_x_le (T : List tl_T) (L : tl_T) : (ku_x T L).length ≤ T.length + 1 := by
  obtain ⟨X, h1, h2⟩ := ku_x_pre T L
  rw [h1, List.length_append]
  omega
theorem tl_ku_le (T : List tl_T) (L : tl_T) : (tl_ku T L).length ≤ T.length + 1 := by
  obtain ⟨X, h1, h2⟩ := tl_ku_pre T L
  rw [h1, List.length_append]
  omega
/-- what bound variables are of, under the LAMs of an equation -/
def st_okV (S : st_S) : Prop := ∀ l ∈ st_T S, tl_isE l = true → ∀ i, (i = 1 ∨ i = tl_end l 1) → (tl_at l i).1 = 10 → ∀ (k : Nat) (y : Nat × Nat), i + 1 ≤ k → k < tl_end l i → l[k]? = some y → y.1 = 11 + tl_arn l k (i + 1) (k - (i + 1)) → y.2 = ty_from (tl_at l 1).2
theorem tl_sub_congr {f g : Nat → Nat × Nat → tl_T} {l : tl_T} : ∀ (n k : Nat), (∀ j y, k ≤ j → j < k + n → l[j]? = some y → f j y = g j y) → tl_sub f l k n = tl_sub g l k n
  | 0, k, _ => rfl
  | n + 1, k, h => by
    cases e : l[k]? with
    | none =>
      unfold tl_sub
      simp only [e]
      rw [tl_sub_congr n (k + 1) (fun j y h1 h2 => h j y (by omega) (by omega))]
    | some y =>
      rw [tl_sub_get e, tl_sub_get e, h k y (Nat.le_refl _) (by omega) e, tl_sub_congr n (k + 1) (fun j y h1 h2 => h j y (by omega) (by omega))]
/-- what leave leaves -/
def lf_K (S : st_S) (k a g : Nat) (T : List tl_T) (H0 H1 : List Nat) (c0 c1 : Int32) : Prop :=
  ((∀ l ∈ lv_rows S k a g, l.length ≤ 24) → T = (ku_i (st_T S) [] (lv_rows S k a g)).1 ∧ ((k = 2 ∨ k = 3 ∨ k = 4 ∨ k = 6) → ∀ j m, (ku_n (st_T S) (lv_rows S k a g))[j]? = some m → (j = 0 → H0 = st_gh S g ∧ c0 = nI m) ∧ (j = 1 → H1 = st_gh S g ∧ c1 = nI m)) ∧ (k = 7 → ∀ m n, ku_n (st_T S) (lv_rows S k a g) = [m, n] → H0 = ls_h (st_gh S g) m ∧ c0 = nI n ∧ H1 = ls_h (st_gh S g) n ∧ c1 = nI m)) ∧ ((∃ l ∈ lv_rows S k a g, 24 < l.length) → (1 ≤ gk k ∧ 6 < H0.length) ∨ (2 ≤ gk k ∧ 6 < H1.length)) ∧ T.length ≤ 66
def lf_P (S : st_S) (k a g : Nat) (D D' : fx_D) : Prop := ∃ T H0 H1 c0 c1, lv_B S (436 + 3 * (st_gl S).length + 1) (436 + 3 * ((st_gl S).length + 1) + 1) D T H0 H1 c0 c1 D' ∧ lf_K S k a g T H0 H1 c0 c1
theorem lf_K0 {S : st_S} {k a g : Nat} {H0 H1 : List Nat} {c0 c1 : Int32} (h : lv_rows S k a g = []) (h64 : (st_T S).length ≤ 64) : lf_K S k a g (st_T S) H0 H1 c0 c1 := by
  unfold lf_K
  rw [h]
  refine ⟨fun _ => ⟨rfl, fun _ j m q => ?_, fun _ m n q => ?_⟩, fun ⟨l, q, _⟩ => ?_, by omega⟩
  · simp [ku_n] at q
  · simp [ku_n] at q
  · cases q
theorem lf_K2 {S : st_S} {k a g : Nat} {r0 r1 : tl_T} (hk : k = 2 ∨ k = 3) (h : lv_rows S k a g = [r0, r1]) (h64 : (st_T S).length ≤ 64) : lf_K S k a g (ku_x (ku_x (st_T S) r0) r1) (so_x r0 (st_gh S g)) (so_x r1 (st_gh S g)) (kp_x (st_T S) r0) (kp_x (ku_x (st_T S) r0) r1) := by
  have gk2 : gk k = 2 := by rcases hk with rfl | rfl <;> rfl
  unfold lf_K
  rw [h]
  refine ⟨fun q => ?_, fun q => ?_, ?_⟩
  · have q0 := q r0 (by simp)
    have q1 := q r1 (by simp)
    simp only [ku_x, so_x, kp_x, q0, q1, if_true, ku_i, ku_n]
    refine ⟨trivial, fun _ j m e => ⟨fun hj => ?_, fun hj => ?_⟩, fun q => by omega⟩
    · subst hj
      cases e
      exact ⟨trivial, rfl⟩
    · subst hj
      cases e
      exact ⟨trivial, rfl⟩
  · obtain ⟨l, hl, hl2⟩ := q
    rw [gk2]
    rcases List.mem_cons.mp hl with rfl | hl
    · left
      rw [so_x, if_neg (by omega)]
      exact ⟨by omega, by decide⟩
    · rw [List.mem_singleton] at hl
      subst hl
      right
      rw [so_x, if_neg (by omega)]
      exact ⟨by omega, by decide⟩
  · have := ku_x_le (st_T S) r0
    have := ku_x_le (ku_x (st_T S) r0) r1
    omega
theorem lf_K4 {S : st_S} {a g : Nat} {r0 : tl_T} {H1 : List Nat} {c1 : Int32} (h : lv_rows S 4 a g = [r0]) (h64 : (st_T S).length ≤ 64) : lf_K S 4 a g (ku_x (st_T S) r0) (so_x r0 (st_gh S g)) H1 (kp_x (st_T S) r0) c1 := by
  unfold lf_K
  rw [h]
  refine ⟨fun q => ?_, fun q => ?_, ?_⟩
  · have q0 := q r0 (by simp)
    simp only [ku_x, so_x, kp_x, q0, if_true, ku_i, ku_n]
    refine ⟨trivial, fun _ j m e => ⟨fun hj => ?_, fun hj => ?_⟩, fun q => by omega⟩
    · subst hj
      cases e
      exact ⟨trivial, rfl⟩
    · subst hj
      simp at e
  · obtain ⟨l, hl, hl2⟩ := q
    rw [List.mem_singleton] at hl
    subst hl
    left
    rw [so_x, if_neg (by omega)]
    exact ⟨by decide, by decide⟩
  · have := ku_x_le (st_T S) r0
    omega
theorem lf_K6 {S : st_S} {a g : Nat} {r0 : tl_T} (h : lv_rows S 6 a g = [r0, st_tm S a]) (hN : (st_T S).Nodup) (ha : (st_T S)[a]? = some (st_tm S a)) (hl2 : (st_tm S a).length ≤ 24) (h64 : (st_T S).length ≤ 64) : lf_K S 6 a g (ku_x (st_T S) r0) (so_x r0 (st_gh S g)) (st_gh S g) (kp_x (st_T S) r0) (nI a) := by
  obtain ⟨X, x1, -⟩ := ku_x_pre (st_T S) r0
  have i := idx_app (X := X) (nd_idx hN ha)
  rw [← x1] at i
  unfold lf_K
  rw [h]
  refine ⟨fun q => ?_, fun q => ?_, ?_⟩
  · have q0 := q r0 (by simp)
    have e2 : ku_x (st_T S) r0 = tl_ku (st_T S) r0 := by unfold ku_x; rw [if_pos q0]
    rw [e2] at i
    obtain ⟨i1, i2⟩ := tl_k_idx i
    simp only [ku_x, so_x, kp_x, q0, hl2, if_true, ku_i, ku_n, i1, i2]
    refine ⟨trivial, fun _ j m e => ⟨fun hj => ?_, fun hj => ?_⟩, fun q => by omega⟩
    · subst hj
      cases e
      exact ⟨trivial, rfl⟩
    · subst hj
      cases e
      exact ⟨trivial, rfl⟩
  · obtain ⟨l, hl, hl2'⟩ := q
    rcases List.mem_cons.mp hl with rfl | hl
    · left
      rw [so_x, if_neg (by omega)]
      exact ⟨by decide, by decide⟩
    · rw [List.mem_singleton] at hl
      subst hl
      omega
  · have := ku_x_le (st_T S) r0
    omega
theorem lf_K7 {S : st_S} {a g : Nat} {r0 r1 : tl_T} (h : lv_rows S 7 a g = [r0, r1]) (h0 : r0.length ≤ 24) (h1 : r1.length ≤ 24) (h64 : (st_T S).length ≤ 64) : lf_K S 7 a g (tl_ku (tl_ku (st_T S) r0) r1) (ls_h (st_gh S g) (tl_kp (st_T S) r0)) (ls_h (st_gh S g) (tl_kp (tl_ku (st_T S) r0) r1)) (nI (tl_kp (tl_ku (st_T S) r0) r1)) (nI (tl_kp (st_T S) r0)) := by
  unfold lf_K
  rw [h]
  refine ⟨fun q => ?_, fun q => ?_, ?_⟩
  · simp only [h0, h1, if_true, ku_i, ku_n]
    refine ⟨trivial, fun q => by omega, fun _ m n e => ?_⟩
    cases e
    exact ⟨rfl, rfl, rfl, rfl⟩
  · obtain ⟨l, hl, hl2'⟩ := q
    rcases List.mem_cons.mp hl with rfl | hl
    · omega
    · rw [List.mem_singleton] at hl
      subst hl
      omega
  · have := tl_ku_le (st_T S) r0
    have := tl_ku_le (tl_ku (st_T S) r0) r1
    omega
theorem dGS_leave_0 : decode prog_4_method_12_code 0 = .ok (.aload_n 0, 1) := by decide +kernel
theorem dGS_leave_1 : decode prog_4_method_12_code 1 = .ok (.getfield 24, 3) := by decide +kernel
theorem dGS_leave_4 : decode prog_4_method_12_code 4 = .ok (.getfield 102, 3) := by decide +kernel
theorem dGS_leave_7 : decode prog_4_method_12_code 7 = .ok (.aload_n 3, 1) := by decide +kernel
theorem dGS_leave_8 : decode prog_4_method_12_code 8 = .ok (.getfield 105, 3) := by decide +kernel
theorem dGS_leave_11 : decode prog_4_method_12_code 11 = .ok (.aaload, 1) := by decide +kernel
theorem dGS_leave_12 : decode prog_4_method_12_code 12 = .ok (.astore 4, 2) := by decide +kernel
theorem dGS_leave_14 : decode prog_4_method_12_code 14 = .ok (.aload_n 0, 1) := by decide +kernel
theorem dGS_leave_15 : decode prog_4_method_12_code 15 = .ok (.aload_n 3, 1) := by decide +kernel
theorem dGS_leave_16 : decode prog_4_method_12_code 16 = .ok (.iconst 0, 1) := by decide +kernel
theorem dGS_leave_17 : decode prog_4_method_12_code 17 = .ok (.invokevirtual 194, 3) := by decide +kernel
theorem dGS_leave_20 : decode prog_4_method_12_code 20 = .ok (.astore 5, 2) := by decide +kernel
theorem dGS_leave_22 : decode prog_4_method_12_code 22 = .ok (.aload_n 0, 1) := by decide +kernel
theorem dGS_leave_23 : decode prog_4_method_12_code 23 = .ok (.aload_n 3, 1) := by decide +kernel
theorem dGS_leave_24 : decode prog_4_method_12_code 24 = .ok (.iconst 1, 1) := by decide +kernel
theorem dGS_leave_25 : decode prog_4_method_12_code 25 = .ok (.invokevirtual 194, 3) := by decide +kernel
theorem dGS_leave_28 : decode prog_4_method_12_code 28 = .ok (.astore 6, 2) := by decide +kernel
theorem dGS_leave_30 : decode prog_4_method_12_code 30 = .ok (.aload 4, 2) := by decide +kernel
theorem dGS_leave_32 : decode prog_4_method_12_code 32 = .ok (.invokevirtual 108, 3) := by decide +kernel
theorem dGS_leave_35 : decode prog_4_method_12_code 35 = .ok (.ifCond .eq (11), 3) := by decide +kernel
theorem dGS_leave_38 : decode prog_4_method_12_code 38 = .ok (.aload 4, 2) := by decide +kernel
theorem dGS_leave_40 : decode prog_4_method_12_code 40 = .ok (.invokevirtual 113, 3) := by decide +kernel
theorem dGS_leave_43 : decode prog_4_method_12_code 43 = .ok (.goto (4), 3) := by decide +kernel
theorem dGS_leave_46 : decode prog_4_method_12_code 46 = .ok (.iconst 0, 1) := by decide +kernel
theorem dGS_leave_47 : decode prog_4_method_12_code 47 = .ok (.istore 7, 2) := by decide +kernel
theorem dGS_leave_49 : decode prog_4_method_12_code 49 = .ok (.iload_n 1, 1) := by decide +kernel
theorem dGS_leave_50 : decode prog_4_method_12_code 50 = .ok (.tableswitch (265) (2) (7) #[38, 92, 149, 265, 171, 205], 38) := by decide +kernel
theorem dGS_leave_88 : decode prog_4_method_12_code 88 = .ok (.aload 5, 2) := by decide +kernel
theorem dGS_leave_90 : decode prog_4_method_12_code 90 = .ok (.aload_n 0, 1) := by decide +kernel
theorem dGS_leave_91 : decode prog_4_method_12_code 91 = .ok (.getfield 24, 3) := by decide +kernel
theorem dGS_leave_94 : decode prog_4_method_12_code 94 = .ok (.aload 4, 2) := by decide +kernel
theorem dGS_leave_96 : decode prog_4_method_12_code 96 = .ok (.iconst 1, 1) := by decide +kernel
theorem dGS_leave_97 : decode prog_4_method_12_code 97 = .ok (.aload_n 0, 1) := by decide +kernel
theorem dGS_leave_98 : decode prog_4_method_12_code 98 = .ok (.getfield 24, 3) := by decide +kernel
theorem dGS_leave_101 : decode prog_4_method_12_code 101 = .ok (.getfield 102, 3) := by decide +kernel
theorem dGS_leave_104 : decode prog_4_method_12_code 104 = .ok (.iload_n 2, 1) := by decide +kernel
theorem dGS_leave_105 : decode prog_4_method_12_code 105 = .ok (.aaload, 1) := by decide +kernel
theorem dGS_leave_106 : decode prog_4_method_12_code 106 = .ok (.iconst 0, 1) := by decide +kernel
theorem dGS_leave_107 : decode prog_4_method_12_code 107 = .ok (.invokevirtual 198, 3) := by decide +kernel
theorem dGS_leave_110 : decode prog_4_method_12_code 110 = .ok (.invokevirtual 55, 3) := by decide +kernel
theorem dGS_leave_113 : decode prog_4_method_12_code 113 = .ok (.aload 6, 2) := by decide +kernel
theorem dGS_leave_115 : decode prog_4_method_12_code 115 = .ok (.aload_n 0, 1) := by decide +kernel
theorem dGS_leave_116 : decode prog_4_method_12_code 116 = .ok (.getfield 24, 3) := by decide +kernel
theorem dGS_leave_119 : decode prog_4_method_12_code 119 = .ok (.aload_n 0, 1) := by decide +kernel
theorem dGS_leave_120 : decode prog_4_method_12_code 120 = .ok (.getfield 24, 3) := by decide +kernel
theorem dGS_leave_123 : decode prog_4_method_12_code 123 = .ok (.getfield 102, 3) := by decide +kernel
theorem dGS_leave_126 : decode prog_4_method_12_code 126 = .ok (.iload_n 2, 1) := by decide +kernel
theorem dGS_leave_127 : decode prog_4_method_12_code 127 = .ok (.aaload, 1) := by decide +kernel
theorem dGS_leave_128 : decode prog_4_method_12_code 128 = .ok (.iconst 0, 1) := by decide +kernel
theorem dGS_leave_129 : decode prog_4_method_12_code 129 = .ok (.aload 4, 2) := by decide +kernel
theorem dGS_leave_131 : decode prog_4_method_12_code 131 = .ok (.iload 7, 2) := by decide +kernel
theorem dGS_leave_133 : decode prog_4_method_12_code 133 = .ok (.invokevirtual 198, 3) := by decide +kernel
theorem dGS_leave_136 : decode prog_4_method_12_code 136 = .ok (.invokevirtual 55, 3) := by decide +kernel
theorem dGS_leave_139 : decode prog_4_method_12_code 139 = .ok (.goto (176), 3) := by decide +kernel
theorem dGS_leave_142 : decode prog_4_method_12_code 142 = .ok (.aload 5, 2) := by decide +kernel
theorem dGS_leave_144 : decode prog_4_method_12_code 144 = .ok (.aload_n 0, 1) := by decide +kernel
theorem dGS_leave_145 : decode prog_4_method_12_code 145 = .ok (.getfield 24, 3) := by decide +kernel
theorem dGS_leave_148 : decode prog_4_method_12_code 148 = .ok (.aload 4, 2) := by decide +kernel
theorem dGS_leave_150 : decode prog_4_method_12_code 150 = .ok (.iconst 2, 1) := by decide +kernel
theorem dGS_leave_151 : decode prog_4_method_12_code 151 = .ok (.aload 4, 2) := by decide +kernel
theorem dGS_leave_153 : decode prog_4_method_12_code 153 = .ok (.iload 7, 2) := by decide +kernel
theorem dGS_leave_155 : decode prog_4_method_12_code 155 = .ok (.iconst 1, 1) := by decide +kernel
theorem dGS_leave_156 : decode prog_4_method_12_code 156 = .ok (.iadd, 1) := by decide +kernel
theorem dGS_leave_157 : decode prog_4_method_12_code 157 = .ok (.invokevirtual 198, 3) := by decide +kernel
theorem dGS_leave_160 : decode prog_4_method_12_code 160 = .ok (.invokevirtual 55, 3) := by decide +kernel
theorem dGS_leave_163 : decode prog_4_method_12_code 163 = .ok (.aload 6, 2) := by decide +kernel
theorem dGS_leave_165 : decode prog_4_method_12_code 165 = .ok (.aload_n 0, 1) := by decide +kernel
theorem dGS_leave_166 : decode prog_4_method_12_code 166 = .ok (.getfield 24, 3) := by decide +kernel
theorem dGS_leave_169 : decode prog_4_method_12_code 169 = .ok (.aload 4, 2) := by decide +kernel
theorem dGS_leave_171 : decode prog_4_method_12_code 171 = .ok (.aload 4, 2) := by decide +kernel
theorem dGS_leave_173 : decode prog_4_method_12_code 173 = .ok (.getfield 176, 3) := by decide +kernel
theorem dGS_leave_176 : decode prog_4_method_12_code 176 = .ok (.iconst 2, 1) := by decide +kernel
theorem dGS_leave_177 : decode prog_4_method_12_code 177 = .ok (.iaload, 1) := by decide +kernel
theorem dGS_leave_178 : decode prog_4_method_12_code 178 = .ok (.aload 4, 2) := by decide +kernel
theorem dGS_leave_180 : decode prog_4_method_12_code 180 = .ok (.aload 4, 2) := by decide +kernel
theorem dGS_leave_182 : decode prog_4_method_12_code 182 = .ok (.getfield 176, 3) := by decide +kernel
theorem dGS_leave_185 : decode prog_4_method_12_code 185 = .ok (.iload 7, 2) := by decide +kernel
theorem dGS_leave_187 : decode prog_4_method_12_code 187 = .ok (.iconst 1, 1) := by decide +kernel
theorem dGS_leave_188 : decode prog_4_method_12_code 188 = .ok (.iadd, 1) := by decide +kernel
theorem dGS_leave_189 : decode prog_4_method_12_code 189 = .ok (.iaload, 1) := by decide +kernel
theorem dGS_leave_190 : decode prog_4_method_12_code 190 = .ok (.invokevirtual 198, 3) := by decide +kernel
theorem dGS_leave_193 : decode prog_4_method_12_code 193 = .ok (.invokevirtual 55, 3) := by decide +kernel
theorem dGS_leave_196 : decode prog_4_method_12_code 196 = .ok (.goto (119), 3) := by decide +kernel
theorem dGS_leave_199 : decode prog_4_method_12_code 199 = .ok (.aload 5, 2) := by decide +kernel
theorem dGS_leave_201 : decode prog_4_method_12_code 201 = .ok (.aload_n 0, 1) := by decide +kernel
theorem dGS_leave_202 : decode prog_4_method_12_code 202 = .ok (.aload 4, 2) := by decide +kernel
theorem dGS_leave_204 : decode prog_4_method_12_code 204 = .ok (.aload_n 0, 1) := by decide +kernel
theorem dGS_leave_205 : decode prog_4_method_12_code 205 = .ok (.getfield 24, 3) := by decide +kernel
theorem dGS_leave_208 : decode prog_4_method_12_code 208 = .ok (.iload_n 2, 1) := by decide +kernel
theorem dGS_leave_209 : decode prog_4_method_12_code 209 = .ok (.invokevirtual 202, 3) := by decide +kernel
theorem dGS_leave_212 : decode prog_4_method_12_code 212 = .ok (.invokevirtual 206, 3) := by decide +kernel
theorem dGS_leave_215 : decode prog_4_method_12_code 215 = .ok (.invokevirtual 55, 3) := by decide +kernel
theorem dGS_leave_218 : decode prog_4_method_12_code 218 = .ok (.goto (97), 3) := by decide +kernel
theorem dGS_leave_221 : decode prog_4_method_12_code 221 = .ok (.aload 5, 2) := by decide +kernel
theorem dGS_leave_223 : decode prog_4_method_12_code 223 = .ok (.aload_n 0, 1) := by decide +kernel
theorem dGS_leave_224 : decode prog_4_method_12_code 224 = .ok (.getfield 24, 3) := by decide +kernel
theorem dGS_leave_227 : decode prog_4_method_12_code 227 = .ok (.aload_n 0, 1) := by decide +kernel
theorem dGS_leave_228 : decode prog_4_method_12_code 228 = .ok (.getfield 24, 3) := by decide +kernel
theorem dGS_leave_231 : decode prog_4_method_12_code 231 = .ok (.getfield 102, 3) := by decide +kernel
theorem dGS_leave_234 : decode prog_4_method_12_code 234 = .ok (.iload_n 2, 1) := by decide +kernel
theorem dGS_leave_235 : decode prog_4_method_12_code 235 = .ok (.aaload, 1) := by decide +kernel
theorem dGS_leave_236 : decode prog_4_method_12_code 236 = .ok (.iconst 0, 1) := by decide +kernel
theorem dGS_leave_237 : decode prog_4_method_12_code 237 = .ok (.aload 4, 2) := by decide +kernel
theorem dGS_leave_239 : decode prog_4_method_12_code 239 = .ok (.iconst 0, 1) := by decide +kernel
theorem dGS_leave_240 : decode prog_4_method_12_code 240 = .ok (.invokevirtual 198, 3) := by decide +kernel
theorem dGS_leave_243 : decode prog_4_method_12_code 243 = .ok (.invokevirtual 55, 3) := by decide +kernel
theorem dGS_leave_246 : decode prog_4_method_12_code 246 = .ok (.aload 6, 2) := by decide +kernel
theorem dGS_leave_248 : decode prog_4_method_12_code 248 = .ok (.iload_n 2, 1) := by decide +kernel
theorem dGS_leave_249 : decode prog_4_method_12_code 249 = .ok (.invokevirtual 55, 3) := by decide +kernel
theorem dGS_leave_252 : decode prog_4_method_12_code 252 = .ok (.goto (63), 3) := by decide +kernel
theorem dGS_leave_255 : decode prog_4_method_12_code 255 = .ok (.aload 5, 2) := by decide +kernel
theorem dGS_leave_257 : decode prog_4_method_12_code 257 = .ok (.aload_n 0, 1) := by decide +kernel
theorem dGS_leave_258 : decode prog_4_method_12_code 258 = .ok (.getfield 24, 3) := by decide +kernel
theorem dGS_leave_261 : decode prog_4_method_12_code 261 = .ok (.aload 4, 2) := by decide +kernel
theorem dGS_leave_263 : decode prog_4_method_12_code 263 = .ok (.iload 7, 2) := by decide +kernel
theorem dGS_leave_265 : decode prog_4_method_12_code 265 = .ok (.invokevirtual 210, 3) := by decide +kernel
theorem dGS_leave_268 : decode prog_4_method_12_code 268 = .ok (.invokevirtual 214, 3) := by decide +kernel
theorem dGS_leave_271 : decode prog_4_method_12_code 271 = .ok (.aload 5, 2) := by decide +kernel
theorem dGS_leave_273 : decode prog_4_method_12_code 273 = .ok (.aload_n 0, 1) := by decide +kernel
theorem dGS_leave_274 : decode prog_4_method_12_code 274 = .ok (.getfield 24, 3) := by decide +kernel
theorem dGS_leave_277 : decode prog_4_method_12_code 277 = .ok (.aload 4, 2) := by decide +kernel
theorem dGS_leave_279 : decode prog_4_method_12_code 279 = .ok (.iconst 1, 1) := by decide +kernel
theorem dGS_leave_280 : decode prog_4_method_12_code 280 = .ok (.invokevirtual 210, 3) := by decide +kernel
theorem dGS_leave_283 : decode prog_4_method_12_code 283 = .ok (.invokevirtual 55, 3) := by decide +kernel
theorem dGS_leave_286 : decode prog_4_method_12_code 286 = .ok (.aload 6, 2) := by decide +kernel
theorem dGS_leave_288 : decode prog_4_method_12_code 288 = .ok (.aload 5, 2) := by decide +kernel
theorem dGS_leave_290 : decode prog_4_method_12_code 290 = .ok (.getfield 105, 3) := by decide +kernel
theorem dGS_leave_293 : decode prog_4_method_12_code 293 = .ok (.invokevirtual 214, 3) := by decide +kernel
theorem dGS_leave_296 : decode prog_4_method_12_code 296 = .ok (.aload 6, 2) := by decide +kernel
theorem dGS_leave_298 : decode prog_4_method_12_code 298 = .ok (.aload_n 0, 1) := by decide +kernel
theorem dGS_leave_299 : decode prog_4_method_12_code 299 = .ok (.getfield 24, 3) := by decide +kernel
theorem dGS_leave_302 : decode prog_4_method_12_code 302 = .ok (.aload 4, 2) := by decide +kernel
theorem dGS_leave_304 : decode prog_4_method_12_code 304 = .ok (.iload 7, 2) := by decide +kernel
theorem dGS_leave_306 : decode prog_4_method_12_code 306 = .ok (.invokevirtual 210, 3) := by decide +kernel
theorem dGS_leave_309 : decode prog_4_method_12_code 309 = .ok (.invokevirtual 55, 3) := by decide +kernel
theorem dGS_leave_312 : decode prog_4_method_12_code 312 = .ok (.goto (3), 3) := by decide +kernel
theorem dGS_leave_315 : decode prog_4_method_12_code 315 = .ok (.return_, 1) := by decide +kernel
theorem c_GS_leave {G : sd_G} {o : Nat} {D Dm : fx_D} {h0 : sd_H} {nx k a g s : Nat} {S : st_S} {x y : Int32} (hB : G.2.1 ≤ o) (hR : dk_R S D) (hM : mo_R S Dm) (hT : st_okT S) (hH : st_okH S) (hG : st_okG S) (hN : (st_T S).Nodup) (hD : (st_gh S g).Nodup) (hV : st_okV S) (hg : g < (st_gl S).length) (hse : s = 436 + 3 * g + 1) (ht : tc_there S x y k a) (hfit : su_fit S k a g = true) : sd_Ct G mGS_leave 4 0 0 [.ref (o + 432), .int x, .int y, .ref (o + s)] (fx_h G.1.2 dk_S o D h0) nx (fx_is G.1.2 dk_S o h0 nx none (lf_P S k a g D)) := by
  refine sd_Ct_of (by decide) (Nat.le_of_ble_eq_true rfl) ?_
  obtain ⟨s1, s2⟩ := dk_gl_at hR.2.2.2.2.1 hg
  have g30 := hR.2.2.2.2.1.1
  have gm := hR.2.2.2.2.1.2.1
  obtain ⟨gt, gh⟩ := st_gl_lt hG hg
  have hW := hR.W
  have h64 := hR.2.1.1
  obtain ⟨m1, m2, m3, m4, -⟩ := hW.tm gt
  have hso_s : dk_so s := by rw [hse]; exact dk_gls (by omega)
  obtain ⟨s0, e0⟩ : ∃ t, t = 436 + 3 * (st_gl S).length + 1 := ⟨_, rfl⟩
  obtain ⟨u1, e1⟩ : ∃ t, t = 436 + 3 * ((st_gl S).length + 1) + 1 := ⟨_, rfl⟩
  have hso_s0 : dk_so s0 := by rw [e0]; exact dk_gls (by omega)
  have hso_u1 : dk_so u1 := by rw [e1]; exact dk_gls (by omega)
  rw [← hse] at s1 s2
  have hcp := lv_cp hM hG hg ht hfit
  have ghi : ls_g [] (-1) (st_gh S g) = st_gh S g := by
    rw [ls_g_nd _ [] (fun t q => by have := gh t q; omega) (by simpa using hD)]
    rfl
  have hb : ∀ {D1 D2 : fx_D}, (so_w D1 s0 (ls_g [] (-1) (st_gh S g)) ∧ ∀ x, x ≠ s0 → x ≠ s0 + 1 → ag D D1 x) → (so_w D2 u1 (ls_g [] (-1) (st_gh S g)) ∧ ∀ x, x ≠ u1 → x ≠ u1 + 1 → ag D1 D2 x) → ∃ c0 c1, lv_B S s0 u1 D (st_T S) (st_gh S g) (st_gh S g) c0 c1 D2 := by
    intro D1 D2 q1 q2
    rw [ghi] at q1 q2
    have a1 := q1.2
    have a2 := q2.2
    exact ⟨_, _, ts_T_lo (fun x hx => (a1 x (by omega) (by omega)).tr (a2 x (by omega) (by omega))) hW.2.1, ⟨[], by simp⟩, so_w_ag (a2 _ (by omega) (by omega)) (a2 _ (by omega) (by omega)) q1.1, q2.1, ⟨rfl, rfl⟩, by omega, fun x h1 h3 h4 => (a1 x (by omega) (by omega)).tr (a2 x (by omega) (by omega))⟩
  have hm1 : ∀ {D1 : fx_D}, (∀ x, x ≠ s0 → x ≠ s0 + 1 → ag D D1 x) → D1.2.1 432 3 = nI (st_gl S).length ∧ so_r D1 s (st_gh S g) := fun q => ⟨by rw [(q 432 (by omega) (by omega)).2.1]; exact gm, so_r_ag (q _ (by omega) (by omega)) (q _ (by omega) (by omega)) s1⟩
  have rb : ∀ {D1 T1 H0 H1 c0 c1}, lv_B S s0 u1 D T1 H0 H1 c0 c1 D1 → ∀ {t : Nat}, t < (st_T S).length → tm_row D1 (t + 1) (st_tm S t) ∧ tm_set D1 (t + 1) (st_tm S t) ∧ tl_wf (st_tm S t) ∧ t < T1.length ∧ T1.length ≤ 71 := fun {_ _ _ _ _ _} b {t} h => ts_tm b.1 b.2.1 h
  have fin : ∀ {D1 T1 H0 H1 c0 c1}, lv_B S s0 u1 D T1 H0 H1 c0 c1 D1 → lf_K S k a g T1 H0 H1 c0 c1 → lf_P S k a g D D1 := fun {_ _ _ _ _ _} b c => ⟨_, _, _, _, _, by rw [← e0, ← e1]; exact b, c⟩
  have len := hW.2.1.1
  obtain ⟨rfl, hh⟩ := ht

  rcases hh with ⟨rfl | rfl | rfl | rfl | rfl, rfl⟩ | ⟨rfl | rfl, rfl, ha⟩ | ⟨rfl, rfl, ha⟩ | ⟨rfl, rfl, ha⟩
  · skip
    obtain ⟨u, v1, v2⟩ : ∃ u : Nat, u < 2 ∧ (u = 1 ↔ (tl_at (st_tm S (st_gt S g)) 0).1 = 9) := by
      by_cases q : (tl_at (st_tm S (st_gt S g)) 0).1 = 9
      · exact ⟨1, by omega, by simp only [true_iff]; exact q⟩
      · exact ⟨0, by omega, fun e => absurd e (by decide), fun e => absurd e q⟩
    have t1' : u ≠ 0 → 1 < (su_m S g).length := fun q => (m3.two (by rw [v2.mp (by omega)]; rfl)).1
    refine sd_aload_n dGS_leave_0 rfl rfl ?_
    refine fx_getr 3 0 (1) dGS_leave_1 fGS_24 rfl rfl ?_
    refine fx_getr 8 1 (3) dGS_leave_4 fGS_102 rfl rfl ?_
    refine sd_aload_n dGS_leave_7 rfl rfl ?_
    refine fx_getiv (v := (nI (st_gt S g))) 6 2 dGS_leave_8 fGS_105 hso_s.1 rfl (s2) ?_
    refine fx_aald (st_gt S g) dGS_leave_11 rfl rfl rfl (by omega) (by decide) ?_
    refine sd_astore dGS_leave_12 (by decide) ?_
    refine sd_aload_n dGS_leave_14 rfl rfl ?_
    refine sd_aload_n dGS_leave_15 rfl rfl ?_
    refine sd_iconst (v := nI 0) dGS_leave_16 (by decide) ?_
    refine fx_cP 3 sR_GS [.ref (o + (s)), .int (nI (0))] [] dGS_leave_17 kGS_194 rfl rfl mGS_heir_v (c_GS_heir (j := 0) (s := s0) hB (by omega) gm (by omega) hso_s (by omega) s1) (by decide) (Nat.le_refl _) (Nat.le_refl _) (Nat.le_of_ble_eq_true rfl) rfl (fun D1 h1 => ?_)
    refine sd_astore dGS_leave_20 (by decide) ?_
    refine sd_aload_n dGS_leave_22 rfl rfl ?_
    refine sd_aload_n dGS_leave_23 rfl rfl ?_
    refine sd_iconst (v := nI 1) dGS_leave_24 (by decide) ?_
    refine fx_cP 3 sR_GS [.ref (o + (s)), .int (nI (1))] [] dGS_leave_25 kGS_194 rfl rfl mGS_heir_v (c_GS_heir (j := 1) (s := u1) hB (by omega) (hm1 h1.2).1 (by omega) hso_s (by omega) (hm1 h1.2).2) (by decide) (Nat.le_refl _) (Nat.le_refl _) (Nat.le_of_ble_eq_true rfl) rfl (fun D2 h2 => ?_)
    refine sd_astore dGS_leave_28 (by decide) ?_
    obtain ⟨c0, c1, b0⟩ := hb h1 h2
    refine sd_aload dGS_leave_30 rfl ?_
    refine fx_cV 7 sR_TM [] [] dGS_leave_32 kGS_108 rfl (dk_tm (by omega)) mTM_isEquation_v (c_TM_isEquation (b := u) (by omega) (rb b0 gt).1 m3.hd v1 v2) (by decide) (Nat.le_refl _) (Nat.le_refl _) (Nat.le_of_ble_eq_true rfl) rfl ?_
    refine nn_if_eq 46 dGS_leave_35 (by decide) (by omega) (fun c35 => ?_) (fun c35 => ?_)
    ·
      refine sd_iconst (v := nI 0) dGS_leave_46 (by decide) ?_
      refine sd_istore dGS_leave_47 (by decide) ?_
      refine sd_iload_n dGS_leave_49 rfl rfl ?_
      refine sd_tableOut 315 dGS_leave_50 (by decide) (by decide) ?_
      exact sd_vret dGS_leave_315 rfl (Nat.le_refl _) (Nat.le_refl _) ⟨rfl, rfl, _, rfl, fin b0 (lf_K0 rfl h64)⟩
    ·
      have t1 := t1' (by omega)
      refine sd_aload dGS_leave_38 rfl ?_
      refine fx_cV 7 sR_TM [] [] dGS_leave_40 kGS_113 rfl (dk_tm (by omega)) mTM_right_v (c_TM_right (by omega) (rb b0 gt).2.1 t1) (by decide) (Nat.le_refl _) (Nat.le_refl _) (Nat.le_of_ble_eq_true rfl) rfl ?_
      refine sd_goto 47 dGS_leave_43 (by decide) ?_
      refine sd_istore dGS_leave_47 (by decide) ?_
      refine sd_iload_n dGS_leave_49 rfl rfl ?_
      refine sd_tableOut 315 dGS_leave_50 (by decide) (by decide) ?_
      exact sd_vret dGS_leave_315 rfl (Nat.le_refl _) (Nat.le_refl _) ⟨rfl, rfl, _, rfl, fin b0 (lf_K0 rfl h64)⟩
  · skip
    obtain ⟨u, v1, v2⟩ : ∃ u : Nat, u < 2 ∧ (u = 1 ↔ (tl_at (st_tm S (st_gt S g)) 0).1 = 9) := by
      by_cases q : (tl_at (st_tm S (st_gt S g)) 0).1 = 9
      · exact ⟨1, by omega, by simp only [true_iff]; exact q⟩
      · exact ⟨0, by omega, fun e => absurd e (by decide), fun e => absurd e q⟩
    have t1' : u ≠ 0 → 1 < (su_m S g).length := fun q => (m3.two (by rw [v2.mp (by omega)]; rfl)).1
    refine sd_aload_n dGS_leave_0 rfl rfl ?_
    refine fx_getr 3 0 (1) dGS_leave_1 fGS_24 rfl rfl ?_
    refine fx_getr 8 1 (3) dGS_leave_4 fGS_102 rfl rfl ?_
    refine sd_aload_n dGS_leave_7 rfl rfl ?_
    refine fx_getiv (v := (nI (st_gt S g))) 6 2 dGS_leave_8 fGS_105 hso_s.1 rfl (s2) ?_
    refine fx_aald (st_gt S g) dGS_leave_11 rfl rfl rfl (by omega) (by decide) ?_
    refine sd_astore dGS_leave_12 (by decide) ?_
    refine sd_aload_n dGS_leave_14 rfl rfl ?_
    refine sd_aload_n dGS_leave_15 rfl rfl ?_
    refine sd_iconst (v := nI 0) dGS_leave_16 (by decide) ?_
    refine fx_cP 3 sR_GS [.ref (o + (s)), .int (nI (0))] [] dGS_leave_17 kGS_194 rfl rfl mGS_heir_v (c_GS_heir (j := 0) (s := s0) hB (by omega) gm (by omega) hso_s (by omega) s1) (by decide) (Nat.le_refl _) (Nat.le_refl _) (Nat.le_of_ble_eq_true rfl) rfl (fun D1 h1 => ?_)
    refine sd_astore dGS_leave_20 (by decide) ?_
    refine sd_aload_n dGS_leave_22 rfl rfl ?_
    refine sd_aload_n dGS_leave_23 rfl rfl ?_
    refine sd_iconst (v := nI 1) dGS_leave_24 (by decide) ?_
    refine fx_cP 3 sR_GS [.ref (o + (s)), .int (nI (1))] [] dGS_leave_25 kGS_194 rfl rfl mGS_heir_v (c_GS_heir (j := 1) (s := u1) hB (by omega) (hm1 h1.2).1 (by omega) hso_s (by omega) (hm1 h1.2).2) (by decide) (Nat.le_refl _) (Nat.le_refl _) (Nat.le_of_ble_eq_true rfl) rfl (fun D2 h2 => ?_)
    refine sd_astore dGS_leave_28 (by decide) ?_
    obtain ⟨c0, c1, b0⟩ := hb h1 h2
    refine sd_aload dGS_leave_30 rfl ?_
    refine fx_cV 7 sR_TM [] [] dGS_leave_32 kGS_108 rfl (dk_tm (by omega)) mTM_isEquation_v (c_TM_isEquation (b := u) (by omega) (rb b0 gt).1 m3.hd v1 v2) (by decide) (Nat.le_refl _) (Nat.le_refl _) (Nat.le_of_ble_eq_true rfl) rfl ?_
    refine nn_if_eq 46 dGS_leave_35 (by decide) (by omega) (fun c35 => ?_) (fun c35 => ?_)
    ·
      refine sd_iconst (v := nI 0) dGS_leave_46 (by decide) ?_
      refine sd_istore dGS_leave_47 (by decide) ?_
      refine sd_iload_n dGS_leave_49 rfl rfl ?_
      refine sd_tableOut 315 dGS_leave_50 (by decide) (by decide) ?_
      exact sd_vret dGS_leave_315 rfl (Nat.le_refl _) (Nat.le_refl _) ⟨rfl, rfl, _, rfl, fin b0 (lf_K0 rfl h64)⟩
    ·
      have t1 := t1' (by omega)
      refine sd_aload dGS_leave_38 rfl ?_
      refine fx_cV 7 sR_TM [] [] dGS_leave_40 kGS_113 rfl (dk_tm (by omega)) mTM_right_v (c_TM_right (by omega) (rb b0 gt).2.1 t1) (by decide) (Nat.le_refl _) (Nat.le_refl _) (Nat.le_of_ble_eq_true rfl) rfl ?_
      refine sd_goto 47 dGS_leave_43 (by decide) ?_
      refine sd_istore dGS_leave_47 (by decide) ?_
      refine sd_iload_n dGS_leave_49 rfl rfl ?_
      refine sd_tableOut 315 dGS_leave_50 (by decide) (by decide) ?_
      exact sd_vret dGS_leave_315 rfl (Nat.le_refl _) (Nat.le_refl _) ⟨rfl, rfl, _, rfl, fin b0 (lf_K0 rfl h64)⟩
  · have hf := hfit
    simp only [su_fit, Bool.and_eq_true, beq_iff_eq, tl_isE] at hf
    obtain ⟨⟨⟨h9, k1⟩, k2⟩, -⟩ := hf
    obtain ⟨t1, t2, t3⟩ := m3.two (by rw [show st_tm S (st_gt S g) = su_m S g from rfl, h9]; rfl)
    obtain ⟨p1, p2, -⟩ := tl_two_at (tl_ok_drop _ 1 1 m3.1 m3.2.1 t1) t1 (by rw [show st_tm S (st_gt S g) = su_m S g from rfl, k1]; rfl)
    obtain ⟨p3, p4, -⟩ := tl_two_at (tl_ok_drop _ 1 _ m3.1 m3.2.1 t2) t2 (by rw [show st_tm S (st_gt S g) = su_m S g from rfl, k2]; rfl)
    have l24 : (su_m S g).length ≤ 24 := m3.2.2
    have p3' : tl_end (su_m S g) 1 + 1 < (su_m S g).length := p3
    obtain ⟨r0, hr0⟩ : ∃ r : tl_T, r = (9, 4) :: (tl_part (su_m S g) 2 ++ tl_part (su_m S g) (tl_end (su_m S g) 1 + 1)) := ⟨_, rfl⟩
    obtain ⟨r1, hr1⟩ : ∃ r : tl_T, r = (9, 4) :: (tl_part (su_m S g) (tl_end (su_m S g) 2) ++ tl_part (su_m S g) (tl_end (su_m S g) (tl_end (su_m S g) 1 + 1))) := ⟨_, rfl⟩
    have hrow : lv_rows S 3 0 g = [r0, r1] := by rw [hr0, hr1]; rfl
    have le0 := ku_x_le (st_T S) r0
    refine sd_aload_n dGS_leave_0 rfl rfl ?_
    refine fx_getr 3 0 (1) dGS_leave_1 fGS_24 rfl rfl ?_
    refine fx_getr 8 1 (3) dGS_leave_4 fGS_102 rfl rfl ?_
    refine sd_aload_n dGS_leave_7 rfl rfl ?_
    refine fx_getiv (v := (nI (st_gt S g))) 6 2 dGS_leave_8 fGS_105 hso_s.1 rfl (s2) ?_
    refine fx_aald (st_gt S g) dGS_leave_11 rfl rfl rfl (by omega) (by decide) ?_
    refine sd_astore dGS_leave_12 (by decide) ?_
    refine sd_aload_n dGS_leave_14 rfl rfl ?_
    refine sd_aload_n dGS_leave_15 rfl rfl ?_
    refine sd_iconst (v := nI 0) dGS_leave_16 (by decide) ?_
    refine fx_cP 3 sR_GS [.ref (o + (s)), .int (nI (0))] [] dGS_leave_17 kGS_194 rfl rfl mGS_heir_v (c_GS_heir (j := 0) (s := s0) hB (by omega) gm (by omega) hso_s (by omega) s1) (by decide) (Nat.le_refl _) (Nat.le_refl _) (Nat.le_of_ble_eq_true rfl) rfl (fun D1 h1 => ?_)
    refine sd_astore dGS_leave_20 (by decide) ?_
    refine sd_aload_n dGS_leave_22 rfl rfl ?_
    refine sd_aload_n dGS_leave_23 rfl rfl ?_
    refine sd_iconst (v := nI 1) dGS_leave_24 (by decide) ?_
    refine fx_cP 3 sR_GS [.ref (o + (s)), .int (nI (1))] [] dGS_leave_25 kGS_194 rfl rfl mGS_heir_v (c_GS_heir (j := 1) (s := u1) hB (by omega) (hm1 h1.2).1 (by omega) hso_s (by omega) (hm1 h1.2).2) (by decide) (Nat.le_refl _) (Nat.le_refl _) (Nat.le_of_ble_eq_true rfl) rfl (fun D2 h2 => ?_)
    refine sd_astore dGS_leave_28 (by decide) ?_
    obtain ⟨c0, c1, b0⟩ := hb h1 h2
    refine sd_aload dGS_leave_30 rfl ?_
    refine fx_cV 7 sR_TM [] [] dGS_leave_32 kGS_108 rfl (dk_tm (by omega)) mTM_isEquation_v (c_TM_isEquation (b := 1) (by omega) (rb b0 gt).1 m3.hd (by omega) (by simp only [true_iff]; exact h9)) (by decide) (Nat.le_refl _) (Nat.le_refl _) (Nat.le_of_ble_eq_true rfl) rfl ?_
    refine nn_if_eq 46 dGS_leave_35 (by decide) (by decide) (fun c => absurd c (by decide)) (fun _ => ?_)
    refine sd_aload dGS_leave_38 rfl ?_
    refine fx_cV 7 sR_TM [] [] dGS_leave_40 kGS_113 rfl (dk_tm (by omega)) mTM_right_v (c_TM_right (by omega) (rb b0 gt).2.1 t1) (by decide) (Nat.le_refl _) (Nat.le_refl _) (Nat.le_of_ble_eq_true rfl) rfl ?_
    refine sd_goto 47 dGS_leave_43 (by decide) ?_
    refine sd_istore dGS_leave_47 (by decide) ?_
    refine sd_iload_n dGS_leave_49 rfl rfl ?_
    refine sd_tableIn (off := 92) 142 dGS_leave_50 (by decide) (by decide) (by decide) (by decide) ?_
    refine sd_aload dGS_leave_142 rfl ?_
    refine sd_aload_n dGS_leave_144 rfl rfl ?_
    refine fx_getr 3 0 (1) dGS_leave_145 fGS_24 rfl rfl ?_
    refine sd_aload dGS_leave_148 rfl ?_
    refine sd_iconst (v := nI 2) dGS_leave_150 (by decide) ?_
    refine sd_aload dGS_leave_151 rfl ?_
    refine sd_iload dGS_leave_153 rfl ?_
    refine sd_iconst (v := nI 1) dGS_leave_155 (by decide) ?_
    refine nn_iadd dGS_leave_156 ?_
    refine fx_cP 8 sR_TS [.ref (o + (tmo ((st_gt S g) + 1))), .int (nI (2)), .ref (o + (tmo ((st_gt S g) + 1))), .int (nI ((tl_end (su_m S g) 1) + 1))] [.ref (o + (s0))] dGS_leave_157 kGS_198 rfl rfl mTS_keepEquation_v (c_TS_kE (q := st_gt S g) (p := st_gt S g) (i := 2) (R := r0) hB b0.1 (by omega) gt (rb b0 gt).1 (rb b0 gt).2.1 p1 gt (rb b0 gt).1 (rb b0 gt).2.1 p3 hr0 (hcp _ (by rw [hrow]; simp))) (by decide) (Nat.le_refl _) (Nat.le_refl _) (Nat.le_of_ble_eq_true rfl) rfl (fun D3 h3 => ?_)
    have b1 := b0.ts (ku_x_pre _ _) h3
    refine fx_cP 6 sR_ST [.int (kp_x (st_T S) r0)] [] dGS_leave_160 kGS_55 rfl hso_s0.1 mST_conclude_v (c_ST_cx hB hso_s0 (by omega) b1.2.2.1) (by decide) (Nat.le_refl _) (Nat.le_refl _) (Nat.le_of_ble_eq_true rfl) rfl (fun D4 h4 => ?_)
    have b2 := b1.s0 h4.1 h4.2.1 (fun x q _ ↦ h4.2.2 x q)
    refine sd_aload dGS_leave_163 rfl ?_
    refine sd_aload_n dGS_leave_165 rfl rfl ?_
    refine fx_getr 3 0 (1) dGS_leave_166 fGS_24 rfl rfl ?_
    refine sd_aload dGS_leave_169 rfl ?_
    refine sd_aload dGS_leave_171 rfl ?_
    refine fx_getr 7 2 (tmo ((st_gt S g) + 1) + 3) dGS_leave_173 fGS_176 (dk_tm (by omega)) rfl ?_
    refine sd_iconst (v := nI 2) dGS_leave_176 (by decide) ?_
    refine fx_ialdv (v := (nI (tl_end (su_m S g) 2))) (2) dGS_leave_177 (dk_tm3 (by omega)) rfl (by omega) (by decide) ((rb b2 gt).2.1 2 p1) ?_
    refine sd_aload dGS_leave_178 rfl ?_
    refine sd_aload dGS_leave_180 rfl ?_
    refine fx_getr 7 2 (tmo ((st_gt S g) + 1) + 3) dGS_leave_182 fGS_176 (dk_tm (by omega)) rfl ?_
    refine sd_iload dGS_leave_185 rfl ?_
    refine sd_iconst (v := nI 1) dGS_leave_187 (by decide) ?_
    refine nn_iadd dGS_leave_188 ?_
    refine fx_ialdv (v := (nI (tl_end (su_m S g) (tl_end (su_m S g) 1 + 1)))) ((tl_end (su_m S g) 1) + 1) dGS_leave_189 (dk_tm3 (by omega)) rfl (by omega) (by decide) ((rb b2 gt).2.1 _ p3) ?_
    refine fx_cP 8 sR_TS [.ref (o + (tmo ((st_gt S g) + 1))), .int (nI (tl_end (su_m S g) 2)), .ref (o + (tmo ((st_gt S g) + 1))), .int (nI (tl_end (su_m S g) (tl_end (su_m S g) 1 + 1)))] [.ref (o + (u1))] dGS_leave_190 kGS_198 rfl rfl mTS_keepEquation_v (c_TS_kE (q := st_gt S g) (p := st_gt S g) (R := r1) hB b2.1 (by omega) (rb b2 gt).2.2.2.1 (rb b2 gt).1 (rb b2 gt).2.1 p2 (rb b2 gt).2.2.2.1 (rb b2 gt).1 (rb b2 gt).2.1 p4 hr1 (hcp _ (by rw [hrow]; simp))) (by decide) (Nat.le_refl _) (Nat.le_refl _) (Nat.le_of_ble_eq_true rfl) rfl (fun D5 h5 => ?_)
    have b3 := b2.ts (ku_x_pre _ _) h5
    refine fx_cP 6 sR_ST [.int (kp_x (ku_x (st_T S) r0) r1)] [] dGS_leave_193 kGS_55 rfl hso_u1.1 mST_conclude_v (c_ST_cx hB hso_u1 (by omega) b3.2.2.2.1) (by decide) (Nat.le_refl _) (Nat.le_refl _) (Nat.le_of_ble_eq_true rfl) rfl (fun D6 h6 => ?_)
    have b4 := b3.s1 h6.1 h6.2.1 (fun x q _ ↦ h6.2.2 x q)
    refine sd_goto 315 dGS_leave_196 (by decide) ?_
    exact sd_vret dGS_leave_315 rfl (Nat.le_refl _) (Nat.le_refl _) ⟨rfl, rfl, _, rfl, fin b4 (lf_K2 (Or.inr rfl) hrow h64)⟩
  · skip
    obtain ⟨u, v1, v2⟩ : ∃ u : Nat, u < 2 ∧ (u = 1 ↔ (tl_at (st_tm S (st_gt S g)) 0).1 = 9) := by
      by_cases q : (tl_at (st_tm S (st_gt S g)) 0).1 = 9
      · exact ⟨1, by omega, by simp only [true_iff]; exact q⟩
      · exact ⟨0, by omega, fun e => absurd e (by decide), fun e => absurd e q⟩
    have t1' : u ≠ 0 → 1 < (su_m S g).length := fun q => (m3.two (by rw [v2.mp (by omega)]; rfl)).1
    refine sd_aload_n dGS_leave_0 rfl rfl ?_
    refine fx_getr 3 0 (1) dGS_leave_1 fGS_24 rfl rfl ?_
    refine fx_getr 8 1 (3) dGS_leave_4 fGS_102 rfl rfl ?_
    refine sd_aload_n dGS_leave_7 rfl rfl ?_
    refine fx_getiv (v := (nI (st_gt S g))) 6 2 dGS_leave_8 fGS_105 hso_s.1 rfl (s2) ?_
    refine fx_aald (st_gt S g) dGS_leave_11 rfl rfl rfl (by omega) (by decide) ?_
    refine sd_astore dGS_leave_12 (by decide) ?_
    refine sd_aload_n dGS_leave_14 rfl rfl ?_
    refine sd_aload_n dGS_leave_15 rfl rfl ?_
    refine sd_iconst (v := nI 0) dGS_leave_16 (by decide) ?_
    refine fx_cP 3 sR_GS [.ref (o + (s)), .int (nI (0))] [] dGS_leave_17 kGS_194 rfl rfl mGS_heir_v (c_GS_heir (j := 0) (s := s0) hB (by omega) gm (by omega) hso_s (by omega) s1) (by decide) (Nat.le_refl _) (Nat.le_refl _) (Nat.le_of_ble_eq_true rfl) rfl (fun D1 h1 => ?_)
    refine sd_astore dGS_leave_20 (by decide) ?_
    refine sd_aload_n dGS_leave_22 rfl rfl ?_
    refine sd_aload_n dGS_leave_23 rfl rfl ?_
    refine sd_iconst (v := nI 1) dGS_leave_24 (by decide) ?_
    refine fx_cP 3 sR_GS [.ref (o + (s)), .int (nI (1))] [] dGS_leave_25 kGS_194 rfl rfl mGS_heir_v (c_GS_heir (j := 1) (s := u1) hB (by omega) (hm1 h1.2).1 (by omega) hso_s (by omega) (hm1 h1.2).2) (by decide) (Nat.le_refl _) (Nat.le_refl _) (Nat.le_of_ble_eq_true rfl) rfl (fun D2 h2 => ?_)
    refine sd_astore dGS_leave_28 (by decide) ?_
    obtain ⟨c0, c1, b0⟩ := hb h1 h2
    refine sd_aload dGS_leave_30 rfl ?_
    refine fx_cV 7 sR_TM [] [] dGS_leave_32 kGS_108 rfl (dk_tm (by omega)) mTM_isEquation_v (c_TM_isEquation (b := u) (by omega) (rb b0 gt).1 m3.hd v1 v2) (by decide) (Nat.le_refl _) (Nat.le_refl _) (Nat.le_of_ble_eq_true rfl) rfl ?_
    refine nn_if_eq 46 dGS_leave_35 (by decide) (by omega) (fun c35 => ?_) (fun c35 => ?_)
    ·
      refine sd_iconst (v := nI 0) dGS_leave_46 (by decide) ?_
      refine sd_istore dGS_leave_47 (by decide) ?_
      refine sd_iload_n dGS_leave_49 rfl rfl ?_
      refine sd_tableIn (off := 265) 315 dGS_leave_50 (by decide) (by decide) (by decide) (by decide) ?_
      exact sd_vret dGS_leave_315 rfl (Nat.le_refl _) (Nat.le_refl _) ⟨rfl, rfl, _, rfl, fin b0 (lf_K0 rfl h64)⟩
    ·
      have t1 := t1' (by omega)
      refine sd_aload dGS_leave_38 rfl ?_
      refine fx_cV 7 sR_TM [] [] dGS_leave_40 kGS_113 rfl (dk_tm (by omega)) mTM_right_v (c_TM_right (by omega) (rb b0 gt).2.1 t1) (by decide) (Nat.le_refl _) (Nat.le_refl _) (Nat.le_of_ble_eq_true rfl) rfl ?_
      refine sd_goto 47 dGS_leave_43 (by decide) ?_
      refine sd_istore dGS_leave_47 (by decide) ?_
      refine sd_iload_n dGS_leave_49 rfl rfl ?_
      refine sd_tableIn (off := 265) 315 dGS_leave_50 (by decide) (by decide) (by decide) (by decide) ?_
      exact sd_vret dGS_leave_315 rfl (Nat.le_refl _) (Nat.le_refl _) ⟨rfl, rfl, _, rfl, fin b0 (lf_K0 rfl h64)⟩
  · have hf := hfit
    simp only [su_fit, Bool.and_eq_true, beq_iff_eq, tl_isE] at hf
    obtain ⟨h9, -⟩ := hf
    obtain ⟨t1, t2, t3⟩ := m3.two (by rw [show st_tm S (st_gt S g) = su_m S g from rfl, h9]; rfl)
    obtain ⟨r0, hr0⟩ : ∃ r : tl_T, r = tl_part (su_m S g) (tl_end (su_m S g) 1) := ⟨_, rfl⟩
    obtain ⟨r1, hr1⟩ : ∃ r : tl_T, r = tl_part (su_m S g) 1 := ⟨_, rfl⟩
    have hrow : lv_rows S 7 0 g = [r0, r1] := by rw [hr0, hr1]; rfl
    have l0 : r0.length ≤ 24 := by rw [hr0]; exact (tl_part_wf m3 t2).2.2
    have l1 : r1.length ≤ 24 := by rw [hr1]; exact (tl_part_wf m3 t1).2.2
    have le0 := tl_ku_le (st_T S) r0
    have le1 := tl_ku_le (tl_ku (st_T S) r0) r1
    have kl0 := tl_kp_lle (st_T S) r0
    have kl1 := tl_kp_lle (tl_ku (st_T S) r0) r1
    obtain ⟨Y, y1, -⟩ := tl_ku_pre (tl_ku (st_T S) r0) r1
    have ix := idx_app (X := Y) (tl_ku_idx (st_T S) r0)
    rw [← y1] at ix
    obtain ⟨i1, i2⟩ := tl_k_idx ix
    have kP : ∀ {D1 : fx_D} {T1 : List tl_T} {i : Nat} {R : tl_T}, R = tl_part (su_m S g) i → ts_T D1 T1 → T1.length ≤ 70 → st_gt S g < T1.length → tm_row D1 (st_gt S g + 1) (su_m S g) → tm_set D1 (st_gt S g + 1) (su_m S g) → i < (su_m S g).length → sd_Ct G mTS_keepPart 3 0 0 [.ref (o + 1), .ref (o + tmo (st_gt S g + 1)), .int (nI i)] (fx_h G.1.2 dk_S o D1 h0) nx (fx_is G.1.2 dk_S o h0 nx (some (.int (nI (tl_kp T1 R)))) (fun D' => ts_T D' (tl_ku T1 R) ∧ ts_f D1 D')) := by
      intro D1 T1 i R e hT1 hN1 h1 hr hs hi
      subst e
      exact c_TS_keepPart hB hT1 hN1 (by omega) (by omega) hr hs m3 hi
    refine sd_aload_n dGS_leave_0 rfl rfl ?_
    refine fx_getr 3 0 (1) dGS_leave_1 fGS_24 rfl rfl ?_
    refine fx_getr 8 1 (3) dGS_leave_4 fGS_102 rfl rfl ?_
    refine sd_aload_n dGS_leave_7 rfl rfl ?_
    refine fx_getiv (v := (nI (st_gt S g))) 6 2 dGS_leave_8 fGS_105 hso_s.1 rfl (s2) ?_
    refine fx_aald (st_gt S g) dGS_leave_11 rfl rfl rfl (by omega) (by decide) ?_
    refine sd_astore dGS_leave_12 (by decide) ?_
    refine sd_aload_n dGS_leave_14 rfl rfl ?_
    refine sd_aload_n dGS_leave_15 rfl rfl ?_
    refine sd_iconst (v := nI 0) dGS_leave_16 (by decide) ?_
    refine fx_cP 3 sR_GS [.ref (o + (s)), .int (nI (0))] [] dGS_leave_17 kGS_194 rfl rfl mGS_heir_v (c_GS_heir (j := 0) (s := s0) hB (by omega) gm (by omega) hso_s (by omega) s1) (by decide) (Nat.le_refl _) (Nat.le_refl _) (Nat.le_of_ble_eq_true rfl) rfl (fun D1 h1 => ?_)
    refine sd_astore dGS_leave_20 (by decide) ?_
    refine sd_aload_n dGS_leave_22 rfl rfl ?_
    refine sd_aload_n dGS_leave_23 rfl rfl ?_
    refine sd_iconst (v := nI 1) dGS_leave_24 (by decide) ?_
    refine fx_cP 3 sR_GS [.ref (o + (s)), .int (nI (1))] [] dGS_leave_25 kGS_194 rfl rfl mGS_heir_v (c_GS_heir (j := 1) (s := u1) hB (by omega) (hm1 h1.2).1 (by omega) hso_s (by omega) (hm1 h1.2).2) (by decide) (Nat.le_refl _) (Nat.le_refl _) (Nat.le_of_ble_eq_true rfl) rfl (fun D2 h2 => ?_)
    refine sd_astore dGS_leave_28 (by decide) ?_
    obtain ⟨c0, c1, b0⟩ := hb h1 h2
    refine sd_aload dGS_leave_30 rfl ?_
    refine fx_cV 7 sR_TM [] [] dGS_leave_32 kGS_108 rfl (dk_tm (by omega)) mTM_isEquation_v (c_TM_isEquation (b := 1) (by omega) (rb b0 gt).1 m3.hd (by omega) (by simp only [true_iff]; exact h9)) (by decide) (Nat.le_refl _) (Nat.le_refl _) (Nat.le_of_ble_eq_true rfl) rfl ?_
    refine nn_if_eq 46 dGS_leave_35 (by decide) (by decide) (fun c => absurd c (by decide)) (fun _ => ?_)
    refine sd_aload dGS_leave_38 rfl ?_
    refine fx_cV 7 sR_TM [] [] dGS_leave_40 kGS_113 rfl (dk_tm (by omega)) mTM_right_v (c_TM_right (by omega) (rb b0 gt).2.1 t1) (by decide) (Nat.le_refl _) (Nat.le_refl _) (Nat.le_of_ble_eq_true rfl) rfl ?_
    refine sd_goto 47 dGS_leave_43 (by decide) ?_
    refine sd_istore dGS_leave_47 (by decide) ?_
    refine sd_iload_n dGS_leave_49 rfl rfl ?_
    refine sd_tableIn (off := 205) 255 dGS_leave_50 (by decide) (by decide) (by decide) (by decide) ?_
    refine sd_aload dGS_leave_255 rfl ?_
    refine sd_aload_n dGS_leave_257 rfl rfl ?_
    refine fx_getr 3 0 (1) dGS_leave_258 fGS_24 rfl rfl ?_
    refine sd_aload dGS_leave_261 rfl ?_
    refine sd_iload dGS_leave_263 rfl ?_
    refine fx_cP 8 sR_TS [.ref (o + (tmo ((st_gt S g) + 1))), .int (nI (tl_end (su_m S g) 1))] [.ref (o + (s0))] dGS_leave_265 kGS_210 rfl rfl mTS_keepPart_v ((kP hr0 b0.1 (by omega) gt (rb b0 gt).1 (rb b0 gt).2.1 t2)) (by decide) (Nat.le_refl _) (Nat.le_refl _) (Nat.le_of_ble_eq_true rfl) rfl (fun D3 h3 => ?_)
    have b1 := b0.ts (tl_ku_pre _ _) h3
    refine fx_cP 6 sR_ST [.int (nI (tl_kp (st_T S) r0))] [] dGS_leave_268 kGS_214 rfl hso_s0.1 mST_assume_v (c_ST_assume hB hso_s0 b1.2.2.1 (by omega)) (by decide) (Nat.le_refl _) (Nat.le_refl _) (Nat.le_of_ble_eq_true rfl) rfl (fun D4 h4 => ?_)
    have b2 := b1.s0 h4.1 rfl (fun x q q2 ↦ h4.2.ag q q2)
    refine sd_aload dGS_leave_271 rfl ?_
    refine sd_aload_n dGS_leave_273 rfl rfl ?_
    refine fx_getr 3 0 (1) dGS_leave_274 fGS_24 rfl rfl ?_
    refine sd_aload dGS_leave_277 rfl ?_
    refine sd_iconst (v := nI 1) dGS_leave_279 (by decide) ?_
    refine fx_cP 8 sR_TS [.ref (o + (tmo ((st_gt S g) + 1))), .int (nI (1))] [.ref (o + (s0))] dGS_leave_280 kGS_210 rfl rfl mTS_keepPart_v ((kP hr1 b2.1 (by omega) (rb b2 gt).2.2.2.1 (rb b2 gt).1 (rb b2 gt).2.1 t1)) (by decide) (Nat.le_refl _) (Nat.le_refl _) (Nat.le_of_ble_eq_true rfl) rfl (fun D5 h5 => ?_)
    have b3 := b2.ts (tl_ku_pre _ _) h5
    refine fx_cV 6 sR_ST [.int (nI (tl_kp (tl_ku (st_T S) r0) r1))] [] dGS_leave_283 kGS_55 rfl hso_s0.1 mST_conclude_v (c_ST_conclude hB hso_s0 (by omega)) (by decide) (Nat.le_refl _) (Nat.le_refl _) (Nat.le_of_ble_eq_true rfl) rfl ?_
    have b4 := b3.s0 (D2 := fx_uf D5 s0 2 (nI (tl_kp (tl_ku (st_T S) r0) r1))) (so_w_uf2 b3.2.2.1) (show _ = nI (tl_kp (tl_ku (st_T S) r0) r1) by simp [fx_uf, upd]) (fun x q _ ↦ ag_uf q)
    refine sd_aload dGS_leave_286 rfl ?_
    refine sd_aload dGS_leave_288 rfl ?_
    refine fx_getiv (v := (nI (tl_kp (tl_ku (st_T S) r0) r1))) 6 2 dGS_leave_290 fGS_105 hso_s0.1 rfl (b4.2.2.2.2.1.1) ?_
    refine fx_cP 6 sR_ST [.int (nI (tl_kp (tl_ku (st_T S) r0) r1))] [] dGS_leave_293 kGS_214 rfl hso_u1.1 mST_assume_v (c_ST_assume hB hso_u1 b4.2.2.2.1 (by omega)) (by decide) (Nat.le_refl _) (Nat.le_refl _) (Nat.le_of_ble_eq_true rfl) rfl (fun D6 h6 => ?_)
    have b5 := b4.s1 h6.1 rfl (fun x q q2 ↦ h6.2.ag q q2)
    refine sd_aload dGS_leave_296 rfl ?_
    refine sd_aload_n dGS_leave_298 rfl rfl ?_
    refine fx_getr 3 0 (1) dGS_leave_299 fGS_24 rfl rfl ?_
    refine sd_aload dGS_leave_302 rfl ?_
    refine sd_iload dGS_leave_304 rfl ?_
    refine fx_cP 8 sR_TS [.ref (o + (tmo ((st_gt S g) + 1))), .int (nI (tl_end (su_m S g) 1))] [.ref (o + (u1))] dGS_leave_306 kGS_210 rfl rfl mTS_keepPart_v ((kP hr0 b5.1 (by omega) (rb b5 gt).2.2.2.1 (rb b5 gt).1 (rb b5 gt).2.1 t2)) (by decide) (Nat.le_refl _) (Nat.le_refl _) (Nat.le_of_ble_eq_true rfl) rfl (fun D7 h7 => ?_)
    have b6 := b5.ts (tl_ku_pre _ _) h7
    refine fx_cV 6 sR_ST [.int (nI (tl_kp (tl_ku (tl_ku (st_T S) r0) r1) r0))] [] dGS_leave_309 kGS_55 rfl hso_u1.1 mST_conclude_v (c_ST_conclude hB hso_u1 (by omega)) (by decide) (Nat.le_refl _) (Nat.le_refl _) (Nat.le_of_ble_eq_true rfl) rfl ?_
    have b7 := b6.s1 (D2 := fx_uf D7 u1 2 (nI (tl_kp (tl_ku (tl_ku (st_T S) r0) r1) r0))) (so_w_uf2 b6.2.2.2.1) (show _ = nI (tl_kp (st_T S) r0) by simp [fx_uf, upd, i1]) (fun x q _ ↦ ag_uf q)
    rw [i2] at b7
    refine sd_goto 315 dGS_leave_312 (by decide) ?_
    exact sd_vret dGS_leave_315 rfl (Nat.le_refl _) (Nat.le_refl _) ⟨rfl, rfl, _, rfl, fin b7 (lf_K7 hrow l0 l1 h64)⟩
  · have hf := hfit
    simp only [su_fit, Bool.and_eq_true, beq_iff_eq, tl_isE] at hf
    obtain ⟨h9, -⟩ := hf
    obtain ⟨t1, t2, t3⟩ := m3.two (by rw [show st_tm S (st_gt S g) = su_m S g from rfl, h9]; rfl)
    have n3 := (hW.tm ha).2.2.1
    obtain ⟨r0, hr0⟩ : ∃ r : tl_T, r = (9, 4) :: (tl_part (su_m S g) 1 ++ st_tm S a) := ⟨_, rfl⟩
    obtain ⟨r1, hr1⟩ : ∃ r : tl_T, r = (9, 4) :: (st_tm S a ++ tl_part (su_m S g) (tl_end (su_m S g) 1)) := ⟨_, rfl⟩
    have hrow : lv_rows S 2 a g = [r0, r1] := by rw [hr0, hr1]; rfl
    have le0 := ku_x_le (st_T S) r0
    refine sd_aload_n dGS_leave_0 rfl rfl ?_
    refine fx_getr 3 0 (1) dGS_leave_1 fGS_24 rfl rfl ?_
    refine fx_getr 8 1 (3) dGS_leave_4 fGS_102 rfl rfl ?_
    refine sd_aload_n dGS_leave_7 rfl rfl ?_
    refine fx_getiv (v := (nI (st_gt S g))) 6 2 dGS_leave_8 fGS_105 hso_s.1 rfl (s2) ?_
    refine fx_aald (st_gt S g) dGS_leave_11 rfl rfl rfl (by omega) (by decide) ?_
    refine sd_astore dGS_leave_12 (by decide) ?_
    refine sd_aload_n dGS_leave_14 rfl rfl ?_
    refine sd_aload_n dGS_leave_15 rfl rfl ?_
    refine sd_iconst (v := nI 0) dGS_leave_16 (by decide) ?_
    refine fx_cP 3 sR_GS [.ref (o + (s)), .int (nI (0))] [] dGS_leave_17 kGS_194 rfl rfl mGS_heir_v (c_GS_heir (j := 0) (s := s0) hB (by omega) gm (by omega) hso_s (by omega) s1) (by decide) (Nat.le_refl _) (Nat.le_refl _) (Nat.le_of_ble_eq_true rfl) rfl (fun D1 h1 => ?_)
    refine sd_astore dGS_leave_20 (by decide) ?_
    refine sd_aload_n dGS_leave_22 rfl rfl ?_
    refine sd_aload_n dGS_leave_23 rfl rfl ?_
    refine sd_iconst (v := nI 1) dGS_leave_24 (by decide) ?_
    refine fx_cP 3 sR_GS [.ref (o + (s)), .int (nI (1))] [] dGS_leave_25 kGS_194 rfl rfl mGS_heir_v (c_GS_heir (j := 1) (s := u1) hB (by omega) (hm1 h1.2).1 (by omega) hso_s (by omega) (hm1 h1.2).2) (by decide) (Nat.le_refl _) (Nat.le_refl _) (Nat.le_of_ble_eq_true rfl) rfl (fun D2 h2 => ?_)
    refine sd_astore dGS_leave_28 (by decide) ?_
    obtain ⟨c0, c1, b0⟩ := hb h1 h2
    refine sd_aload dGS_leave_30 rfl ?_
    refine fx_cV 7 sR_TM [] [] dGS_leave_32 kGS_108 rfl (dk_tm (by omega)) mTM_isEquation_v (c_TM_isEquation (b := 1) (by omega) (rb b0 gt).1 m3.hd (by omega) (by simp only [true_iff]; exact h9)) (by decide) (Nat.le_refl _) (Nat.le_refl _) (Nat.le_of_ble_eq_true rfl) rfl ?_
    refine nn_if_eq 46 dGS_leave_35 (by decide) (by decide) (fun c => absurd c (by decide)) (fun _ => ?_)
    refine sd_aload dGS_leave_38 rfl ?_
    refine fx_cV 7 sR_TM [] [] dGS_leave_40 kGS_113 rfl (dk_tm (by omega)) mTM_right_v (c_TM_right (by omega) (rb b0 gt).2.1 t1) (by decide) (Nat.le_refl _) (Nat.le_refl _) (Nat.le_of_ble_eq_true rfl) rfl ?_
    refine sd_goto 47 dGS_leave_43 (by decide) ?_
    refine sd_istore dGS_leave_47 (by decide) ?_
    refine sd_iload_n dGS_leave_49 rfl rfl ?_
    refine sd_tableIn (off := 38) 88 dGS_leave_50 (by decide) (by decide) (by decide) (by decide) ?_
    refine sd_aload dGS_leave_88 rfl ?_
    refine sd_aload_n dGS_leave_90 rfl rfl ?_
    refine fx_getr 3 0 (1) dGS_leave_91 fGS_24 rfl rfl ?_
    refine sd_aload dGS_leave_94 rfl ?_
    refine sd_iconst (v := nI 1) dGS_leave_96 (by decide) ?_
    refine sd_aload_n dGS_leave_97 rfl rfl ?_
    refine fx_getr 3 0 (1) dGS_leave_98 fGS_24 rfl rfl ?_
    refine fx_getr 8 1 (3) dGS_leave_101 fGS_102 rfl rfl ?_
    refine sd_iload_n dGS_leave_104 rfl rfl ?_
    refine fx_aald (a) dGS_leave_105 rfl rfl rfl (by omega) (by decide) ?_
    refine sd_iconst (v := nI 0) dGS_leave_106 (by decide) ?_
    refine fx_cP 8 sR_TS [.ref (o + (tmo ((st_gt S g) + 1))), .int (nI (1)), .ref (o + (tmo ((a) + 1))), .int (nI (0))] [.ref (o + (s0))] dGS_leave_107 kGS_198 rfl rfl mTS_keepEquation_v (c_TS_kE (q := st_gt S g) (p := a) (i := 1) (j := 0) (R := r0) hB b0.1 (by omega) gt (rb b0 gt).1 (rb b0 gt).2.1 t1 ha (rb b0 ha).1 (rb b0 ha).2.1 n3.pos (by rw [n3.part]; exact hr0) (hcp _ (by rw [hrow]; simp))) (by decide) (Nat.le_refl _) (Nat.le_refl _) (Nat.le_of_ble_eq_true rfl) rfl (fun D3 h3 => ?_)
    have b1 := b0.ts (ku_x_pre _ _) h3
    refine fx_cP 6 sR_ST [.int (kp_x (st_T S) r0)] [] dGS_leave_110 kGS_55 rfl hso_s0.1 mST_conclude_v (c_ST_cx hB hso_s0 (by omega) b1.2.2.1) (by decide) (Nat.le_refl _) (Nat.le_refl _) (Nat.le_of_ble_eq_true rfl) rfl (fun D4 h4 => ?_)
    have b2 := b1.s0 h4.1 h4.2.1 (fun x q _ ↦ h4.2.2 x q)
    refine sd_aload dGS_leave_113 rfl ?_
    refine sd_aload_n dGS_leave_115 rfl rfl ?_
    refine fx_getr 3 0 (1) dGS_leave_116 fGS_24 rfl rfl ?_
    refine sd_aload_n dGS_leave_119 rfl rfl ?_
    refine fx_getr 3 0 (1) dGS_leave_120 fGS_24 rfl rfl ?_
    refine fx_getr 8 1 (3) dGS_leave_123 fGS_102 rfl rfl ?_
    refine sd_iload_n dGS_leave_126 rfl rfl ?_
    refine fx_aald (a) dGS_leave_127 rfl rfl rfl (by omega) (by decide) ?_
    refine sd_iconst (v := nI 0) dGS_leave_128 (by decide) ?_
    refine sd_aload dGS_leave_129 rfl ?_
    refine sd_iload dGS_leave_131 rfl ?_
    refine fx_cP 8 sR_TS [.ref (o + (tmo ((a) + 1))), .int (nI (0)), .ref (o + (tmo ((st_gt S g) + 1))), .int (nI (tl_end (su_m S g) 1))] [.ref (o + (u1))] dGS_leave_133 kGS_198 rfl rfl mTS_keepEquation_v (c_TS_kE (q := a) (p := st_gt S g) (i := 0) (R := r1) hB b2.1 (by omega) (rb b2 ha).2.2.2.1 (rb b2 ha).1 (rb b2 ha).2.1 n3.pos (rb b2 gt).2.2.2.1 (rb b2 gt).1 (rb b2 gt).2.1 t2 (by rw [n3.part]; exact hr1) (hcp _ (by rw [hrow]; simp))) (by decide) (Nat.le_refl _) (Nat.le_refl _) (Nat.le_of_ble_eq_true rfl) rfl (fun D5 h5 => ?_)
    have b3 := b2.ts (ku_x_pre _ _) h5
    refine fx_cP 6 sR_ST [.int (kp_x (ku_x (st_T S) r0) r1)] [] dGS_leave_136 kGS_55 rfl hso_u1.1 mST_conclude_v (c_ST_cx hB hso_u1 (by omega) b3.2.2.2.1) (by decide) (Nat.le_refl _) (Nat.le_refl _) (Nat.le_of_ble_eq_true rfl) rfl (fun D6 h6 => ?_)
    have b4 := b3.s1 h6.1 h6.2.1 (fun x q _ ↦ h6.2.2 x q)
    refine sd_goto 315 dGS_leave_139 (by decide) ?_
    exact sd_vret dGS_leave_315 rfl (Nat.le_refl _) (Nat.le_refl _) ⟨rfl, rfl, _, rfl, fin b4 (lf_K2 (Or.inl rfl) hrow h64)⟩
  · skip
    obtain ⟨u, v1, v2⟩ : ∃ u : Nat, u < 2 ∧ (u = 1 ↔ (tl_at (st_tm S (st_gt S g)) 0).1 = 9) := by
      by_cases q : (tl_at (st_tm S (st_gt S g)) 0).1 = 9
      · exact ⟨1, by omega, by simp only [true_iff]; exact q⟩
      · exact ⟨0, by omega, fun e => absurd e (by decide), fun e => absurd e q⟩
    have t1' : u ≠ 0 → 1 < (su_m S g).length := fun q => (m3.two (by rw [v2.mp (by omega)]; rfl)).1
    have n3 := (hW.tm ha).2.2.1
    obtain ⟨r0, hr0⟩ : ∃ r : tl_T, r = (9, 4) :: (st_tm S a ++ su_m S g) := ⟨_, rfl⟩
    have hrow : lv_rows S 6 a g = [r0, st_tm S a] := by rw [hr0]; rfl
    have le0 := ku_x_le (st_T S) r0
    refine sd_aload_n dGS_leave_0 rfl rfl ?_
    refine fx_getr 3 0 (1) dGS_leave_1 fGS_24 rfl rfl ?_
    refine fx_getr 8 1 (3) dGS_leave_4 fGS_102 rfl rfl ?_
    refine sd_aload_n dGS_leave_7 rfl rfl ?_
    refine fx_getiv (v := (nI (st_gt S g))) 6 2 dGS_leave_8 fGS_105 hso_s.1 rfl (s2) ?_
    refine fx_aald (st_gt S g) dGS_leave_11 rfl rfl rfl (by omega) (by decide) ?_
    refine sd_astore dGS_leave_12 (by decide) ?_
    refine sd_aload_n dGS_leave_14 rfl rfl ?_
    refine sd_aload_n dGS_leave_15 rfl rfl ?_
    refine sd_iconst (v := nI 0) dGS_leave_16 (by decide) ?_
    refine fx_cP 3 sR_GS [.ref (o + (s)), .int (nI (0))] [] dGS_leave_17 kGS_194 rfl rfl mGS_heir_v (c_GS_heir (j := 0) (s := s0) hB (by omega) gm (by omega) hso_s (by omega) s1) (by decide) (Nat.le_refl _) (Nat.le_refl _) (Nat.le_of_ble_eq_true rfl) rfl (fun D1 h1 => ?_)
    refine sd_astore dGS_leave_20 (by decide) ?_
    refine sd_aload_n dGS_leave_22 rfl rfl ?_
    refine sd_aload_n dGS_leave_23 rfl rfl ?_
    refine sd_iconst (v := nI 1) dGS_leave_24 (by decide) ?_
    refine fx_cP 3 sR_GS [.ref (o + (s)), .int (nI (1))] [] dGS_leave_25 kGS_194 rfl rfl mGS_heir_v (c_GS_heir (j := 1) (s := u1) hB (by omega) (hm1 h1.2).1 (by omega) hso_s (by omega) (hm1 h1.2).2) (by decide) (Nat.le_refl _) (Nat.le_refl _) (Nat.le_of_ble_eq_true rfl) rfl (fun D2 h2 => ?_)
    refine sd_astore dGS_leave_28 (by decide) ?_
    obtain ⟨c0, c1, b0⟩ := hb h1 h2
    refine sd_aload dGS_leave_30 rfl ?_
    refine fx_cV 7 sR_TM [] [] dGS_leave_32 kGS_108 rfl (dk_tm (by omega)) mTM_isEquation_v (c_TM_isEquation (b := u) (by omega) (rb b0 gt).1 m3.hd v1 v2) (by decide) (Nat.le_refl _) (Nat.le_refl _) (Nat.le_of_ble_eq_true rfl) rfl ?_
    refine nn_if_eq 46 dGS_leave_35 (by decide) (by omega) (fun c35 => ?_) (fun c35 => ?_)
    ·
      refine sd_iconst (v := nI 0) dGS_leave_46 (by decide) ?_
      refine sd_istore dGS_leave_47 (by decide) ?_
      refine sd_iload_n dGS_leave_49 rfl rfl ?_
      refine sd_tableIn (off := 171) 221 dGS_leave_50 (by decide) (by decide) (by decide) (by decide) ?_
      refine sd_aload dGS_leave_221 rfl ?_
      refine sd_aload_n dGS_leave_223 rfl rfl ?_
      refine fx_getr 3 0 (1) dGS_leave_224 fGS_24 rfl rfl ?_
      refine sd_aload_n dGS_leave_227 rfl rfl ?_
      refine fx_getr 3 0 (1) dGS_leave_228 fGS_24 rfl rfl ?_
      refine fx_getr 8 1 (3) dGS_leave_231 fGS_102 rfl rfl ?_
      refine sd_iload_n dGS_leave_234 rfl rfl ?_
      refine fx_aald (a) dGS_leave_235 rfl rfl rfl (by omega) (by decide) ?_
      refine sd_iconst (v := nI 0) dGS_leave_236 (by decide) ?_
      refine sd_aload dGS_leave_237 rfl ?_
      refine sd_iconst (v := nI 0) dGS_leave_239 (by decide) ?_
      refine fx_cP 8 sR_TS [.ref (o + (tmo ((a) + 1))), .int (nI (0)), .ref (o + (tmo ((st_gt S g) + 1))), .int (nI (0))] [.ref (o + (s0))] dGS_leave_240 kGS_198 rfl rfl mTS_keepEquation_v (c_TS_kE (q := a) (p := st_gt S g) (i := 0) (j := 0) (R := r0) hB b0.1 (by omega) ha (rb b0 ha).1 (rb b0 ha).2.1 n3.pos gt (rb b0 gt).1 (rb b0 gt).2.1 m3.pos (by rw [n3.part, m3.part]; exact hr0) (hcp _ (by rw [hrow]; simp))) (by decide) (Nat.le_refl _) (Nat.le_refl _) (Nat.le_of_ble_eq_true rfl) rfl (fun D3 h3 => ?_)
      have b1 := b0.ts (ku_x_pre _ _) h3
      refine fx_cP 6 sR_ST [.int (kp_x (st_T S) r0)] [] dGS_leave_243 kGS_55 rfl hso_s0.1 mST_conclude_v (c_ST_cx hB hso_s0 (by omega) b1.2.2.1) (by decide) (Nat.le_refl _) (Nat.le_refl _) (Nat.le_of_ble_eq_true rfl) rfl (fun D4 h4 => ?_)
      have b2 := b1.s0 h4.1 h4.2.1 (fun x q _ ↦ h4.2.2 x q)
      refine sd_aload dGS_leave_246 rfl ?_
      refine sd_iload_n dGS_leave_248 rfl rfl ?_
      refine fx_cV 6 sR_ST [.int (nI (a))] [] dGS_leave_249 kGS_55 rfl hso_u1.1 mST_conclude_v (c_ST_conclude hB hso_u1 (by omega)) (by decide) (Nat.le_refl _) (Nat.le_refl _) (Nat.le_of_ble_eq_true rfl) rfl ?_
      have b3 := b2.s1 (D2 := fx_uf D4 u1 2 (nI a)) (so_w_uf2 b2.2.2.2.1) (show _ = nI a by simp [fx_uf, upd]) (fun x q _ ↦ ag_uf q)
      refine sd_goto 315 dGS_leave_252 (by decide) ?_
      exact sd_vret dGS_leave_315 rfl (Nat.le_refl _) (Nat.le_refl _) ⟨rfl, rfl, _, rfl, fin b3 (lf_K6 hrow hN (hW.tm ha).2.2.2.2 n3.2.2 h64)⟩
    ·
      have t1 := t1' (by omega)
      refine sd_aload dGS_leave_38 rfl ?_
      refine fx_cV 7 sR_TM [] [] dGS_leave_40 kGS_113 rfl (dk_tm (by omega)) mTM_right_v (c_TM_right (by omega) (rb b0 gt).2.1 t1) (by decide) (Nat.le_refl _) (Nat.le_refl _) (Nat.le_of_ble_eq_true rfl) rfl ?_
      refine sd_goto 47 dGS_leave_43 (by decide) ?_
      refine sd_istore dGS_leave_47 (by decide) ?_
      refine sd_iload_n dGS_leave_49 rfl rfl ?_
      refine sd_tableIn (off := 171) 221 dGS_leave_50 (by decide) (by decide) (by decide) (by decide) ?_
      refine sd_aload dGS_leave_221 rfl ?_
      refine sd_aload_n dGS_leave_223 rfl rfl ?_
      refine fx_getr 3 0 (1) dGS_leave_224 fGS_24 rfl rfl ?_
      refine sd_aload_n dGS_leave_227 rfl rfl ?_
      refine fx_getr 3 0 (1) dGS_leave_228 fGS_24 rfl rfl ?_
      refine fx_getr 8 1 (3) dGS_leave_231 fGS_102 rfl rfl ?_
      refine sd_iload_n dGS_leave_234 rfl rfl ?_
      refine fx_aald (a) dGS_leave_235 rfl rfl rfl (by omega) (by decide) ?_
      refine sd_iconst (v := nI 0) dGS_leave_236 (by decide) ?_
      refine sd_aload dGS_leave_237 rfl ?_
      refine sd_iconst (v := nI 0) dGS_leave_239 (by decide) ?_
      refine fx_cP 8 sR_TS [.ref (o + (tmo ((a) + 1))), .int (nI (0)), .ref (o + (tmo ((st_gt S g) + 1))), .int (nI (0))] [.ref (o + (s0))] dGS_leave_240 kGS_198 rfl rfl mTS_keepEquation_v (c_TS_kE (q := a) (p := st_gt S g) (i := 0) (j := 0) (R := r0) hB b0.1 (by omega) ha (rb b0 ha).1 (rb b0 ha).2.1 n3.pos gt (rb b0 gt).1 (rb b0 gt).2.1 m3.pos (by rw [n3.part, m3.part]; exact hr0) (hcp _ (by rw [hrow]; simp))) (by decide) (Nat.le_refl _) (Nat.le_refl _) (Nat.le_of_ble_eq_true rfl) rfl (fun D3 h3 => ?_)
      have b1 := b0.ts (ku_x_pre _ _) h3
      refine fx_cP 6 sR_ST [.int (kp_x (st_T S) r0)] [] dGS_leave_243 kGS_55 rfl hso_s0.1 mST_conclude_v (c_ST_cx hB hso_s0 (by omega) b1.2.2.1) (by decide) (Nat.le_refl _) (Nat.le_refl _) (Nat.le_of_ble_eq_true rfl) rfl (fun D4 h4 => ?_)
      have b2 := b1.s0 h4.1 h4.2.1 (fun x q _ ↦ h4.2.2 x q)
      refine sd_aload dGS_leave_246 rfl ?_
      refine sd_iload_n dGS_leave_248 rfl rfl ?_
      refine fx_cV 6 sR_ST [.int (nI (a))] [] dGS_leave_249 kGS_55 rfl hso_u1.1 mST_conclude_v (c_ST_conclude hB hso_u1 (by omega)) (by decide) (Nat.le_refl _) (Nat.le_refl _) (Nat.le_of_ble_eq_true rfl) rfl ?_
      have b3 := b2.s1 (D2 := fx_uf D4 u1 2 (nI a)) (so_w_uf2 b2.2.2.2.1) (show _ = nI a by simp [fx_uf, upd]) (fun x q _ ↦ ag_uf q)
      refine sd_goto 315 dGS_leave_252 (by decide) ?_
      exact sd_vret dGS_leave_315 rfl (Nat.le_refl _) (Nat.le_refl _) ⟨rfl, rfl, _, rfl, fin b3 (lf_K6 hrow hN (hW.tm ha).2.2.2.2 n3.2.2 h64)⟩
  · have hf := hfit
    simp only [su_fit, Bool.and_eq_true, beq_iff_eq, tl_isE] at hf
    obtain ⟨⟨⟨⟨⟨h9, k1⟩, k2⟩, k3⟩, -⟩, -⟩ := hf
    obtain ⟨t1, t2, t3⟩ := m3.two (by rw [show st_tm S (st_gt S g) = su_m S g from rfl, h9]; rfl)
    obtain ⟨p1, p2⟩ := (tl_end_ar (tl_ok_drop _ 1 1 m3.1 m3.2.1 t1) t1).2.1 (by rw [show st_tm S (st_gt S g) = su_m S g from rfl, k1]; rfl)
    obtain ⟨p3, p4⟩ := (tl_end_ar (tl_ok_drop _ 1 _ m3.1 m3.2.1 t2) t2).2.1 (by rw [show st_tm S (st_gt S g) = su_m S g from rfl, k2]; rfl)
    have na := hW.1 a ha
    obtain ⟨r0, hr0⟩ : ∃ r : tl_T, r = kb_L (su_m S g) a (st_nt S a) := ⟨_, rfl⟩
    have mem : su_m S g ∈ st_T S := List.mem_of_getElem? (hW.tm gt).2.2.2.2
    have one : ∀ i, (i = 1 ∨ i = tl_end (su_m S g) 1) → (tl_at (su_m S g) i).1 = 10 → tl_sub (tl_of (su_m S g) (i + 1) (.inl [(a, st_nt S a)])) (su_m S g) (i + 1) (tl_end (su_m S g) i - (i + 1)) = tl_fill (su_m S g) i (.inr a) := fun i hi h10 => by
      refine tl_sub_congr _ _ (fun j y q1 q2 q3 => ?_)
      unfold tl_of
      by_cases q : y.1 = 11 + tl_arn (su_m S g) j (i + 1) (j - (i + 1))
      · rw [if_pos q, if_pos q]
        have := hV _ mem (by simp [tl_isE, h9]) i hi h10 j y q1 (by omega) q3 q
        rw [this, k3]
      · rw [if_neg q, if_neg q]
    have hrow : lv_rows S 4 a g = [r0] := by
      rw [hr0]
      show [_] = [_]
      unfold kb_L
      have w1 := one 1 (Or.inl rfl) k1
      have w2 := one _ (Or.inr rfl) k2
      rw [show tl_end (su_m S g) 1 = tl_end (su_m S g) 2 from p2] at w1
      rw [show tl_end (su_m S g) (tl_end (su_m S g) 1) = tl_end (su_m S g) (tl_end (su_m S g) 1 + 1) from p4] at w2
      rw [w1, w2]
    have hcp0 := hcp r0 (by rw [hrow]; simp)
    have kB := fun {D1 : fx_D} {T1 : List tl_T} (hT1 : ts_T D1 T1) (hN1 : T1.length ≤ 70) (h1 : st_gt S g < T1.length) (hr : tm_row D1 (st_gt S g + 1) (su_m S g)) (hs : tm_set D1 (st_gt S g + 1) (su_m S g)) (hn : tm_row D1 0 [(a, st_nt S a)]) (sn : tm_set D1 0 [(a, st_nt S a)]) => c_GS_keepBodies (G := G) (o := o) (h0 := h0) (nx := nx) (q := st_gt S g + 1) hB hT1 hN1 (by omega) (by omega) (by omega) hr hs m3 h9 k1 k2 ha hn sn (by rw [← hr0]; exact fun q => ⟨hcp0.1, hcp0.2, q⟩)
    refine sd_aload_n dGS_leave_0 rfl rfl ?_
    refine fx_getr 3 0 (1) dGS_leave_1 fGS_24 rfl rfl ?_
    refine fx_getr 8 1 (3) dGS_leave_4 fGS_102 rfl rfl ?_
    refine sd_aload_n dGS_leave_7 rfl rfl ?_
    refine fx_getiv (v := (nI (st_gt S g))) 6 2 dGS_leave_8 fGS_105 hso_s.1 rfl (s2) ?_
    refine fx_aald (st_gt S g) dGS_leave_11 rfl rfl rfl (by omega) (by decide) ?_
    refine sd_astore dGS_leave_12 (by decide) ?_
    refine sd_aload_n dGS_leave_14 rfl rfl ?_
    refine sd_aload_n dGS_leave_15 rfl rfl ?_
    refine sd_iconst (v := nI 0) dGS_leave_16 (by decide) ?_
    refine fx_cP 3 sR_GS [.ref (o + (s)), .int (nI (0))] [] dGS_leave_17 kGS_194 rfl rfl mGS_heir_v (c_GS_heir (j := 0) (s := s0) hB (by omega) gm (by omega) hso_s (by omega) s1) (by decide) (Nat.le_refl _) (Nat.le_refl _) (Nat.le_of_ble_eq_true rfl) rfl (fun D1 h1 => ?_)
    refine sd_astore dGS_leave_20 (by decide) ?_
    refine sd_aload_n dGS_leave_22 rfl rfl ?_
    refine sd_aload_n dGS_leave_23 rfl rfl ?_
    refine sd_iconst (v := nI 1) dGS_leave_24 (by decide) ?_
    refine fx_cP 3 sR_GS [.ref (o + (s)), .int (nI (1))] [] dGS_leave_25 kGS_194 rfl rfl mGS_heir_v (c_GS_heir (j := 1) (s := u1) hB (by omega) (hm1 h1.2).1 (by omega) hso_s (by omega) (hm1 h1.2).2) (by decide) (Nat.le_refl _) (Nat.le_refl _) (Nat.le_of_ble_eq_true rfl) rfl (fun D2 h2 => ?_)
    refine sd_astore dGS_leave_28 (by decide) ?_
    obtain ⟨c0, c1, b0⟩ := hb h1 h2
    refine sd_aload dGS_leave_30 rfl ?_
    refine fx_cV 7 sR_TM [] [] dGS_leave_32 kGS_108 rfl (dk_tm (by omega)) mTM_isEquation_v (c_TM_isEquation (b := 1) (by omega) (rb b0 gt).1 m3.hd (by omega) (by simp only [true_iff]; exact h9)) (by decide) (Nat.le_refl _) (Nat.le_refl _) (Nat.le_of_ble_eq_true rfl) rfl ?_
    refine nn_if_eq 46 dGS_leave_35 (by decide) (by decide) (fun c => absurd c (by decide)) (fun _ => ?_)
    refine sd_aload dGS_leave_38 rfl ?_
    refine fx_cV 7 sR_TM [] [] dGS_leave_40 kGS_113 rfl (dk_tm (by omega)) mTM_right_v (c_TM_right (by omega) (rb b0 gt).2.1 t1) (by decide) (Nat.le_refl _) (Nat.le_refl _) (Nat.le_of_ble_eq_true rfl) rfl ?_
    refine sd_goto 47 dGS_leave_43 (by decide) ?_
    refine sd_istore dGS_leave_47 (by decide) ?_
    refine sd_iload_n dGS_leave_49 rfl rfl ?_
    refine sd_tableIn (off := 149) 199 dGS_leave_50 (by decide) (by decide) (by decide) (by decide) ?_
    refine sd_aload dGS_leave_199 rfl ?_
    refine sd_aload_n dGS_leave_201 rfl rfl ?_
    refine sd_aload dGS_leave_202 rfl ?_
    refine sd_aload_n dGS_leave_204 rfl rfl ?_
    refine fx_getr 3 0 (1) dGS_leave_205 fGS_24 rfl rfl ?_
    refine sd_iload_n dGS_leave_208 rfl rfl ?_
    refine fx_cP 8 sR_TS [.int (nI (a))] [.ref (o + (tmo ((st_gt S g) + 1))), .ref (o + (432)), .ref (o + (s0))] dGS_leave_209 kGS_202 rfl rfl mTS_nameRow_v (c_TS_nameRow hB ha na.2.1 (by rw [(b0.2.2.2.2.2.2 2 (by omega) (by omega) (by omega)).1]; exact na.1)) (by decide) (Nat.le_refl _) (Nat.le_refl _) (Nat.le_of_ble_eq_true rfl) rfl (fun D3 h3 => ?_)
    have b1 := b0.t0 h3.2.2
    refine fx_cP 3 sR_GS [.ref (o + (tmo ((st_gt S g) + 1))), .ref (o + (tmo (0)))] [.ref (o + (s0))] dGS_leave_212 kGS_206 rfl rfl mGS_keepBodies_v ((hr0 ▸ kB b1.1 (by omega) gt (rb b1 gt).1 (rb b1 gt).2.1 h3.1 h3.2.1)) (by decide) (Nat.le_refl _) (Nat.le_refl _) (Nat.le_of_ble_eq_true rfl) rfl (fun D4 h4 => ?_)
    have b2 := b1.ts (T2 := ku_x (st_T S) r0) (ku_x_pre _ _) h4
    refine fx_cP 6 sR_ST [.int (kp_x (st_T S) r0)] [] dGS_leave_215 kGS_55 rfl hso_s0.1 mST_conclude_v (c_ST_cx hB hso_s0 (by omega) b2.2.2.1) (by decide) (Nat.le_refl _) (Nat.le_refl _) (Nat.le_of_ble_eq_true rfl) rfl (fun D5 h5 => ?_)
    have b3 := b2.s0 h5.1 h5.2.1 (fun x q _ ↦ h5.2.2 x q)
    refine sd_goto 315 dGS_leave_218 (by decide) ?_
    exact sd_vret dGS_leave_315 rfl (Nat.le_refl _) (Nat.le_refl _) ⟨rfl, rfl, _, rfl, fin b3 (lf_K4 hrow h64)⟩
  · skip
    obtain ⟨u, v1, v2⟩ : ∃ u : Nat, u < 2 ∧ (u = 1 ↔ (tl_at (st_tm S (st_gt S g)) 0).1 = 9) := by
      by_cases q : (tl_at (st_tm S (st_gt S g)) 0).1 = 9
      · exact ⟨1, by omega, by simp only [true_iff]; exact q⟩
      · exact ⟨0, by omega, fun e => absurd e (by decide), fun e => absurd e q⟩
    have t1' : u ≠ 0 → 1 < (su_m S g).length := fun q => (m3.two (by rw [v2.mp (by omega)]; rfl)).1
    refine sd_aload_n dGS_leave_0 rfl rfl ?_
    refine fx_getr 3 0 (1) dGS_leave_1 fGS_24 rfl rfl ?_
    refine fx_getr 8 1 (3) dGS_leave_4 fGS_102 rfl rfl ?_
    refine sd_aload_n dGS_leave_7 rfl rfl ?_
    refine fx_getiv (v := (nI (st_gt S g))) 6 2 dGS_leave_8 fGS_105 hso_s.1 rfl (s2) ?_
    refine fx_aald (st_gt S g) dGS_leave_11 rfl rfl rfl (by omega) (by decide) ?_
    refine sd_astore dGS_leave_12 (by decide) ?_
    refine sd_aload_n dGS_leave_14 rfl rfl ?_
    refine sd_aload_n dGS_leave_15 rfl rfl ?_
    refine sd_iconst (v := nI 0) dGS_leave_16 (by decide) ?_
    refine fx_cP 3 sR_GS [.ref (o + (s)), .int (nI (0))] [] dGS_leave_17 kGS_194 rfl rfl mGS_heir_v (c_GS_heir (j := 0) (s := s0) hB (by omega) gm (by omega) hso_s (by omega) s1) (by decide) (Nat.le_refl _) (Nat.le_refl _) (Nat.le_of_ble_eq_true rfl) rfl (fun D1 h1 => ?_)
    refine sd_astore dGS_leave_20 (by decide) ?_
    refine sd_aload_n dGS_leave_22 rfl rfl ?_
    refine sd_aload_n dGS_leave_23 rfl rfl ?_
    refine sd_iconst (v := nI 1) dGS_leave_24 (by decide) ?_
    refine fx_cP 3 sR_GS [.ref (o + (s)), .int (nI (1))] [] dGS_leave_25 kGS_194 rfl rfl mGS_heir_v (c_GS_heir (j := 1) (s := u1) hB (by omega) (hm1 h1.2).1 (by omega) hso_s (by omega) (hm1 h1.2).2) (by decide) (Nat.le_refl _) (Nat.le_refl _) (Nat.le_of_ble_eq_true rfl) rfl (fun D2 h2 => ?_)
    refine sd_astore dGS_leave_28 (by decide) ?_
    obtain ⟨c0, c1, b0⟩ := hb h1 h2
    refine sd_aload dGS_leave_30 rfl ?_
    refine fx_cV 7 sR_TM [] [] dGS_leave_32 kGS_108 rfl (dk_tm (by omega)) mTM_isEquation_v (c_TM_isEquation (b := u) (by omega) (rb b0 gt).1 m3.hd v1 v2) (by decide) (Nat.le_refl _) (Nat.le_refl _) (Nat.le_of_ble_eq_true rfl) rfl ?_
    refine nn_if_eq 46 dGS_leave_35 (by decide) (by omega) (fun c35 => ?_) (fun c35 => ?_)
    ·
      refine sd_iconst (v := nI 0) dGS_leave_46 (by decide) ?_
      refine sd_istore dGS_leave_47 (by decide) ?_
      refine sd_iload_n dGS_leave_49 rfl rfl ?_
      refine sd_tableOut 315 dGS_leave_50 (by decide) (by decide) ?_
      exact sd_vret dGS_leave_315 rfl (Nat.le_refl _) (Nat.le_refl _) ⟨rfl, rfl, _, rfl, fin b0 (lf_K0 rfl h64)⟩
    ·
      have t1 := t1' (by omega)
      refine sd_aload dGS_leave_38 rfl ?_
      refine fx_cV 7 sR_TM [] [] dGS_leave_40 kGS_113 rfl (dk_tm (by omega)) mTM_right_v (c_TM_right (by omega) (rb b0 gt).2.1 t1) (by decide) (Nat.le_refl _) (Nat.le_refl _) (Nat.le_of_ble_eq_true rfl) rfl ?_
      refine sd_goto 47 dGS_leave_43 (by decide) ?_
      refine sd_istore dGS_leave_47 (by decide) ?_
      refine sd_iload_n dGS_leave_49 rfl rfl ?_
      refine sd_tableOut 315 dGS_leave_50 (by decide) (by decide) ?_
      exact sd_vret dGS_leave_315 rfl (Nat.le_refl _) (Nat.le_refl _) ⟨rfl, rfl, _, rfl, fin b0 (lf_K0 rfl h64)⟩
