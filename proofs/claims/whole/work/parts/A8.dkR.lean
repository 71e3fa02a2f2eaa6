/-! ===== what the class holds ===== -/
/-- on what theorem p rests, by the theorems alone -/
def rl (L : List st_Th) (p : Nat) : Nat := rs (fun _ => 0, [], [], L, [], [], []) p
theorem rs_m_th {S S' : st_S} (h : st_th S = st_th S') : ∀ f p, rs_m S f p = rs_m S' f p := by
  intro f
  induction f with
  | zero => intro p; rfl
  | succ f ih =>
    intro p
    have e1 : st_f1 S p = st_f1 S' p := by unfold st_f1; rw [h]
    have e2 : st_f2 S p = st_f2 S' p := by unfold st_f2; rw [h]
    have ih' : rs_m S f = rs_m S' f := funext ih
    unfold rs_m
    rw [e1, e2, ih']
theorem rs_rl (S : st_S) (p : Nat) : rs S p = rl (st_th S) p := rs_m_th (S := S) (S' := (fun _ => 0, [], [], st_th S, [], [], [])) rfl (p + 1) p
def dk_nt (D : fx_D) (nt : Nat → Nat) : Prop := ∀ v, v < 8 → D.1 2 v = nI (nt v) ∧ ty_ok (nt v)
def dk_tms (D : fx_D) (T : List tl_T) : Prop := T.length ≤ 64 ∧ ts_T D T
def dk_thm (D : fx_D) (L : List st_Th) : Prop := L.length ≤ 40 ∧ D.2.1 307 2 = nI L.length ∧ ∀ (p : Nat) (h : st_Th), L[p]? = some h → so_r D (309 + 3 * p + 1) h.2.1 ∧ D.2.1 (309 + 3 * p + 1) 2 = nI h.1 ∧ D.2.1 (309 + 3 * p) 1 = nI h.2.2.1 ∧ D.2.1 (309 + 3 * p) 2 = oi_I h.2.2.2.1 ∧ D.2.1 (309 + 3 * p) 3 = oi_I h.2.2.2.2 ∧ D.2.2 (309 + 3 * p) = lI (rl L p)
def dk_glL (D : fx_D) (L : List st_Gl) : Prop := L.length ≤ 30 ∧ D.2.1 432 3 = nI L.length ∧ ∀ (g : Nat) (q : st_Gl), L[g]? = some q → so_r D (436 + 3 * g + 1) q.2.1 ∧ D.2.1 (436 + 3 * g + 1) 2 = nI q.1 ∧ ∀ w, q.2.2 = some w → D.2.1 (436 + 3 * g) 1 = nI w.1 ∧ (w.1 = 8 → D.2.1 (436 + 3 * g) 2 = nI w.2.1) ∧ D.2.1 (436 + 3 * g) 3 = nI w.2.2
def dk_opn (D : fx_D) (L : List Nat) : Prop := L.length ≤ 30 ∧ D.2.1 432 5 = nI L.length ∧ ∀ (k g : Nat), L.reverse[k]? = some g → D.1 434 k = nI g
def dk_tkn (D : fx_D) (L : List Nat) : Prop := L.length ≤ 30 ∧ D.2.1 432 7 = nI L.length ∧ ∀ (k g : Nat), L.reverse[k]? = some g → D.1 435 k = nI g
def dk_R (S : st_S) (D : fx_D) : Prop := dk_nt D (st_nt S) ∧ dk_tms D (st_T S) ∧ dd_R D (st_dr S) ∧ dk_thm D (st_th S) ∧ dk_glL D (st_gl S) ∧ dk_opn D (st_op S) ∧ dk_tkn D (st_dn S)
/-- D and D' agree at x -/
def ag (D D' : fx_D) (x : Nat) : Prop := D'.1 x = D.1 x ∧ D'.2.1 x = D.2.1 x ∧ D'.2.2 x = D.2.2 x
theorem dk_nt_ag {D D' : fx_D} {nt : Nat → Nat} (a : ag D D' 2) (h : dk_nt D nt) : dk_nt D' nt := fun v hv => by
  rw [a.1]
  exact h v hv
theorem tm_row_ag {D D' : fx_D} {r : Nat} {l : tl_T} (a : ∀ i, i ≤ 3 → ag D D' (tmo r + i)) (h : tm_row D r l) : tm_row D' r l := ⟨h.1, by rw [show D'.2.1 (tmo r) = D.2.1 (tmo r) from (a 0 (by omega)).2.1]; exact h.2.1, fun k x hx => by
  rw [(a 1 (by omega)).1, (a 2 (by omega)).1]
  exact h.2.2 k x hx⟩
theorem tm_set_ag {D D' : fx_D} {r : Nat} {l : tl_T} (a : ∀ i, i ≤ 3 → ag D D' (tmo r + i)) (h : tm_set D r l) : tm_set D' r l := fun k hk => by
  rw [(a 3 (by omega)).1]
  exact h k hk
theorem dk_tms_ag {D D' : fx_D} {T : List tl_T} (a1 : ag D D' 1) (a : ∀ x, 8 ≤ x → x < 296 → ag D D' x) (h : dk_tms D T) : dk_tms D' T := by
  have h64 := h.1
  refine ⟨h.1, h.2.1, by rw [a1.2.1]; exact h.2.2.1, fun t l hl => ?_⟩
  obtain ⟨b1, b2, b3⟩ := h.2.2.2 t l hl
  have ht := getE_lt hl
  have aa : ∀ i, i ≤ 3 → ag D D' (tmo (t + 1) + i) := fun i hi => a _ (by show 8 ≤ 4 + 4 * (t + 1) + i; omega) (by show 4 + 4 * (t + 1) + i < 296; omega)
  exact ⟨tm_row_ag aa b1, tm_set_ag aa b2, b3⟩
theorem dd_R_ag {D D' : fx_D} {l : List Nat} (a1 : ag D D' 296) (a2 : ag D D' 297) (h : dd_R D l) : dd_R D' l := ⟨h.1, by rw [a1.2.1]; exact h.2.1, fun k x hx => by
  rw [a2.1]
  exact h.2.2 k x hx⟩
theorem so_r_ag {D D' : fx_D} {s : Nat} {L : List Nat} (a1 : ag D D' s) (a2 : ag D D' (s + 1)) (h : so_r D s L) : so_r D' s L := ⟨h.1, by rw [a1.2.1]; exact h.2.1, fun k x hx => by
  rw [a2.1]
  exact h.2.2 k x hx⟩
theorem dk_thm_ag {D D' : fx_D} {L : List st_Th} (a1 : ag D D' 307) (a : ∀ x, 309 ≤ x → x < 432 → ag D D' x) (h : dk_thm D L) : dk_thm D' L := by
  have h40 := h.1
  refine ⟨h.1, by rw [a1.2.1]; exact h.2.1, fun p q hq => ?_⟩
  have hp := getE_lt hq
  obtain ⟨b1, b2, b3, b4, b5, b6⟩ := h.2.2 p q hq
  have e0 := a (309 + 3 * p) (by omega) (by omega)
  have e1 := a (309 + 3 * p + 1) (by omega) (by omega)
  have e2 := a (309 + 3 * p + 1 + 1) (by omega) (by omega)
  exact ⟨so_r_ag e1 e2 b1, by rw [e1.2.1]; exact b2, by rw [e0.2.1]; exact b3, by rw [e0.2.1]; exact b4, by rw [e0.2.1]; exact b5, by rw [e0.2.2]; exact b6⟩
theorem dk_glL_ag {D D' : fx_D} {L : List st_Gl} (a1 : ag D D' 432) (a : ∀ x, 436 ≤ x → x < 532 → ag D D' x) (h : dk_glL D L) : dk_glL D' L := by
  have h30 := h.1
  refine ⟨h.1, by rw [a1.2.1]; exact h.2.1, fun p q hq => ?_⟩
  have hp := getE_lt hq
  obtain ⟨b1, b2, b3⟩ := h.2.2 p q hq
  have e0 := a (436 + 3 * p) (by omega) (by omega)
  have e1 := a (436 + 3 * p + 1) (by omega) (by omega)
  have e2 := a (436 + 3 * p + 1 + 1) (by omega) (by omega)
  refine ⟨so_r_ag e1 e2 b1, by rw [e1.2.1]; exact b2, fun w hw => ?_⟩
  rw [e0.2.1]
  exact b3 w hw
theorem dk_opn_ag {D D' : fx_D} {L : List Nat} (a1 : ag D D' 432) (a2 : ag D D' 434) (h : dk_opn D L) : dk_opn D' L := ⟨h.1, by rw [a1.2.1]; exact h.2.1, fun k x hx => by
  rw [a2.1]
  exact h.2.2 k x hx⟩
theorem dk_tkn_ag {D D' : fx_D} {L : List Nat} (a1 : ag D D' 432) (a2 : ag D D' 435) (h : dk_tkn D L) : dk_tkn D' L := ⟨h.1, by rw [a1.2.1]; exact h.2.1, fun k x hx => by
  rw [a2.1]
  exact h.2.2 k x hx⟩
theorem ag_ua {D : fx_D} {y i x : Nat} {v : Int32} (h : x ≠ y) : ag D (fx_ua D y i v) x := ⟨by simp only [fx_ua, h, if_false], rfl, rfl⟩
theorem ag_uf {D : fx_D} {y i x : Nat} {v : Int32} (h : x ≠ y) : ag D (fx_uf D y i v) x := ⟨rfl, by simp only [fx_uf, h, if_false], rfl⟩
theorem ag.tr {D D' D2 : fx_D} {x : Nat} (h : ag D D' x) (h2 : ag D' D2 x) : ag D D2 x := ⟨h2.1.trans h.1, h2.2.1.trans h.2.1, h2.2.2.trans h.2.2⟩
/-- another draft -/
theorem dk_R_dr {S : st_S} {D D' : fx_D} {dr : List Nat} (hR : dk_R S D) (a : ∀ x, x ≠ 296 → x ≠ 297 → ag D D' x) (h : dd_R D' dr) : dk_R (S.1, S.2.1, dr, S.2.2.2) D' := by
  obtain ⟨r1, r2, r3, r4, r5, r6, r7⟩ := hR
  exact ⟨dk_nt_ag (a 2 (by omega) (by omega)) r1, dk_tms_ag (a 1 (by omega) (by omega)) (fun x _ _ => a x (by omega) (by omega)) r2, h, dk_thm_ag (a 307 (by omega) (by omega)) (fun x _ _ => a x (by omega) (by omega)) r4, dk_glL_ag (a 432 (by omega) (by omega)) (fun x _ _ => a x (by omega) (by omega)) r5, dk_opn_ag (a 432 (by omega) (by omega)) (a 434 (by omega) (by omega)) r6, dk_tkn_ag (a 432 (by omega) (by omega)) (a 435 (by omega) (by omega)) r7⟩
theorem dDK_clear_0 : decode prog_1_method_5_code 0 = .ok (.aload_n 0, 1) := by decide +kernel
theorem dDK_clear_1 : decode prog_1_method_5_code 1 = .ok (.getfield 19, 3) := by decide +kernel
theorem dDK_clear_4 : decode prog_1_method_5_code 4 = .ok (.getfield 69, 3) := by decide +kernel
theorem dDK_clear_7 : decode prog_1_method_5_code 7 = .ok (.istore_n 1, 1) := by decide +kernel
theorem dDK_clear_8 : decode prog_1_method_5_code 8 = .ok (.aload_n 0, 1) := by decide +kernel
theorem dDK_clear_9 : decode prog_1_method_5_code 9 = .ok (.getfield 19, 3) := by decide +kernel
theorem dDK_clear_12 : decode prog_1_method_5_code 12 = .ok (.iconst 0, 1) := by decide +kernel
theorem dDK_clear_13 : decode prog_1_method_5_code 13 = .ok (.putfield 69, 3) := by decide +kernel
theorem dDK_clear_16 : decode prog_1_method_5_code 16 = .ok (.iload_n 1, 1) := by decide +kernel
theorem dDK_clear_17 : decode prog_1_method_5_code 17 = .ok (.ireturn, 1) := by decide +kernel
theorem c_DK_clear {G : sd_G} {o : Nat} {D : fx_D} {h0 : sd_H} {nx : Nat} {S S' : st_S} {a : Int32} (hB : G.2.1 ≤ o) (hR : dk_R S D) (hs : sp_clear S a S') : sd_Ct G mDK_clear 0 0 0 [.ref (o + 0)] (fx_h G.1.2 dk_S o D h0) nx (fx_is G.1.2 dk_S o h0 nx (some (.int a)) (dk_R S')) := by
  refine sd_Ct_of (by decide) (Nat.le_of_ble_eq_true rfl) ?_
  obtain ⟨rfl, rfl⟩ := hs
  have hd := hR.2.2.1
  have l24 := hd.1
  have hq : dk_R (S.1, S.2.1, [], S.2.2.2) (fx_uf D 296 2 (nI 0)) := dk_R_dr hR (fun x h1 _ => ag_uf h1) ⟨by simp, by simp [fx_uf, upd], fun k x hx => by simp at hx⟩
  refine sd_aload_n dDK_clear_0 rfl rfl ?_
  refine fx_getr 0 1 (296) dDK_clear_1 fDK_19 rfl rfl ?_
  refine fx_getiv (v := (nI ((st_dr S).length))) 1 2 dDK_clear_4 fDK_69 rfl rfl (hd.2.1) ?_
  refine sd_istore_n dDK_clear_7 rfl (by decide) ?_
  refine sd_aload_n dDK_clear_8 rfl rfl ?_
  refine fx_getr 0 1 (296) dDK_clear_9 fDK_19 rfl rfl ?_
  refine sd_iconst (v := nI 0) dDK_clear_12 (by decide) ?_
  refine fx_puti 1 2 dDK_clear_13 fDK_69 rfl rfl rfl rfl hB ?_
  refine sd_iload_n dDK_clear_16 rfl rfl ?_
  exact sd_iret dDK_clear_17 rfl (Nat.le_refl _) (Nat.le_refl _) ⟨rfl, rfl, _, rfl, hq⟩
theorem dDK_token_0 : decode prog_1_method_4_code 0 = .ok (.iload_n 1, 1) := by decide +kernel
theorem dDK_token_1 : decode prog_1_method_4_code 1 = .ok (.ifCond .lt (9), 3) := by decide +kernel
theorem dDK_token_4 : decode prog_1_method_4_code 4 = .ok (.iload_n 1, 1) := by decide +kernel
theorem dDK_token_5 : decode prog_1_method_4_code 5 = .ok (.bipush (18), 2) := by decide +kernel
theorem dDK_token_7 : decode prog_1_method_4_code 7 = .ok (.if_icmp .lt (5), 3) := by decide +kernel
theorem dDK_token_10 : decode prog_1_method_4_code 10 = .ok (.iconst (-1), 1) := by decide +kernel
theorem dDK_token_11 : decode prog_1_method_4_code 11 = .ok (.ireturn, 1) := by decide +kernel
theorem dDK_token_12 : decode prog_1_method_4_code 12 = .ok (.aload_n 0, 1) := by decide +kernel
theorem dDK_token_13 : decode prog_1_method_4_code 13 = .ok (.getfield 19, 3) := by decide +kernel
theorem dDK_token_16 : decode prog_1_method_4_code 16 = .ok (.getfield 69, 3) := by decide +kernel
theorem dDK_token_19 : decode prog_1_method_4_code 19 = .ok (.bipush (24), 2) := by decide +kernel
theorem dDK_token_21 : decode prog_1_method_4_code 21 = .ok (.if_icmp .lt (6), 3) := by decide +kernel
theorem dDK_token_24 : decode prog_1_method_4_code 24 = .ok (.bipush (-6), 2) := by decide +kernel
theorem dDK_token_26 : decode prog_1_method_4_code 26 = .ok (.ireturn, 1) := by decide +kernel
theorem dDK_token_27 : decode prog_1_method_4_code 27 = .ok (.aload_n 0, 1) := by decide +kernel
theorem dDK_token_28 : decode prog_1_method_4_code 28 = .ok (.getfield 19, 3) := by decide +kernel
theorem dDK_token_31 : decode prog_1_method_4_code 31 = .ok (.getfield 72, 3) := by decide +kernel
theorem dDK_token_34 : decode prog_1_method_4_code 34 = .ok (.aload_n 0, 1) := by decide +kernel
theorem dDK_token_35 : decode prog_1_method_4_code 35 = .ok (.getfield 19, 3) := by decide +kernel
theorem dDK_token_38 : decode prog_1_method_4_code 38 = .ok (.getfield 69, 3) := by decide +kernel
theorem dDK_token_41 : decode prog_1_method_4_code 41 = .ok (.iload_n 1, 1) := by decide +kernel
theorem dDK_token_42 : decode prog_1_method_4_code 42 = .ok (.iastore, 1) := by decide +kernel
theorem dDK_token_43 : decode prog_1_method_4_code 43 = .ok (.aload_n 0, 1) := by decide +kernel
theorem dDK_token_44 : decode prog_1_method_4_code 44 = .ok (.getfield 19, 3) := by decide +kernel
theorem dDK_token_47 : decode prog_1_method_4_code 47 = .ok (.dup, 1) := by decide +kernel
theorem dDK_token_48 : decode prog_1_method_4_code 48 = .ok (.getfield 69, 3) := by decide +kernel
theorem dDK_token_51 : decode prog_1_method_4_code 51 = .ok (.iconst 1, 1) := by decide +kernel
theorem dDK_token_52 : decode prog_1_method_4_code 52 = .ok (.iadd, 1) := by decide +kernel
theorem dDK_token_53 : decode prog_1_method_4_code 53 = .ok (.putfield 69, 3) := by decide +kernel
theorem dDK_token_56 : decode prog_1_method_4_code 56 = .ok (.aload_n 0, 1) := by decide +kernel
theorem dDK_token_57 : decode prog_1_method_4_code 57 = .ok (.getfield 19, 3) := by decide +kernel
theorem dDK_token_60 : decode prog_1_method_4_code 60 = .ok (.getfield 69, 3) := by decide +kernel
theorem dDK_token_63 : decode prog_1_method_4_code 63 = .ok (.ireturn, 1) := by decide +kernel
theorem c_DK_token {G : sd_G} {o : Nat} {D : fx_D} {h0 : sd_H} {nx : Nat} {S S' : st_S} {x a : Int32} (hB : G.2.1 ≤ o) (hR : dk_R S D) (hs : sp_token S x a S') : sd_Ct G mDK_token 0 0 0 [.ref (o + 0), .int x] (fx_h G.1.2 dk_S o D h0) nx (fx_is G.1.2 dk_S o h0 nx (some (.int a)) (dk_R S')) := by
  refine sd_Ct_of (by decide) (Nat.le_of_ble_eq_true rfl) ?_
  have hd := hR.2.2.1
  have l24 := hd.1
  rcases hs with ⟨hn, rfl, hS⟩ | ⟨⟨t, ht, rfl⟩, h24, rfl, hS⟩ | ⟨t, ht, rfl, h24, rfl, rfl⟩
  · rw [hS]
    by_cases h0' : x < 0
    ·
      refine sd_iload_n dDK_token_0 rfl rfl ?_
      refine sd_if_lt 10 dDK_token_1 (by decide) (fun c1 => ?_) (fun c1 => ?_)
      ·
        refine sd_iconst (v := (-1)) dDK_token_10 (by decide) ?_
        exact sd_iret dDK_token_11 rfl (Nat.le_refl _) (Nat.le_refl _) ⟨rfl, rfl, D, rfl, hR⟩
      ·
        exact absurd h0' c1
    · obtain ⟨t, ht, rfl⟩ := nI_of h0'
      have h18 : ¬ t < 18 := fun z => hn ⟨t, z, rfl⟩
      refine sd_iload_n dDK_token_0 rfl rfl ?_
      refine nn_if_lt dDK_token_1 10 (by decide) (by omega) ?_
      refine sd_iload_n dDK_token_4 rfl rfl ?_
      refine sd_bipush (v := nI 18) dDK_token_5 (by decide) ?_
      refine nn_icmp_lt 12 dDK_token_7 (by decide) (by omega) (by omega) (fun c7 => ?_) (fun c7 => ?_)
      ·
        exact absurd c7 h18
      ·
        refine sd_iconst (v := (-1)) dDK_token_10 (by decide) ?_
        exact sd_iret dDK_token_11 rfl (Nat.le_refl _) (Nat.le_refl _) ⟨rfl, rfl, D, rfl, hR⟩
  · rw [hS]
    refine sd_iload_n dDK_token_0 rfl rfl ?_
    refine nn_if_lt dDK_token_1 10 (by decide) (by omega) ?_
    refine sd_iload_n dDK_token_4 rfl rfl ?_
    refine sd_bipush (v := nI 18) dDK_token_5 (by decide) ?_
    refine nn_icmp_lt 12 dDK_token_7 (by decide) (by omega) (by omega) (fun c7 => ?_) (fun c7 => ?_)
    ·
      refine sd_aload_n dDK_token_12 rfl rfl ?_
      refine fx_getr 0 1 (296) dDK_token_13 fDK_19 rfl rfl ?_
      refine fx_getiv (v := (nI ((st_dr S).length))) 1 2 dDK_token_16 fDK_69 rfl rfl (hd.2.1) ?_
      refine sd_bipush (v := nI 24) dDK_token_19 (by decide) ?_
      refine nn_icmp_lt 27 dDK_token_21 (by decide) (by omega) (by omega) (fun c21 => ?_) (fun c21 => ?_)
      ·
        exact absurd c21 (by omega)
      ·
        refine sd_bipush (v := (-6)) dDK_token_24 (by decide) ?_
        exact sd_iret dDK_token_26 rfl (Nat.le_refl _) (Nat.le_refl _) ⟨rfl, rfl, D, rfl, hR⟩
    ·
      exact absurd c7 (by omega)
  · have hdd : dd_R (fx_uf (fx_ua D 297 (st_dr S).length (nI t)) 296 2 (nI ((st_dr S).length + 1))) (st_dr S ++ [t]) := by
      refine ⟨by rw [List.length_append, List.length_singleton]; omega, by rw [List.length_append, List.length_singleton]; simp [fx_uf, upd], fun k u hu => ?_⟩
      by_cases hk : k < (st_dr S).length
      · rw [List.getElem?_append_left hk] at hu
        have hk' : ¬ k = (st_dr S).length := by omega
        simp only [fx_uf, fx_ua, upd, hk', if_true, if_false]
        exact hd.2.2 k u hu
      · have hg := getE_lt hu
        rw [List.length_append, List.length_singleton] at hg
        rw [List.getElem?_append_right (by omega), show k - (st_dr S).length = 0 by omega] at hu
        cases hu
        have hk' : k = (st_dr S).length := by omega
        simp only [fx_uf, fx_ua, upd, hk', if_true]
        exact ⟨trivial, ht⟩
    have hq := dk_R_dr hR (fun x h1 h2 => (ag_ua h2).tr (ag_uf h1)) hdd
    refine sd_iload_n dDK_token_0 rfl rfl ?_
    refine nn_if_lt dDK_token_1 10 (by decide) (by omega) ?_
    refine sd_iload_n dDK_token_4 rfl rfl ?_
    refine sd_bipush (v := nI 18) dDK_token_5 (by decide) ?_
    refine nn_icmp_lt 12 dDK_token_7 (by decide) (by omega) (by omega) (fun c7 => ?_) (fun c7 => ?_)
    ·
      refine sd_aload_n dDK_token_12 rfl rfl ?_
      refine fx_getr 0 1 (296) dDK_token_13 fDK_19 rfl rfl ?_
      refine fx_getiv (v := (nI ((st_dr S).length))) 1 2 dDK_token_16 fDK_69 rfl rfl (hd.2.1) ?_
      refine sd_bipush (v := nI 24) dDK_token_19 (by decide) ?_
      refine nn_icmp_lt 27 dDK_token_21 (by decide) (by omega) (by omega) (fun c21 => ?_) (fun c21 => ?_)
      ·
        refine sd_aload_n dDK_token_27 rfl rfl ?_
        refine fx_getr 0 1 (296) dDK_token_28 fDK_19 rfl rfl ?_
        refine fx_getr 1 0 (297) dDK_token_31 fDK_72 rfl rfl ?_
        refine sd_aload_n dDK_token_34 rfl rfl ?_
        refine fx_getr 0 1 (296) dDK_token_35 fDK_19 rfl rfl ?_
        refine fx_getiv (v := (nI ((st_dr S).length))) 1 2 dDK_token_38 fDK_69 rfl rfl (hd.2.1) ?_
        refine sd_iload_n dDK_token_41 rfl rfl ?_
        refine fx_iast ((st_dr S).length) dDK_token_42 rfl rfl (by omega) (by decide) hB ?_
        refine sd_aload_n dDK_token_43 rfl rfl ?_
        refine fx_getr 0 1 (296) dDK_token_44 fDK_19 rfl rfl ?_
        refine sd_dup dDK_token_47 rfl ?_
        refine fx_getiv (v := (nI ((st_dr S).length))) 1 2 dDK_token_48 fDK_69 rfl rfl (hd.2.1) ?_
        refine sd_iconst (v := nI 1) dDK_token_51 (by decide) ?_
        refine nn_iadd dDK_token_52 ?_
        refine fx_puti 1 2 dDK_token_53 fDK_69 rfl rfl rfl rfl hB ?_
        refine sd_aload_n dDK_token_56 rfl rfl ?_
        refine fx_getr 0 1 (296) dDK_token_57 fDK_19 rfl rfl ?_
        refine fx_getiv (v := (nI ((st_dr S).length + 1))) 1 2 dDK_token_60 fDK_69 rfl rfl ((by simp [fx_uf, upd])) ?_
        exact sd_iret dDK_token_63 rfl (Nat.le_refl _) (Nat.le_refl _) ⟨rfl, rfl, _, rfl, hq⟩
      ·
        exact absurd c21 (by omega)
    ·
      exact absurd c7 (by omega)
