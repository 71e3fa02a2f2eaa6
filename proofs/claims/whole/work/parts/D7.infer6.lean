/-! ===== the class's Inference: giveTypes ===== -/
/-- trees for all nodes out of those of the ones that stand for others -/
def tr_T (N : Nat) (T : Nat → Option ft) (n : Nat) : ft := if n < N then (T n).getD .line else .line
theorem tr_least {l : tl_T} {nt : Nat → Nat} {N : Nat} {K L R lk ρ : Nat → Nat} {P : List (Nat × Nat)} {T : Nat → Option ft} (hrow : ty_row l) (hb : in_B N K L R lk) (hr : lkr lk ρ) (hc : co_I l nt l.length N K L R P) (hu : uf_inv K L R ρ []) (hP : ∀ p ∈ P, ρ p.1 = ρ p.2) (hs : ∀ σ, gsol K L R σ → sat P σ → rsp σ ρ) (hI : wo_I N K L R ρ T) (hA : ¬ fr_A N ρ T) : lst l nt l.length (fun n => tr_T N T (ρ n)) ∧ (fr_B N ρ T ↔ rd_big (fun n => tr_T N T (ρ n)) l.length = true) ∧ ∀ k, k < l.length → T (ρ k) = some (tr_T N T (ρ k)) := by
  have b1 := hb.1
  have l24 := hrow.1
  have lkN := fun m (hm : m < N) => (hb.2.2.1 m hm).1
  have known : ∀ n, n < N → ρ n = n → ∃ t, T n = some t ∧ tr_T N T n = t := fun n hn hρ => by
    cases e : T n with
    | none => exact absurd ⟨n, hn, hρ, e⟩ hA
    | some t => exact ⟨t, rfl, by unfold tr_T; rw [if_pos hn, e]; rfl⟩
  have hT : ∀ n, ρ n = n → (K n = 0 → tr_T N T n = .line) ∧ (K n = 1 → tr_T N T n = .nil) ∧ (K n = 2 → tr_T N T n = .line) ∧ (K n = 3 → tr_T N T n = .append (tr_T N T (ρ (L n))) (tr_T N T (ρ (R n)))) := fun n hρ => by
    by_cases hn : n < N
    · obtain ⟨t, e1, e2⟩ := known n hn hρ
      obtain ⟨q1, q2, q3, q4⟩ := hI.2 n hn hρ t e1
      rw [e2]
      refine ⟨q1, q2, q3, fun k => ?_⟩
      obtain ⟨a, b, ea, eb, e3⟩ := q4 k
      obtain ⟨lN, rN⟩ := (hb.2.2.1 n hn).2 k
      obtain ⟨ta, f1, f2⟩ := known _ (lkr_lt hr lkN lN) (hr.idem _)
      obtain ⟨tb, f3, f4⟩ := known _ (lkr_lt hr lkN rN) (hr.idem _)
      rw [ea] at f1
      rw [eb] at f3
      cases f1
      cases f3
      rw [f2, f4]
      exact e3
    · have := (hb.2.2.2.2.1 n (by omega)).1
      refine ⟨fun _ => by unfold tr_T; rw [if_neg hn], fun q => by omega, fun q => by omega, fun q => by omega⟩
  have g : gsol K L R (fun n => tr_T N T (ρ n)) := gsol_of hu (fun n hρ => (hT n hρ).2)
  have s : sat P (fun n => tr_T N T (ρ n)) := fun p hp => by
    show tr_T N T (ρ p.1) = tr_T N T (ρ p.2)
    rw [hP p hp]
  have kn : ∀ k, k < l.length → T (ρ k) = some (tr_T N T (ρ k)) := fun k hk => by
    obtain ⟨t, e1, e2⟩ := known _ (lkr_lt hr lkN (show k < N by omega)) (hr.idem k)
    rw [e1, e2]
  refine ⟨⟨fun j hj => hc.1 _ g s j hj, fun k hk => hI.1 _ _ (kn k hk), fun σ' h' k hk => ?_⟩, ?_, kn⟩
  · obtain ⟨τ, t1, t2, t3⟩ := hc.2.1 σ' h'
    have hrs := hs τ t1 t2
    have := gsol_least hu.1 hb.2.2.2.1 hT t1 hrs (tt_len (tr_T N T (ρ k)) + 1) (ρ k) (Nat.lt_succ_self _) (hu.1 k)
    rw [hrs, t3 k (by omega)] at this
    exact this
  · unfold rd_big
    rw [List.any_eq_true]
    constructor
    · rintro ⟨n, hn, hρ, t, e1, e2⟩
      obtain ⟨t', f1, f2⟩ := known n hn hρ
      rw [e1] at f1
      cases f1
      obtain ⟨q1, q2, q3, q4⟩ := hI.2 n hn hρ t e1
      have k4 := hb.2.2.2.1 n
      have k3 : K n = 3 := by
        rcases (show K n = 0 ∨ K n = 1 ∨ K n = 2 ∨ K n = 3 by omega) with q | q | q | q
        · rw [q1 q] at e2
          exact absurd e2 (by decide)
        · rw [q2 q] at e2
          exact absurd e2 (by decide)
        · rw [q3 q] at e2
          exact absurd e2 (by decide)
        · exact q
      have n50 : 50 ≤ n := by
        by_cases z : n < 50
        · have := hc.2.2.2.2.2.1 n z
          rw [k3] at this
          unfold K1_ at this
          split at this
          · omega
          · split at this <;> omega
        · omega
      rcases hc.2.2.1 n n50 hn _ g s with q | ⟨j, hj, q⟩
      · have q' : tt_len (tr_T N T (ρ n)) ≤ 24 := q
        rw [hρ, f2] at q'
        omega
      · refine ⟨j, List.mem_range.mpr hj, ?_⟩
        have q' : tr_T N T (ρ n) = tr_T N T (ρ j) := q
        rw [hρ, f2] at q'
        simp only [decide_eq_true_eq]
        rw [← q']
        exact e2
    · rintro ⟨k, hk, e⟩
      have hk' := List.mem_range.mp hk
      simp only [decide_eq_true_eq] at e
      exact ⟨ρ k, lkr_lt hr lkN (by omega), hr.idem k, _, kn k hk', e⟩
theorem tr_cyc {l : tl_T} {nt : Nat → Nat} {N : Nat} {K L R lk ρ : Nat → Nat} {P : List (Nat × Nat)} {T : Nat → Option ft} (hb : in_B N K L R lk) (hr : lkr lk ρ) (hc : co_I l nt l.length N K L R P) (hs : ∀ σ, gsol K L R σ → sat P σ → rsp σ ρ) (hst : wo_st N K L R ρ T) (hA : fr_A N ρ T) : ∀ σ, eqs l nt l.length σ → False := by
  intro σ hσ
  have lkN := fun m (hm : m < N) => (hb.2.2.1 m hm).1
  obtain ⟨τ, t1, t2, -⟩ := hc.2.1 σ hσ
  obtain ⟨n, h1, h2, h3⟩ := hA
  refine gsol_cyc t1 (hs τ t1 t2) (U := fun n => n < N ∧ ρ n = n ∧ T n = none) (fun n hn => ?_) (tt_len (τ n) + 1) n (Nat.lt_succ_self _) ⟨h1, h2, h3⟩
  obtain ⟨q1, q2, q3⟩ := hn
  have o := hst n q1 q2 q3
  unfold ty_o at o
  by_cases k3 : K n = 3
  · refine ⟨k3, ?_⟩
    rw [if_pos k3] at o
    obtain ⟨lN, rN⟩ := (hb.2.2.1 n q1).2 k3
    cases tL : T (ρ (L n)) with
    | none => exact Or.inl ⟨lkr_lt hr lkN lN, hr.idem _, by first | rfl | exact tL⟩
    | some a =>
      cases tR : T (ρ (R n)) with
      | none => exact Or.inr ⟨lkr_lt hr lkN rN, hr.idem _, by first | rfl | exact tR⟩
      | some b => rw [tL, tR] at o; cases o
  · rw [if_neg k3] at o
    split at o <;> cases o
/-- what giveTypes is to answer -/
def gt_v (l : tl_T) (nt : Nat → Nat) (v : Int32) : Prop := (v = -3 ∧ ∀ σ, eqs l nt l.length σ → False) ∨ ∃ σ, lst l nt l.length σ ∧ ((v = -5 ∧ rd_big σ l.length = true) ∨ (v = 0 ∧ rd_big σ l.length = false))
def gt_f (r : Nat) (D D' : fx_D) : Prop := ∀ x, ¬ (299 ≤ x ∧ x ≤ 306) → x ≠ tmo r + 2 → ag D D' x
def gt_P (l : tl_T) (nt : Nat → Nat) (r : Nat) (v : Int32) (D D' : fx_D) : Prop := gt_f r D D' ∧ (v = 0 → ∀ σ, lst l nt l.length σ → ∀ i, i < l.length → D'.1 (tmo r + 2) i = nI (tt_n (σ i)))
theorem dIN_giveTypes_0 : decode prog_5_method_2_code 0 = .ok (.aload_n 0, 1) := by decide +kernel
theorem dIN_giveTypes_1 : decode prog_5_method_2_code 1 = .ok (.invokevirtual 33, 3) := by decide +kernel
theorem dIN_giveTypes_4 : decode prog_5_method_2_code 4 = .ok (.iconst 0, 1) := by decide +kernel
theorem dIN_giveTypes_5 : decode prog_5_method_2_code 5 = .ok (.istore 4, 2) := by decide +kernel
theorem dIN_giveTypes_7 : decode prog_5_method_2_code 7 = .ok (.iload 4, 2) := by decide +kernel
theorem dIN_giveTypes_9 : decode prog_5_method_2_code 9 = .ok (.aload_n 1, 1) := by decide +kernel
theorem dIN_giveTypes_10 : decode prog_5_method_2_code 10 = .ok (.getfield 36, 3) := by decide +kernel
theorem dIN_giveTypes_13 : decode prog_5_method_2_code 13 = .ok (.if_icmp .ge (41), 3) := by decide +kernel
theorem dIN_giveTypes_16 : decode prog_5_method_2_code 16 = .ok (.aload_n 2, 1) := by decide +kernel
theorem dIN_giveTypes_17 : decode prog_5_method_2_code 17 = .ok (.iload 4, 2) := by decide +kernel
theorem dIN_giveTypes_19 : decode prog_5_method_2_code 19 = .ok (.iaload, 1) := by decide +kernel
theorem dIN_giveTypes_20 : decode prog_5_method_2_code 20 = .ok (.iconst (-1), 1) := by decide +kernel
theorem dIN_giveTypes_21 : decode prog_5_method_2_code 21 = .ok (.if_icmp .eq (19), 3) := by decide +kernel
theorem dIN_giveTypes_24 : decode prog_5_method_2_code 24 = .ok (.aload_n 0, 1) := by decide +kernel
theorem dIN_giveTypes_25 : decode prog_5_method_2_code 25 = .ok (.iload 4, 2) := by decide +kernel
theorem dIN_giveTypes_27 : decode prog_5_method_2_code 27 = .ok (.aload_n 2, 1) := by decide +kernel
theorem dIN_giveTypes_28 : decode prog_5_method_2_code 28 = .ok (.iload 4, 2) := by decide +kernel
theorem dIN_giveTypes_30 : decode prog_5_method_2_code 30 = .ok (.iaload, 1) := by decide +kernel
theorem dIN_giveTypes_31 : decode prog_5_method_2_code 31 = .ok (.invokestatic 42, 3) := by decide +kernel
theorem dIN_giveTypes_34 : decode prog_5_method_2_code 34 = .ok (.invokevirtual 46, 3) := by decide +kernel
theorem dIN_giveTypes_37 : decode prog_5_method_2_code 37 = .ok (.goto (11), 3) := by decide +kernel
theorem dIN_giveTypes_40 : decode prog_5_method_2_code 40 = .ok (.aload_n 0, 1) := by decide +kernel
theorem dIN_giveTypes_41 : decode prog_5_method_2_code 41 = .ok (.aload_n 1, 1) := by decide +kernel
theorem dIN_giveTypes_42 : decode prog_5_method_2_code 42 = .ok (.iload 4, 2) := by decide +kernel
theorem dIN_giveTypes_44 : decode prog_5_method_2_code 44 = .ok (.aload_n 3, 1) := by decide +kernel
theorem dIN_giveTypes_45 : decode prog_5_method_2_code 45 = .ok (.invokevirtual 50, 3) := by decide +kernel
theorem dIN_giveTypes_48 : decode prog_5_method_2_code 48 = .ok (.iinc 4 (1), 3) := by decide +kernel
theorem dIN_giveTypes_51 : decode prog_5_method_2_code 51 = .ok (.goto (-44), 3) := by decide +kernel
theorem dIN_giveTypes_54 : decode prog_5_method_2_code 54 = .ok (.aload_n 0, 1) := by decide +kernel
theorem dIN_giveTypes_55 : decode prog_5_method_2_code 55 = .ok (.invokevirtual 54, 3) := by decide +kernel
theorem dIN_giveTypes_58 : decode prog_5_method_2_code 58 = .ok (.ifCond .ne (6), 3) := by decide +kernel
theorem dIN_giveTypes_61 : decode prog_5_method_2_code 61 = .ok (.bipush (-3), 2) := by decide +kernel
theorem dIN_giveTypes_63 : decode prog_5_method_2_code 63 = .ok (.ireturn, 1) := by decide +kernel
theorem dIN_giveTypes_64 : decode prog_5_method_2_code 64 = .ok (.aload_n 0, 1) := by decide +kernel
theorem dIN_giveTypes_65 : decode prog_5_method_2_code 65 = .ok (.invokevirtual 58, 3) := by decide +kernel
theorem dIN_giveTypes_68 : decode prog_5_method_2_code 68 = .ok (.aload_n 0, 1) := by decide +kernel
theorem dIN_giveTypes_69 : decode prog_5_method_2_code 69 = .ok (.invokevirtual 61, 3) := by decide +kernel
theorem dIN_giveTypes_72 : decode prog_5_method_2_code 72 = .ok (.istore 4, 2) := by decide +kernel
theorem dIN_giveTypes_74 : decode prog_5_method_2_code 74 = .ok (.iload 4, 2) := by decide +kernel
theorem dIN_giveTypes_76 : decode prog_5_method_2_code 76 = .ok (.ifCond .ge (6), 3) := by decide +kernel
theorem dIN_giveTypes_79 : decode prog_5_method_2_code 79 = .ok (.iload 4, 2) := by decide +kernel
theorem dIN_giveTypes_81 : decode prog_5_method_2_code 81 = .ok (.ireturn, 1) := by decide +kernel
theorem dIN_giveTypes_82 : decode prog_5_method_2_code 82 = .ok (.iconst 0, 1) := by decide +kernel
theorem dIN_giveTypes_83 : decode prog_5_method_2_code 83 = .ok (.istore 5, 2) := by decide +kernel
theorem dIN_giveTypes_85 : decode prog_5_method_2_code 85 = .ok (.iload 5, 2) := by decide +kernel
theorem dIN_giveTypes_87 : decode prog_5_method_2_code 87 = .ok (.aload_n 1, 1) := by decide +kernel
theorem dIN_giveTypes_88 : decode prog_5_method_2_code 88 = .ok (.getfield 36, 3) := by decide +kernel
theorem dIN_giveTypes_91 : decode prog_5_method_2_code 91 = .ok (.if_icmp .ge (27), 3) := by decide +kernel
theorem dIN_giveTypes_94 : decode prog_5_method_2_code 94 = .ok (.aload_n 1, 1) := by decide +kernel
theorem dIN_giveTypes_95 : decode prog_5_method_2_code 95 = .ok (.getfield 65, 3) := by decide +kernel
theorem dIN_giveTypes_98 : decode prog_5_method_2_code 98 = .ok (.iload 5, 2) := by decide +kernel
theorem dIN_giveTypes_100 : decode prog_5_method_2_code 100 = .ok (.aload_n 0, 1) := by decide +kernel
theorem dIN_giveTypes_101 : decode prog_5_method_2_code 101 = .ok (.getfield 24, 3) := by decide +kernel
theorem dIN_giveTypes_104 : decode prog_5_method_2_code 104 = .ok (.aload_n 0, 1) := by decide +kernel
theorem dIN_giveTypes_105 : decode prog_5_method_2_code 105 = .ok (.iload 5, 2) := by decide +kernel
theorem dIN_giveTypes_107 : decode prog_5_method_2_code 107 = .ok (.invokevirtual 68, 3) := by decide +kernel
theorem dIN_giveTypes_110 : decode prog_5_method_2_code 110 = .ok (.iaload, 1) := by decide +kernel
theorem dIN_giveTypes_111 : decode prog_5_method_2_code 111 = .ok (.iastore, 1) := by decide +kernel
theorem dIN_giveTypes_112 : decode prog_5_method_2_code 112 = .ok (.iinc 5 (1), 3) := by decide +kernel
theorem dIN_giveTypes_115 : decode prog_5_method_2_code 115 = .ok (.goto (-30), 3) := by decide +kernel
theorem dIN_giveTypes_118 : decode prog_5_method_2_code 118 = .ok (.iconst 0, 1) := by decide +kernel
theorem dIN_giveTypes_119 : decode prog_5_method_2_code 119 = .ok (.ireturn, 1) := by decide +kernel
theorem l_IN_gt3 {G : sd_G} {o : Nat} {D0 : fx_D} {h0 : sd_H} {nx N r : Nat} {l : tl_T} {nt : Nat → Nat} {K L R lk ρ : Nat → Nat} {T : Nat → Option ft} (hB : G.2.1 ≤ o) (hr73 : r < 73) (hb : in_B N K L R lk) (hr : lkr lk ρ) (hl24 : l.length ≤ 24) (hl : D0.2.1 (tmo r) 3 = nI l.length) (hlst : lst l nt l.length (fun n => tr_T N T (ρ n))) (hT : ∀ k, k < l.length → T (ρ k) = some (tr_T N T (ρ k))) (hsm : ∀ k, k < l.length → tt_len (tr_T N T (ρ k)) ≤ 24) : ∀ (m i : Nat) (D : fx_D), i + m = l.length → (∀ j, j < i → D.1 (tmo r + 2) j = nI (tt_n (tr_T N T (ρ j)))) → in_G D N K L R lk → wo_D D N T → gt_f r D0 D → sd_W G mIN_giveTypes 28 0 0 (fx_is G.1.2 dk_S o h0 nx (some (.int 0)) (gt_P l nt r 0 D0)) 85 [(0, .ref (o + 299)), (1, .ref (o + tmo r)), (5, .int (nI i))] [] (fx_h G.1.2 dk_S o D h0) nx 0 0 := by
  have b1 := hb.1
  have lkN := fun m (hm : m < N) => (hb.2.2.1 m hm).1
  have b2 := hb.2.1
  intro m
  induction m with
  | zero =>
    intro i D hi h1 hG hD hf
    have hl' : D.2.1 (tmo r) 3 = nI l.length := by rw [(hf (tmo r) (by unfold tmo; omega) (by omega)).2.1]; exact hl
    refine sd_iload dIN_giveTypes_85 rfl ?_
    refine sd_aload_n dIN_giveTypes_87 rfl rfl ?_
    refine fx_getiv (v := (nI (l.length))) 7 3 dIN_giveTypes_88 fIN_36 (dk_tm (by omega)) rfl (hl') ?_
    refine nn_icmp_ge 118 dIN_giveTypes_91 (by decide) (by omega) (by omega) (fun c91 => ?_) (fun c91 => ?_)
    ·
      refine sd_iconst (v := nI 0) dIN_giveTypes_118 (by decide) ?_
      exact sd_iret dIN_giveTypes_119 rfl (Nat.le_refl _) (Nat.le_refl _) ⟨rfl, rfl, _, rfl, hf, fun _ σ hσ j hj => by rw [lst_one hσ hlst j hj]; exact h1 j (by omega)⟩
    ·
      exact absurd c91 (by omega)
  | succ m ih =>
    intro i D hi h1 hG hD hf
    have hl' : D.2.1 (tmo r) 3 = nI l.length := by rw [(hf (tmo r) (by unfold tmo; omega) (by omega)).2.1]; exact hl
    have hiN : i < N := by omega
    have xi := lkr_lt hr lkN hiN
    have fi := hD _ xi
    rw [hT i (by omega)] at fi
    have fi' : D.1 304 (ρ i) = nI (tt_n (tr_T N T (ρ i))) := by
      rw [fi]
      exact if_pos (hsm i (by omega))
    have cr := c_IN_root (G := G) (o := o) (h0 := h0) (nx := nx) hG hb hr hiN
    refine sd_iload dIN_giveTypes_85 rfl ?_
    refine sd_aload_n dIN_giveTypes_87 rfl rfl ?_
    refine fx_getiv (v := (nI (l.length))) 7 3 dIN_giveTypes_88 fIN_36 (dk_tm (by omega)) rfl (hl') ?_
    refine nn_icmp_ge 118 dIN_giveTypes_91 (by decide) (by omega) (by omega) (fun c91 => ?_) (fun c91 => ?_)
    ·
      exact absurd c91 (by omega)
    ·
      refine sd_aload_n dIN_giveTypes_94 rfl rfl ?_
      refine fx_getr 7 1 (tmo (r) + 2) dIN_giveTypes_95 fIN_65 (dk_tm (by omega)) rfl ?_
      refine sd_iload dIN_giveTypes_98 rfl ?_
      refine sd_aload_n dIN_giveTypes_100 rfl rfl ?_
      refine fx_getr 4 4 (304) dIN_giveTypes_101 fIN_24 rfl rfl ?_
      refine sd_aload_n dIN_giveTypes_104 rfl rfl ?_
      refine sd_iload dIN_giveTypes_105 rfl ?_
      refine fx_cV 4 sR_IN [.int (nI (i))] [.ref (o + (304)), .int (nI (i)), .ref (o + (tmo (r) + 2))] dIN_giveTypes_107 kIN_68 rfl rfl mIN_root_v (cr) (by omega) (Nat.le_refl _) (Nat.le_refl _) (Nat.le_of_ble_eq_true rfl) rfl ?_
      refine fx_ialdv (v := (nI (tt_n (tr_T N T (ρ i))))) (ρ i) dIN_giveTypes_110 rfl rfl (by omega) (by decide) (fi') ?_
      refine fx_iast (i) dIN_giveTypes_111 (dk_tm2 (by omega)) rfl (by omega) (by decide) hB ?_
      refine nn_iinc 1 dIN_giveTypes_112 rfl (by decide) ?_
      refine sd_goto 85 dIN_giveTypes_115 (by decide) ?_
      refine sd_locp (al' := [(0, .ref (o + (299))), (1, .ref (o + (tmo (r)))), (5, .int (nI (i + 1)))]) [1, 2, 0] rfl ?_
      refine ih (i + 1) _ (by omega) (fun j hj => ?_) ⟨hG.1, fun n hn => ?_⟩ (fun n hn => ?_) (fun x q1 q2 => (hf x q1 q2).tr (ag_ua q2))
      · by_cases e : j = i
        · subst e
          simp [fx_ua, upd]
        · simpa [fx_ua, upd, e] using h1 j (by omega)
      · have := hG.2 n hn
        simpa [fx_ua, show (300 : Nat) ≠ tmo r + 2 by unfold tmo; omega, show (301 : Nat) ≠ tmo r + 2 by unfold tmo; omega, show (302 : Nat) ≠ tmo r + 2 by unfold tmo; omega, show (303 : Nat) ≠ tmo r + 2 by unfold tmo; omega] using this
      · simpa [fx_ua, show (304 : Nat) ≠ tmo r + 2 by unfold tmo; omega] using hD n hn
theorem l_IN_gt2 {G : sd_G} {o : Nat} {D0 D : fx_D} {h0 : sd_H} {nx N r : Nat} {l : tl_T} {nt : Nat → Nat} {K L R lk ρ : Nat → Nat} {P : List (Nat × Nat)} {v : Int32} (hB : G.2.1 ≤ o) (hr73 : r < 73) (hrow : ty_row l) (hl : D0.2.1 (tmo r) 3 = nI l.length) (hv : gt_v l nt v) (hb : in_B N K L R lk) (hr : lkr lk ρ) (hc : co_I l nt l.length N K L R P) (hu : uf_inv K L R ρ []) (hP : ∀ p ∈ P, ρ p.1 = ρ p.2) (hs : ∀ σ, gsol K L R σ → sat P σ → rsp σ ρ) (hw : ∃ T, wo_I N K L R ρ T ∧ wo_D D N T ∧ wo_st N K L R ρ T) (hG : in_G D N K L R lk) (hf : in_f D0 D) : sd_W G mIN_giveTypes 28 0 0 (fx_is G.1.2 dk_S o h0 nx (some (.int v)) (gt_P l nt r v D0)) 68 [(0, .ref (o + 299)), (1, .ref (o + tmo r))] [] (fx_h G.1.2 dk_S o D h0) nx 0 0 := by
  obtain ⟨T, hI, hD, hst⟩ := hw
  have hf' : gt_f r D0 D := fun x q1 _ => hf x q1
  by_cases hA : fr_A N ρ T
  · have hno := tr_cyc hb hr hc hs hst hA
    have hv3 : v = -3 := by
      rcases hv with ⟨z, -⟩ | ⟨σ, z, -⟩
      · exact z
      · exact (hno σ z.1).elim
    subst hv3
    refine sd_aload_n dIN_giveTypes_68 rfl rfl ?_
    refine fx_cV 4 sR_IN [] [] dIN_giveTypes_69 kIN_61 rfl rfl mIN_firstRefusal_v (c_IN_firstRefusal (v := -3) hG hb hr hD hI.1 (Or.inl ⟨rfl, hA⟩)) (by decide) (Nat.le_refl _) (Nat.le_refl _) (Nat.le_of_ble_eq_true rfl) rfl ?_
    refine sd_istore dIN_giveTypes_72 (by decide) ?_
    refine sd_iload dIN_giveTypes_74 rfl ?_
    refine sd_if_ge 82 dIN_giveTypes_76 (by decide) (fun c76 => ?_) (fun c76 => ?_)
    ·
      exact absurd c76 (by decide)
    ·
      refine sd_iload dIN_giveTypes_79 rfl ?_
      exact sd_iret dIN_giveTypes_81 rfl (Nat.le_refl _) (Nat.le_refl _) ⟨rfl, rfl, _, rfl, hf', fun q => absurd q (by decide)⟩
  · obtain ⟨q1, q2, q3⟩ := tr_least hrow hb hr hc hu hP hs hI hA
    obtain ⟨σ, z1, z2⟩ : ∃ σ, lst l nt l.length σ ∧ ((v = -5 ∧ rd_big σ l.length = true) ∨ (v = 0 ∧ rd_big σ l.length = false)) := by
      rcases hv with ⟨-, z⟩ | z
      · exact (z _ q1.1).elim
      · exact z
    have eb := rd_big_congr (lst_one z1 q1)
    rw [eb] at z2
    by_cases hBg : fr_B N ρ T
    · have hv5 : v = -5 := by
        rcases z2 with ⟨z, -⟩ | ⟨-, z⟩
        · exact z
        · rw [q2.mp hBg] at z
          cases z
      subst hv5
      refine sd_aload_n dIN_giveTypes_68 rfl rfl ?_
      refine fx_cV 4 sR_IN [] [] dIN_giveTypes_69 kIN_61 rfl rfl mIN_firstRefusal_v (c_IN_firstRefusal (v := -5) hG hb hr hD hI.1 (Or.inr (Or.inl ⟨rfl, hA, hBg⟩))) (by decide) (Nat.le_refl _) (Nat.le_refl _) (Nat.le_of_ble_eq_true rfl) rfl ?_
      refine sd_istore dIN_giveTypes_72 (by decide) ?_
      refine sd_iload dIN_giveTypes_74 rfl ?_
      refine sd_if_ge 82 dIN_giveTypes_76 (by decide) (fun c76 => ?_) (fun c76 => ?_)
      ·
        exact absurd c76 (by decide)
      ·
        refine sd_iload dIN_giveTypes_79 rfl ?_
        exact sd_iret dIN_giveTypes_81 rfl (Nat.le_refl _) (Nat.le_refl _) ⟨rfl, rfl, _, rfl, hf', fun q => absurd q (by decide)⟩
    · have hv0 : v = 0 := by
        rcases z2 with ⟨-, z⟩ | ⟨z, -⟩
        · exact absurd (q2.mpr z) hBg
        · exact z
      subst hv0
      have hsm : ∀ k, k < l.length → tt_len (tr_T N T (ρ k)) ≤ 24 := fun k hk => by
        by_cases z : tt_len (tr_T N T (ρ k)) ≤ 24
        · exact z
        · exfalso
          refine hBg (q2.mpr ?_)
          unfold rd_big
          exact List.any_eq_true.mpr ⟨k, List.mem_range.mpr hk, by simp; omega⟩
      refine sd_aload_n dIN_giveTypes_68 rfl rfl ?_
      refine fx_cV 4 sR_IN [] [] dIN_giveTypes_69 kIN_61 rfl rfl mIN_firstRefusal_v (c_IN_firstRefusal (v := nI 0) hG hb hr hD hI.1 (Or.inr (Or.inr ⟨rfl, hA, hBg⟩))) (by decide) (Nat.le_refl _) (Nat.le_refl _) (Nat.le_of_ble_eq_true rfl) rfl ?_
      refine sd_istore dIN_giveTypes_72 (by decide) ?_
      refine sd_iload dIN_giveTypes_74 rfl ?_
      refine nn_if_ge dIN_giveTypes_76 82 (by decide) (by omega) ?_
      refine sd_iconst (v := nI 0) dIN_giveTypes_82 (by decide) ?_
      refine sd_istore dIN_giveTypes_83 (by decide) ?_
      refine sd_locp (al' := [(0, .ref (o + (299))), (1, .ref (o + (tmo (r)))), (5, .int (nI (0)))]) [2, 3, 0] rfl ?_
      exact l_IN_gt3 hB hr73 hb hr hrow.1 hl q1 q3 hsm l.length 0 D (by omega) (fun j hj => by omega) hG hD hf'
theorem l_IN_gt1 {G : sd_G} {o : Nat} {D0 : fx_D} {h0 : sd_H} {nx r : Nat} {l : tl_T} {nt : Nat → Nat} {bn : Nat → Option Nat} {v : Int32} (hB : G.2.1 ≤ o) (hr73 : r < 73) (hrow : ty_row l) (hl : D0.2.1 (tmo r) 3 = nI l.length) (hsy : ∀ i, i < l.length → D0.1 (tmo r + 1) i = nI (tl_at l i).1) (hen : ∀ i, i < l.length → D0.1 (tmo r + 3) i = nI (tl_end l i)) (hbn : ∀ i, i < l.length → D0.1 298 i = oi_I (bn i)) (hbs : ∀ i, i < l.length → (∀ j, bn i = some j → 10 < (tl_at l i).1 ∧ bd l i = j) ∧ (bn i = none → (tl_at l i).1 < 11)) (hnt : dk_nt D0 nt) (hv : gt_v l nt v) : ∀ (m i : Nat) (D : fx_D), i + m = l.length → co_S l nt i D → in_f D0 D → sd_W G mIN_giveTypes 28 0 0 (fx_is G.1.2 dk_S o h0 nx (some (.int v)) (gt_P l nt r v D0)) 7 [(0, .ref (o + 299)), (1, .ref (o + tmo r)), (2, .ref (o + 298)), (3, .ref (o + 2)), (4, .int (nI i))] [] (fx_h G.1.2 dk_S o D h0) nx 0 0 := by
  have l24 := hrow.1
  intro m
  induction m with
  | zero =>
    intro i D hi hS hf
    have ei : i = l.length := by omega
    subst ei
    have hl' : D.2.1 (tmo r) 3 = nI l.length := by rw [(hf (tmo r) (by unfold tmo; omega)).2.1]; exact hl
    obtain ⟨N, K, L, R, P, hG, hb, hE, hc⟩ := hS
    have n1 := hc.2.2.2.1
    have n2 := hc.2.2.2.2.1
    refine sd_iload dIN_giveTypes_7 rfl ?_
    refine sd_aload_n dIN_giveTypes_9 rfl rfl ?_
    refine fx_getiv (v := (nI (l.length))) 7 3 dIN_giveTypes_10 fIN_36 (dk_tm (by omega)) rfl (hl') ?_
    refine nn_icmp_ge 54 dIN_giveTypes_13 (by decide) (by omega) (by omega) (fun c13 => ?_) (fun c13 => ?_)
    ·
      refine sd_aload_n dIN_giveTypes_54 rfl rfl ?_
      refine fx_cB 4 sR_IN [] [] dIN_giveTypes_55 kIN_54 rfl rfl mIN_solve_v (c_IN_solve hB hc.2.2.2.2.2 hG hb hE (by omega) (by omega)) (by omega) (Nat.le_refl _) (Nat.le_refl _) (Nat.le_of_ble_eq_true rfl) rfl (fun D1 h1 => ?_) (fun D1 h1 => ?_)
      ·
        obtain ⟨lk, ρ, s1, s2, s3, s4, s5, s6, s7⟩ := h1
        refine nn_if_ne 64 dIN_giveTypes_58 (by decide) (by decide) (fun _ => ?_) (fun c => absurd c (by decide))
        refine sd_aload_n dIN_giveTypes_64 rfl rfl ?_
        refine fx_cP 4 sR_IN [] [] dIN_giveTypes_65 kIN_58 rfl rfl mIN_workOut_v (c_IN_workOut hB s1 s2 s3) (by omega) (Nat.le_refl _) (Nat.le_refl _) (Nat.le_of_ble_eq_true rfl) rfl (fun D2 h2 => ?_)
        refine sd_locp (al' := [(0, .ref (o + (299))), (1, .ref (o + (tmo (r))))]) [0, 1] rfl ?_
        obtain ⟨T, w1, w2, w3, w4, w5⟩ := h2
        exact l_IN_gt2 hB hr73 hrow hl hv s2 s3 hc s4 s5 s6 ⟨T, w1, w2, w3⟩ w4 (hf.tr (s7.tr w5))
      ·
        have hv3 : v = -3 := by
          rcases hv with ⟨z, -⟩ | ⟨σ, z, -⟩
          · exact z
          · obtain ⟨τ, t1, t2, -⟩ := hc.2.1 σ z.1
            exact (h1.1 τ t1 t2).elim
        subst hv3
        refine nn_if_ne 64 dIN_giveTypes_58 (by decide) (by decide) (fun c => absurd c (by decide)) (fun _ => ?_)
        refine sd_bipush (v := (-3)) dIN_giveTypes_61 (by decide) ?_
        exact sd_iret dIN_giveTypes_63 rfl (Nat.le_refl _) (Nat.le_refl _) ⟨rfl, rfl, _, rfl, fun x q1 _ => (hf.tr h1.2) x q1, fun q => absurd q (by decide)⟩
    ·
      exact absurd c13 (by omega)
  | succ m ih =>
    intro i D hi hS hf
    have hil : i < l.length := by omega
    have hl' : D.2.1 (tmo r) 3 = nI l.length := by rw [(hf (tmo r) (by unfold tmo; omega)).2.1]; exact hl
    have hb' : D.1 298 i = oi_I (bn i) := by rw [(hf 298 (by omega)).1]; exact hbn i hil
    cases hbi : bn i with
    | none =>
      rw [hbi] at hb'
      have cd := c_IN_demand (G := G) (o := o) (h0 := h0) (nx := nx) hB hr73 hrow hil (by rw [(hf (tmo r + 1) (by unfold tmo; omega)).1]; exact hsy i hil) (fun j hj => by rw [(hf (tmo r + 3) (by unfold tmo; omega)).1]; exact hen j hj) (dk_nt_ag (hf 2 (by omega)) hnt) ((hbs i hil).2 hbi) hS
      refine sd_iload dIN_giveTypes_7 rfl ?_
      refine sd_aload_n dIN_giveTypes_9 rfl rfl ?_
      refine fx_getiv (v := (nI (l.length))) 7 3 dIN_giveTypes_10 fIN_36 (dk_tm (by omega)) rfl (hl') ?_
      refine nn_icmp_ge 54 dIN_giveTypes_13 (by decide) (by omega) (by omega) (fun c13 => ?_) (fun c13 => ?_)
      ·
        exact absurd c13 (by omega)
      ·
        refine sd_aload_n dIN_giveTypes_16 rfl rfl ?_
        refine sd_iload dIN_giveTypes_17 rfl ?_
        refine fx_ialdv (v := ((-1))) (i) dIN_giveTypes_19 rfl rfl (by omega) (by decide) (hb') ?_
        refine sd_iconst (v := (-1)) dIN_giveTypes_20 (by decide) ?_
        refine sd_icmp_eq 40 dIN_giveTypes_21 (by decide) (fun c21 => ?_) (fun c21 => ?_)
        ·
          refine sd_aload_n dIN_giveTypes_40 rfl rfl ?_
          refine sd_aload_n dIN_giveTypes_41 rfl rfl ?_
          refine sd_iload dIN_giveTypes_42 rfl ?_
          refine sd_aload_n dIN_giveTypes_44 rfl rfl ?_
          refine fx_cP 4 sR_IN [.ref (o + (tmo (r))), .int (nI (i)), .ref (o + (2))] [] dIN_giveTypes_45 kIN_50 rfl rfl mIN_demand_v (cd) (by decide) (Nat.le_refl _) (Nat.le_refl _) (Nat.le_of_ble_eq_true rfl) rfl (fun D1 h1 => ?_)
          refine nn_iinc 1 dIN_giveTypes_48 rfl (by decide) ?_
          refine sd_goto 7 dIN_giveTypes_51 (by decide) ?_
          refine sd_locp (al' := [(0, .ref (o + (299))), (1, .ref (o + (tmo (r)))), (2, .ref (o + (298))), (3, .ref (o + (2))), (4, .int (nI (i + 1)))]) [1, 2, 3, 4, 0] rfl ?_
          exact ih (i + 1) D1 (by omega) h1.1 (hf.tr h1.2)
        ·
          exact absurd rfl c21
    | some j =>
      rw [hbi] at hb'
      obtain ⟨s11, ebd⟩ := (hbs i hil).1 j hbi
      have jle := bd_le l i
      rw [ebd] at jle
      obtain ⟨N, K, L, R, P, hG, hb, hE, hc⟩ := hS
      have b1 := hb.1
      have n2 := hc.2.2.2.2.1
      have fin : co_S l nt (i + 1) (eq_D D P.length i (24 + j)) := by
        refine ⟨_, _, _, _, _, eq_G hG, hb, eq_E hE (by omega) (by omega) (by omega), co_step hrow hil hb hc hE.lt (gxx.rf _ _ _ _) (fun σ g s => ?_) (fun σ g e => ?_) (fun n q1 q2 => by omega) (by omega) (by simp) (fun n hn => Or.inl (hb.2.2.2.2.1 n hn).1)⟩
        · rw [sat_1] at s
          exact ⟨fun q => by omega, fun q => by omega, fun q => by omega, fun q => by omega, fun _ => by rw [ebd]; exact s⟩
        · rw [sat_1]
          have := e.2.2.2.2 s11
          rw [ebd] at this
          exact this
      refine sd_iload dIN_giveTypes_7 rfl ?_
      refine sd_aload_n dIN_giveTypes_9 rfl rfl ?_
      refine fx_getiv (v := (nI (l.length))) 7 3 dIN_giveTypes_10 fIN_36 (dk_tm (by omega)) rfl (hl') ?_
      refine nn_icmp_ge 54 dIN_giveTypes_13 (by decide) (by omega) (by omega) (fun c13 => ?_) (fun c13 => ?_)
      ·
        exact absurd c13 (by omega)
      ·
        refine sd_aload_n dIN_giveTypes_16 rfl rfl ?_
        refine sd_iload dIN_giveTypes_17 rfl ?_
        refine fx_ialdv (v := (nI (j))) (i) dIN_giveTypes_19 rfl rfl (by omega) (by decide) (hb') ?_
        refine sd_iconst (v := (-1)) dIN_giveTypes_20 (by decide) ?_
        refine sd_icmp_eq 40 dIN_giveTypes_21 (by decide) (fun c21 => ?_) (fun c21 => ?_)
        ·
          exact absurd c21 (nI_ne_m1 (by omega))
        ·
          refine sd_aload_n dIN_giveTypes_24 rfl rfl ?_
          refine sd_iload dIN_giveTypes_25 rfl ?_
          refine sd_aload_n dIN_giveTypes_27 rfl rfl ?_
          refine sd_iload dIN_giveTypes_28 rfl ?_
          refine fx_ialdv (v := (nI (j))) (i) dIN_giveTypes_30 rfl rfl (by omega) (by decide) (hb') ?_
          refine sd_cS [.int (nI (j))] [.int (nI (i)), .ref (o + (299))] dIN_giveTypes_31 kIN_42 mIN_variableOf_s (c_IN_variableOf) (by omega) (Nat.le_refl _) (Nat.le_refl _) (Nat.le_of_ble_eq_true rfl) rfl ?_
          refine fx_cV 4 sR_IN [.int (nI (i)), .int (nI (24 + j))] [] dIN_giveTypes_34 kIN_46 rfl rfl mIN_equate_v (c_IN_equate hB hE.2.1 (by omega) (by omega) (by omega)) (by omega) (Nat.le_refl _) (Nat.le_refl _) (Nat.le_of_ble_eq_true rfl) rfl ?_
          refine sd_goto 48 dIN_giveTypes_37 (by decide) ?_
          refine nn_iinc 1 dIN_giveTypes_48 rfl (by decide) ?_
          refine sd_goto 7 dIN_giveTypes_51 (by decide) ?_
          refine sd_locp (al' := [(0, .ref (o + (299))), (1, .ref (o + (tmo (r)))), (2, .ref (o + (298))), (3, .ref (o + (2))), (4, .int (nI (i + 1)))]) [1, 2, 3, 4, 0] rfl ?_
          exact ih (i + 1) _ (by omega) fin (hf.tr eq_f)
theorem c_IN_giveTypes {G : sd_G} {o : Nat} {D : fx_D} {h0 : sd_H} {nx r : Nat} {l : tl_T} {nt : Nat → Nat} {bn : Nat → Option Nat} {v : Int32} (hB : G.2.1 ≤ o) (hr73 : r < 73) (hrow : ty_row l) (hl : D.2.1 (tmo r) 3 = nI l.length) (hsy : ∀ i, i < l.length → D.1 (tmo r + 1) i = nI (tl_at l i).1) (hen : ∀ i, i < l.length → D.1 (tmo r + 3) i = nI (tl_end l i)) (hbn : ∀ i, i < l.length → D.1 298 i = oi_I (bn i)) (hbs : ∀ i, i < l.length → (∀ j, bn i = some j → 10 < (tl_at l i).1 ∧ bd l i = j) ∧ (bn i = none → (tl_at l i).1 < 11)) (hnt : dk_nt D nt) (hv : gt_v l nt v) : sd_Ct G mIN_giveTypes 28 0 0 [.ref (o + 299), .ref (o + tmo r), .ref (o + 298), .ref (o + 2)] (fx_h G.1.2 dk_S o D h0) nx (fx_is G.1.2 dk_S o h0 nx (some (.int v)) (gt_P l nt r v D)) := by
  refine sd_Ct_of (by decide) (Nat.le_of_ble_eq_true rfl) ?_
  have w : ∀ {D1 D2 : fx_D} {i : Nat}, in_f D D1 → co_S l nt i D1 → co_S l nt i D1 := fun _ h => h
  have st : ∀ {D1 : fx_D}, in_G D1 50 K1_ (fun _ => 0) (fun _ => 0) (fun n => n) → in_E D1 [] 50 → co_S l nt 0 D1 := fun g e => ⟨50, K1_, _, _, [], g, in_B0, e, co_0 l nt⟩
  refine sd_aload_n dIN_giveTypes_0 rfl rfl ?_
  refine fx_cP 4 sR_IN [] [] dIN_giveTypes_1 kIN_33 rfl rfl mIN_begin_v (c_IN_begin hB) (by decide) (Nat.le_refl _) (Nat.le_refl _) (Nat.le_of_ble_eq_true rfl) rfl (fun D1 h1 => ?_)
  refine sd_iconst (v := nI 0) dIN_giveTypes_4 (by decide) ?_
  refine sd_istore dIN_giveTypes_5 (by decide) ?_
  refine sd_locp (al' := [(0, .ref (o + (299))), (1, .ref (o + (tmo (r)))), (2, .ref (o + (298))), (3, .ref (o + (2))), (4, .int (nI (0)))]) [1, 2, 3, 4, 0] rfl ?_
  exact l_IN_gt1 hB hr73 hrow hl hsy hen hbn hbs hnt hv l.length 0 D1 (by omega) (st h1.1 h1.2.1) h1.2.2
