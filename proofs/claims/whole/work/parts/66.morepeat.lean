/-! ===== the model: repeat ===== -/
def rp_kind (w : Nat) : Nat := if w < 2 then w else if w = 2 then 5 else if w < 11 then 4 else 3
def rp_arg (w : Nat) : Nat := if 3 ≤ w ∧ w < 11 then w - 3 else 0
/-- the try number w -/
def rp_try (S : st_S) (w : Nat) : Int32 × st_S := match (st_op S).head? with
  | none => (-1, S)
  | some g => tc_do S (rp_kind w) (rp_arg w) g
/-- the first of m tries from w on that is not refused -/
def rp_first (S : st_S) : Nat → Nat → Option st_S
  | 0, _ => none
  | m + 1, w => if (rp_try S w).1 < 0 then rp_first S m (w + 1) else some (rp_try S w).2
def rp_n (S : st_S) : Nat → Nat × st_S
  | 0 => (0, S)
  | n + 1 => match rp_first S 12 0 with
    | none => (0, S)
    | some S' => ((rp_n S' n).1 + 1, (rp_n S' n).2)
def sp_repeat (S : st_S) (x ans : Int32) (S' : st_S) : Prop := (¬ (∃ n : Nat, 1 ≤ n ∧ n ≤ 8 ∧ x = nI n) ∧ ans = -1 ∧ S' = S) ∨ ∃ n : Nat, 1 ≤ n ∧ n ≤ 8 ∧ x = nI n ∧ ans = nI (rp_n S n).1 ∧ S' = (rp_n S n).2
theorem rp_there {S : st_S} {w : Nat} (hw : w < 12) : tc_there S (nI (rp_kind w)) (nI w - nI 3) (rp_kind w) (rp_arg w) := by
  refine ⟨rfl, ?_⟩
  unfold rp_kind rp_arg
  by_cases h1 : w < 2
  · rw [if_pos h1, if_neg (by omega)]
    exact Or.inl ⟨by omega, rfl⟩
  · rw [if_neg h1]
    by_cases h2 : w = 2
    · rw [if_pos h2, if_neg (by omega)]
      exact Or.inl ⟨by omega, rfl⟩
    · rw [if_neg h2]
      by_cases h3 : w < 11
      · rw [if_pos h3, if_pos (by omega), pk_sub (by omega)]
        exact Or.inr (Or.inr (Or.inl ⟨rfl, rfl, by omega⟩))
      · rw [if_neg h3, if_neg (by omega)]
        exact Or.inl ⟨by omega, rfl⟩
theorem rp_sp {S : st_S} {w g : Nat} (hw : w < 12) (hg : (st_op S).head? = some g) : ∀ kk, kk = rp_kind w → sp_tactic S (nI kk) (nI w - nI 3) (rp_try S w).1 (rp_try S w).2 := by
  rintro kk rfl
  refine Or.inr ⟨g, rp_kind w, rp_arg w, hg, rp_there hw, ?_⟩
  unfold rp_try
  rw [hg]
theorem lv_rows_le (S : st_S) (k a g : Nat) : (lv_rows S k a g).length ≤ 2 := by
  unfold lv_rows
  split <;> simp
theorem tc_do_or {S : st_S} {k a g : Nat} (h30 : (st_op S).length ≤ 30) : ((tc_do S k a g).1 < 0 ∧ (tc_do S k a g).2 = S) ∨ (¬ (tc_do S k a g).1 < 0 ∧ (tc_do S k a g).2 = tc_S S k a g ∧ tc_full S k a g = false) := by
  unfold tc_do
  by_cases h1 : su_fit S k a g = false
  · rw [if_pos h1]
    exact Or.inl ⟨show (-4 : Int32) < 0 by decide, rfl⟩
  · rw [if_neg h1]
    by_cases h2 : tc_big S k a g = true
    · rw [if_pos h2]
      exact Or.inl ⟨show (-5 : Int32) < 0 by decide, rfl⟩
    · rw [if_neg h2]
      by_cases h3 : tc_full S k a g = true
      · rw [if_pos h3]
        exact Or.inl ⟨show (-6 : Int32) < 0 by decide, rfl⟩
      · rw [if_neg h3]
        refine Or.inr ⟨nI_pos ?_, rfl, by simpa using h3⟩
        show (st_op (tc_S S k a g)).length < 2 ^ 31
        have e3 : st_op (tc_S S k a g) = (List.range (lv_rows S k a g).length).map (fun j => (st_gl S).length + j) ++ (st_op S).tail := rfl
        rw [e3, List.length_append, List.length_map, List.length_range, List.length_tail]
        have := lv_rows_le S k a g
        omega
theorem rp_ok {S : st_S} {D : fx_D} {w g : Nat} (hR : mo_R S D) (hok : st_ok S) (hw : w < 12) (hg : (st_op S).head? = some g) : ((rp_try S w).1 < 0 → (rp_try S w).2 = S) ∧ (¬ (rp_try S w).1 < 0 → st_ok (rp_try S w).2) := by
  unfold rp_try
  rw [hg]
  simp only
  rcases tc_do_or (k := rp_kind w) (a := rp_arg w) (g := g) hR.2.2.2.2.2.2.1.1 with ⟨h1, h2⟩ | ⟨h1, h2, h3⟩
  · exact ⟨fun _ => h2, fun z => absurd h1 z⟩
  · exact ⟨fun z => absurd z h1, fun _ => by rw [h2]; exact tc_ok hR hok hg (rp_there hw) h3⟩
theorem rp_first_nil {S : st_S} (h : (st_op S).head? = none) : ∀ m w, rp_first S m w = none := by
  intro m
  induction m with
  | zero => intro w; rfl
  | succ m ih =>
    intro w
    rw [rp_first, if_pos (by unfold rp_try; rw [h]; exact (show (-1 : Int32) < 0 by decide))]
    exact ih (w + 1)
theorem rp_first_ok {S : st_S} {D : fx_D} {g : Nat} (hR : mo_R S D) (hok : st_ok S) (hg : (st_op S).head? = some g) : ∀ (m w : Nat) (S1 : st_S), w + m ≤ 12 → rp_first S m w = some S1 → st_ok S1 := by
  intro m
  induction m with
  | zero => intro w S1 hw h; cases h
  | succ m ih =>
    intro w S1 hw h
    rw [rp_first] at h
    by_cases h1 : (rp_try S w).1 < 0
    · rw [if_pos h1] at h
      exact ih (w + 1) S1 (by omega) h
    · rw [if_neg h1] at h
      cases h
      exact (rp_ok hR hok (by omega) hg).2 h1
theorem dMO_repeat_0 : decode prog_13_method_66_code 0 = .ok (.iload_n 1, 1) := by decide +kernel
theorem dMO_repeat_1 : decode prog_13_method_66_code 1 = .ok (.iconst 1, 1) := by decide +kernel
theorem dMO_repeat_2 : decode prog_13_method_66_code 2 = .ok (.bipush (8), 2) := by decide +kernel
theorem dMO_repeat_4 : decode prog_13_method_66_code 4 = .ok (.invokestatic 102, 3) := by decide +kernel
theorem dMO_repeat_7 : decode prog_13_method_66_code 7 = .ok (.ifCond .ne (5), 3) := by decide +kernel
theorem dMO_repeat_10 : decode prog_13_method_66_code 10 = .ok (.iconst (-1), 1) := by decide +kernel
theorem dMO_repeat_11 : decode prog_13_method_66_code 11 = .ok (.ireturn, 1) := by decide +kernel
theorem dMO_repeat_12 : decode prog_13_method_66_code 12 = .ok (.iconst 0, 1) := by decide +kernel
theorem dMO_repeat_13 : decode prog_13_method_66_code 13 = .ok (.istore_n 2, 1) := by decide +kernel
theorem dMO_repeat_14 : decode prog_13_method_66_code 14 = .ok (.iconst 1, 1) := by decide +kernel
theorem dMO_repeat_15 : decode prog_13_method_66_code 15 = .ok (.istore_n 3, 1) := by decide +kernel
theorem dMO_repeat_16 : decode prog_13_method_66_code 16 = .ok (.iconst 0, 1) := by decide +kernel
theorem dMO_repeat_17 : decode prog_13_method_66_code 17 = .ok (.istore 4, 2) := by decide +kernel
theorem dMO_repeat_19 : decode prog_13_method_66_code 19 = .ok (.iload 4, 2) := by decide +kernel
theorem dMO_repeat_21 : decode prog_13_method_66_code 21 = .ok (.iload_n 1, 1) := by decide +kernel
theorem dMO_repeat_22 : decode prog_13_method_66_code 22 = .ok (.if_icmp .ge (99), 3) := by decide +kernel
theorem dMO_repeat_25 : decode prog_13_method_66_code 25 = .ok (.iload_n 3, 1) := by decide +kernel
theorem dMO_repeat_26 : decode prog_13_method_66_code 26 = .ok (.ifCond .eq (95), 3) := by decide +kernel
theorem dMO_repeat_29 : decode prog_13_method_66_code 29 = .ok (.aload_n 0, 1) := by decide +kernel
theorem dMO_repeat_30 : decode prog_13_method_66_code 30 = .ok (.getfield 273, 3) := by decide +kernel
theorem dMO_repeat_33 : decode prog_13_method_66_code 33 = .ok (.ifCond .le (88), 3) := by decide +kernel
theorem dMO_repeat_36 : decode prog_13_method_66_code 36 = .ok (.iconst 0, 1) := by decide +kernel
theorem dMO_repeat_37 : decode prog_13_method_66_code 37 = .ok (.istore_n 3, 1) := by decide +kernel
theorem dMO_repeat_38 : decode prog_13_method_66_code 38 = .ok (.iconst 0, 1) := by decide +kernel
theorem dMO_repeat_39 : decode prog_13_method_66_code 39 = .ok (.istore 5, 2) := by decide +kernel
theorem dMO_repeat_41 : decode prog_13_method_66_code 41 = .ok (.iload 5, 2) := by decide +kernel
theorem dMO_repeat_43 : decode prog_13_method_66_code 43 = .ok (.bipush (12), 2) := by decide +kernel
theorem dMO_repeat_45 : decode prog_13_method_66_code 45 = .ok (.if_icmp .ge (63), 3) := by decide +kernel
theorem dMO_repeat_48 : decode prog_13_method_66_code 48 = .ok (.iload_n 3, 1) := by decide +kernel
theorem dMO_repeat_49 : decode prog_13_method_66_code 49 = .ok (.ifCond .ne (59), 3) := by decide +kernel
theorem dMO_repeat_52 : decode prog_13_method_66_code 52 = .ok (.aload_n 0, 1) := by decide +kernel
theorem dMO_repeat_53 : decode prog_13_method_66_code 53 = .ok (.iload 5, 2) := by decide +kernel
theorem dMO_repeat_55 : decode prog_13_method_66_code 55 = .ok (.iconst 2, 1) := by decide +kernel
theorem dMO_repeat_56 : decode prog_13_method_66_code 56 = .ok (.if_icmp .ge (8), 3) := by decide +kernel
theorem dMO_repeat_59 : decode prog_13_method_66_code 59 = .ok (.iload 5, 2) := by decide +kernel
theorem dMO_repeat_61 : decode prog_13_method_66_code 61 = .ok (.goto (25), 3) := by decide +kernel
theorem dMO_repeat_64 : decode prog_13_method_66_code 64 = .ok (.iload 5, 2) := by decide +kernel
theorem dMO_repeat_66 : decode prog_13_method_66_code 66 = .ok (.iconst 2, 1) := by decide +kernel
theorem dMO_repeat_67 : decode prog_13_method_66_code 67 = .ok (.if_icmp .ne (7), 3) := by decide +kernel
theorem dMO_repeat_70 : decode prog_13_method_66_code 70 = .ok (.iconst 5, 1) := by decide +kernel
theorem dMO_repeat_71 : decode prog_13_method_66_code 71 = .ok (.goto (15), 3) := by decide +kernel
theorem dMO_repeat_74 : decode prog_13_method_66_code 74 = .ok (.iload 5, 2) := by decide +kernel
theorem dMO_repeat_76 : decode prog_13_method_66_code 76 = .ok (.bipush (11), 2) := by decide +kernel
theorem dMO_repeat_78 : decode prog_13_method_66_code 78 = .ok (.if_icmp .ge (7), 3) := by decide +kernel
theorem dMO_repeat_81 : decode prog_13_method_66_code 81 = .ok (.iconst 4, 1) := by decide +kernel
theorem dMO_repeat_82 : decode prog_13_method_66_code 82 = .ok (.goto (4), 3) := by decide +kernel
theorem dMO_repeat_85 : decode prog_13_method_66_code 85 = .ok (.iconst 3, 1) := by decide +kernel
theorem dMO_repeat_86 : decode prog_13_method_66_code 86 = .ok (.iload 5, 2) := by decide +kernel
theorem dMO_repeat_88 : decode prog_13_method_66_code 88 = .ok (.iconst 3, 1) := by decide +kernel
theorem dMO_repeat_89 : decode prog_13_method_66_code 89 = .ok (.isub, 1) := by decide +kernel
theorem dMO_repeat_90 : decode prog_13_method_66_code 90 = .ok (.invokevirtual 293, 3) := by decide +kernel
theorem dMO_repeat_93 : decode prog_13_method_66_code 93 = .ok (.ifCond .lt (7), 3) := by decide +kernel
theorem dMO_repeat_96 : decode prog_13_method_66_code 96 = .ok (.iconst 1, 1) := by decide +kernel
theorem dMO_repeat_97 : decode prog_13_method_66_code 97 = .ok (.goto (4), 3) := by decide +kernel
theorem dMO_repeat_100 : decode prog_13_method_66_code 100 = .ok (.iconst 0, 1) := by decide +kernel
theorem dMO_repeat_101 : decode prog_13_method_66_code 101 = .ok (.istore_n 3, 1) := by decide +kernel
theorem dMO_repeat_102 : decode prog_13_method_66_code 102 = .ok (.iinc 5 (1), 3) := by decide +kernel
theorem dMO_repeat_105 : decode prog_13_method_66_code 105 = .ok (.goto (-64), 3) := by decide +kernel
theorem dMO_repeat_108 : decode prog_13_method_66_code 108 = .ok (.iload_n 3, 1) := by decide +kernel
theorem dMO_repeat_109 : decode prog_13_method_66_code 109 = .ok (.ifCond .eq (6), 3) := by decide +kernel
theorem dMO_repeat_112 : decode prog_13_method_66_code 112 = .ok (.iinc 2 (1), 3) := by decide +kernel
theorem dMO_repeat_115 : decode prog_13_method_66_code 115 = .ok (.iinc 4 (1), 3) := by decide +kernel
theorem dMO_repeat_118 : decode prog_13_method_66_code 118 = .ok (.goto (-99), 3) := by decide +kernel
theorem dMO_repeat_121 : decode prog_13_method_66_code 121 = .ok (.iload_n 2, 1) := by decide +kernel
theorem dMO_repeat_122 : decode prog_13_method_66_code 122 = .ok (.ireturn, 1) := by decide +kernel
theorem y_MO_rep {G : sd_G} {o : Nat} {D : fx_D} {h0 : sd_H} {nx n did k w : Nat} {Q : sd_Q} (hw : w < 20) (kk : sd_W G mMO_repeat 8 0 0 Q 108 [(0, .ref (o + 0)), (1, .int (nI n)), (2, .int (nI did)), (3, .int (nI 1)), (4, .int (nI k))] [] (fx_h G.1.2 mo_S o D h0) nx 0 0) : sd_W G mMO_repeat 8 0 0 Q 41 [(0, .ref (o + 0)), (1, .int (nI n)), (2, .int (nI did)), (3, .int (nI 1)), (4, .int (nI k)), (5, .int (nI w))] [] (fx_h G.1.2 mo_S o D h0) nx 0 0 := by
  refine sd_iload dMO_repeat_41 rfl ?_
  refine sd_bipush (v := nI 12) dMO_repeat_43 (by decide) ?_
  refine nn_icmp_ge 108 dMO_repeat_45 (by decide) (by omega) (by omega) (fun c45 => ?_) (fun c45 => ?_)
  ·
    refine sd_locp (al' := [(0, .ref (o + (0))), (1, .int (nI (n))), (2, .int (nI (did))), (3, .int (nI (1))), (4, .int (nI (k)))]) [0, 1, 2, 3, 4] rfl ?_
    exact kk
  ·
    refine sd_iload_n dMO_repeat_48 rfl rfl ?_
    refine nn_if_ne 108 dMO_repeat_49 (by decide) (by decide) (fun _ => ?_) (fun c => absurd c (by decide))
    refine sd_locp (al' := [(0, .ref (o + (0))), (1, .int (nI (n))), (2, .int (nI (did))), (3, .int (nI (1))), (4, .int (nI (k)))]) [0, 1, 2, 3, 4] rfl ?_
    exact kk
theorem l_MO_rep1 {G : sd_G} {o : Nat} {h0 : sd_H} {nx n did k g : Nat} {S : st_S} {Q : sd_Q} (hB : G.2.1 ≤ o) (hok : st_ok S) (hg : (st_op S).head? = some g) : ∀ (m w : Nat) (D : fx_D), 12 = w + m → mo_R S D → (rp_first S m w = none → ∀ D' : fx_D, mo_R S D' → sd_W G mMO_repeat 8 0 0 Q 108 [(0, .ref (o + 0)), (1, .int (nI n)), (2, .int (nI did)), (3, .int (nI 0)), (4, .int (nI k))] [] (fx_h G.1.2 mo_S o D' h0) nx 0 0) → (∀ S1, rp_first S m w = some S1 → ∀ D' : fx_D, mo_R S1 D' → sd_W G mMO_repeat 8 0 0 Q 108 [(0, .ref (o + 0)), (1, .int (nI n)), (2, .int (nI did)), (3, .int (nI 1)), (4, .int (nI k))] [] (fx_h G.1.2 mo_S o D' h0) nx 0 0) → sd_W G mMO_repeat 8 0 0 Q 41 [(0, .ref (o + 0)), (1, .int (nI n)), (2, .int (nI did)), (3, .int (nI 0)), (4, .int (nI k)), (5, .int (nI w))] [] (fx_h G.1.2 mo_S o D h0) nx 0 0 := by
  intro m
  induction m with
  | zero =>
    intro w D hw hR K0 K1
    refine sd_iload dMO_repeat_41 rfl ?_
    refine sd_bipush (v := nI 12) dMO_repeat_43 (by decide) ?_
    refine nn_icmp_ge 108 dMO_repeat_45 (by decide) (by omega) (by omega) (fun c45 => ?_) (fun c45 => ?_)
    ·
      refine sd_locp (al' := [(0, .ref (o + (0))), (1, .int (nI (n))), (2, .int (nI (did))), (3, .int (nI (0))), (4, .int (nI (k)))]) [0, 1, 2, 3, 4] rfl ?_
      exact K0 rfl D hR
    ·
      exact absurd c45 (by omega)
  | succ m ih =>
    intro w D hw hR K0 K1
    obtain ⟨r1, r2⟩ := rp_ok hR hok (show w < 12 by omega) hg
    have cT : ∀ kk, kk = rp_kind w → sd_Ct G mMO_tactic 7 0 0 [.ref (o + 0), .int (nI kk), .int (nI w - nI 3)] (fx_h G.1.2 mo_S o D h0) nx (fx_is G.1.2 mo_S o h0 nx (some (.int (rp_try S w).1)) (mo_R (rp_try S w).2)) := fun kk hk => c_MO_tactic hB hR hok.1 hok.2.1 hok.2.2.1 hok.2.2.2.1 hok.2.2.2.2 (rp_sp (by omega) hg kk hk)
    refine sd_iload dMO_repeat_41 rfl ?_
    refine sd_bipush (v := nI 12) dMO_repeat_43 (by decide) ?_
    refine nn_icmp_ge 108 dMO_repeat_45 (by decide) (by omega) (by omega) (fun c45 => ?_) (fun c45 => ?_)
    ·
      exact absurd c45 (by omega)
    ·
      refine sd_iload_n dMO_repeat_48 rfl rfl ?_
      refine nn_if_ne 108 dMO_repeat_49 (by decide) (by decide) (fun c => absurd c (by decide)) (fun _ => ?_)
      refine sd_aload_n dMO_repeat_52 rfl rfl ?_
      refine sd_iload dMO_repeat_53 rfl ?_
      refine sd_iconst (v := nI 2) dMO_repeat_55 (by decide) ?_
      refine nn_icmp_ge 64 dMO_repeat_56 (by decide) (by omega) (by omega) (fun c56 => ?_) (fun c56 => ?_)
      ·
        refine sd_iload dMO_repeat_64 rfl ?_
        refine sd_iconst (v := nI 2) dMO_repeat_66 (by decide) ?_
        refine nn_icmp_ne 74 dMO_repeat_67 (by decide) (by omega) (by omega) (fun c67 => ?_) (fun c67 => ?_)
        ·
          refine sd_iload dMO_repeat_74 rfl ?_
          refine sd_bipush (v := nI 11) dMO_repeat_76 (by decide) ?_
          refine nn_icmp_ge 85 dMO_repeat_78 (by decide) (by omega) (by omega) (fun c78 => ?_) (fun c78 => ?_)
          ·
            refine sd_iconst (v := nI 3) dMO_repeat_85 (by decide) ?_
            refine sd_iload dMO_repeat_86 rfl ?_
            refine sd_iconst (v := nI 3) dMO_repeat_88 (by decide) ?_
            refine sd_isub dMO_repeat_89 ?_
            refine fx_cP 10 sR_MO [.int (nI (3)), .int ((nI (w)) - (nI (3)))] [] dMO_repeat_90 kMO_293 rfl rfl mMO_tactic_v (cT _ (by unfold rp_kind; split <;> (try split) <;> (try split) <;> omega)) (by decide) (Nat.le_refl _) (Nat.le_refl _) (Nat.le_of_ble_eq_true rfl) rfl (fun D1 hD1 => ?_)
            refine sd_if_lt 100 dMO_repeat_93 (by decide) (fun c93 => ?_) (fun c93 => ?_)
            ·
              have rep_0 := ih (w + 1) D1 (by omega) (by rw [r1 c93] at hD1; exact hD1) (fun h ↦ K0 (by rw [rp_first, if_pos c93]; exact h)) (fun S1 h ↦ K1 S1 (by rw [rp_first, if_pos c93]; exact h))
              refine sd_iconst (v := nI 0) dMO_repeat_100 (by decide) ?_
              refine sd_istore_n dMO_repeat_101 rfl (by decide) ?_
              refine nn_iinc 1 dMO_repeat_102 rfl (by decide) ?_
              refine sd_goto 41 dMO_repeat_105 (by decide) ?_
              refine sd_locp (al' := [(0, .ref (o + (0))), (1, .int (nI (n))), (2, .int (nI (did))), (3, .int (nI (0))), (4, .int (nI (k))), (5, .int (nI (w + 1)))]) [2, 3, 4, 1, 5, 0] rfl ?_
              exact rep_0
            ·
              have rep_1 := y_MO_rep (w := w + 1) (by omega) (K1 _ (by rw [rp_first, if_neg c93]) D1 hD1)
              refine sd_iconst (v := nI 1) dMO_repeat_96 (by decide) ?_
              refine sd_goto 101 dMO_repeat_97 (by decide) ?_
              refine sd_istore_n dMO_repeat_101 rfl (by decide) ?_
              refine nn_iinc 1 dMO_repeat_102 rfl (by decide) ?_
              refine sd_goto 41 dMO_repeat_105 (by decide) ?_
              refine sd_locp (al' := [(0, .ref (o + (0))), (1, .int (nI (n))), (2, .int (nI (did))), (3, .int (nI (1))), (4, .int (nI (k))), (5, .int (nI (w + 1)))]) [2, 3, 4, 1, 5, 0] rfl ?_
              exact rep_1
          ·
            refine sd_iconst (v := nI 4) dMO_repeat_81 (by decide) ?_
            refine sd_goto 86 dMO_repeat_82 (by decide) ?_
            refine sd_iload dMO_repeat_86 rfl ?_
            refine sd_iconst (v := nI 3) dMO_repeat_88 (by decide) ?_
            refine sd_isub dMO_repeat_89 ?_
            refine fx_cP 10 sR_MO [.int (nI (4)), .int ((nI (w)) - (nI (3)))] [] dMO_repeat_90 kMO_293 rfl rfl mMO_tactic_v (cT _ (by unfold rp_kind; split <;> (try split) <;> (try split) <;> omega)) (by decide) (Nat.le_refl _) (Nat.le_refl _) (Nat.le_of_ble_eq_true rfl) rfl (fun D1 hD1 => ?_)
            refine sd_if_lt 100 dMO_repeat_93 (by decide) (fun c93 => ?_) (fun c93 => ?_)
            ·
              have rep_0 := ih (w + 1) D1 (by omega) (by rw [r1 c93] at hD1; exact hD1) (fun h ↦ K0 (by rw [rp_first, if_pos c93]; exact h)) (fun S1 h ↦ K1 S1 (by rw [rp_first, if_pos c93]; exact h))
              refine sd_iconst (v := nI 0) dMO_repeat_100 (by decide) ?_
              refine sd_istore_n dMO_repeat_101 rfl (by decide) ?_
              refine nn_iinc 1 dMO_repeat_102 rfl (by decide) ?_
              refine sd_goto 41 dMO_repeat_105 (by decide) ?_
              refine sd_locp (al' := [(0, .ref (o + (0))), (1, .int (nI (n))), (2, .int (nI (did))), (3, .int (nI (0))), (4, .int (nI (k))), (5, .int (nI (w + 1)))]) [2, 3, 4, 1, 5, 0] rfl ?_
              exact rep_0
            ·
              have rep_1 := y_MO_rep (w := w + 1) (by omega) (K1 _ (by rw [rp_first, if_neg c93]) D1 hD1)
              refine sd_iconst (v := nI 1) dMO_repeat_96 (by decide) ?_
              refine sd_goto 101 dMO_repeat_97 (by decide) ?_
              refine sd_istore_n dMO_repeat_101 rfl (by decide) ?_
              refine nn_iinc 1 dMO_repeat_102 rfl (by decide) ?_
              refine sd_goto 41 dMO_repeat_105 (by decide) ?_
              refine sd_locp (al' := [(0, .ref (o + (0))), (1, .int (nI (n))), (2, .int (nI (did))), (3, .int (nI (1))), (4, .int (nI (k))), (5, .int (nI (w + 1)))]) [2, 3, 4, 1, 5, 0] rfl ?_
              exact rep_1
        ·
          refine sd_iconst (v := nI 5) dMO_repeat_70 (by decide) ?_
          refine sd_goto 86 dMO_repeat_71 (by decide) ?_
          refine sd_iload dMO_repeat_86 rfl ?_
          refine sd_iconst (v := nI 3) dMO_repeat_88 (by decide) ?_
          refine sd_isub dMO_repeat_89 ?_
          refine fx_cP 10 sR_MO [.int (nI (5)), .int ((nI (w)) - (nI (3)))] [] dMO_repeat_90 kMO_293 rfl rfl mMO_tactic_v (cT _ (by unfold rp_kind; split <;> (try split) <;> (try split) <;> omega)) (by decide) (Nat.le_refl _) (Nat.le_refl _) (Nat.le_of_ble_eq_true rfl) rfl (fun D1 hD1 => ?_)
          refine sd_if_lt 100 dMO_repeat_93 (by decide) (fun c93 => ?_) (fun c93 => ?_)
          ·
            have rep_0 := ih (w + 1) D1 (by omega) (by rw [r1 c93] at hD1; exact hD1) (fun h ↦ K0 (by rw [rp_first, if_pos c93]; exact h)) (fun S1 h ↦ K1 S1 (by rw [rp_first, if_pos c93]; exact h))
            refine sd_iconst (v := nI 0) dMO_repeat_100 (by decide) ?_
            refine sd_istore_n dMO_repeat_101 rfl (by decide) ?_
            refine nn_iinc 1 dMO_repeat_102 rfl (by decide) ?_
            refine sd_goto 41 dMO_repeat_105 (by decide) ?_
            refine sd_locp (al' := [(0, .ref (o + (0))), (1, .int (nI (n))), (2, .int (nI (did))), (3, .int (nI (0))), (4, .int (nI (k))), (5, .int (nI (w + 1)))]) [2, 3, 4, 1, 5, 0] rfl ?_
            exact rep_0
          ·
            have rep_1 := y_MO_rep (w := w + 1) (by omega) (K1 _ (by rw [rp_first, if_neg c93]) D1 hD1)
            refine sd_iconst (v := nI 1) dMO_repeat_96 (by decide) ?_
            refine sd_goto 101 dMO_repeat_97 (by decide) ?_
            refine sd_istore_n dMO_repeat_101 rfl (by decide) ?_
            refine nn_iinc 1 dMO_repeat_102 rfl (by decide) ?_
            refine sd_goto 41 dMO_repeat_105 (by decide) ?_
            refine sd_locp (al' := [(0, .ref (o + (0))), (1, .int (nI (n))), (2, .int (nI (did))), (3, .int (nI (1))), (4, .int (nI (k))), (5, .int (nI (w + 1)))]) [2, 3, 4, 1, 5, 0] rfl ?_
            exact rep_1
      ·
        refine sd_iload dMO_repeat_59 rfl ?_
        refine sd_goto 86 dMO_repeat_61 (by decide) ?_
        refine sd_iload dMO_repeat_86 rfl ?_
        refine sd_iconst (v := nI 3) dMO_repeat_88 (by decide) ?_
        refine sd_isub dMO_repeat_89 ?_
        refine fx_cP 10 sR_MO [.int (nI (w)), .int ((nI (w)) - (nI (3)))] [] dMO_repeat_90 kMO_293 rfl rfl mMO_tactic_v (cT _ (by unfold rp_kind; split <;> (try split) <;> (try split) <;> omega)) (by decide) (Nat.le_refl _) (Nat.le_refl _) (Nat.le_of_ble_eq_true rfl) rfl (fun D1 hD1 => ?_)
        refine sd_if_lt 100 dMO_repeat_93 (by decide) (fun c93 => ?_) (fun c93 => ?_)
        ·
          have rep_0 := ih (w + 1) D1 (by omega) (by rw [r1 c93] at hD1; exact hD1) (fun h ↦ K0 (by rw [rp_first, if_pos c93]; exact h)) (fun S1 h ↦ K1 S1 (by rw [rp_first, if_pos c93]; exact h))
          refine sd_iconst (v := nI 0) dMO_repeat_100 (by decide) ?_
          refine sd_istore_n dMO_repeat_101 rfl (by decide) ?_
          refine nn_iinc 1 dMO_repeat_102 rfl (by decide) ?_
          refine sd_goto 41 dMO_repeat_105 (by decide) ?_
          refine sd_locp (al' := [(0, .ref (o + (0))), (1, .int (nI (n))), (2, .int (nI (did))), (3, .int (nI (0))), (4, .int (nI (k))), (5, .int (nI (w + 1)))]) [2, 3, 4, 1, 5, 0] rfl ?_
          exact rep_0
        ·
          have rep_1 := y_MO_rep (w := w + 1) (by omega) (K1 _ (by rw [rp_first, if_neg c93]) D1 hD1)
          refine sd_iconst (v := nI 1) dMO_repeat_96 (by decide) ?_
          refine sd_goto 101 dMO_repeat_97 (by decide) ?_
          refine sd_istore_n dMO_repeat_101 rfl (by decide) ?_
          refine nn_iinc 1 dMO_repeat_102 rfl (by decide) ?_
          refine sd_goto 41 dMO_repeat_105 (by decide) ?_
          refine sd_locp (al' := [(0, .ref (o + (0))), (1, .int (nI (n))), (2, .int (nI (did))), (3, .int (nI (1))), (4, .int (nI (k))), (5, .int (nI (w + 1)))]) [2, 3, 4, 1, 5, 0] rfl ?_
          exact rep_1
theorem z_MO_rep0 {G : sd_G} {o : Nat} {D : fx_D} {h0 : sd_H} {nx n did k : Nat} {Q : sd_Q} (hn : n < 9) (hk : k < 9) (hq : Q (some (.int (nI did))) (fx_h G.1.2 mo_S o D h0) nx) : sd_W G mMO_repeat 8 0 0 Q 108 [(0, .ref (o + 0)), (1, .int (nI n)), (2, .int (nI did)), (3, .int (nI 0)), (4, .int (nI k))] [] (fx_h G.1.2 mo_S o D h0) nx 0 0 := by
  refine sd_iload_n dMO_repeat_108 rfl rfl ?_
  refine nn_if_eq 115 dMO_repeat_109 (by decide) (by decide) (fun _ => ?_) (fun c => absurd c (by decide))
  refine nn_iinc 1 dMO_repeat_115 rfl (by decide) ?_
  refine sd_goto 19 dMO_repeat_118 (by decide) ?_
  refine sd_iload dMO_repeat_19 rfl ?_
  refine sd_iload_n dMO_repeat_21 rfl rfl ?_
  refine nn_icmp_ge 121 dMO_repeat_22 (by decide) (by omega) (by omega) (fun c22 => ?_) (fun c22 => ?_)
  ·
    refine sd_iload_n dMO_repeat_121 rfl rfl ?_
    exact sd_iret dMO_repeat_122 rfl (Nat.le_refl _) (Nat.le_refl _) hq
  ·
    refine sd_iload_n dMO_repeat_25 rfl rfl ?_
    refine nn_if_eq 121 dMO_repeat_26 (by decide) (by decide) (fun _ => ?_) (fun c => absurd c (by decide))
    refine sd_iload_n dMO_repeat_121 rfl rfl ?_
    exact sd_iret dMO_repeat_122 rfl (Nat.le_refl _) (Nat.le_refl _) hq
theorem z_MO_rep1 {G : sd_G} {o : Nat} {D : fx_D} {h0 : sd_H} {nx n did k : Nat} {Q : sd_Q} (kk : sd_W G mMO_repeat 8 0 0 Q 19 [(0, .ref (o + 0)), (1, .int (nI n)), (2, .int (nI (did + 1))), (3, .int (nI 1)), (4, .int (nI (k + 1)))] [] (fx_h G.1.2 mo_S o D h0) nx 0 0) : sd_W G mMO_repeat 8 0 0 Q 108 [(0, .ref (o + 0)), (1, .int (nI n)), (2, .int (nI did)), (3, .int (nI 1)), (4, .int (nI k))] [] (fx_h G.1.2 mo_S o D h0) nx 0 0 := by
  refine sd_iload_n dMO_repeat_108 rfl rfl ?_
  refine nn_if_eq 115 dMO_repeat_109 (by decide) (by decide) (fun c => absurd c (by decide)) (fun _ => ?_)
  refine nn_iinc 1 dMO_repeat_112 rfl (by decide) ?_
  refine nn_iinc 1 dMO_repeat_115 rfl (by decide) ?_
  refine sd_goto 19 dMO_repeat_118 (by decide) ?_
  refine sd_locp (al' := [(0, .ref (o + (0))), (1, .int (nI (n))), (2, .int (nI (did + 1))), (3, .int (nI (1))), (4, .int (nI (k + 1)))]) [2, 3, 1, 4, 0] rfl ?_
  exact kk
theorem l_MO_rep {G : sd_G} {o : Nat} {h0 : sd_H} {nx n v : Nat} {S' : st_S} (hB : G.2.1 ≤ o) (hn : n < 9) : ∀ (m k did : Nat) (S : st_S) (D : fx_D), n = k + m → st_ok S → mo_R S D → v = did + (rp_n S m).1 → S' = (rp_n S m).2 → sd_W G mMO_repeat 8 0 0 (fx_is G.1.2 mo_S o h0 nx (some (.int (nI v))) (mo_R S')) 19 [(0, .ref (o + 0)), (1, .int (nI n)), (2, .int (nI did)), (3, .int (nI 1)), (4, .int (nI k))] [] (fx_h G.1.2 mo_S o D h0) nx 0 0 := by
  intro m
  induction m with
  | zero =>
    intro k did S D hk hok hR hv hS
    have hv' : v = did := hv
    have hS' : S' = S := hS
    subst hS'
    refine sd_iload dMO_repeat_19 rfl ?_
    refine sd_iload_n dMO_repeat_21 rfl rfl ?_
    refine nn_icmp_ge 121 dMO_repeat_22 (by decide) (by omega) (by omega) (fun c22 => ?_) (fun c22 => ?_)
    ·
      refine sd_iload_n dMO_repeat_121 rfl rfl ?_
      exact sd_iret dMO_repeat_122 rfl (Nat.le_refl _) (Nat.le_refl _) ⟨by rw [hv'], rfl, _, rfl, hR⟩
    ·
      exact absurd c22 (by omega)
  | succ m ih =>
    intro k did S D hk hok hR hv hS
    have hop := hR.2.2.2.2.2.2.1
    have h30 : (st_op S).length ≤ 30 := hop.1
    rw [rp_n] at hv hS
    cases hh : (st_op S).head? with
    | none =>
      rw [rp_first_nil hh] at hv hS
      have hv' : v = did := hv
      have hS' : S' = S := hS
      subst hS'
      have hl : D.2.1 0 28 = nI 0 := by rw [hop.2.1, List.head?_eq_none_iff.mp hh]; rfl
      refine sd_iload dMO_repeat_19 rfl ?_
      refine sd_iload_n dMO_repeat_21 rfl rfl ?_
      refine nn_icmp_ge 121 dMO_repeat_22 (by decide) (by omega) (by omega) (fun c22 => ?_) (fun c22 => ?_)
      ·
        exact absurd c22 (by omega)
      ·
        refine sd_iload_n dMO_repeat_25 rfl rfl ?_
        refine nn_if_eq 121 dMO_repeat_26 (by decide) (by decide) (fun c => absurd c (by decide)) (fun _ => ?_)
        refine sd_aload_n dMO_repeat_29 rfl rfl ?_
        refine fx_getiv (v := (nI (0))) 10 28 dMO_repeat_30 fMO_273 rfl rfl (hl) ?_
        refine nn_if_le 121 dMO_repeat_33 (by decide) (by decide) (fun _ => ?_) (fun c => absurd c (by decide))
        refine sd_iload_n dMO_repeat_121 rfl rfl ?_
        exact sd_iret dMO_repeat_122 rfl (Nat.le_refl _) (Nat.le_refl _) ⟨by rw [hv'], rfl, _, rfl, hR⟩
    | some g =>
      obtain ⟨tl, htl⟩ := List.head?_eq_some_iff.mp hh
      have hl : D.2.1 0 28 = nI (tl.length + 1) := by rw [hop.2.1, htl, List.length_cons]
      have hl30 : tl.length < 30 := by rw [htl, List.length_cons] at h30; omega
      refine sd_iload dMO_repeat_19 rfl ?_
      refine sd_iload_n dMO_repeat_21 rfl rfl ?_
      refine nn_icmp_ge 121 dMO_repeat_22 (by decide) (by omega) (by omega) (fun c22 => ?_) (fun c22 => ?_)
      ·
        exact absurd c22 (by omega)
      ·
        refine sd_iload_n dMO_repeat_25 rfl rfl ?_
        refine nn_if_eq 121 dMO_repeat_26 (by decide) (by decide) (fun c => absurd c (by decide)) (fun _ => ?_)
        refine sd_aload_n dMO_repeat_29 rfl rfl ?_
        refine fx_getiv (v := (nI (tl.length + 1))) 10 28 dMO_repeat_30 fMO_273 rfl rfl (hl) ?_
        refine nn_if_le 121 dMO_repeat_33 (by decide) (by omega) (fun c33 => ?_) (fun c33 => ?_)
        ·
          exact absurd c33 (by omega)
        ·
          refine sd_iconst (v := nI 0) dMO_repeat_36 (by decide) ?_
          refine sd_istore_n dMO_repeat_37 rfl (by decide) ?_
          refine sd_iconst (v := nI 0) dMO_repeat_38 (by decide) ?_
          refine sd_istore dMO_repeat_39 (by decide) ?_
          refine sd_locp (al' := [(0, .ref (o + (0))), (1, .int (nI (n))), (2, .int (nI (did))), (3, .int (nI (0))), (4, .int (nI (k))), (5, .int (nI (0)))]) [2, 3, 4, 1, 5, 0] rfl ?_
          refine l_MO_rep1 hB hok hh 12 0 D rfl hR (fun h D' hD' ↦ ?_) (fun S1 h D' hD' ↦ ?_)
          · rw [h] at hv hS
            have hv' : v = did := hv
            have hS' : S' = S := hS
            subst hS'
            exact z_MO_rep0 hn (by omega) ⟨by rw [hv'], rfl, _, rfl, hD'⟩
          · rw [h] at hv hS
            have hv' : v = did + ((rp_n S1 m).1 + 1) := hv
            exact z_MO_rep1 (ih (k + 1) (did + 1) S1 D' (by omega) (rp_first_ok hR hok hh 12 0 S1 (by omega) h) hD' (by omega) hS)
theorem c_MO_repeat {G : sd_G} {o : Nat} {D : fx_D} {h0 : sd_H} {nx : Nat} {x ans : Int32} {S S' : st_S} (hB : G.2.1 ≤ o) (hR : mo_R S D) (hok : st_ok S) (hs : sp_repeat S x ans S') : sd_Ct G mMO_repeat 8 0 0 [.ref (o + 0), .int x] (fx_h G.1.2 mo_S o D h0) nx (fx_is G.1.2 mo_S o h0 nx (some (.int ans)) (mo_R S')) := by
  refine sd_Ct_of (by decide) (Nat.le_of_ble_eq_true rfl) ?_
  have key : ∀ {x : Int32}, (¬ x < nI 1 ∧ ¬ nI 8 < x) ↔ ∃ n : Nat, 1 ≤ n ∧ n ≤ 8 ∧ x = nI n := by
    intro x
    constructor
    · rintro ⟨h1, h2⟩
      have h0 : ¬ x < 0 := fun z => by
        rw [Int32.lt_iff_toInt_lt] at h1 z
        have e0 : (0 : Int32).toInt = 0 := rfl
        have e1 : (nI 1).toInt = 1 := rfl
        omega
      obtain ⟨t, ht, rfl⟩ := nI_of h0
      have g1 : 1 ≤ t := Nat.le_of_not_lt (fun z => h1 ((nI_ltI ht (by omega)).mpr z))
      have g8 : t ≤ 8 := Nat.le_of_not_lt (fun z => h2 ((nI_ltI (by omega) ht).mpr z))
      exact ⟨t, g1, g8, rfl⟩
    · rintro ⟨n, a, b, rfl⟩
      exact ⟨fun z => by have := (nI_ltI (by omega) (by omega)).mp z; omega, fun z => by have := (nI_ltI (by omega) (by omega)).mp z; omega⟩
  rcases hs with ⟨hno, rfl, rfl⟩ | ⟨n, n1, n8, rfl, rfl, rfl⟩
  ·
    refine sd_iload_n dMO_repeat_0 rfl rfl ?_
    refine sd_iconst (v := nI 1) dMO_repeat_1 (by decide) ?_
    refine sd_bipush (v := nI 8) dMO_repeat_2 (by decide) ?_
    refine sd_cS [.int (x), .int (nI (1)), .int (nI (8))] [] dMO_repeat_4 kMO_102 mMO_in_s (c_MO_in (b := 0) (by omega) (by rw [key]; constructor; intro e; cases e; intro e; exact absurd e hno)) (by decide) (Nat.le_refl _) (Nat.le_refl _) (Nat.le_of_ble_eq_true rfl) rfl ?_
    refine nn_if_ne 12 dMO_repeat_7 (by decide) (by decide) (fun c => absurd c (by decide)) (fun _ => ?_)
    refine sd_iconst (v := (-1)) dMO_repeat_10 (by decide) ?_
    exact sd_iret dMO_repeat_11 rfl (Nat.le_refl _) (Nat.le_refl _) ⟨rfl, rfl, _, rfl, hR⟩
  ·
    refine sd_iload_n dMO_repeat_0 rfl rfl ?_
    refine sd_iconst (v := nI 1) dMO_repeat_1 (by decide) ?_
    refine sd_bipush (v := nI 8) dMO_repeat_2 (by decide) ?_
    refine sd_cS [.int (nI (n)), .int (nI (1)), .int (nI (8))] [] dMO_repeat_4 kMO_102 mMO_in_s (c_MO_in (b := 1) (by omega) (by simp only [true_iff]; exact key.mpr ⟨n, n1, n8, rfl⟩)) (by decide) (Nat.le_refl _) (Nat.le_refl _) (Nat.le_of_ble_eq_true rfl) rfl ?_
    refine nn_if_ne 12 dMO_repeat_7 (by decide) (by decide) (fun _ => ?_) (fun c => absurd c (by decide))
    refine sd_iconst (v := nI 0) dMO_repeat_12 (by decide) ?_
    refine sd_istore_n dMO_repeat_13 rfl (by decide) ?_
    refine sd_iconst (v := nI 1) dMO_repeat_14 (by decide) ?_
    refine sd_istore_n dMO_repeat_15 rfl (by decide) ?_
    refine sd_iconst (v := nI 0) dMO_repeat_16 (by decide) ?_
    refine sd_istore dMO_repeat_17 (by decide) ?_
    refine sd_locp (al' := [(0, .ref (o + (0))), (1, .int (nI (n))), (2, .int (nI (0))), (3, .int (nI (1))), (4, .int (nI (0)))]) [3, 4, 2, 1, 0] rfl ?_
    exact l_MO_rep hB (by omega) n 0 0 S D (by omega) hok hR (by omega) rfl
