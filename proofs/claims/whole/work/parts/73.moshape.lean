/-! ===== the model: isShape ===== -/
/-- the symbol that a token asks for -/
def dk_s (t : Nat) : Nat := if 9 < t then 10 else t
/-- the row of a draft, its types not yet known -/
def dk_l (dr : List Nat) : tl_T := dr.map (fun t => (dk_s t, 1))
theorem tl_cp_nil_iff {e : Nat} : tl_cp e [] ↔ e = 0 := by
  cases e with
  | zero => exact ⟨fun _ => rfl, fun _ => tl_cp_nil⟩
  | succ e => exact ⟨fun h => h.1.elim, fun h => by omega⟩
theorem nn_m1 {n : Nat} : nI (n + 1) + (-1) = nI n := by
  rw [← nI_add, Int32.add_assoc, show nI 1 + (-1) = 0 from by decide, Int32.add_zero]
theorem dMO_isShape_0 : decode prog_13_method_30_code 0 = .ok (.iconst 1, 1) := by decide +kernel
theorem dMO_isShape_1 : decode prog_13_method_30_code 1 = .ok (.istore_n 1, 1) := by decide +kernel
theorem dMO_isShape_2 : decode prog_13_method_30_code 2 = .ok (.iconst 0, 1) := by decide +kernel
theorem dMO_isShape_3 : decode prog_13_method_30_code 3 = .ok (.istore_n 2, 1) := by decide +kernel
theorem dMO_isShape_4 : decode prog_13_method_30_code 4 = .ok (.iload_n 2, 1) := by decide +kernel
theorem dMO_isShape_5 : decode prog_13_method_30_code 5 = .ok (.aload_n 0, 1) := by decide +kernel
theorem dMO_isShape_6 : decode prog_13_method_30_code 6 = .ok (.getfield 158, 3) := by decide +kernel
theorem dMO_isShape_9 : decode prog_13_method_30_code 9 = .ok (.if_icmp .ge (49), 3) := by decide +kernel
theorem dMO_isShape_12 : decode prog_13_method_30_code 12 = .ok (.iload_n 1, 1) := by decide +kernel
theorem dMO_isShape_13 : decode prog_13_method_30_code 13 = .ok (.ifCond .ne (5), 3) := by decide +kernel
theorem dMO_isShape_16 : decode prog_13_method_30_code 16 = .ok (.iconst 0, 1) := by decide +kernel
theorem dMO_isShape_17 : decode prog_13_method_30_code 17 = .ok (.ireturn, 1) := by decide +kernel
theorem dMO_isShape_18 : decode prog_13_method_30_code 18 = .ok (.iload_n 1, 1) := by decide +kernel
theorem dMO_isShape_19 : decode prog_13_method_30_code 19 = .ok (.aload_n 0, 1) := by decide +kernel
theorem dMO_isShape_20 : decode prog_13_method_30_code 20 = .ok (.getfield 22, 3) := by decide +kernel
theorem dMO_isShape_23 : decode prog_13_method_30_code 23 = .ok (.iload_n 2, 1) := by decide +kernel
theorem dMO_isShape_24 : decode prog_13_method_30_code 24 = .ok (.iaload, 1) := by decide +kernel
theorem dMO_isShape_25 : decode prog_13_method_30_code 25 = .ok (.bipush (9), 2) := by decide +kernel
theorem dMO_isShape_27 : decode prog_13_method_30_code 27 = .ok (.if_icmp .le (7), 3) := by decide +kernel
theorem dMO_isShape_30 : decode prog_13_method_30_code 30 = .ok (.iconst 0, 1) := by decide +kernel
theorem dMO_isShape_31 : decode prog_13_method_30_code 31 = .ok (.goto (19), 3) := by decide +kernel
theorem dMO_isShape_34 : decode prog_13_method_30_code 34 = .ok (.aload_n 0, 1) := by decide +kernel
theorem dMO_isShape_35 : decode prog_13_method_30_code 35 = .ok (.getfield 22, 3) := by decide +kernel
theorem dMO_isShape_38 : decode prog_13_method_30_code 38 = .ok (.iload_n 2, 1) := by decide +kernel
theorem dMO_isShape_39 : decode prog_13_method_30_code 39 = .ok (.iaload, 1) := by decide +kernel
theorem dMO_isShape_40 : decode prog_13_method_30_code 40 = .ok (.bipush (7), 2) := by decide +kernel
theorem dMO_isShape_42 : decode prog_13_method_30_code 42 = .ok (.if_icmp .le (7), 3) := by decide +kernel
theorem dMO_isShape_45 : decode prog_13_method_30_code 45 = .ok (.iconst 1, 1) := by decide +kernel
theorem dMO_isShape_46 : decode prog_13_method_30_code 46 = .ok (.goto (4), 3) := by decide +kernel
theorem dMO_isShape_49 : decode prog_13_method_30_code 49 = .ok (.iconst (-1), 1) := by decide +kernel
theorem dMO_isShape_50 : decode prog_13_method_30_code 50 = .ok (.iadd, 1) := by decide +kernel
theorem dMO_isShape_51 : decode prog_13_method_30_code 51 = .ok (.istore_n 1, 1) := by decide +kernel
theorem dMO_isShape_52 : decode prog_13_method_30_code 52 = .ok (.iinc 2 (1), 3) := by decide +kernel
theorem dMO_isShape_55 : decode prog_13_method_30_code 55 = .ok (.goto (-51), 3) := by decide +kernel
theorem dMO_isShape_58 : decode prog_13_method_30_code 58 = .ok (.iload_n 1, 1) := by decide +kernel
theorem dMO_isShape_59 : decode prog_13_method_30_code 59 = .ok (.ifCond .ne (7), 3) := by decide +kernel
theorem dMO_isShape_62 : decode prog_13_method_30_code 62 = .ok (.iconst 1, 1) := by decide +kernel
theorem dMO_isShape_63 : decode prog_13_method_30_code 63 = .ok (.goto (4), 3) := by decide +kernel
theorem dMO_isShape_66 : decode prog_13_method_30_code 66 = .ok (.iconst 0, 1) := by decide +kernel
theorem dMO_isShape_67 : decode prog_13_method_30_code 67 = .ok (.ireturn, 1) := by decide +kernel
theorem l_MO_isShape {G : sd_G} {o : Nat} {D : fx_D} {h0 : sd_H} {nx v : Nat} {dr : List Nat} (hD : mo_dr D dr) (hv2 : v < 2) : ∀ (n j e : Nat), dr.length = j + n → e ≤ j + 1 → (v = 1 ↔ tl_cp e (dk_l (dr.drop j))) → sd_W G mMO_isShape 0 0 0 (sd_is (some (.int (nI v))) (fx_h G.1.2 mo_S o D h0) nx) 4 [(0, .ref (o + 0)), (1, .int (nI e)), (2, .int (nI j))] [] (fx_h G.1.2 mo_S o D h0) nx 0 0 := by
  obtain ⟨h24, d6, hx⟩ := hD
  intro n
  induction n with
  | zero =>
    intro j e hj he hv
    rw [List.drop_eq_nil_of_le (by omega)] at hv
    rw [show dk_l [] = [] from rfl, tl_cp_nil_iff] at hv
    refine sd_iload_n dMO_isShape_4 rfl rfl ?_
    refine sd_aload_n dMO_isShape_5 rfl rfl ?_
    refine fx_getiv (v := (nI (dr.length))) 10 6 dMO_isShape_6 fMO_158 rfl rfl (d6) ?_
    refine nn_icmp_ge 58 dMO_isShape_9 (by decide) (by omega) (by omega) (fun c9 => ?_) (fun c9 => ?_)
    ·
      refine sd_iload_n dMO_isShape_58 rfl rfl ?_
      refine nn_if_ne 66 dMO_isShape_59 (by decide) (by omega) (fun c59 => ?_) (fun c59 => ?_)
      ·
        refine sd_iconst (v := nI 0) dMO_isShape_66 (by decide) ?_
        obtain rfl : v = (0) := by omega
        exact sd_zret dMO_isShape_67 rfl (nn_01 (by omega)) (Nat.le_refl _) (Nat.le_refl _) ⟨rfl, rfl, rfl⟩
      ·
        refine sd_iconst (v := nI 1) dMO_isShape_62 (by decide) ?_
        refine sd_goto 67 dMO_isShape_63 (by decide) ?_
        obtain rfl : v = (1) := by omega
        exact sd_zret dMO_isShape_67 rfl (nn_01 (by omega)) (Nat.le_refl _) (Nat.le_refl _) ⟨rfl, rfl, rfl⟩
    ·
      exact absurd c9 (by omega)
  | succ n ih =>
    intro j e hj he hv
    have hg : dr[j]? = some dr[j] := List.getElem?_eq_getElem (by omega)
    have hdr : dr.drop j = dr[j] :: dr.drop (j + 1) := List.drop_eq_getElem_cons (by omega)
    generalize dr[j] = t at hg hdr
    obtain ⟨t1, t18⟩ := hx j t hg
    rw [hdr, show dk_l (t :: dr.drop (j + 1)) = (dk_s t, 1) :: dk_l (dr.drop (j + 1)) from rfl] at hv
    cases e with
    | zero =>
      obtain rfl : v = 0 := by
        have : ¬ v = 1 := fun z => by
          have := tl_cp_zero (hv.mp z)
          cases this
        omega
      refine sd_iload_n dMO_isShape_4 rfl rfl ?_
      refine sd_aload_n dMO_isShape_5 rfl rfl ?_
      refine fx_getiv (v := (nI (dr.length))) 10 6 dMO_isShape_6 fMO_158 rfl rfl (d6) ?_
      refine nn_icmp_ge 58 dMO_isShape_9 (by decide) (by omega) (by omega) (fun c9 => ?_) (fun c9 => ?_)
      ·
        exact absurd c9 (by omega)
      ·
        refine sd_iload_n dMO_isShape_12 rfl rfl ?_
        refine nn_if_ne 18 dMO_isShape_13 (by decide) (by decide) (fun c => absurd c (by decide)) (fun _ => ?_)
        refine sd_iconst (v := nI 0) dMO_isShape_16 (by decide) ?_
        exact sd_zret dMO_isShape_17 rfl (Or.inl rfl) (Nat.le_refl _) (Nat.le_refl _) ⟨rfl, rfl, rfl⟩
    | succ e =>
      rw [tl_cp_cons] at hv
      by_cases h9 : 9 < t
      · have ea : tl_ar (dk_s t) = 1 := by unfold dk_s; rw [if_pos h9]; rfl
        simp only [ea] at hv
        refine sd_iload_n dMO_isShape_4 rfl rfl ?_
        refine sd_aload_n dMO_isShape_5 rfl rfl ?_
        refine fx_getiv (v := (nI (dr.length))) 10 6 dMO_isShape_6 fMO_158 rfl rfl (d6) ?_
        refine nn_icmp_ge 58 dMO_isShape_9 (by decide) (by omega) (by omega) (fun c9 => ?_) (fun c9 => ?_)
        ·
          exact absurd c9 (by omega)
        ·
          refine sd_iload_n dMO_isShape_12 rfl rfl ?_
          refine nn_if_ne 18 dMO_isShape_13 (by decide) (by omega) (fun c13 => ?_) (fun c13 => ?_)
          ·
            refine sd_iload_n dMO_isShape_18 rfl rfl ?_
            refine sd_aload_n dMO_isShape_19 rfl rfl ?_
            refine fx_getr 10 4 (5) dMO_isShape_20 fMO_22 rfl rfl ?_
            refine sd_iload_n dMO_isShape_23 rfl rfl ?_
            refine fx_ialdv (v := (nI (t))) (j) dMO_isShape_24 rfl rfl (by omega) (by decide) (t1) ?_
            refine sd_bipush (v := nI 9) dMO_isShape_25 (by decide) ?_
            refine nn_icmp_le 34 dMO_isShape_27 (by decide) (by omega) (by omega) (fun c27 => ?_) (fun c27 => ?_)
            ·
              exact absurd c27 (by omega)
            ·
              refine sd_iconst (v := nI 0) dMO_isShape_30 (by decide) ?_
              refine sd_goto 50 dMO_isShape_31 (by decide) ?_
              refine nn_iadd dMO_isShape_50 ?_
              refine sd_istore_n dMO_isShape_51 rfl (by decide) ?_
              refine nn_iinc 1 dMO_isShape_52 rfl (by decide) ?_
              refine sd_goto 4 dMO_isShape_55 (by decide) ?_
              refine sd_locp (al' := [(0, .ref (o + (0))), (1, .int (nI ((e + 1) + 0))), (2, .int (nI (j + 1)))]) [2, 1, 0] rfl ?_
              exact ih (j + 1) (e + 1) (by omega) (by omega) hv
          ·
            exact absurd c13 (by omega)
      · by_cases h7 : 7 < t
        · have ea : tl_ar (dk_s t) = 2 := by
            unfold dk_s
            rw [if_neg h9]
            rcases (show t = 8 ∨ t = 9 by omega) with rfl | rfl <;> rfl
          simp only [ea] at hv
          refine sd_iload_n dMO_isShape_4 rfl rfl ?_
          refine sd_aload_n dMO_isShape_5 rfl rfl ?_
          refine fx_getiv (v := (nI (dr.length))) 10 6 dMO_isShape_6 fMO_158 rfl rfl (d6) ?_
          refine nn_icmp_ge 58 dMO_isShape_9 (by decide) (by omega) (by omega) (fun c9 => ?_) (fun c9 => ?_)
          ·
            exact absurd c9 (by omega)
          ·
            refine sd_iload_n dMO_isShape_12 rfl rfl ?_
            refine nn_if_ne 18 dMO_isShape_13 (by decide) (by omega) (fun c13 => ?_) (fun c13 => ?_)
            ·
              refine sd_iload_n dMO_isShape_18 rfl rfl ?_
              refine sd_aload_n dMO_isShape_19 rfl rfl ?_
              refine fx_getr 10 4 (5) dMO_isShape_20 fMO_22 rfl rfl ?_
              refine sd_iload_n dMO_isShape_23 rfl rfl ?_
              refine fx_ialdv (v := (nI (t))) (j) dMO_isShape_24 rfl rfl (by omega) (by decide) (t1) ?_
              refine sd_bipush (v := nI 9) dMO_isShape_25 (by decide) ?_
              refine nn_icmp_le 34 dMO_isShape_27 (by decide) (by omega) (by omega) (fun c27 => ?_) (fun c27 => ?_)
              ·
                refine sd_aload_n dMO_isShape_34 rfl rfl ?_
                refine fx_getr 10 4 (5) dMO_isShape_35 fMO_22 rfl rfl ?_
                refine sd_iload_n dMO_isShape_38 rfl rfl ?_
                refine fx_ialdv (v := (nI (t))) (j) dMO_isShape_39 rfl rfl (by omega) (by decide) (t1) ?_
                refine sd_bipush (v := nI 7) dMO_isShape_40 (by decide) ?_
                refine nn_icmp_le 49 dMO_isShape_42 (by decide) (by omega) (by omega) (fun c42 => ?_) (fun c42 => ?_)
                ·
                  exact absurd c42 (by omega)
                ·
                  refine sd_iconst (v := nI 1) dMO_isShape_45 (by decide) ?_
                  refine sd_goto 50 dMO_isShape_46 (by decide) ?_
                  refine nn_iadd dMO_isShape_50 ?_
                  refine sd_istore_n dMO_isShape_51 rfl (by decide) ?_
                  refine nn_iinc 1 dMO_isShape_52 rfl (by decide) ?_
                  refine sd_goto 4 dMO_isShape_55 (by decide) ?_
                  refine sd_locp (al' := [(0, .ref (o + (0))), (1, .int (nI ((e + 1) + 1))), (2, .int (nI (j + 1)))]) [2, 1, 0] rfl ?_
                  exact ih (j + 1) (e + 1 + 1) (by omega) (by omega) hv
              ·
                exact absurd c27 (by omega)
            ·
              exact absurd c13 (by omega)
        · have ea : tl_ar (dk_s t) = 0 := by
            unfold dk_s
            rw [if_neg h9]
            unfold tl_ar
            rw [if_neg (by omega), if_neg (by omega)]
          simp only [ea, Nat.add_zero] at hv
          refine sd_iload_n dMO_isShape_4 rfl rfl ?_
          refine sd_aload_n dMO_isShape_5 rfl rfl ?_
          refine fx_getiv (v := (nI (dr.length))) 10 6 dMO_isShape_6 fMO_158 rfl rfl (d6) ?_
          refine nn_icmp_ge 58 dMO_isShape_9 (by decide) (by omega) (by omega) (fun c9 => ?_) (fun c9 => ?_)
          ·
            exact absurd c9 (by omega)
          ·
            refine sd_iload_n dMO_isShape_12 rfl rfl ?_
            refine nn_if_ne 18 dMO_isShape_13 (by decide) (by omega) (fun c13 => ?_) (fun c13 => ?_)
            ·
              refine sd_iload_n dMO_isShape_18 rfl rfl ?_
              refine sd_aload_n dMO_isShape_19 rfl rfl ?_
              refine fx_getr 10 4 (5) dMO_isShape_20 fMO_22 rfl rfl ?_
              refine sd_iload_n dMO_isShape_23 rfl rfl ?_
              refine fx_ialdv (v := (nI (t))) (j) dMO_isShape_24 rfl rfl (by omega) (by decide) (t1) ?_
              refine sd_bipush (v := nI 9) dMO_isShape_25 (by decide) ?_
              refine nn_icmp_le 34 dMO_isShape_27 (by decide) (by omega) (by omega) (fun c27 => ?_) (fun c27 => ?_)
              ·
                refine sd_aload_n dMO_isShape_34 rfl rfl ?_
                refine fx_getr 10 4 (5) dMO_isShape_35 fMO_22 rfl rfl ?_
                refine sd_iload_n dMO_isShape_38 rfl rfl ?_
                refine fx_ialdv (v := (nI (t))) (j) dMO_isShape_39 rfl rfl (by omega) (by decide) (t1) ?_
                refine sd_bipush (v := nI 7) dMO_isShape_40 (by decide) ?_
                refine nn_icmp_le 49 dMO_isShape_42 (by decide) (by omega) (by omega) (fun c42 => ?_) (fun c42 => ?_)
                ·
                  refine sd_iconst (v := (-1)) dMO_isShape_49 (by decide) ?_
                  refine sd_iadd dMO_isShape_50 ?_
                  rw [show ((nI (e + 1)) + ((-1))) = (nI (e)) from nn_m1]
                  refine sd_istore_n dMO_isShape_51 rfl (by decide) ?_
                  refine nn_iinc 1 dMO_isShape_52 rfl (by decide) ?_
                  refine sd_goto 4 dMO_isShape_55 (by decide) ?_
                  refine sd_locp (al' := [(0, .ref (o + (0))), (1, .int (nI (e))), (2, .int (nI (j + 1)))]) [2, 1, 0] rfl ?_
                  exact ih (j + 1) e (by omega) (by omega) hv
                ·
                  exact absurd c42 (by omega)
              ·
                exact absurd c27 (by omega)
            ·
              exact absurd c13 (by omega)
theorem c_MO_isShape {G : sd_G} {o : Nat} {D : fx_D} {h0 : sd_H} {nx v : Nat} {dr : List Nat} (hD : mo_dr D dr) (hv2 : v < 2) (hv : v = 1 ↔ tl_cp 1 (dk_l dr)) : sd_Ct G mMO_isShape 0 0 0 [.ref (o + 0)] (fx_h G.1.2 mo_S o D h0) nx (sd_is (some (.int (nI v))) (fx_h G.1.2 mo_S o D h0) nx) := by
  refine sd_Ct_of (by decide) (Nat.le_of_ble_eq_true rfl) ?_
  refine sd_iconst (v := nI 1) dMO_isShape_0 (by decide) ?_
  refine sd_istore_n dMO_isShape_1 rfl (by decide) ?_
  refine sd_iconst (v := nI 0) dMO_isShape_2 (by decide) ?_
  refine sd_istore_n dMO_isShape_3 rfl (by decide) ?_
  refine sd_locp (al' := [(0, .ref (o + (0))), (1, .int (nI (1))), (2, .int (nI (0)))]) [2, 1, 0] rfl ?_
  exact l_MO_isShape hD hv2 dr.length 0 1 (by omega) (by omega) (by rw [List.drop_zero]; exact hv)
