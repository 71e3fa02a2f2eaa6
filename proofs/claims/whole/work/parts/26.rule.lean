/-! ===== rules: what they ask and make ===== -/
def st_tm (S : st_S) (t : Nat) : tl_T := ((st_T S)[t]?).getD []
def st_cn (S : st_S) (p : Nat) : Nat := (((st_th S)[p]?).map (·.1)).getD 0
def st_hy (S : st_S) (p : Nat) : List Nat := (((st_th S)[p]?).map (·.2.1)).getD []
def tl_at (l : tl_T) (i : Nat) : Nat × Nat := (l[i]?).getD (0, 0)
def tl_isE (l : tl_T) : Bool := (tl_at l 0).1 == 9
def ty_isF (t : Nat) : Bool := t / 2 ^ (Nat.log2 t - 1) % 2 == 1
def tl_isB (l : tl_T) (i : Nat) : Bool := (tl_at l i).1 == 8 && (tl_at l (i + 1)).1 == 10
def tl_nm (l : tl_T) (v : Nat) : Bool := l.any (fun x => x.1 == v)
/-- the rule's own conditions -/
def ru_fit (S : st_S) (k a b c : Nat) : Bool := match k with
  | 0 => true
  | 1 => (tl_at (st_tm S a) 0).2 == 4
  | 2 => tl_isE (st_tm S (st_cn S a)) && tl_isE (st_tm S (st_cn S b)) && (tl_part (st_tm S (st_cn S a)) (tl_end (st_tm S (st_cn S a)) 1) == tl_part (st_tm S (st_cn S b)) 1)
  | 3 => tl_isE (st_tm S (st_cn S a)) && tl_isE (st_tm S (st_cn S b)) && ty_isF (tl_at (st_tm S (st_cn S a)) 1).2 && (ty_from (tl_at (st_tm S (st_cn S a)) 1).2 == (tl_at (st_tm S (st_cn S b)) 1).2)
  | 4 => tl_isE (st_tm S (st_cn S a)) && (st_hy S a).all (fun t => !tl_nm (st_tm S t) b)
  | 5 => tl_isB (st_tm S a) 0
  | 6 => tl_isE (st_tm S (st_cn S a)) && (tl_part (st_tm S (st_cn S a)) 1 == st_tm S (st_cn S b))
  | 7 => true
  | 8 => st_nt S b == (tl_at (st_tm S c) 0).2
  | _ => false
/-- the term with c for the name v -/
def tl_inst (l : tl_T) (v : Nat) (c : tl_T) : tl_T := tl_sub (tl_pf l 0 v (some c)) l 0 l.length
/-- the part at i, the name v having become a variable -/
def tl_abs (l : tl_T) (i v : Nat) : tl_T := tl_sub (tl_pf l i v none) l i (tl_end l i - i)
/-- the body of the LAM at i, with what by_ says for its variable -/
def tl_fill (l : tl_T) (i : Nat) (by_ : tl_T ⊕ Nat) : tl_T := tl_sub (tl_of l (i + 1) by_) l (i + 1) (tl_end l i - (i + 1))
def tl_beta (l : tl_T) (i : Nat) : tl_T := tl_fill l (i + 1) (.inl (tl_part l (tl_end l (i + 1))))
/-- the conclusion's row; none where a type would be too long -/
def ru_row (S : st_S) (k a b c : Nat) : Option tl_T := match k with
  | 0 => some ((9, 4) :: (st_tm S a ++ st_tm S a))
  | 1 => some (st_tm S a)
  | 2 => some ((9, 4) :: (tl_part (st_tm S (st_cn S a)) 1 ++ tl_part (st_tm S (st_cn S b)) (tl_end (st_tm S (st_cn S b)) 1)))
  | 3 => some ((9, 4) :: (8, ty_to (tl_at (st_tm S (st_cn S a)) 1).2) :: (tl_part (st_tm S (st_cn S a)) 1 ++ (tl_part (st_tm S (st_cn S b)) 1 ++ ((8, ty_to (tl_at (st_tm S (st_cn S a)) 1).2) :: (tl_part (st_tm S (st_cn S a)) (tl_end (st_tm S (st_cn S a)) 1) ++ tl_part (st_tm S (st_cn S b)) (tl_end (st_tm S (st_cn S b)) 1))))))
  | 4 => if Nat.log2 (st_nt S b) + Nat.log2 (tl_at (st_tm S (st_cn S a)) 1).2 ≤ 23 then some ((9, 4) :: (10, ty_jn (st_nt S b) (tl_at (st_tm S (st_cn S a)) 1).2) :: (tl_abs (st_tm S (st_cn S a)) 1 b ++ ((10, ty_jn (st_nt S b) (tl_at (st_tm S (st_cn S a)) 1).2) :: tl_abs (st_tm S (st_cn S a)) (tl_end (st_tm S (st_cn S a)) 1) b))) else none
  | 5 => some ((9, 4) :: (st_tm S a ++ tl_beta (st_tm S a) 0))
  | 6 => some (tl_part (st_tm S (st_cn S a)) (tl_end (st_tm S (st_cn S a)) 1))
  | 7 => some ((9, 4) :: (st_tm S (st_cn S a) ++ st_tm S (st_cn S b)))
  | _ => some (tl_inst (st_tm S (st_cn S a)) b (st_tm S c))
/-- the hypotheses of all rules but INST -/
def ru_hyp (S : st_S) (k a b : Nat) : List Nat := match k with
  | 1 => [a]
  | 2 => ls_g (ls_g [] (-1) (st_hy S a)) (-1) (st_hy S b)
  | 3 => ls_g (ls_g [] (-1) (st_hy S a)) (-1) (st_hy S b)
  | 4 => ls_g [] (-1) (st_hy S a)
  | 6 => ls_g (ls_g [] (-1) (st_hy S a)) (-1) (st_hy S b)
  | 7 => ls_g (ls_g [] (nI (st_cn S b)) (st_hy S a)) (nI (st_cn S a)) (st_hy S b)
  | _ => []
/-- the rows of INST's hypotheses -/
def ru_hr (S : st_S) (k a b c : Nat) : List tl_T := if k = 8 then (st_hy S a).map (fun t => tl_inst (st_tm S t) b (st_tm S c)) else []
/-- terms are kept one behind another: the terms, the numbers -/
def tl_keeps (T : List tl_T) (rs : List Nat) : List tl_T → List tl_T × List Nat
  | [] => (T, rs)
  | l :: ls => tl_keeps (tl_kt T l) (if tl_kp T l < 64 then ls_h rs (tl_kp T l) else rs) ls
/-- whether a number was 64 on the way -/
def tl_full (T : List tl_T) : List tl_T → Bool
  | [] => false
  | l :: ls => !(tl_kp T l < 64) || tl_full (tl_kt T l) ls
def ru_big (S : st_S) (k a b c : Nat) : Bool := (match ru_row S k a b c with | none => true | some l => 24 < l.length) || (ru_hr S k a b c).any (fun l => 24 < l.length) || 6 < (ru_hyp S k a b).length
def ru_fst (k a : Nat) : Option Nat := if 1 < k ∧ k ≠ 5 then some a else none
def ru_snd (k b : Nat) : Option Nat := if k = 2 ∨ k = 3 ∨ k = 6 ∨ k = 7 then some b else none
def ru_do (S : st_S) (k a b c : Nat) : Int32 × st_S :=
  if ru_fit S k a b c = false then (-4, S)
  else if ru_big S k a b c then (-5, S)
  else if (st_th S).length = 40 then (-6, S)
  else
    if tl_full (st_T S) (ru_hr S k a b c ++ [(ru_row S k a b c).getD []]) then (-6, S)
    else (nI (st_th S).length, (S.1, (tl_keeps (st_T S) (ru_hyp S k a b) (ru_hr S k a b c ++ [(ru_row S k a b c).getD []])).1, S.2.2.1, st_th S ++ [(tl_kp (tl_keeps (st_T S) (ru_hyp S k a b) (ru_hr S k a b c)).1 ((ru_row S k a b c).getD []), (tl_keeps (st_T S) (ru_hyp S k a b) (ru_hr S k a b c)).2, k, ru_fst k a, ru_snd k b)], S.2.2.2.2))
/-- what a rule asks for is there -/
def ru_there (S : st_S) (x y z w : Int32) (k a b c : Nat) : Prop := x = nI k ∧ ((k = 0 ∨ k = 1 ∨ k = 5) ∧ y = nI a ∧ a < (st_T S).length ∨ (k = 2 ∨ k = 3 ∨ k = 6 ∨ k = 7) ∧ y = nI a ∧ a < (st_th S).length ∧ z = nI b ∧ b < (st_th S).length ∨ k = 4 ∧ y = nI a ∧ a < (st_th S).length ∧ z = nI b ∧ b < 8 ∨ k = 8 ∧ y = nI a ∧ a < (st_th S).length ∧ z = nI b ∧ b < 8 ∧ w = nI c ∧ c < (st_T S).length)
def sp_rule (S : st_S) (x y z w ans : Int32) (S' : st_S) : Prop := (¬ (∃ k a b c, ru_there S x y z w k a b c) ∧ ans = -1 ∧ S' = S) ∨ ∃ k a b c, ru_there S x y z w k a b c ∧ (ans, S') = ru_do S k a b c
theorem nn_01 {b : Nat} (h : b < 2) : nI b = 0 ∨ nI b = 1 := by
  rcases (show b = 0 ∨ b = 1 by omega) with rfl | rfl
  · exact Or.inl rfl
  · exact Or.inr rfl
theorem dMO_isThere_0 : decode prog_13_method_50_code 0 = .ok (.iload_n 1, 1) := by decide +kernel
theorem dMO_isThere_1 : decode prog_13_method_50_code 1 = .ok (.tableswitch (136) (0) (8) #[51, 51, 57, 57, 79, 51, 57, 57, 103], 51) := by decide +kernel
theorem dMO_isThere_52 : decode prog_13_method_50_code 52 = .ok (.aload_n 0, 1) := by decide +kernel
theorem dMO_isThere_53 : decode prog_13_method_50_code 53 = .ok (.iload_n 2, 1) := by decide +kernel
theorem dMO_isThere_54 : decode prog_13_method_50_code 54 = .ok (.invokevirtual 200, 3) := by decide +kernel
theorem dMO_isThere_57 : decode prog_13_method_50_code 57 = .ok (.ireturn, 1) := by decide +kernel
theorem dMO_isThere_58 : decode prog_13_method_50_code 58 = .ok (.aload_n 0, 1) := by decide +kernel
theorem dMO_isThere_59 : decode prog_13_method_50_code 59 = .ok (.iload_n 2, 1) := by decide +kernel
theorem dMO_isThere_60 : decode prog_13_method_50_code 60 = .ok (.invokevirtual 219, 3) := by decide +kernel
theorem dMO_isThere_63 : decode prog_13_method_50_code 63 = .ok (.ifCond .eq (15), 3) := by decide +kernel
theorem dMO_isThere_66 : decode prog_13_method_50_code 66 = .ok (.aload_n 0, 1) := by decide +kernel
theorem dMO_isThere_67 : decode prog_13_method_50_code 67 = .ok (.iload_n 3, 1) := by decide +kernel
theorem dMO_isThere_68 : decode prog_13_method_50_code 68 = .ok (.invokevirtual 219, 3) := by decide +kernel
theorem dMO_isThere_71 : decode prog_13_method_50_code 71 = .ok (.ifCond .eq (7), 3) := by decide +kernel
theorem dMO_isThere_74 : decode prog_13_method_50_code 74 = .ok (.iconst 1, 1) := by decide +kernel
theorem dMO_isThere_75 : decode prog_13_method_50_code 75 = .ok (.goto (4), 3) := by decide +kernel
theorem dMO_isThere_78 : decode prog_13_method_50_code 78 = .ok (.iconst 0, 1) := by decide +kernel
theorem dMO_isThere_79 : decode prog_13_method_50_code 79 = .ok (.ireturn, 1) := by decide +kernel
theorem dMO_isThere_80 : decode prog_13_method_50_code 80 = .ok (.aload_n 0, 1) := by decide +kernel
theorem dMO_isThere_81 : decode prog_13_method_50_code 81 = .ok (.iload_n 2, 1) := by decide +kernel
theorem dMO_isThere_82 : decode prog_13_method_50_code 82 = .ok (.invokevirtual 219, 3) := by decide +kernel
theorem dMO_isThere_85 : decode prog_13_method_50_code 85 = .ok (.ifCond .eq (17), 3) := by decide +kernel
theorem dMO_isThere_88 : decode prog_13_method_50_code 88 = .ok (.iload_n 3, 1) := by decide +kernel
theorem dMO_isThere_89 : decode prog_13_method_50_code 89 = .ok (.iconst 0, 1) := by decide +kernel
theorem dMO_isThere_90 : decode prog_13_method_50_code 90 = .ok (.bipush (7), 2) := by decide +kernel
theorem dMO_isThere_92 : decode prog_13_method_50_code 92 = .ok (.invokestatic 102, 3) := by decide +kernel
theorem dMO_isThere_95 : decode prog_13_method_50_code 95 = .ok (.ifCond .eq (7), 3) := by decide +kernel
theorem dMO_isThere_98 : decode prog_13_method_50_code 98 = .ok (.iconst 1, 1) := by decide +kernel
theorem dMO_isThere_99 : decode prog_13_method_50_code 99 = .ok (.goto (4), 3) := by decide +kernel
theorem dMO_isThere_102 : decode prog_13_method_50_code 102 = .ok (.iconst 0, 1) := by decide +kernel
theorem dMO_isThere_103 : decode prog_13_method_50_code 103 = .ok (.ireturn, 1) := by decide +kernel
theorem dMO_isThere_104 : decode prog_13_method_50_code 104 = .ok (.aload_n 0, 1) := by decide +kernel
theorem dMO_isThere_105 : decode prog_13_method_50_code 105 = .ok (.iload_n 2, 1) := by decide +kernel
theorem dMO_isThere_106 : decode prog_13_method_50_code 106 = .ok (.invokevirtual 219, 3) := by decide +kernel
theorem dMO_isThere_109 : decode prog_13_method_50_code 109 = .ok (.ifCond .eq (26), 3) := by decide +kernel
theorem dMO_isThere_112 : decode prog_13_method_50_code 112 = .ok (.iload_n 3, 1) := by decide +kernel
theorem dMO_isThere_113 : decode prog_13_method_50_code 113 = .ok (.iconst 0, 1) := by decide +kernel
theorem dMO_isThere_114 : decode prog_13_method_50_code 114 = .ok (.bipush (7), 2) := by decide +kernel
theorem dMO_isThere_116 : decode prog_13_method_50_code 116 = .ok (.invokestatic 102, 3) := by decide +kernel
theorem dMO_isThere_119 : decode prog_13_method_50_code 119 = .ok (.ifCond .eq (16), 3) := by decide +kernel
theorem dMO_isThere_122 : decode prog_13_method_50_code 122 = .ok (.aload_n 0, 1) := by decide +kernel
theorem dMO_isThere_123 : decode prog_13_method_50_code 123 = .ok (.iload 4, 2) := by decide +kernel
theorem dMO_isThere_125 : decode prog_13_method_50_code 125 = .ok (.invokevirtual 200, 3) := by decide +kernel
theorem dMO_isThere_128 : decode prog_13_method_50_code 128 = .ok (.ifCond .eq (7), 3) := by decide +kernel
theorem dMO_isThere_131 : decode prog_13_method_50_code 131 = .ok (.iconst 1, 1) := by decide +kernel
theorem dMO_isThere_132 : decode prog_13_method_50_code 132 = .ok (.goto (4), 3) := by decide +kernel
theorem dMO_isThere_135 : decode prog_13_method_50_code 135 = .ok (.iconst 0, 1) := by decide +kernel
theorem dMO_isThere_136 : decode prog_13_method_50_code 136 = .ok (.ireturn, 1) := by decide +kernel
theorem dMO_isThere_137 : decode prog_13_method_50_code 137 = .ok (.iconst 0, 1) := by decide +kernel
theorem dMO_isThere_138 : decode prog_13_method_50_code 138 = .ok (.ireturn, 1) := by decide +kernel
theorem c_MO_isThere {G : sd_G} {o : Nat} {D : fx_D} {h0 : sd_H} {nx v : Nat} {S : st_S} {x y z w : Int32} (hR : mo_R S D) (hv2 : v < 2) (hv : v = 1 ↔ ∃ k a b c, ru_there S x y z w k a b c) : sd_Ct G mMO_isThere 2 0 0 [.ref (o + 0), .int x, .int y, .int z, .int w] (fx_h G.1.2 mo_S o D h0) nx (sd_is (some (.int (nI v))) (fx_h G.1.2 mo_S o D h0) nx) := by
  refine sd_Ct_of (by decide) (Nat.le_of_ble_eq_true rfl) ?_
  have hT := hR.2.1
  have h64 := hT.1
  have hH := hR.2.2.2.2.1
  have h40 := hH.1
  obtain ⟨t1, t1b, t1e⟩ := bw_b (nn_lt y (st_T S).length)
  obtain ⟨t2, t2b, t2e⟩ := bw_b (nn_lt w (st_T S).length)
  obtain ⟨p1, p1b, p1e⟩ := bw_b (nn_lt y (st_th S).length)
  obtain ⟨p2, p2b, p2e⟩ := bw_b (nn_lt z (st_th S).length)
  obtain ⟨n2, n2b, n2e⟩ := bw_b (nn_lt z 8)
  have i1 := c_MO_isTerm (G := G) (o := o) (h0 := h0) (nx := nx) (x := y) h64 hT.2.1 t1b t1e
  have i2 := c_MO_isTerm (G := G) (o := o) (h0 := h0) (nx := nx) (x := w) h64 hT.2.1 t2b t2e
  have j1 := c_MO_isTheorem (G := G) (o := o) (h0 := h0) (nx := nx) (x := y) (by omega) hH.2.1 p1b p1e
  have j2 := c_MO_isTheorem (G := G) (o := o) (h0 := h0) (nx := nx) (x := z) (by omega) hH.2.1 p2b p2e
  have m2 := c_MO_in (G := G) (h := fx_h G.1.2 mo_S o D h0) (nx := nx) (v := z) (l := nI 0) (m := nI 7) n2b (by rw [n2e, mo_in_of (by omega)])
  by_cases hx : nn_lt x 9
  · obtain ⟨k, hk, rfl⟩ := hx
    have key : (∃ k' a b c, ru_there S (nI k) y z w k' a b c) ↔ ((k = 0 ∨ k = 1 ∨ k = 5) ∧ t1 = 1 ∨ (k = 2 ∨ k = 3 ∨ k = 6 ∨ k = 7) ∧ p1 = 1 ∧ p2 = 1 ∨ k = 4 ∧ p1 = 1 ∧ n2 = 1 ∨ k = 8 ∧ p1 = 1 ∧ n2 = 1 ∧ t2 = 1) := by
      rw [t1e, t2e, p1e, p2e, n2e]
      constructor
      · rintro ⟨k', a, b, c, e, h⟩
        have hk' : k' < 9 := by omega
        obtain rfl := nI_inj (by omega) (by omega) e
        rcases h with ⟨h1, h2, h3⟩ | ⟨h1, h2, h3, h4, h5⟩ | ⟨h1, h2, h3, h4, h5⟩ | ⟨h1, h2, h3, h4, h5, h6, h7⟩
        · exact Or.inl ⟨h1, a, h3, h2⟩
        · exact Or.inr (Or.inl ⟨h1, ⟨a, h3, h2⟩, ⟨b, h5, h4⟩⟩)
        · exact Or.inr (Or.inr (Or.inl ⟨h1, ⟨a, h3, h2⟩, ⟨b, h5, h4⟩⟩))
        · exact Or.inr (Or.inr (Or.inr ⟨h1, ⟨a, h3, h2⟩, ⟨b, h5, h4⟩, ⟨c, h7, h6⟩⟩))
      · rintro (⟨h1, a, h3, h2⟩ | ⟨h1, ⟨a, h3, h2⟩, ⟨b, h5, h4⟩⟩ | ⟨h1, ⟨a, h3, h2⟩, ⟨b, h5, h4⟩⟩ | ⟨h1, ⟨a, h3, h2⟩, ⟨b, h5, h4⟩, ⟨c, h7, h6⟩⟩)
        · exact ⟨k, a, 0, 0, rfl, Or.inl ⟨h1, h2, h3⟩⟩
        · exact ⟨k, a, b, 0, rfl, Or.inr (Or.inl ⟨h1, h2, h3, h4, h5⟩)⟩
        · exact ⟨k, a, b, 0, rfl, Or.inr (Or.inr (Or.inl ⟨h1, h2, h3, h4, h5⟩))⟩
        · exact ⟨k, a, b, c, rfl, Or.inr (Or.inr (Or.inr ⟨h1, h2, h3, h4, h5, h6, h7⟩))⟩
    rw [key] at hv
    clear key
    match k, hk, hv with
    | 0, _, hv =>
      simp at hv
      refine sd_iload_n dMO_isThere_0 rfl rfl ?_
      refine sd_tableIn (off := 51) 52 dMO_isThere_1 (by decide) (by decide) (by decide) (by decide) ?_
      refine sd_aload_n dMO_isThere_52 rfl rfl ?_
      refine sd_iload_n dMO_isThere_53 rfl rfl ?_
      refine fx_cV 10 sR_MO [.int (y)] [] dMO_isThere_54 kMO_200 rfl rfl mMO_isTerm_v (i1) (by decide) (Nat.le_refl _) (Nat.le_refl _) (Nat.le_of_ble_eq_true rfl) rfl ?_
      exact sd_zret dMO_isThere_57 rfl (nn_01 (by omega)) (Nat.le_refl _) (Nat.le_refl _) ⟨by rw [show v = (t1) by omega], rfl, rfl⟩
    | 1, _, hv =>
      simp at hv
      refine sd_iload_n dMO_isThere_0 rfl rfl ?_
      refine sd_tableIn (off := 51) 52 dMO_isThere_1 (by decide) (by decide) (by decide) (by decide) ?_
      refine sd_aload_n dMO_isThere_52 rfl rfl ?_
      refine sd_iload_n dMO_isThere_53 rfl rfl ?_
      refine fx_cV 10 sR_MO [.int (y)] [] dMO_isThere_54 kMO_200 rfl rfl mMO_isTerm_v (i1) (by decide) (Nat.le_refl _) (Nat.le_refl _) (Nat.le_of_ble_eq_true rfl) rfl ?_
      exact sd_zret dMO_isThere_57 rfl (nn_01 (by omega)) (Nat.le_refl _) (Nat.le_refl _) ⟨by rw [show v = (t1) by omega], rfl, rfl⟩
    | 2, _, hv =>
      simp at hv
      refine sd_iload_n dMO_isThere_0 rfl rfl ?_
      refine sd_tableIn (off := 57) 58 dMO_isThere_1 (by decide) (by decide) (by decide) (by decide) ?_
      refine sd_aload_n dMO_isThere_58 rfl rfl ?_
      refine sd_iload_n dMO_isThere_59 rfl rfl ?_
      refine fx_cV 10 sR_MO [.int (y)] [] dMO_isThere_60 kMO_219 rfl rfl mMO_isTheorem_v (j1) (by decide) (Nat.le_refl _) (Nat.le_refl _) (Nat.le_of_ble_eq_true rfl) rfl ?_
      refine nn_if_eq 78 dMO_isThere_63 (by decide) (by omega) (fun c63 => ?_) (fun c63 => ?_)
      ·
        refine sd_iconst (v := nI 0) dMO_isThere_78 (by decide) ?_
        exact sd_zret dMO_isThere_79 rfl (nn_01 (by omega)) (Nat.le_refl _) (Nat.le_refl _) ⟨by rw [show v = (0) by omega], rfl, rfl⟩
      ·
        refine sd_aload_n dMO_isThere_66 rfl rfl ?_
        refine sd_iload_n dMO_isThere_67 rfl rfl ?_
        refine fx_cV 10 sR_MO [.int (z)] [] dMO_isThere_68 kMO_219 rfl rfl mMO_isTheorem_v (j2) (by decide) (Nat.le_refl _) (Nat.le_refl _) (Nat.le_of_ble_eq_true rfl) rfl ?_
        refine nn_if_eq 78 dMO_isThere_71 (by decide) (by omega) (fun c71 => ?_) (fun c71 => ?_)
        ·
          refine sd_iconst (v := nI 0) dMO_isThere_78 (by decide) ?_
          exact sd_zret dMO_isThere_79 rfl (nn_01 (by omega)) (Nat.le_refl _) (Nat.le_refl _) ⟨by rw [show v = (0) by omega], rfl, rfl⟩
        ·
          refine sd_iconst (v := nI 1) dMO_isThere_74 (by decide) ?_
          refine sd_goto 79 dMO_isThere_75 (by decide) ?_
          exact sd_zret dMO_isThere_79 rfl (nn_01 (by omega)) (Nat.le_refl _) (Nat.le_refl _) ⟨by rw [show v = (1) by omega], rfl, rfl⟩
    | 3, _, hv =>
      simp at hv
      refine sd_iload_n dMO_isThere_0 rfl rfl ?_
      refine sd_tableIn (off := 57) 58 dMO_isThere_1 (by decide) (by decide) (by decide) (by decide) ?_
      refine sd_aload_n dMO_isThere_58 rfl rfl ?_
      refine sd_iload_n dMO_isThere_59 rfl rfl ?_
      refine fx_cV 10 sR_MO [.int (y)] [] dMO_isThere_60 kMO_219 rfl rfl mMO_isTheorem_v (j1) (by decide) (Nat.le_refl _) (Nat.le_refl _) (Nat.le_of_ble_eq_true rfl) rfl ?_
      refine nn_if_eq 78 dMO_isThere_63 (by decide) (by omega) (fun c63 => ?_) (fun c63 => ?_)
      ·
        refine sd_iconst (v := nI 0) dMO_isThere_78 (by decide) ?_
        exact sd_zret dMO_isThere_79 rfl (nn_01 (by omega)) (Nat.le_refl _) (Nat.le_refl _) ⟨by rw [show v = (0) by omega], rfl, rfl⟩
      ·
        refine sd_aload_n dMO_isThere_66 rfl rfl ?_
        refine sd_iload_n dMO_isThere_67 rfl rfl ?_
        refine fx_cV 10 sR_MO [.int (z)] [] dMO_isThere_68 kMO_219 rfl rfl mMO_isTheorem_v (j2) (by decide) (Nat.le_refl _) (Nat.le_refl _) (Nat.le_of_ble_eq_true rfl) rfl ?_
        refine nn_if_eq 78 dMO_isThere_71 (by decide) (by omega) (fun c71 => ?_) (fun c71 => ?_)
        ·
          refine sd_iconst (v := nI 0) dMO_isThere_78 (by decide) ?_
          exact sd_zret dMO_isThere_79 rfl (nn_01 (by omega)) (Nat.le_refl _) (Nat.le_refl _) ⟨by rw [show v = (0) by omega], rfl, rfl⟩
        ·
          refine sd_iconst (v := nI 1) dMO_isThere_74 (by decide) ?_
          refine sd_goto 79 dMO_isThere_75 (by decide) ?_
          exact sd_zret dMO_isThere_79 rfl (nn_01 (by omega)) (Nat.le_refl _) (Nat.le_refl _) ⟨by rw [show v = (1) by omega], rfl, rfl⟩
    | 4, _, hv =>
      simp at hv
      refine sd_iload_n dMO_isThere_0 rfl rfl ?_
      refine sd_tableIn (off := 79) 80 dMO_isThere_1 (by decide) (by decide) (by decide) (by decide) ?_
      refine sd_aload_n dMO_isThere_80 rfl rfl ?_
      refine sd_iload_n dMO_isThere_81 rfl rfl ?_
      refine fx_cV 10 sR_MO [.int (y)] [] dMO_isThere_82 kMO_219 rfl rfl mMO_isTheorem_v (j1) (by decide) (Nat.le_refl _) (Nat.le_refl _) (Nat.le_of_ble_eq_true rfl) rfl ?_
      refine nn_if_eq 102 dMO_isThere_85 (by decide) (by omega) (fun c85 => ?_) (fun c85 => ?_)
      ·
        refine sd_iconst (v := nI 0) dMO_isThere_102 (by decide) ?_
        exact sd_zret dMO_isThere_103 rfl (nn_01 (by omega)) (Nat.le_refl _) (Nat.le_refl _) ⟨by rw [show v = (0) by omega], rfl, rfl⟩
      ·
        refine sd_iload_n dMO_isThere_88 rfl rfl ?_
        refine sd_iconst (v := nI 0) dMO_isThere_89 (by decide) ?_
        refine sd_bipush (v := nI 7) dMO_isThere_90 (by decide) ?_
        refine sd_cS [.int (z), .int (nI (0)), .int (nI (7))] [] dMO_isThere_92 kMO_102 mMO_in_s (m2) (by decide) (Nat.le_refl _) (Nat.le_refl _) (Nat.le_of_ble_eq_true rfl) rfl ?_
        refine nn_if_eq 102 dMO_isThere_95 (by decide) (by omega) (fun c95 => ?_) (fun c95 => ?_)
        ·
          refine sd_iconst (v := nI 0) dMO_isThere_102 (by decide) ?_
          exact sd_zret dMO_isThere_103 rfl (nn_01 (by omega)) (Nat.le_refl _) (Nat.le_refl _) ⟨by rw [show v = (0) by omega], rfl, rfl⟩
        ·
          refine sd_iconst (v := nI 1) dMO_isThere_98 (by decide) ?_
          refine sd_goto 103 dMO_isThere_99 (by decide) ?_
          exact sd_zret dMO_isThere_103 rfl (nn_01 (by omega)) (Nat.le_refl _) (Nat.le_refl _) ⟨by rw [show v = (1) by omega], rfl, rfl⟩
    | 5, _, hv =>
      simp at hv
      refine sd_iload_n dMO_isThere_0 rfl rfl ?_
      refine sd_tableIn (off := 51) 52 dMO_isThere_1 (by decide) (by decide) (by decide) (by decide) ?_
      refine sd_aload_n dMO_isThere_52 rfl rfl ?_
      refine sd_iload_n dMO_isThere_53 rfl rfl ?_
      refine fx_cV 10 sR_MO [.int (y)] [] dMO_isThere_54 kMO_200 rfl rfl mMO_isTerm_v (i1) (by decide) (Nat.le_refl _) (Nat.le_refl _) (Nat.le_of_ble_eq_true rfl) rfl ?_
      exact sd_zret dMO_isThere_57 rfl (nn_01 (by omega)) (Nat.le_refl _) (Nat.le_refl _) ⟨by rw [show v = (t1) by omega], rfl, rfl⟩
    | 6, _, hv =>
      simp at hv
      refine sd_iload_n dMO_isThere_0 rfl rfl ?_
      refine sd_tableIn (off := 57) 58 dMO_isThere_1 (by decide) (by decide) (by decide) (by decide) ?_
      refine sd_aload_n dMO_isThere_58 rfl rfl ?_
      refine sd_iload_n dMO_isThere_59 rfl rfl ?_
      refine fx_cV 10 sR_MO [.int (y)] [] dMO_isThere_60 kMO_219 rfl rfl mMO_isTheorem_v (j1) (by decide) (Nat.le_refl _) (Nat.le_refl _) (Nat.le_of_ble_eq_true rfl) rfl ?_
      refine nn_if_eq 78 dMO_isThere_63 (by decide) (by omega) (fun c63 => ?_) (fun c63 => ?_)
      ·
        refine sd_iconst (v := nI 0) dMO_isThere_78 (by decide) ?_
        exact sd_zret dMO_isThere_79 rfl (nn_01 (by omega)) (Nat.le_refl _) (Nat.le_refl _) ⟨by rw [show v = (0) by omega], rfl, rfl⟩
      ·
        refine sd_aload_n dMO_isThere_66 rfl rfl ?_
        refine sd_iload_n dMO_isThere_67 rfl rfl ?_
        refine fx_cV 10 sR_MO [.int (z)] [] dMO_isThere_68 kMO_219 rfl rfl mMO_isTheorem_v (j2) (by decide) (Nat.le_refl _) (Nat.le_refl _) (Nat.le_of_ble_eq_true rfl) rfl ?_
        refine nn_if_eq 78 dMO_isThere_71 (by decide) (by omega) (fun c71 => ?_) (fun c71 => ?_)
        ·
          refine sd_iconst (v := nI 0) dMO_isThere_78 (by decide) ?_
          exact sd_zret dMO_isThere_79 rfl (nn_01 (by omega)) (Nat.le_refl _) (Nat.le_refl _) ⟨by rw [show v = (0) by omega], rfl, rfl⟩
        ·
          refine sd_iconst (v := nI 1) dMO_isThere_74 (by decide) ?_
          refine sd_goto 79 dMO_isThere_75 (by decide) ?_
          exact sd_zret dMO_isThere_79 rfl (nn_01 (by omega)) (Nat.le_refl _) (Nat.le_refl _) ⟨by rw [show v = (1) by omega], rfl, rfl⟩
    | 7, _, hv =>
      simp at hv
      refine sd_iload_n dMO_isThere_0 rfl rfl ?_
      refine sd_tableIn (off := 57) 58 dMO_isThere_1 (by decide) (by decide) (by decide) (by decide) ?_
      refine sd_aload_n dMO_isThere_58 rfl rfl ?_
      refine sd_iload_n dMO_isThere_59 rfl rfl ?_
      refine fx_cV 10 sR_MO [.int (y)] [] dMO_isThere_60 kMO_219 rfl rfl mMO_isTheorem_v (j1) (by decide) (Nat.le_refl _) (Nat.le_refl _) (Nat.le_of_ble_eq_true rfl) rfl ?_
      refine nn_if_eq 78 dMO_isThere_63 (by decide) (by omega) (fun c63 => ?_) (fun c63 => ?_)
      ·
        refine sd_iconst (v := nI 0) dMO_isThere_78 (by decide) ?_
        exact sd_zret dMO_isThere_79 rfl (nn_01 (by omega)) (Nat.le_refl _) (Nat.le_refl _) ⟨by rw [show v = (0) by omega], rfl, rfl⟩
      ·
        refine sd_aload_n dMO_isThere_66 rfl rfl ?_
        refine sd_iload_n dMO_isThere_67 rfl rfl ?_
        refine fx_cV 10 sR_MO [.int (z)] [] dMO_isThere_68 kMO_219 rfl rfl mMO_isTheorem_v (j2) (by decide) (Nat.le_refl _) (Nat.le_refl _) (Nat.le_of_ble_eq_true rfl) rfl ?_
        refine nn_if_eq 78 dMO_isThere_71 (by decide) (by omega) (fun c71 => ?_) (fun c71 => ?_)
        ·
          refine sd_iconst (v := nI 0) dMO_isThere_78 (by decide) ?_
          exact sd_zret dMO_isThere_79 rfl (nn_01 (by omega)) (Nat.le_refl _) (Nat.le_refl _) ⟨by rw [show v = (0) by omega], rfl, rfl⟩
        ·
          refine sd_iconst (v := nI 1) dMO_isThere_74 (by decide) ?_
          refine sd_goto 79 dMO_isThere_75 (by decide) ?_
          exact sd_zret dMO_isThere_79 rfl (nn_01 (by omega)) (Nat.le_refl _) (Nat.le_refl _) ⟨by rw [show v = (1) by omega], rfl, rfl⟩
    | 8, _, hv =>
      simp at hv
      refine sd_iload_n dMO_isThere_0 rfl rfl ?_
      refine sd_tableIn (off := 103) 104 dMO_isThere_1 (by decide) (by decide) (by decide) (by decide) ?_
      refine sd_aload_n dMO_isThere_104 rfl rfl ?_
      refine sd_iload_n dMO_isThere_105 rfl rfl ?_
      refine fx_cV 10 sR_MO [.int (y)] [] dMO_isThere_106 kMO_219 rfl rfl mMO_isTheorem_v (j1) (by decide) (Nat.le_refl _) (Nat.le_refl _) (Nat.le_of_ble_eq_true rfl) rfl ?_
      refine nn_if_eq 135 dMO_isThere_109 (by decide) (by omega) (fun c109 => ?_) (fun c109 => ?_)
      ·
        refine sd_iconst (v := nI 0) dMO_isThere_135 (by decide) ?_
        exact sd_zret dMO_isThere_136 rfl (nn_01 (by omega)) (Nat.le_refl _) (Nat.le_refl _) ⟨by rw [show v = (0) by omega], rfl, rfl⟩
      ·
        refine sd_iload_n dMO_isThere_112 rfl rfl ?_
        refine sd_iconst (v := nI 0) dMO_isThere_113 (by decide) ?_
        refine sd_bipush (v := nI 7) dMO_isThere_114 (by decide) ?_
        refine sd_cS [.int (z), .int (nI (0)), .int (nI (7))] [] dMO_isThere_116 kMO_102 mMO_in_s (m2) (by decide) (Nat.le_refl _) (Nat.le_refl _) (Nat.le_of_ble_eq_true rfl) rfl ?_
        refine nn_if_eq 135 dMO_isThere_119 (by decide) (by omega) (fun c119 => ?_) (fun c119 => ?_)
        ·
          refine sd_iconst (v := nI 0) dMO_isThere_135 (by decide) ?_
          exact sd_zret dMO_isThere_136 rfl (nn_01 (by omega)) (Nat.le_refl _) (Nat.le_refl _) ⟨by rw [show v = (0) by omega], rfl, rfl⟩
        ·
          refine sd_aload_n dMO_isThere_122 rfl rfl ?_
          refine sd_iload dMO_isThere_123 rfl ?_
          refine fx_cV 10 sR_MO [.int (w)] [] dMO_isThere_125 kMO_200 rfl rfl mMO_isTerm_v (i2) (by decide) (Nat.le_refl _) (Nat.le_refl _) (Nat.le_of_ble_eq_true rfl) rfl ?_
          refine nn_if_eq 135 dMO_isThere_128 (by decide) (by omega) (fun c128 => ?_) (fun c128 => ?_)
          ·
            refine sd_iconst (v := nI 0) dMO_isThere_135 (by decide) ?_
            exact sd_zret dMO_isThere_136 rfl (nn_01 (by omega)) (Nat.le_refl _) (Nat.le_refl _) ⟨by rw [show v = (0) by omega], rfl, rfl⟩
          ·
            refine sd_iconst (v := nI 1) dMO_isThere_131 (by decide) ?_
            refine sd_goto 136 dMO_isThere_132 (by decide) ?_
            exact sd_zret dMO_isThere_136 rfl (nn_01 (by omega)) (Nat.le_refl _) (Nat.le_refl _) ⟨by rw [show v = (1) by omega], rfl, rfl⟩
    | k + 9, hk, _ => exact absurd hk (by omega)
  · have hn : ¬ v = 1 := fun e => by
      obtain ⟨k, a, b, c, e1, h⟩ := hv.mp e
      exact hx ⟨k, by omega, e1⟩
    obtain rfl : v = 0 := by omega
    refine sd_iload_n dMO_isThere_0 rfl rfl ?_
    refine sd_tableOut 137 dMO_isThere_1 (nn_tab hx) (by decide) ?_
    refine sd_iconst (v := nI 0) dMO_isThere_137 (by decide) ?_
    exact sd_zret dMO_isThere_138 rfl (Or.inl rfl) (Nat.le_refl _) (Nat.le_refl _) ⟨rfl, rfl, rfl⟩
