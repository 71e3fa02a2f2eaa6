/-! ===== the state that both hold, and what the calls do to it ===== -/
/-- a type, as a natural -/
def ty_ok (t : Nat) : Prop := t < 2 ^ 25 ∧ 4 ≤ t ∧ ty_ex t (Nat.log2 t) 1 = some 0
theorem ty_is_ok {t : Nat} (h : ty_ok t) : ty_is (nI t) := ⟨t, rfl, h.1, h.2.1, h.2.2⟩
theorem ty_is_of {x : Int32} (h : ty_is x) : ∃ t, x = nI t ∧ ty_ok t := by
  obtain ⟨t, h1, h2, h3, h4⟩ := h
  exact ⟨t, h1, h2, h3, h4⟩
/-- a theorem: conclusion, hypotheses, rule, the theorems of which it was made -/
abbrev st_Th : Type := Nat × List Nat × Nat × Option Nat × Option Nat
/-- a goal: term, hypotheses, and, where a tactic took it: tactic, theorem (of EXACT), the first goal that was left -/
abbrev st_Gl : Type := Nat × List Nat × Option (Nat × Nat × Nat)
/-- names' types, terms, draft, theorems; goals, open ones, those that tactics took (latest first) -/
abbrev st_S : Type := (Nat → Nat) × List tl_T × List Nat × List st_Th × List st_Gl × List Nat × List Nat
def st_nt (S : st_S) : Nat → Nat := S.1
def st_T (S : st_S) : List tl_T := S.2.1
def st_dr (S : st_S) : List Nat := S.2.2.1
def st_th (S : st_S) : List st_Th := S.2.2.2.1
def st_gl (S : st_S) : List st_Gl := S.2.2.2.2.1
def st_op (S : st_S) : List Nat := S.2.2.2.2.2.1
def st_dn (S : st_S) : List Nat := S.2.2.2.2.2.2
/-- x is a number below n -/
def nn_lt (x : Int32) (n : Nat) : Prop := ∃ t : Nat, t < n ∧ x = nI t
def sp_function (x y a : Int32) : Prop := (¬ (ty_is x ∧ ty_is y) ∧ a = -1) ∨ ∃ s t : Nat, x = nI s ∧ y = nI t ∧ ty_ok s ∧ ty_ok t ∧ a = if Nat.log2 s + Nat.log2 t ≤ 23 then nI (ty_jn s t) else -5
def sp_declare (S : st_S) (x y a : Int32) (S' : st_S) : Prop := (¬ (nn_lt x 8 ∧ ty_is y) ∧ a = -1 ∧ S' = S) ∨ (nn_lt x 8 ∧ ty_is y ∧ st_T S ≠ [] ∧ a = -7 ∧ S' = S) ∨ ∃ v t : Nat, v < 8 ∧ x = nI v ∧ y = nI t ∧ ty_ok t ∧ st_T S = [] ∧ a = nI (st_nt S v) ∧ S' = (fun w => if w = v then t else st_nt S w, S.2)
def sp_token (S : st_S) (x a : Int32) (S' : st_S) : Prop := (¬ nn_lt x 18 ∧ a = -1 ∧ S' = S) ∨ (nn_lt x 18 ∧ (st_dr S).length = 24 ∧ a = -6 ∧ S' = S) ∨ ∃ t : Nat, t < 18 ∧ x = nI t ∧ (st_dr S).length < 24 ∧ a = nI ((st_dr S).length + 1) ∧ S' = (S.1, S.2.1, st_dr S ++ [t], S.2.2.2)
def sp_clear (S : st_S) (a : Int32) (S' : st_S) : Prop := a = nI (st_dr S).length ∧ S' = (S.1, S.2.1, [], S.2.2.2)
/-- the names in a row, as a set -/
def tl_set : tl_T → Nat
  | [] => 0
  | x :: l => if x.1 < 8 then 2 ^ x.1 ||| tl_set l else tl_set l
/-- how many of the first n symbols from k on have parts that go beyond at -/
def tl_dp (l : tl_T) (at_ : Nat) : Nat → Nat → Nat
  | _, 0 => 0
  | k, n + 1 => (if at_ < tl_end l k then 1 else 0) + tl_dp l at_ (k + 1) n
/-- the depth of the deepest of the first n symbols -/
def tl_deep (l : tl_T) : Nat → Nat
  | 0 => 0
  | n + 1 => max (tl_deep l n) (1 + tl_dp l n 0 n)
def sp_term (S : st_S) (x y a : Int32) : Prop := (¬ (nn_lt x (st_T S).length ∧ nn_lt y 4) ∧ a = -1) ∨ ∃ (t w : Nat) (l : tl_T), x = nI t ∧ y = nI w ∧ (st_T S)[t]? = some l ∧ w < 4 ∧ a = if w = 0 then nI l.length else if w = 1 then nI ((l.map (·.2)).headD 0) else if w = 2 then nI (tl_set l) else nI (tl_deep l l.length)
def sp_symbol (S : st_S) (x y z a : Int32) : Prop := (¬ (∃ (t i w : Nat) (l : tl_T) (q : Nat × Nat), x = nI t ∧ y = nI i ∧ z = nI w ∧ w < 2 ∧ (st_T S)[t]? = some l ∧ l[i]? = some q) ∧ a = -1) ∨ ∃ (t i w : Nat) (l : tl_T) (q : Nat × Nat), x = nI t ∧ y = nI i ∧ z = nI w ∧ w < 2 ∧ (st_T S)[t]? = some l ∧ l[i]? = some q ∧ a = if w = 0 then nI q.1 else nI q.2
def sp_count (S : st_S) (x a : Int32) : Prop := (¬ nn_lt x 5 ∧ a = -1) ∨ ∃ w : Nat, w < 5 ∧ x = nI w ∧ a = nI ([(st_T S).length, (st_th S).length, (st_gl S).length, (st_op S).length, (st_dr S).length].getD w 0)
theorem nn_tab {x : Int32} {n : Nat} (h : ¬ nn_lt x (n + 1)) : x.toInt < 0 ∨ (n : Int) < x.toInt := by
  rcases Int.lt_or_le x.toInt 0 with h0 | h0
  · exact Or.inl h0
  · right
    obtain ⟨t, ht, rfl⟩ := nI_of (x := x) (fun q => by rw [Int32.lt_iff_toInt_lt] at q; have : (0 : Int32).toInt = 0 := rfl; omega)
    rw [nI_toInt ht]
    have : ¬ t < n + 1 := fun q => h ⟨t, q, rfl⟩
    omega
/-! ===== the model holds a state ===== -/
def mo_nt (D : fx_D) (nt : Nat → Nat) : Prop := ∀ v, v < 8 → D.1 4 v = nI (nt v) ∧ ty_ok (nt v)
def mo_dr (D : fx_D) (l : List Nat) : Prop := l.length ≤ 24 ∧ D.2.1 0 6 = nI l.length ∧ ∀ (k x : Nat), l[k]? = some x → D.1 5 k = nI x ∧ x < 18
/-- an optional number, as an int -/
def oi_I (o : Option Nat) : Int32 := match o with
  | some k => nI k
  | none => -1
def mo_th (D : fx_D) (L : List st_Th) : Prop := L.length ≤ 40 ∧ D.2.1 0 14 = nI L.length ∧ ∀ (p : Nat) (h : st_Th), L[p]? = some h → D.1 6 p = nI h.1 ∧ D.1 7 p = nI h.2.1.length ∧ h.2.1.length ≤ 6 ∧ (∀ (k t : Nat), h.2.1[k]? = some t → D.1 8 (6 * p + k) = nI t) ∧ D.1 9 p = nI h.2.2.1 ∧ D.1 10 p = oi_I h.2.2.2.1 ∧ D.1 11 p = oi_I h.2.2.2.2
def mo_gl (D : fx_D) (L : List st_Gl) : Prop := L.length ≤ 30 ∧ D.2.1 0 27 = nI L.length ∧ ∀ (g : Nat) (q : st_Gl), L[g]? = some q → D.1 13 g = nI q.1 ∧ D.1 14 g = nI q.2.1.length ∧ q.2.1.length ≤ 6 ∧ (∀ (k t : Nat), q.2.1[k]? = some t → D.1 15 (6 * g + k) = nI t) ∧ match q.2.2 with
  | none => D.1 16 g = -1
  | some w => D.1 16 g = nI w.1 ∧ (w.1 = 8 → D.1 17 g = nI w.2.1) ∧ D.1 18 g = nI w.2.2 ∧ D.1 19 g = nI ([0, 0, 2, 2, 1, 0, 2, 2, 0].getD w.1 0)
def mo_op (D : fx_D) (L : List Nat) : Prop := L.length ≤ 30 ∧ D.2.1 0 28 = nI L.length ∧ ∀ (k g : Nat), L[k]? = some g → D.1 20 k = nI g
def mo_dn (D : fx_D) (L : List Nat) : Prop := L.length ≤ 30 ∧ D.2.1 0 29 = nI L.length ∧ ∀ (k g : Nat), L.reverse[k]? = some g → D.1 21 k = nI g
def mo_R (S : st_S) (D : fx_D) : Prop := mo_nt D (st_nt S) ∧ mo_terms D (st_T S) ∧ (∀ q, 64 ≤ q → q < 72 → mo_okl D q) ∧ mo_dr D (st_dr S) ∧ mo_th D (st_th S) ∧ mo_gl D (st_gl S) ∧ mo_op D (st_op S) ∧ mo_dn D (st_dn S)
theorem dMO_function_0 : decode prog_13_method_10_code 0 = .ok (.iload_n 1, 1) := by decide +kernel
theorem dMO_function_1 : decode prog_13_method_10_code 1 = .ok (.invokestatic 110, 3) := by decide +kernel
theorem dMO_function_4 : decode prog_13_method_10_code 4 = .ok (.ifCond .eq (10), 3) := by decide +kernel
theorem dMO_function_7 : decode prog_13_method_10_code 7 = .ok (.iload_n 2, 1) := by decide +kernel
theorem dMO_function_8 : decode prog_13_method_10_code 8 = .ok (.invokestatic 110, 3) := by decide +kernel
theorem dMO_function_11 : decode prog_13_method_10_code 11 = .ok (.ifCond .ne (5), 3) := by decide +kernel
theorem dMO_function_14 : decode prog_13_method_10_code 14 = .ok (.iconst (-1), 1) := by decide +kernel
theorem dMO_function_15 : decode prog_13_method_10_code 15 = .ok (.ireturn, 1) := by decide +kernel
theorem dMO_function_16 : decode prog_13_method_10_code 16 = .ok (.iload_n 1, 1) := by decide +kernel
theorem dMO_function_17 : decode prog_13_method_10_code 17 = .ok (.iload_n 2, 1) := by decide +kernel
theorem dMO_function_18 : decode prog_13_method_10_code 18 = .ok (.invokestatic 114, 3) := by decide +kernel
theorem dMO_function_21 : decode prog_13_method_10_code 21 = .ok (.istore_n 3, 1) := by decide +kernel
theorem dMO_function_22 : decode prog_13_method_10_code 22 = .ok (.iload_n 3, 1) := by decide +kernel
theorem dMO_function_23 : decode prog_13_method_10_code 23 = .ok (.ifCond .ne (8), 3) := by decide +kernel
theorem dMO_function_26 : decode prog_13_method_10_code 26 = .ok (.bipush (-5), 2) := by decide +kernel
theorem dMO_function_28 : decode prog_13_method_10_code 28 = .ok (.goto (4), 3) := by decide +kernel
theorem dMO_function_31 : decode prog_13_method_10_code 31 = .ok (.iload_n 3, 1) := by decide +kernel
theorem dMO_function_32 : decode prog_13_method_10_code 32 = .ok (.ireturn, 1) := by decide +kernel
theorem c_MO_function {G : sd_G} {o : Nat} {D : fx_D} {h0 : sd_H} {nx : Nat} {x y a : Int32} (hs : sp_function x y a) : sd_Ct G mMO_function 2 0 0 [.ref (o + 0), .int x, .int y] (fx_h G.1.2 mo_S o D h0) nx (sd_is (some (.int a)) (fx_h G.1.2 mo_S o D h0) nx) := by
  refine sd_Ct_of (by decide) (Nat.le_of_ble_eq_true rfl) ?_
  rcases hs with ⟨hn, rfl⟩ | ⟨s, t, rfl, rfl, hs, ht, rfl⟩
  · by_cases h1 : ty_is x
    · have h2 : ¬ ty_is y := fun q => hn ⟨h1, q⟩
      refine sd_iload_n dMO_function_0 rfl rfl ?_
      refine sd_cS [.int (x)] [] dMO_function_1 kMO_110 mMO_isType_s (c_MO_isType (b := 1) (by omega) (by simp [h1])) (by decide) (Nat.le_refl _) (Nat.le_refl _) (Nat.le_of_ble_eq_true rfl) rfl ?_
      refine nn_if_eq 14 dMO_function_4 (by decide) (by decide) (fun c => absurd c (by decide)) (fun _ => ?_)
      refine sd_iload_n dMO_function_7 rfl rfl ?_
      refine sd_cS [.int (y)] [] dMO_function_8 kMO_110 mMO_isType_s (c_MO_isType (b := 0) (by omega) (by simp [h2])) (by decide) (Nat.le_refl _) (Nat.le_refl _) (Nat.le_of_ble_eq_true rfl) rfl ?_
      refine nn_if_ne 16 dMO_function_11 (by decide) (by decide) (fun c => absurd c (by decide)) (fun _ => ?_)
      refine sd_iconst (v := (-1)) dMO_function_14 (by decide) ?_
      exact sd_iret dMO_function_15 rfl (Nat.le_refl _) (Nat.le_refl _) ⟨rfl, rfl, rfl⟩
    ·
      refine sd_iload_n dMO_function_0 rfl rfl ?_
      refine sd_cS [.int (x)] [] dMO_function_1 kMO_110 mMO_isType_s (c_MO_isType (b := 0) (by omega) (by simp [h1])) (by decide) (Nat.le_refl _) (Nat.le_refl _) (Nat.le_of_ble_eq_true rfl) rfl ?_
      refine nn_if_eq 14 dMO_function_4 (by decide) (by decide) (fun _ => ?_) (fun c => absurd c (by decide))
      refine sd_iconst (v := (-1)) dMO_function_14 (by decide) ?_
      exact sd_iret dMO_function_15 rfl (Nat.le_refl _) (Nat.le_refl _) ⟨rfl, rfl, rfl⟩
  · have b1 := hs.1
    have b2 := ht.1
    have p1 := hs.2.1
    have p2 := ht.2.1
    have hj := c_MO_join (G := G) (h := fx_h G.1.2 mo_S o D h0) (nx := nx) (a := s) (b := t) (by omega) (by omega) hs.1 ht.1
    by_cases hc : Nat.log2 s + Nat.log2 t ≤ 23
    · rw [if_pos hc] at hj ⊢
      have hjn : ty_jn s t ≠ 0 ∧ ty_jn s t < 2 ^ 31 := by
        have q1 := tp_am (t := Nat.log2 t) (show 2 ^ (Nat.log2 s + 1) + s < 2 ^ (Nat.log2 s + 1 + 1) by rw [Nat.pow_succ _ (Nat.log2 s + 1)]; have := tp_lt s; omega)
        have q2 := Nat.mod_lt t (Nat.two_pow_pos (Nat.log2 t))
        have q3 := tp_31 (k := Nat.log2 s + 1 + Nat.log2 t + 1 + 1) (by omega)
        have q4 := tp_pw (a := Nat.log2 t) (b := Nat.log2 s + 1 + Nat.log2 t + 1) (by omega)
        have q5 : 2 ^ Nat.log2 t ≤ (2 ^ (Nat.log2 s + 1) + s) * 2 ^ Nat.log2 t := Nat.le_mul_of_pos_left _ (Nat.lt_of_lt_of_le (show 0 < s by omega) (Nat.le_add_left _ _))
        have q6 := Nat.two_pow_pos (Nat.log2 t)
        rw [Nat.pow_succ _ (Nat.log2 s + 1 + Nat.log2 t + 1)] at q3
        unfold ty_jn
        omega
      refine sd_iload_n dMO_function_0 rfl rfl ?_
      refine sd_cS [.int (nI (s))] [] dMO_function_1 kMO_110 mMO_isType_s (c_MO_isType (b := 1) (by omega) (by simp [ty_is_ok hs])) (by decide) (Nat.le_refl _) (Nat.le_refl _) (Nat.le_of_ble_eq_true rfl) rfl ?_
      refine nn_if_eq 14 dMO_function_4 (by decide) (by decide) (fun c => absurd c (by decide)) (fun _ => ?_)
      refine sd_iload_n dMO_function_7 rfl rfl ?_
      refine sd_cS [.int (nI (t))] [] dMO_function_8 kMO_110 mMO_isType_s (c_MO_isType (b := 1) (by omega) (by simp [ty_is_ok ht])) (by decide) (Nat.le_refl _) (Nat.le_refl _) (Nat.le_of_ble_eq_true rfl) rfl ?_
      refine nn_if_ne 16 dMO_function_11 (by decide) (by decide) (fun _ => ?_) (fun c => absurd c (by decide))
      refine sd_iload_n dMO_function_16 rfl rfl ?_
      refine sd_iload_n dMO_function_17 rfl rfl ?_
      refine sd_cS [.int (nI (s)), .int (nI (t))] [] dMO_function_18 kMO_114 mMO_join_s (hj) (by decide) (Nat.le_refl _) (Nat.le_refl _) (Nat.le_of_ble_eq_true rfl) rfl ?_
      refine sd_istore_n dMO_function_21 rfl (by decide) ?_
      refine sd_iload_n dMO_function_22 rfl rfl ?_
      refine nn_if_ne 31 dMO_function_23 (by decide) hjn.2 (fun c23 => ?_) (fun c23 => ?_)
      ·
        refine sd_iload_n dMO_function_31 rfl rfl ?_
        exact sd_iret dMO_function_32 rfl (Nat.le_refl _) (Nat.le_refl _) ⟨rfl, rfl, rfl⟩
      ·
        exact absurd c23 hjn.1
    · rw [if_neg hc] at hj ⊢
      refine sd_iload_n dMO_function_0 rfl rfl ?_
      refine sd_cS [.int (nI (s))] [] dMO_function_1 kMO_110 mMO_isType_s (c_MO_isType (b := 1) (by omega) (by simp [ty_is_ok hs])) (by decide) (Nat.le_refl _) (Nat.le_refl _) (Nat.le_of_ble_eq_true rfl) rfl ?_
      refine nn_if_eq 14 dMO_function_4 (by decide) (by decide) (fun c => absurd c (by decide)) (fun _ => ?_)
      refine sd_iload_n dMO_function_7 rfl rfl ?_
      refine sd_cS [.int (nI (t))] [] dMO_function_8 kMO_110 mMO_isType_s (c_MO_isType (b := 1) (by omega) (by simp [ty_is_ok ht])) (by decide) (Nat.le_refl _) (Nat.le_refl _) (Nat.le_of_ble_eq_true rfl) rfl ?_
      refine nn_if_ne 16 dMO_function_11 (by decide) (by decide) (fun _ => ?_) (fun c => absurd c (by decide))
      refine sd_iload_n dMO_function_16 rfl rfl ?_
      refine sd_iload_n dMO_function_17 rfl rfl ?_
      refine sd_cS [.int (nI (s)), .int (nI (t))] [] dMO_function_18 kMO_114 mMO_join_s (hj) (by decide) (Nat.le_refl _) (Nat.le_refl _) (Nat.le_of_ble_eq_true rfl) rfl ?_
      refine sd_istore_n dMO_function_21 rfl (by decide) ?_
      refine sd_iload_n dMO_function_22 rfl rfl ?_
      refine nn_if_ne 31 dMO_function_23 (by decide) (by decide) (fun c => absurd c (by decide)) (fun _ => ?_)
      refine sd_bipush (v := (-5)) dMO_function_26 (by decide) ?_
      refine sd_goto 32 dMO_function_28 (by decide) ?_
      exact sd_iret dMO_function_32 rfl (Nat.le_refl _) (Nat.le_refl _) ⟨rfl, rfl, rfl⟩
