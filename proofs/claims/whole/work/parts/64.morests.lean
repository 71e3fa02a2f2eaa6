/-! ===== on how many theorems a theorem rests ===== -/
def lI (n : Nat) : Int64 := Int64.ofNat n
theorem lI_one_shl : ∀ p, p < 40 → (1 : Int64) <<< ((nI p).toInt64 &&& 63) = lI (2 ^ p) := by decide +kernel
theorem lI_tb (n : Nat) : (lI n).toBitVec = BitVec.ofNat 64 n := rfl
theorem lI_or (a b : Nat) : lI a ||| lI b = lI (a ||| b) := by
  apply Int64.toBitVec_inj.mp
  rw [Int64.toBitVec_or, lI_tb, lI_tb, lI_tb, BitVec.ofNat_or]
theorem lI_sa : ∀ k, k < 40 → (((nI k).toInt64 &&& 63).toBitVec.smod 64).toNat = k := by decide +kernel
theorem lI_bit {s k : Nat} (hs : s < 2 ^ 63) (hk : k < 40) : ((lI s >>> ((nI k).toInt64 &&& 63)) &&& 1 = 0) ↔ s.testBit k = false := by
  have h : ((lI s >>> ((nI k).toInt64 &&& 63)) &&& 1) = lI (s / 2 ^ k % 2) := by
    apply Int64.toBitVec_inj.mp
    rw [Int64.toBitVec_and, Int64.toBitVec_shiftRight, BitVec.sshiftRight', lI_sa k hk, lI_tb, lI_tb]
    have hm : (BitVec.ofNat 64 s).msb = false := by
      rw [BitVec.msb_eq_decide, BitVec.toNat_ofNat]
      simp
      omega
    rw [BitVec.sshiftRight_eq_of_msb_false hm]
    apply BitVec.eq_of_toNat_eq
    rw [BitVec.toNat_and, BitVec.toNat_ushiftRight, BitVec.toNat_ofNat, BitVec.toNat_ofNat, Nat.shiftRight_eq_div_pow]
    rw [Nat.mod_eq_of_lt (show s < 2 ^ 64 by omega)]
    show s / 2 ^ k &&& 1 = _
    rw [Nat.and_one_is_mod, Nat.mod_eq_of_lt (show s / 2 ^ k % 2 < 2 ^ 64 by omega)]
  rw [h, Nat.testBit_eq_decide_div_mod_eq]
  have h2 : s / 2 ^ k % 2 = 0 ∨ s / 2 ^ k % 2 = 1 := by omega
  rcases h2 with e | e
  · rw [e]; decide
  · rw [e]; decide
/-- the theorems of which a theorem was made -/
def st_f1 (S : st_S) (p : Nat) : Option Nat := ((st_th S)[p]?).bind (fun h => h.2.2.2.1)
def st_f2 (S : st_S) (p : Nat) : Option Nat := ((st_th S)[p]?).bind (fun h => h.2.2.2.2)
/-- they are elder -/
def st_okF (S : st_S) : Prop := (∀ p a, st_f1 S p = some a → a < p) ∧ (∀ p a, st_f2 S p = some a → a < p)
/-- a bit for each theorem on which a theorem rests -/
def rs_m (S : st_S) : Nat → Nat → Nat
  | 0, _ => 0
  | f + 1, p => 2 ^ p ||| ((match st_f1 S p with | some a => rs_m S f a | none => 0) ||| (match st_f2 S p with | some b => rs_m S f b | none => 0))
def rs (S : st_S) (p : Nat) : Nat := rs_m S (p + 1) p
def rs_n (S : st_S) (p : Nat) : Nat := ((List.range 40).filter (fun k => (rs S p).testBit k)).length
theorem rs_fuel {S : st_S} (hF : st_okF S) : ∀ (f p f' : Nat), p < f → p < f' → rs_m S f p = rs_m S f' p := by
  intro f
  induction f with
  | zero => intro p f' h; omega
  | succ f ih =>
    intro p f' h h'
    cases f' with
    | zero => omega
    | succ f' =>
      rw [rs_m, rs_m]
      cases h1 : st_f1 S p with
      | none =>
        cases h2 : st_f2 S p with
        | none => rfl
        | some b =>
          have := hF.2 p b h2
          simp only
          rw [ih b f' (by omega) (by omega)]
      | some a =>
        have ha := hF.1 p a h1
        cases h2 : st_f2 S p with
        | none =>
          simp only
          rw [ih a f' (by omega) (by omega)]
        | some b =>
          have := hF.2 p b h2
          simp only
          rw [ih a f' (by omega) (by omega), ih b f' (by omega) (by omega)]
theorem rs_eq {S : st_S} (hF : st_okF S) (p : Nat) : rs S p = 2 ^ p ||| ((match st_f1 S p with | some a => rs S a | none => 0) ||| (match st_f2 S p with | some b => rs S b | none => 0)) := by
  unfold rs
  rw [rs_m]
  cases h1 : st_f1 S p with
  | none =>
    cases h2 : st_f2 S p with
    | none => rfl
    | some b =>
      have := hF.2 p b h2
      simp only
      rw [rs_fuel hF p b (b + 1) (by omega) (by omega)]
  | some a =>
    have ha := hF.1 p a h1
    cases h2 : st_f2 S p with
    | none =>
      simp only
      rw [rs_fuel hF p a (a + 1) (by omega) (by omega)]
    | some b =>
      have := hF.2 p b h2
      simp only
      rw [rs_fuel hF p a (a + 1) (by omega) (by omega), rs_fuel hF p b (b + 1) (by omega) (by omega)]
theorem rs_bit {S : st_S} (hF : st_okF S) (p i : Nat) : (rs S p).testBit i = (decide (i = p) || ((match st_f1 S p with | some a => (rs S a).testBit i | none => false) || (match st_f2 S p with | some b => (rs S b).testBit i | none => false))) := by
  rw [rs_eq hF p, Nat.testBit_or, Nat.testBit_or, Nat.testBit_two_pow]
  have e : decide (p = i) = decide (i = p) := by
    by_cases h : i = p
    · simp [h]
    · simp [h]
      exact fun z => h z.symm
  rw [e]
  congr 2
  · cases st_f1 S p <;> simp
  · cases st_f2 S p <;> simp
theorem rs_le {S : st_S} (hF : st_okF S) : ∀ (n p i : Nat), p < n → (rs S p).testBit i = true → i ≤ p := by
  intro n
  induction n with
  | zero => intro p i h; omega
  | succ n ih =>
    intro p i h hb
    rw [rs_bit hF, Bool.or_eq_true, Bool.or_eq_true, decide_eq_true_eq] at hb
    rcases hb with hb | hb | hb
    · omega
    · cases h1 : st_f1 S p with
      | none => rw [h1] at hb; cases hb
      | some a =>
        rw [h1] at hb
        have := hF.1 p a h1
        have := ih a i (by omega) hb
        omega
    · cases h1 : st_f2 S p with
      | none => rw [h1] at hb; cases hb
      | some a =>
        rw [h1] at hb
        have := hF.2 p a h1
        have := ih a i (by omega) hb
        omega
def cn_r (k : Nat) (P : Nat → Bool) : Nat := ((List.range k).filter P).length
theorem cn_r_succ (k : Nat) (P : Nat → Bool) : cn_r (k + 1) P = cn_r k P + if P k = true then 1 else 0 := by
  unfold cn_r
  rw [List.range_succ, List.filter_append, List.length_append]
  cases h : P k <;> simp [h]
theorem cn_r_congr {k : Nat} {P Q : Nat → Bool} (h : ∀ i, i < k → P i = Q i) : cn_r k P = cn_r k Q := by
  unfold cn_r
  congr 1
  apply List.filter_congr
  intro i hi
  exact h i (List.mem_range.mp hi)
/-- what the model counts: from k - 1 down, those in s and those of which they were made -/
def rs_go (S : st_S) : Nat → Nat → Nat
  | 0, _ => 0
  | k + 1, s => if s.testBit k = true then 1 + rs_go S k ((s ||| (match st_f1 S k with | some a => 2 ^ a | none => 0)) ||| (match st_f2 S k with | some b => 2 ^ b | none => 0)) else rs_go S k s
theorem rs_go_eq {S : st_S} (hF : st_okF S) : ∀ (k s : Nat), rs_go S k s = cn_r k (fun i => (List.range k).any (fun j => s.testBit j && (rs S j).testBit i)) := by
  intro k
  induction k with
  | zero => intro s; rfl
  | succ k ih =>
    intro s
    rw [rs_go, cn_r_succ]
    have hk : ((List.range (k + 1)).any (fun j => s.testBit j && (rs S j).testBit k)) = s.testBit k := by
      rw [List.range_succ, List.any_append]
      have h1 : (List.range k).any (fun j => s.testBit j && (rs S j).testBit k) = false := by
        rw [List.any_eq_false]
        intro j hj
        rw [List.mem_range] at hj
        rw [Bool.and_eq_true]
        rintro ⟨-, h⟩
        have := rs_le hF (j + 1) j k (by omega) h
        omega
      rw [h1]
      simp only [List.any_cons, List.any_nil, Bool.or_false, Bool.false_or]
      rw [rs_bit hF]
      simp
    rw [hk]
    by_cases hs : s.testBit k = true
    · rw [if_pos hs, if_pos hs, ih, Nat.add_comm]
      congr 1
      apply cn_r_congr
      intro i hi
      rw [List.range_succ, List.any_append]
      have e1 : [k].any (fun j => s.testBit j && (rs S j).testBit i) = ((match st_f1 S k with | some a => (rs S a).testBit i | none => false) || (match st_f2 S k with | some b => (rs S b).testBit i | none => false)) := by
        simp only [List.any_cons, List.any_nil, Bool.or_false, hs, Bool.true_and]
        rw [rs_bit hF, show decide (i = k) = false by simp; omega, Bool.false_or]
      rw [e1]
      apply Bool.eq_iff_iff.mpr
      simp only [List.any_eq_true, Bool.or_eq_true, Bool.and_eq_true, List.mem_range, Nat.testBit_or]
      constructor
      · rintro ⟨j, hj, (h | h) | h, h'⟩
        · exact Or.inl ⟨j, hj, h, h'⟩
        · right; left
          cases h1 : st_f1 S k with
          | none => rw [h1] at h; simp at h
          | some a =>
            rw [h1] at h
            simp only [Nat.testBit_two_pow, decide_eq_true_eq] at h
            subst h
            exact h'
        · right; right
          cases h1 : st_f2 S k with
          | none => rw [h1] at h; simp at h
          | some a =>
            rw [h1] at h
            simp only [Nat.testBit_two_pow, decide_eq_true_eq] at h
            subst h
            exact h'
      · rintro (⟨j, hj, h, h'⟩ | h | h)
        · exact ⟨j, hj, Or.inl (Or.inl h), h'⟩
        · cases h1 : st_f1 S k with
          | none => rw [h1] at h; cases h
          | some a =>
            rw [h1] at h
            exact ⟨a, hF.1 k a h1, Or.inl (Or.inr (by simp)), h⟩
        · cases h1 : st_f2 S k with
          | none => rw [h1] at h; cases h
          | some a =>
            rw [h1] at h
            exact ⟨a, hF.2 k a h1, Or.inr (by simp), h⟩
    · rw [if_neg hs, if_neg hs, ih, Nat.add_zero]
      apply cn_r_congr
      intro i hi
      rw [List.range_succ, List.any_append]
      have hs' : s.testBit k = false := by simpa using hs
      simp [hs']
theorem cn_r_more {P : Nat → Bool} : ∀ (m k : Nat), (∀ i, k ≤ i → P i = false) → cn_r (k + m) P = cn_r k P := by
  intro m
  induction m with
  | zero => intro k h; rfl
  | succ m ih =>
    intro k h
    rw [← Nat.add_assoc, cn_r_succ, ih k h, h (k + m) (by omega)]
    simp
theorem rs_go_n {S : st_S} (hF : st_okF S) {p : Nat} (hp : p < 40) : rs_go S (p + 1) (2 ^ p) = rs_n S p := by
  rw [rs_go_eq hF]
  have e : ∀ i, ((List.range (p + 1)).any (fun j => (2 ^ p).testBit j && (rs S j).testBit i)) = (rs S p).testBit i := by
    intro i
    apply Bool.eq_iff_iff.mpr
    simp only [List.any_eq_true, Bool.and_eq_true, List.mem_range, Nat.testBit_two_pow, decide_eq_true_eq]
    constructor
    · rintro ⟨j, -, rfl, h⟩
      exact h
    · intro h
      exact ⟨p, by omega, rfl, h⟩
  rw [cn_r_congr (fun i _ => e i)]
  have h := cn_r_more (P := fun i => (rs S p).testBit i) (40 - (p + 1)) (p + 1) (fun i hi => by
    cases hb : (rs S p).testBit i with
    | false => rfl
    | true =>
      have := rs_le hF (p + 1) p i (by omega) hb
      omega)
  rw [show p + 1 + (40 - (p + 1)) = 40 by omega] at h
  exact h.symm
def ix : Nat → Int32
  | 0 => -1
  | m + 1 => nI m
theorem ix_dec (m : Nat) : nI m + Int32.ofInt (-1) = ix m := by
  cases m with
  | zero => decide
  | succ m =>
    show nI (m + 1) + Int32.ofInt (-1) = nI m
    rw [← nI_add, Int32.add_assoc, show nI 1 + Int32.ofInt (-1) = 0 from by decide, Int32.add_zero]
theorem or_40 {s a : Nat} (hs : s < 2 ^ 40) (ha : a < 40) : s ||| 2 ^ a < 2 ^ 40 := Nat.or_lt_two_pow hs (Nat.pow_lt_pow_right (by omega) ha)
theorem mo_f12 {S : st_S} {D : fx_D} {p : Nat} (hR : mo_R S D) (hp : p < (st_th S).length) : D.1 10 p = oi_I (st_f1 S p) ∧ D.1 11 p = oi_I (st_f2 S p) := by
  have hx : (st_th S)[p]? = some (st_th S)[p] := List.getElem?_eq_getElem hp
  have e1 : st_f1 S p = (st_th S)[p].2.2.2.1 := by unfold st_f1; rw [hx]; rfl
  have e2 : st_f2 S p = (st_th S)[p].2.2.2.2 := by unfold st_f2; rw [hx]; rfl
  obtain ⟨-, -, -, -, -, a, b⟩ := hR.2.2.2.2.1.2.2 p _ hx
  rw [e1, e2]
  exact ⟨a, b⟩
theorem dMO_rests_0 : decode prog_13_method_55_code 0 = .ok (.lconst 1, 1) := by decide +kernel
theorem dMO_rests_1 : decode prog_13_method_55_code 1 = .ok (.iload_n 1, 1) := by decide +kernel
theorem dMO_rests_2 : decode prog_13_method_55_code 2 = .ok (.lshl, 1) := by decide +kernel
theorem dMO_rests_3 : decode prog_13_method_55_code 3 = .ok (.lstore_n 2, 1) := by decide +kernel
theorem dMO_rests_4 : decode prog_13_method_55_code 4 = .ok (.iconst 0, 1) := by decide +kernel
theorem dMO_rests_5 : decode prog_13_method_55_code 5 = .ok (.istore 4, 2) := by decide +kernel
theorem dMO_rests_7 : decode prog_13_method_55_code 7 = .ok (.iload_n 1, 1) := by decide +kernel
theorem dMO_rests_8 : decode prog_13_method_55_code 8 = .ok (.istore 5, 2) := by decide +kernel
theorem dMO_rests_10 : decode prog_13_method_55_code 10 = .ok (.iload 5, 2) := by decide +kernel
theorem dMO_rests_12 : decode prog_13_method_55_code 12 = .ok (.ifCond .lt (70), 3) := by decide +kernel
theorem dMO_rests_15 : decode prog_13_method_55_code 15 = .ok (.lload_n 2, 1) := by decide +kernel
theorem dMO_rests_16 : decode prog_13_method_55_code 16 = .ok (.iload 5, 2) := by decide +kernel
theorem dMO_rests_18 : decode prog_13_method_55_code 18 = .ok (.lshr, 1) := by decide +kernel
theorem dMO_rests_19 : decode prog_13_method_55_code 19 = .ok (.lconst 1, 1) := by decide +kernel
theorem dMO_rests_20 : decode prog_13_method_55_code 20 = .ok (.land, 1) := by decide +kernel
theorem dMO_rests_21 : decode prog_13_method_55_code 21 = .ok (.lconst 0, 1) := by decide +kernel
theorem dMO_rests_22 : decode prog_13_method_55_code 22 = .ok (.lcmp, 1) := by decide +kernel
theorem dMO_rests_23 : decode prog_13_method_55_code 23 = .ok (.ifCond .ne (6), 3) := by decide +kernel
theorem dMO_rests_26 : decode prog_13_method_55_code 26 = .ok (.goto (50), 3) := by decide +kernel
theorem dMO_rests_29 : decode prog_13_method_55_code 29 = .ok (.iinc 4 (1), 3) := by decide +kernel
theorem dMO_rests_32 : decode prog_13_method_55_code 32 = .ok (.aload_n 0, 1) := by decide +kernel
theorem dMO_rests_33 : decode prog_13_method_55_code 33 = .ok (.getfield 37, 3) := by decide +kernel
theorem dMO_rests_36 : decode prog_13_method_55_code 36 = .ok (.iload 5, 2) := by decide +kernel
theorem dMO_rests_38 : decode prog_13_method_55_code 38 = .ok (.iaload, 1) := by decide +kernel
theorem dMO_rests_39 : decode prog_13_method_55_code 39 = .ok (.ifCond .lt (15), 3) := by decide +kernel
theorem dMO_rests_42 : decode prog_13_method_55_code 42 = .ok (.lload_n 2, 1) := by decide +kernel
theorem dMO_rests_43 : decode prog_13_method_55_code 43 = .ok (.lconst 1, 1) := by decide +kernel
theorem dMO_rests_44 : decode prog_13_method_55_code 44 = .ok (.aload_n 0, 1) := by decide +kernel
theorem dMO_rests_45 : decode prog_13_method_55_code 45 = .ok (.getfield 37, 3) := by decide +kernel
theorem dMO_rests_48 : decode prog_13_method_55_code 48 = .ok (.iload 5, 2) := by decide +kernel
theorem dMO_rests_50 : decode prog_13_method_55_code 50 = .ok (.iaload, 1) := by decide +kernel
theorem dMO_rests_51 : decode prog_13_method_55_code 51 = .ok (.lshl, 1) := by decide +kernel
theorem dMO_rests_52 : decode prog_13_method_55_code 52 = .ok (.lor, 1) := by decide +kernel
theorem dMO_rests_53 : decode prog_13_method_55_code 53 = .ok (.lstore_n 2, 1) := by decide +kernel
theorem dMO_rests_54 : decode prog_13_method_55_code 54 = .ok (.aload_n 0, 1) := by decide +kernel
theorem dMO_rests_55 : decode prog_13_method_55_code 55 = .ok (.getfield 40, 3) := by decide +kernel
theorem dMO_rests_58 : decode prog_13_method_55_code 58 = .ok (.iload 5, 2) := by decide +kernel
theorem dMO_rests_60 : decode prog_13_method_55_code 60 = .ok (.iaload, 1) := by decide +kernel
theorem dMO_rests_61 : decode prog_13_method_55_code 61 = .ok (.ifCond .lt (15), 3) := by decide +kernel
theorem dMO_rests_64 : decode prog_13_method_55_code 64 = .ok (.lload_n 2, 1) := by decide +kernel
theorem dMO_rests_65 : decode prog_13_method_55_code 65 = .ok (.lconst 1, 1) := by decide +kernel
theorem dMO_rests_66 : decode prog_13_method_55_code 66 = .ok (.aload_n 0, 1) := by decide +kernel
theorem dMO_rests_67 : decode prog_13_method_55_code 67 = .ok (.getfield 40, 3) := by decide +kernel
theorem dMO_rests_70 : decode prog_13_method_55_code 70 = .ok (.iload 5, 2) := by decide +kernel
theorem dMO_rests_72 : decode prog_13_method_55_code 72 = .ok (.iaload, 1) := by decide +kernel
theorem dMO_rests_73 : decode prog_13_method_55_code 73 = .ok (.lshl, 1) := by decide +kernel
theorem dMO_rests_74 : decode prog_13_method_55_code 74 = .ok (.lor, 1) := by decide +kernel
theorem dMO_rests_75 : decode prog_13_method_55_code 75 = .ok (.lstore_n 2, 1) := by decide +kernel
theorem dMO_rests_76 : decode prog_13_method_55_code 76 = .ok (.iinc 5 (-1), 3) := by decide +kernel
theorem dMO_rests_79 : decode prog_13_method_55_code 79 = .ok (.goto (-69), 3) := by decide +kernel
theorem dMO_rests_82 : decode prog_13_method_55_code 82 = .ok (.iload 4, 2) := by decide +kernel
theorem dMO_rests_84 : decode prog_13_method_55_code 84 = .ok (.ireturn, 1) := by decide +kernel
theorem l_MO_rests {G : sd_G} {o : Nat} {D : fx_D} {h0 : sd_H} {nx v : Nat} {S : st_S} (hR : mo_R S D) (hF : st_okF S) : ∀ (m s n : Nat), m ≤ (st_th S).length → s < 2 ^ 40 → v = n + rs_go S m s → sd_W G mMO_rests 0 0 0 (sd_is (some (.int (nI v))) (fx_h G.1.2 mo_S o D h0) nx) 10 [(0, .ref (o + 0)), (2, .long (lI s)), (4, .int (nI n)), (5, .int (ix m))] [] (fx_h G.1.2 mo_S o D h0) nx 0 0 := by
  have h40 : (st_th S).length ≤ 40 := hR.2.2.2.2.1.1
  intro m
  induction m with
  | zero =>
    intro s n hm hs hv
    have hv' : v = n := hv
    refine sd_iload dMO_rests_10 rfl ?_
    refine sd_if_lt 82 dMO_rests_12 (by decide) (fun c12 => ?_) (fun c12 => ?_)
    ·
      refine sd_iload dMO_rests_82 rfl ?_
      exact sd_iret dMO_rests_84 rfl (Nat.le_refl _) (Nat.le_refl _) ⟨by rw [hv'], rfl, rfl⟩
    ·
      exact absurd (show ix 0 < 0 by decide) c12
  | succ m ih =>
    intro s n hm hs hv
    obtain ⟨q1, q2⟩ := mo_f12 hR (show m < (st_th S).length by omega)
    rw [show ix (m + 1) = nI m from rfl]
    rw [rs_go] at hv
    by_cases hb : s.testBit m = true
    · rw [if_pos hb] at hv
      have hne : ¬ lg_cmp ((lI s >>> ((nI m).toInt64 &&& 63)) &&& 1) 0 = 0 := fun z => by
        have := (lI_bit (by omega) (by omega)).mp ((lg_cmp_eq _ _).mp z)
        rw [hb] at this
        cases this
      cases h1 : st_f1 S m with
      | none =>
        rw [h1] at q1 hv
        cases h2 : st_f2 S m with
        | none =>
          rw [h2] at q2 hv
          simp only [Nat.or_zero] at hv
          refine sd_iload dMO_rests_10 rfl ?_
          refine nn_if_lt dMO_rests_12 82 (by decide) (by omega) ?_
          refine sd_lload_n dMO_rests_15 rfl rfl ?_
          refine sd_iload dMO_rests_16 rfl ?_
          refine sd_lshr (v := lI s >>> ((nI m).toInt64 &&& 63)) dMO_rests_18 (rfl) ?_
          refine sd_lconst (v := 1) dMO_rests_19 (by decide) ?_
          refine sd_land dMO_rests_20 ?_
          refine sd_lconst (v := 0) dMO_rests_21 (by decide) ?_
          refine sd_lcmp dMO_rests_22 ?_
          refine sd_if_ne 29 dMO_rests_23 (by decide) (fun c23 => ?_) (fun c23 => ?_)
          ·
            refine nn_iinc 1 dMO_rests_29 rfl (by decide) ?_
            refine sd_aload_n dMO_rests_32 rfl rfl ?_
            refine fx_getr 10 12 (10) dMO_rests_33 fMO_37 rfl rfl ?_
            refine sd_iload dMO_rests_36 rfl ?_
            refine fx_ialdv (v := (-1)) (m) dMO_rests_38 rfl rfl (by omega) (by decide) (q1) ?_
            refine sd_if_lt 54 dMO_rests_39 (by decide) (fun c39 => ?_) (fun c39 => ?_)
            ·
              refine sd_aload_n dMO_rests_54 rfl rfl ?_
              refine fx_getr 10 13 (11) dMO_rests_55 fMO_40 rfl rfl ?_
              refine sd_iload dMO_rests_58 rfl ?_
              refine fx_ialdv (v := (-1)) (m) dMO_rests_60 rfl rfl (by omega) (by decide) (q2) ?_
              refine sd_if_lt 76 dMO_rests_61 (by decide) (fun c61 => ?_) (fun c61 => ?_)
              ·
                refine sd_iinc (ix m) dMO_rests_76 rfl (ix_dec m) (by decide) ?_
                refine sd_goto 10 dMO_rests_79 (by decide) ?_
                refine sd_locp (al' := [(0, .ref (o + (0))), (2, .long (lI s)), (4, .int (nI (n + 1))), (5, .int (ix m))]) [2, 3, 1, 0] rfl ?_
                exact ih s (n + 1) (by omega) hs (by omega)
              ·
                exact absurd (show (-1 : Int32) < 0 by decide) c61
            ·
              exact absurd (show (-1 : Int32) < 0 by decide) c39
          ·
            exact absurd c23 hne
        | some b =>
          rw [h2] at q2 hv
          have hb' := hF.2 m b h2
          simp only [Nat.or_zero] at hv
          refine sd_iload dMO_rests_10 rfl ?_
          refine nn_if_lt dMO_rests_12 82 (by decide) (by omega) ?_
          refine sd_lload_n dMO_rests_15 rfl rfl ?_
          refine sd_iload dMO_rests_16 rfl ?_
          refine sd_lshr (v := lI s >>> ((nI m).toInt64 &&& 63)) dMO_rests_18 (rfl) ?_
          refine sd_lconst (v := 1) dMO_rests_19 (by decide) ?_
          refine sd_land dMO_rests_20 ?_
          refine sd_lconst (v := 0) dMO_rests_21 (by decide) ?_
          refine sd_lcmp dMO_rests_22 ?_
          refine sd_if_ne 29 dMO_rests_23 (by decide) (fun c23 => ?_) (fun c23 => ?_)
          ·
            refine nn_iinc 1 dMO_rests_29 rfl (by decide) ?_
            refine sd_aload_n dMO_rests_32 rfl rfl ?_
            refine fx_getr 10 12 (10) dMO_rests_33 fMO_37 rfl rfl ?_
            refine sd_iload dMO_rests_36 rfl ?_
            refine fx_ialdv (v := (-1)) (m) dMO_rests_38 rfl rfl (by omega) (by decide) (q1) ?_
            refine sd_if_lt 54 dMO_rests_39 (by decide) (fun c39 => ?_) (fun c39 => ?_)
            ·
              refine sd_aload_n dMO_rests_54 rfl rfl ?_
              refine fx_getr 10 13 (11) dMO_rests_55 fMO_40 rfl rfl ?_
              refine sd_iload dMO_rests_58 rfl ?_
              refine fx_ialdv (v := (nI (b))) (m) dMO_rests_60 rfl rfl (by omega) (by decide) (q2) ?_
              refine nn_if_lt dMO_rests_61 76 (by decide) (by omega) ?_
              refine sd_lload_n dMO_rests_64 rfl rfl ?_
              refine sd_lconst (v := 1) dMO_rests_65 (by decide) ?_
              refine sd_aload_n dMO_rests_66 rfl rfl ?_
              refine fx_getr 10 13 (11) dMO_rests_67 fMO_40 rfl rfl ?_
              refine sd_iload dMO_rests_70 rfl ?_
              refine fx_ialdv (v := (nI (b))) (m) dMO_rests_72 rfl rfl (by omega) (by decide) (q2) ?_
              refine sd_lshl (v := lI (2 ^ b)) dMO_rests_73 (lI_one_shl b (by omega)) ?_
              refine sd_lor dMO_rests_74 ?_
              rw [show ((lI s) ||| (lI (2 ^ b))) = (lI (s ||| 2 ^ b)) from lI_or _ _]
              refine sd_lstore_n dMO_rests_75 rfl (by decide) ?_
              refine sd_iinc (ix m) dMO_rests_76 rfl (ix_dec m) (by decide) ?_
              refine sd_goto 10 dMO_rests_79 (by decide) ?_
              refine sd_locp (al' := [(0, .ref (o + (0))), (2, .long (lI (s ||| 2 ^ b))), (4, .int (nI (n + 1))), (5, .int (ix m))]) [3, 1, 2, 0] rfl ?_
              exact ih (s ||| 2 ^ b) (n + 1) (by omega) (or_40 hs (by omega)) (by omega)
            ·
              exact absurd (show (-1 : Int32) < 0 by decide) c39
          ·
            exact absurd c23 hne
      | some a =>
        rw [h1] at q1 hv
        have ha' := hF.1 m a h1
        cases h2 : st_f2 S m with
        | none =>
          rw [h2] at q2 hv
          simp only [Nat.or_zero] at hv
          refine sd_iload dMO_rests_10 rfl ?_
          refine nn_if_lt dMO_rests_12 82 (by decide) (by omega) ?_
          refine sd_lload_n dMO_rests_15 rfl rfl ?_
          refine sd_iload dMO_rests_16 rfl ?_
          refine sd_lshr (v := lI s >>> ((nI m).toInt64 &&& 63)) dMO_rests_18 (rfl) ?_
          refine sd_lconst (v := 1) dMO_rests_19 (by decide) ?_
          refine sd_land dMO_rests_20 ?_
          refine sd_lconst (v := 0) dMO_rests_21 (by decide) ?_
          refine sd_lcmp dMO_rests_22 ?_
          refine sd_if_ne 29 dMO_rests_23 (by decide) (fun c23 => ?_) (fun c23 => ?_)
          ·
            refine nn_iinc 1 dMO_rests_29 rfl (by decide) ?_
            refine sd_aload_n dMO_rests_32 rfl rfl ?_
            refine fx_getr 10 12 (10) dMO_rests_33 fMO_37 rfl rfl ?_
            refine sd_iload dMO_rests_36 rfl ?_
            refine fx_ialdv (v := (nI (a))) (m) dMO_rests_38 rfl rfl (by omega) (by decide) (q1) ?_
            refine nn_if_lt dMO_rests_39 54 (by decide) (by omega) ?_
            refine sd_lload_n dMO_rests_42 rfl rfl ?_
            refine sd_lconst (v := 1) dMO_rests_43 (by decide) ?_
            refine sd_aload_n dMO_rests_44 rfl rfl ?_
            refine fx_getr 10 12 (10) dMO_rests_45 fMO_37 rfl rfl ?_
            refine sd_iload dMO_rests_48 rfl ?_
            refine fx_ialdv (v := (nI (a))) (m) dMO_rests_50 rfl rfl (by omega) (by decide) (q1) ?_
            refine sd_lshl (v := lI (2 ^ a)) dMO_rests_51 (lI_one_shl a (by omega)) ?_
            refine sd_lor dMO_rests_52 ?_
            rw [show ((lI s) ||| (lI (2 ^ a))) = (lI (s ||| 2 ^ a)) from lI_or _ _]
            refine sd_lstore_n dMO_rests_53 rfl (by decide) ?_
            refine sd_aload_n dMO_rests_54 rfl rfl ?_
            refine fx_getr 10 13 (11) dMO_rests_55 fMO_40 rfl rfl ?_
            refine sd_iload dMO_rests_58 rfl ?_
            refine fx_ialdv (v := (-1)) (m) dMO_rests_60 rfl rfl (by omega) (by decide) (q2) ?_
            refine sd_if_lt 76 dMO_rests_61 (by decide) (fun c61 => ?_) (fun c61 => ?_)
            ·
              refine sd_iinc (ix m) dMO_rests_76 rfl (ix_dec m) (by decide) ?_
              refine sd_goto 10 dMO_rests_79 (by decide) ?_
              refine sd_locp (al' := [(0, .ref (o + (0))), (2, .long (lI (s ||| 2 ^ a))), (4, .int (nI (n + 1))), (5, .int (ix m))]) [3, 1, 2, 0] rfl ?_
              exact ih (s ||| 2 ^ a) (n + 1) (by omega) (or_40 hs (by omega)) (by omega)
            ·
              exact absurd (show (-1 : Int32) < 0 by decide) c61
          ·
            exact absurd c23 hne
        | some b =>
          rw [h2] at q2 hv
          have hb' := hF.2 m b h2
          simp only at hv
          refine sd_iload dMO_rests_10 rfl ?_
          refine nn_if_lt dMO_rests_12 82 (by decide) (by omega) ?_
          refine sd_lload_n dMO_rests_15 rfl rfl ?_
          refine sd_iload dMO_rests_16 rfl ?_
          refine sd_lshr (v := lI s >>> ((nI m).toInt64 &&& 63)) dMO_rests_18 (rfl) ?_
          refine sd_lconst (v := 1) dMO_rests_19 (by decide) ?_
          refine sd_land dMO_rests_20 ?_
          refine sd_lconst (v := 0) dMO_rests_21 (by decide) ?_
          refine sd_lcmp dMO_rests_22 ?_
          refine sd_if_ne 29 dMO_rests_23 (by decide) (fun c23 => ?_) (fun c23 => ?_)
          ·
            refine nn_iinc 1 dMO_rests_29 rfl (by decide) ?_
            refine sd_aload_n dMO_rests_32 rfl rfl ?_
            refine fx_getr 10 12 (10) dMO_rests_33 fMO_37 rfl rfl ?_
            refine sd_iload dMO_rests_36 rfl ?_
            refine fx_ialdv (v := (nI (a))) (m) dMO_rests_38 rfl rfl (by omega) (by decide) (q1) ?_
            refine nn_if_lt dMO_rests_39 54 (by decide) (by omega) ?_
            refine sd_lload_n dMO_rests_42 rfl rfl ?_
            refine sd_lconst (v := 1) dMO_rests_43 (by decide) ?_
            refine sd_aload_n dMO_rests_44 rfl rfl ?_
            refine fx_getr 10 12 (10) dMO_rests_45 fMO_37 rfl rfl ?_
            refine sd_iload dMO_rests_48 rfl ?_
            refine fx_ialdv (v := (nI (a))) (m) dMO_rests_50 rfl rfl (by omega) (by decide) (q1) ?_
            refine sd_lshl (v := lI (2 ^ a)) dMO_rests_51 (lI_one_shl a (by omega)) ?_
            refine sd_lor dMO_rests_52 ?_
            rw [show ((lI s) ||| (lI (2 ^ a))) = (lI (s ||| 2 ^ a)) from lI_or _ _]
            refine sd_lstore_n dMO_rests_53 rfl (by decide) ?_
            refine sd_aload_n dMO_rests_54 rfl rfl ?_
            refine fx_getr 10 13 (11) dMO_rests_55 fMO_40 rfl rfl ?_
            refine sd_iload dMO_rests_58 rfl ?_
            refine fx_ialdv (v := (nI (b))) (m) dMO_rests_60 rfl rfl (by omega) (by decide) (q2) ?_
            refine nn_if_lt dMO_rests_61 76 (by decide) (by omega) ?_
            refine sd_lload_n dMO_rests_64 rfl rfl ?_
            refine sd_lconst (v := 1) dMO_rests_65 (by decide) ?_
            refine sd_aload_n dMO_rests_66 rfl rfl ?_
            refine fx_getr 10 13 (11) dMO_rests_67 fMO_40 rfl rfl ?_
            refine sd_iload dMO_rests_70 rfl ?_
            refine fx_ialdv (v := (nI (b))) (m) dMO_rests_72 rfl rfl (by omega) (by decide) (q2) ?_
            refine sd_lshl (v := lI (2 ^ b)) dMO_rests_73 (lI_one_shl b (by omega)) ?_
            refine sd_lor dMO_rests_74 ?_
            rw [show ((lI (s ||| 2 ^ a)) ||| (lI (2 ^ b))) = (lI ((s ||| 2 ^ a) ||| 2 ^ b)) from lI_or _ _]
            refine sd_lstore_n dMO_rests_75 rfl (by decide) ?_
            refine sd_iinc (ix m) dMO_rests_76 rfl (ix_dec m) (by decide) ?_
            refine sd_goto 10 dMO_rests_79 (by decide) ?_
            refine sd_locp (al' := [(0, .ref (o + (0))), (2, .long (lI ((s ||| 2 ^ a) ||| 2 ^ b))), (4, .int (nI (n + 1))), (5, .int (ix m))]) [3, 1, 2, 0] rfl ?_
            exact ih ((s ||| 2 ^ a) ||| 2 ^ b) (n + 1) (by omega) (or_40 (or_40 hs (by omega)) (by omega)) (by omega)
          ·
            exact absurd c23 hne
    · rw [if_neg hb] at hv
      have heq : lg_cmp ((lI s >>> ((nI m).toInt64 &&& 63)) &&& 1) 0 = 0 := (lg_cmp_eq _ _).mpr ((lI_bit (by omega) (by omega)).mpr (by simpa using hb))
      refine sd_iload dMO_rests_10 rfl ?_
      refine nn_if_lt dMO_rests_12 82 (by decide) (by omega) ?_
      refine sd_lload_n dMO_rests_15 rfl rfl ?_
      refine sd_iload dMO_rests_16 rfl ?_
      refine sd_lshr (v := lI s >>> ((nI m).toInt64 &&& 63)) dMO_rests_18 (rfl) ?_
      refine sd_lconst (v := 1) dMO_rests_19 (by decide) ?_
      refine sd_land dMO_rests_20 ?_
      refine sd_lconst (v := 0) dMO_rests_21 (by decide) ?_
      refine sd_lcmp dMO_rests_22 ?_
      refine sd_if_ne 29 dMO_rests_23 (by decide) (fun c23 => ?_) (fun c23 => ?_)
      ·
        exact absurd heq c23
      ·
        refine sd_goto 76 dMO_rests_26 (by decide) ?_
        refine sd_iinc (ix m) dMO_rests_76 rfl (ix_dec m) (by decide) ?_
        refine sd_goto 10 dMO_rests_79 (by decide) ?_
        refine sd_locp (al' := [(0, .ref (o + (0))), (2, .long (lI s)), (4, .int (nI (n))), (5, .int (ix m))]) [1, 2, 3, 0] rfl ?_
        exact ih s n (by omega) hs hv
theorem c_MO_rests {G : sd_G} {o : Nat} {D : fx_D} {h0 : sd_H} {nx p : Nat} {S : st_S} (hR : mo_R S D) (hF : st_okF S) (hp : p < (st_th S).length) : sd_Ct G mMO_rests 0 0 0 [.ref (o + 0), .int (nI p)] (fx_h G.1.2 mo_S o D h0) nx (sd_is (some (.int (nI (rs_n S p)))) (fx_h G.1.2 mo_S o D h0) nx) := by
  refine sd_Ct_of (by decide) (Nat.le_of_ble_eq_true rfl) ?_
  have h40 : (st_th S).length ≤ 40 := hR.2.2.2.2.1.1
  refine sd_lconst (v := 1) dMO_rests_0 (by decide) ?_
  refine sd_iload_n dMO_rests_1 rfl rfl ?_
  refine sd_lshl (v := lI (2 ^ p)) dMO_rests_2 (lI_one_shl p (by omega)) ?_
  refine sd_lstore_n dMO_rests_3 rfl (by decide) ?_
  refine sd_iconst (v := nI 0) dMO_rests_4 (by decide) ?_
  refine sd_istore dMO_rests_5 (by decide) ?_
  refine sd_iload_n dMO_rests_7 rfl rfl ?_
  refine sd_istore dMO_rests_8 (by decide) ?_
  refine sd_locp (al' := [(0, .ref (o + (0))), (2, .long (lI (2 ^ p))), (4, .int (nI (0))), (5, .int (nI (p)))]) [3, 2, 1, 0] rfl ?_
  exact l_MO_rests hR hF (p + 1) (2 ^ p) 0 (by omega) (Nat.pow_lt_pow_right (by omega) (by omega)) (by rw [rs_go_n hF (by omega)]; omega)
def sp_theorem (S : st_S) (x y a : Int32) : Prop := (¬ (nn_lt x (st_th S).length ∧ nn_lt y 6) ∧ a = -1) ∨ ∃ (p w : Nat) (h : st_Th), x = nI p ∧ y = nI w ∧ (st_th S)[p]? = some h ∧ w < 6 ∧ a = match w with | 0 => nI h.1 | 1 => nI h.2.1.length | 2 => nI h.2.2.1 | 3 => oi_I h.2.2.2.1 | 4 => oi_I h.2.2.2.2 | _ => nI (rs_n S p)
theorem dMO_theorem_0 : decode prog_13_method_56_code 0 = .ok (.aload_n 0, 1) := by decide +kernel
theorem dMO_theorem_1 : decode prog_13_method_56_code 1 = .ok (.iload_n 1, 1) := by decide +kernel
theorem dMO_theorem_2 : decode prog_13_method_56_code 2 = .ok (.invokevirtual 219, 3) := by decide +kernel
theorem dMO_theorem_5 : decode prog_13_method_56_code 5 = .ok (.ifCond .eq (12), 3) := by decide +kernel
theorem dMO_theorem_8 : decode prog_13_method_56_code 8 = .ok (.iload_n 2, 1) := by decide +kernel
theorem dMO_theorem_9 : decode prog_13_method_56_code 9 = .ok (.iconst 0, 1) := by decide +kernel
theorem dMO_theorem_10 : decode prog_13_method_56_code 10 = .ok (.iconst 5, 1) := by decide +kernel
theorem dMO_theorem_11 : decode prog_13_method_56_code 11 = .ok (.invokestatic 102, 3) := by decide +kernel
theorem dMO_theorem_14 : decode prog_13_method_56_code 14 = .ok (.ifCond .ne (5), 3) := by decide +kernel
theorem dMO_theorem_17 : decode prog_13_method_56_code 17 = .ok (.iconst (-1), 1) := by decide +kernel
theorem dMO_theorem_18 : decode prog_13_method_56_code 18 = .ok (.ireturn, 1) := by decide +kernel
theorem dMO_theorem_19 : decode prog_13_method_56_code 19 = .ok (.iload_n 2, 1) := by decide +kernel
theorem dMO_theorem_20 : decode prog_13_method_56_code 20 = .ok (.tableswitch (71) (0) (4) #[36, 43, 50, 57, 64], 36) := by decide +kernel
theorem dMO_theorem_56 : decode prog_13_method_56_code 56 = .ok (.aload_n 0, 1) := by decide +kernel
theorem dMO_theorem_57 : decode prog_13_method_56_code 57 = .ok (.getfield 25, 3) := by decide +kernel
theorem dMO_theorem_60 : decode prog_13_method_56_code 60 = .ok (.iload_n 1, 1) := by decide +kernel
theorem dMO_theorem_61 : decode prog_13_method_56_code 61 = .ok (.iaload, 1) := by decide +kernel
theorem dMO_theorem_62 : decode prog_13_method_56_code 62 = .ok (.ireturn, 1) := by decide +kernel
theorem dMO_theorem_63 : decode prog_13_method_56_code 63 = .ok (.aload_n 0, 1) := by decide +kernel
theorem dMO_theorem_64 : decode prog_13_method_56_code 64 = .ok (.getfield 28, 3) := by decide +kernel
theorem dMO_theorem_67 : decode prog_13_method_56_code 67 = .ok (.iload_n 1, 1) := by decide +kernel
theorem dMO_theorem_68 : decode prog_13_method_56_code 68 = .ok (.iaload, 1) := by decide +kernel
theorem dMO_theorem_69 : decode prog_13_method_56_code 69 = .ok (.ireturn, 1) := by decide +kernel
theorem dMO_theorem_70 : decode prog_13_method_56_code 70 = .ok (.aload_n 0, 1) := by decide +kernel
theorem dMO_theorem_71 : decode prog_13_method_56_code 71 = .ok (.getfield 34, 3) := by decide +kernel
theorem dMO_theorem_74 : decode prog_13_method_56_code 74 = .ok (.iload_n 1, 1) := by decide +kernel
theorem dMO_theorem_75 : decode prog_13_method_56_code 75 = .ok (.iaload, 1) := by decide +kernel
theorem dMO_theorem_76 : decode prog_13_method_56_code 76 = .ok (.ireturn, 1) := by decide +kernel
theorem dMO_theorem_77 : decode prog_13_method_56_code 77 = .ok (.aload_n 0, 1) := by decide +kernel
theorem dMO_theorem_78 : decode prog_13_method_56_code 78 = .ok (.getfield 37, 3) := by decide +kernel
theorem dMO_theorem_81 : decode prog_13_method_56_code 81 = .ok (.iload_n 1, 1) := by decide +kernel
theorem dMO_theorem_82 : decode prog_13_method_56_code 82 = .ok (.iaload, 1) := by decide +kernel
theorem dMO_theorem_83 : decode prog_13_method_56_code 83 = .ok (.ireturn, 1) := by decide +kernel
theorem dMO_theorem_84 : decode prog_13_method_56_code 84 = .ok (.aload_n 0, 1) := by decide +kernel
theorem dMO_theorem_85 : decode prog_13_method_56_code 85 = .ok (.getfield 40, 3) := by decide +kernel
theorem dMO_theorem_88 : decode prog_13_method_56_code 88 = .ok (.iload_n 1, 1) := by decide +kernel
theorem dMO_theorem_89 : decode prog_13_method_56_code 89 = .ok (.iaload, 1) := by decide +kernel
theorem dMO_theorem_90 : decode prog_13_method_56_code 90 = .ok (.ireturn, 1) := by decide +kernel
theorem dMO_theorem_91 : decode prog_13_method_56_code 91 = .ok (.aload_n 0, 1) := by decide +kernel
theorem dMO_theorem_92 : decode prog_13_method_56_code 92 = .ok (.iload_n 1, 1) := by decide +kernel
theorem dMO_theorem_93 : decode prog_13_method_56_code 93 = .ok (.invokevirtual 267, 3) := by decide +kernel
theorem dMO_theorem_96 : decode prog_13_method_56_code 96 = .ok (.ireturn, 1) := by decide +kernel
theorem c_MO_theorem {G : sd_G} {o : Nat} {D : fx_D} {h0 : sd_H} {nx : Nat} {S : st_S} {x y a : Int32} (hR : mo_R S D) (hF : st_okF S) (hs : sp_theorem S x y a) : sd_Ct G mMO_theorem 2 0 0 [.ref (o + 0), .int x, .int y] (fx_h G.1.2 mo_S o D h0) nx (sd_is (some (.int a)) (fx_h G.1.2 mo_S o D h0) nx) := by
  refine sd_Ct_of (by decide) (Nat.le_of_ble_eq_true rfl) ?_
  have h40 : (st_th S).length ≤ 40 := hR.2.2.2.2.1.1
  have ht := hR.2.2.2.2.1.2.1
  rcases hs with ⟨hn, rfl⟩ | ⟨p, w, h, rfl, rfl, hp, hw, rfl⟩
  · by_cases h1 : nn_lt x (st_th S).length
    · have h2 : ¬ nn_lt y 6 := fun z => hn ⟨h1, z⟩
      refine sd_aload_n dMO_theorem_0 rfl rfl ?_
      refine sd_iload_n dMO_theorem_1 rfl rfl ?_
      refine fx_cV 10 sR_MO [.int (x)] [] dMO_theorem_2 kMO_219 rfl rfl mMO_isTheorem_v (c_MO_isTheorem (b := 1) (by omega) ht (by omega) (by simp only [true_iff]; exact h1)) (by decide) (Nat.le_refl _) (Nat.le_refl _) (Nat.le_of_ble_eq_true rfl) rfl ?_
      refine nn_if_eq 17 dMO_theorem_5 (by decide) (by decide) (fun c => absurd c (by decide)) (fun _ => ?_)
      refine sd_iload_n dMO_theorem_8 rfl rfl ?_
      refine sd_iconst (v := nI 0) dMO_theorem_9 (by decide) ?_
      refine sd_iconst (v := nI 5) dMO_theorem_10 (by decide) ?_
      refine sd_cS [.int (y), .int (nI (0)), .int (nI (5))] [] dMO_theorem_11 kMO_102 mMO_in_s (c_MO_in (b := 0) (by omega) (by rw [mo_in_of (by omega)]; constructor; intro e; cases e; intro e; exact absurd e h2)) (by decide) (Nat.le_refl _) (Nat.le_refl _) (Nat.le_of_ble_eq_true rfl) rfl ?_
      refine nn_if_ne 19 dMO_theorem_14 (by decide) (by decide) (fun c => absurd c (by decide)) (fun _ => ?_)
      refine sd_iconst (v := (-1)) dMO_theorem_17 (by decide) ?_
      exact sd_iret dMO_theorem_18 rfl (Nat.le_refl _) (Nat.le_refl _) ⟨rfl, rfl, rfl⟩
    ·
      refine sd_aload_n dMO_theorem_0 rfl rfl ?_
      refine sd_iload_n dMO_theorem_1 rfl rfl ?_
      refine fx_cV 10 sR_MO [.int (x)] [] dMO_theorem_2 kMO_219 rfl rfl mMO_isTheorem_v (c_MO_isTheorem (b := 0) (by omega) ht (by omega) (by constructor; intro e; cases e; intro e; exact absurd e h1)) (by decide) (Nat.le_refl _) (Nat.le_refl _) (Nat.le_of_ble_eq_true rfl) rfl ?_
      refine nn_if_eq 17 dMO_theorem_5 (by decide) (by decide) (fun _ => ?_) (fun c => absurd c (by decide))
      refine sd_iconst (v := (-1)) dMO_theorem_17 (by decide) ?_
      exact sd_iret dMO_theorem_18 rfl (Nat.le_refl _) (Nat.le_refl _) ⟨rfl, rfl, rfl⟩
  · have hpl := getE_lt hp
    obtain ⟨q1, q2, q3, q4, q5, q6, q7⟩ := hR.2.2.2.2.1.2.2 p h hp
    match w, hw with
    | 0, _ =>
      refine sd_aload_n dMO_theorem_0 rfl rfl ?_
      refine sd_iload_n dMO_theorem_1 rfl rfl ?_
      refine fx_cV 10 sR_MO [.int (nI (p))] [] dMO_theorem_2 kMO_219 rfl rfl mMO_isTheorem_v (c_MO_isTheorem (b := 1) (by omega) ht (by omega) (by simp only [true_iff]; exact ⟨p, hpl, rfl⟩)) (by decide) (Nat.le_refl _) (Nat.le_refl _) (Nat.le_of_ble_eq_true rfl) rfl ?_
      refine nn_if_eq 17 dMO_theorem_5 (by decide) (by decide) (fun c => absurd c (by decide)) (fun _ => ?_)
      refine sd_iload_n dMO_theorem_8 rfl rfl ?_
      refine sd_iconst (v := nI 0) dMO_theorem_9 (by decide) ?_
      refine sd_iconst (v := nI 5) dMO_theorem_10 (by decide) ?_
      refine sd_cS [.int (nI (0)), .int (nI (0)), .int (nI (5))] [] dMO_theorem_11 kMO_102 mMO_in_s (c_MO_in (b := 1) (by omega) (by simp only [true_iff]; exact (mo_in_of (by omega)).mpr ⟨0, by omega, rfl⟩)) (by decide) (Nat.le_refl _) (Nat.le_refl _) (Nat.le_of_ble_eq_true rfl) rfl ?_
      refine nn_if_ne 19 dMO_theorem_14 (by decide) (by decide) (fun _ => ?_) (fun c => absurd c (by decide))
      refine sd_iload_n dMO_theorem_19 rfl rfl ?_
      refine sd_tableIn (off := 36) 56 dMO_theorem_20 (by decide) (by decide) (by decide) (by decide) ?_
      refine sd_aload_n dMO_theorem_56 rfl rfl ?_
      refine fx_getr 10 8 (6) dMO_theorem_57 fMO_25 rfl rfl ?_
      refine sd_iload_n dMO_theorem_60 rfl rfl ?_
      refine fx_ialdv (v := (nI (h.1))) (p) dMO_theorem_61 rfl rfl (by omega) (by decide) (q1) ?_
      exact sd_iret dMO_theorem_62 rfl (Nat.le_refl _) (Nat.le_refl _) ⟨rfl, rfl, rfl⟩
    | 1, _ =>
      refine sd_aload_n dMO_theorem_0 rfl rfl ?_
      refine sd_iload_n dMO_theorem_1 rfl rfl ?_
      refine fx_cV 10 sR_MO [.int (nI (p))] [] dMO_theorem_2 kMO_219 rfl rfl mMO_isTheorem_v (c_MO_isTheorem (b := 1) (by omega) ht (by omega) (by simp only [true_iff]; exact ⟨p, hpl, rfl⟩)) (by decide) (Nat.le_refl _) (Nat.le_refl _) (Nat.le_of_ble_eq_true rfl) rfl ?_
      refine nn_if_eq 17 dMO_theorem_5 (by decide) (by decide) (fun c => absurd c (by decide)) (fun _ => ?_)
      refine sd_iload_n dMO_theorem_8 rfl rfl ?_
      refine sd_iconst (v := nI 0) dMO_theorem_9 (by decide) ?_
      refine sd_iconst (v := nI 5) dMO_theorem_10 (by decide) ?_
      refine sd_cS [.int (nI (1)), .int (nI (0)), .int (nI (5))] [] dMO_theorem_11 kMO_102 mMO_in_s (c_MO_in (b := 1) (by omega) (by simp only [true_iff]; exact (mo_in_of (by omega)).mpr ⟨1, by omega, rfl⟩)) (by decide) (Nat.le_refl _) (Nat.le_refl _) (Nat.le_of_ble_eq_true rfl) rfl ?_
      refine nn_if_ne 19 dMO_theorem_14 (by decide) (by decide) (fun _ => ?_) (fun c => absurd c (by decide))
      refine sd_iload_n dMO_theorem_19 rfl rfl ?_
      refine sd_tableIn (off := 43) 63 dMO_theorem_20 (by decide) (by decide) (by decide) (by decide) ?_
      refine sd_aload_n dMO_theorem_63 rfl rfl ?_
      refine fx_getr 10 9 (7) dMO_theorem_64 fMO_28 rfl rfl ?_
      refine sd_iload_n dMO_theorem_67 rfl rfl ?_
      refine fx_ialdv (v := (nI (h.2.1.length))) (p) dMO_theorem_68 rfl rfl (by omega) (by decide) (q2) ?_
      exact sd_iret dMO_theorem_69 rfl (Nat.le_refl _) (Nat.le_refl _) ⟨rfl, rfl, rfl⟩
    | 2, _ =>
      refine sd_aload_n dMO_theorem_0 rfl rfl ?_
      refine sd_iload_n dMO_theorem_1 rfl rfl ?_
      refine fx_cV 10 sR_MO [.int (nI (p))] [] dMO_theorem_2 kMO_219 rfl rfl mMO_isTheorem_v (c_MO_isTheorem (b := 1) (by omega) ht (by omega) (by simp only [true_iff]; exact ⟨p, hpl, rfl⟩)) (by decide) (Nat.le_refl _) (Nat.le_refl _) (Nat.le_of_ble_eq_true rfl) rfl ?_
      refine nn_if_eq 17 dMO_theorem_5 (by decide) (by decide) (fun c => absurd c (by decide)) (fun _ => ?_)
      refine sd_iload_n dMO_theorem_8 rfl rfl ?_
      refine sd_iconst (v := nI 0) dMO_theorem_9 (by decide) ?_
      refine sd_iconst (v := nI 5) dMO_theorem_10 (by decide) ?_
      refine sd_cS [.int (nI (2)), .int (nI (0)), .int (nI (5))] [] dMO_theorem_11 kMO_102 mMO_in_s (c_MO_in (b := 1) (by omega) (by simp only [true_iff]; exact (mo_in_of (by omega)).mpr ⟨2, by omega, rfl⟩)) (by decide) (Nat.le_refl _) (Nat.le_refl _) (Nat.le_of_ble_eq_true rfl) rfl ?_
      refine nn_if_ne 19 dMO_theorem_14 (by decide) (by decide) (fun _ => ?_) (fun c => absurd c (by decide))
      refine sd_iload_n dMO_theorem_19 rfl rfl ?_
      refine sd_tableIn (off := 50) 70 dMO_theorem_20 (by decide) (by decide) (by decide) (by decide) ?_
      refine sd_aload_n dMO_theorem_70 rfl rfl ?_
      refine fx_getr 10 11 (9) dMO_theorem_71 fMO_34 rfl rfl ?_
      refine sd_iload_n dMO_theorem_74 rfl rfl ?_
      refine fx_ialdv (v := (nI (h.2.2.1))) (p) dMO_theorem_75 rfl rfl (by omega) (by decide) (q5) ?_
      exact sd_iret dMO_theorem_76 rfl (Nat.le_refl _) (Nat.le_refl _) ⟨rfl, rfl, rfl⟩
    | 3, _ =>
      refine sd_aload_n dMO_theorem_0 rfl rfl ?_
      refine sd_iload_n dMO_theorem_1 rfl rfl ?_
      refine fx_cV 10 sR_MO [.int (nI (p))] [] dMO_theorem_2 kMO_219 rfl rfl mMO_isTheorem_v (c_MO_isTheorem (b := 1) (by omega) ht (by omega) (by simp only [true_iff]; exact ⟨p, hpl, rfl⟩)) (by decide) (Nat.le_refl _) (Nat.le_refl _) (Nat.le_of_ble_eq_true rfl) rfl ?_
      refine nn_if_eq 17 dMO_theorem_5 (by decide) (by decide) (fun c => absurd c (by decide)) (fun _ => ?_)
      refine sd_iload_n dMO_theorem_8 rfl rfl ?_
      refine sd_iconst (v := nI 0) dMO_theorem_9 (by decide) ?_
      refine sd_iconst (v := nI 5) dMO_theorem_10 (by decide) ?_
      refine sd_cS [.int (nI (3)), .int (nI (0)), .int (nI (5))] [] dMO_theorem_11 kMO_102 mMO_in_s (c_MO_in (b := 1) (by omega) (by simp only [true_iff]; exact (mo_in_of (by omega)).mpr ⟨3, by omega, rfl⟩)) (by decide) (Nat.le_refl _) (Nat.le_refl _) (Nat.le_of_ble_eq_true rfl) rfl ?_
      refine nn_if_ne 19 dMO_theorem_14 (by decide) (by decide) (fun _ => ?_) (fun c => absurd c (by decide))
      refine sd_iload_n dMO_theorem_19 rfl rfl ?_
      refine sd_tableIn (off := 57) 77 dMO_theorem_20 (by decide) (by decide) (by decide) (by decide) ?_
      refine sd_aload_n dMO_theorem_77 rfl rfl ?_
      refine fx_getr 10 12 (10) dMO_theorem_78 fMO_37 rfl rfl ?_
      refine sd_iload_n dMO_theorem_81 rfl rfl ?_
      refine fx_ialdv (v := (oi_I h.2.2.2.1)) (p) dMO_theorem_82 rfl rfl (by omega) (by decide) (q6) ?_
      exact sd_iret dMO_theorem_83 rfl (Nat.le_refl _) (Nat.le_refl _) ⟨rfl, rfl, rfl⟩
    | 4, _ =>
      refine sd_aload_n dMO_theorem_0 rfl rfl ?_
      refine sd_iload_n dMO_theorem_1 rfl rfl ?_
      refine fx_cV 10 sR_MO [.int (nI (p))] [] dMO_theorem_2 kMO_219 rfl rfl mMO_isTheorem_v (c_MO_isTheorem (b := 1) (by omega) ht (by omega) (by simp only [true_iff]; exact ⟨p, hpl, rfl⟩)) (by decide) (Nat.le_refl _) (Nat.le_refl _) (Nat.le_of_ble_eq_true rfl) rfl ?_
      refine nn_if_eq 17 dMO_theorem_5 (by decide) (by decide) (fun c => absurd c (by decide)) (fun _ => ?_)
      refine sd_iload_n dMO_theorem_8 rfl rfl ?_
      refine sd_iconst (v := nI 0) dMO_theorem_9 (by decide) ?_
      refine sd_iconst (v := nI 5) dMO_theorem_10 (by decide) ?_
      refine sd_cS [.int (nI (4)), .int (nI (0)), .int (nI (5))] [] dMO_theorem_11 kMO_102 mMO_in_s (c_MO_in (b := 1) (by omega) (by simp only [true_iff]; exact (mo_in_of (by omega)).mpr ⟨4, by omega, rfl⟩)) (by decide) (Nat.le_refl _) (Nat.le_refl _) (Nat.le_of_ble_eq_true rfl) rfl ?_
      refine nn_if_ne 19 dMO_theorem_14 (by decide) (by decide) (fun _ => ?_) (fun c => absurd c (by decide))
      refine sd_iload_n dMO_theorem_19 rfl rfl ?_
      refine sd_tableIn (off := 64) 84 dMO_theorem_20 (by decide) (by decide) (by decide) (by decide) ?_
      refine sd_aload_n dMO_theorem_84 rfl rfl ?_
      refine fx_getr 10 13 (11) dMO_theorem_85 fMO_40 rfl rfl ?_
      refine sd_iload_n dMO_theorem_88 rfl rfl ?_
      refine fx_ialdv (v := (oi_I h.2.2.2.2)) (p) dMO_theorem_89 rfl rfl (by omega) (by decide) (q7) ?_
      exact sd_iret dMO_theorem_90 rfl (Nat.le_refl _) (Nat.le_refl _) ⟨rfl, rfl, rfl⟩
    | 5, _ =>
      refine sd_aload_n dMO_theorem_0 rfl rfl ?_
      refine sd_iload_n dMO_theorem_1 rfl rfl ?_
      refine fx_cV 10 sR_MO [.int (nI (p))] [] dMO_theorem_2 kMO_219 rfl rfl mMO_isTheorem_v (c_MO_isTheorem (b := 1) (by omega) ht (by omega) (by simp only [true_iff]; exact ⟨p, hpl, rfl⟩)) (by decide) (Nat.le_refl _) (Nat.le_refl _) (Nat.le_of_ble_eq_true rfl) rfl ?_
      refine nn_if_eq 17 dMO_theorem_5 (by decide) (by decide) (fun c => absurd c (by decide)) (fun _ => ?_)
      refine sd_iload_n dMO_theorem_8 rfl rfl ?_
      refine sd_iconst (v := nI 0) dMO_theorem_9 (by decide) ?_
      refine sd_iconst (v := nI 5) dMO_theorem_10 (by decide) ?_
      refine sd_cS [.int (nI (5)), .int (nI (0)), .int (nI (5))] [] dMO_theorem_11 kMO_102 mMO_in_s (c_MO_in (b := 1) (by omega) (by simp only [true_iff]; exact (mo_in_of (by omega)).mpr ⟨5, by omega, rfl⟩)) (by decide) (Nat.le_refl _) (Nat.le_refl _) (Nat.le_of_ble_eq_true rfl) rfl ?_
      refine nn_if_ne 19 dMO_theorem_14 (by decide) (by decide) (fun _ => ?_) (fun c => absurd c (by decide))
      refine sd_iload_n dMO_theorem_19 rfl rfl ?_
      refine sd_tableOut 91 dMO_theorem_20 (Or.inr (by decide)) (by decide) ?_
      refine sd_aload_n dMO_theorem_91 rfl rfl ?_
      refine sd_iload_n dMO_theorem_92 rfl rfl ?_
      refine fx_cV 10 sR_MO [.int (nI (p))] [] dMO_theorem_93 kMO_267 rfl rfl mMO_rests_v (c_MO_rests hR hF hpl) (by decide) (Nat.le_refl _) (Nat.le_refl _) (Nat.le_of_ble_eq_true rfl) rfl ?_
      exact sd_iret dMO_theorem_96 rfl (Nat.le_refl _) (Nat.le_refl _) ⟨rfl, rfl, rfl⟩
    | w + 6, hw => exact absurd hw (by omega)
