/-! ===== the model: root, unify ===== -/
def upN {α : Type} (f : Nat → α) (i : Nat) (v : α) : Nat → α := fun j => if j = i then v else f j
def it (f : Nat → Nat) : Nat → Nat → Nat
  | 0, n => n
  | d + 1, n => it f d (f n)
/-- ρ is where links lead to -/
def lkr (lk ρ : Nat → Nat) : Prop := (∀ n, lk (ρ n) = ρ n) ∧ ∀ n, ∃ d, it lk d n = ρ n
theorem it_fix {f : Nat → Nat} {n : Nat} (h : f n = n) : ∀ d, it f d n = n
  | 0 => rfl
  | d + 1 => by rw [it, h]; exact it_fix h d
theorem lkr.fix {lk ρ : Nat → Nat} (h : lkr lk ρ) {n : Nat} : ρ n = n ↔ lk n = n := by
  constructor
  · intro e
    have := h.1 n
    rw [e] at this
    exact this
  · intro e
    obtain ⟨d, hd⟩ := h.2 n
    rw [it_fix e] at hd
    exact hd.symm
theorem lkr.idem {lk ρ : Nat → Nat} (h : lkr lk ρ) (n : Nat) : ρ (ρ n) = ρ n := h.fix.mpr (h.1 n)
theorem lkr.next {lk ρ : Nat → Nat} (h : lkr lk ρ) (n : Nat) : ρ (lk n) = ρ n := by
  obtain ⟨d, hd⟩ := h.2 n
  cases d with
  | zero =>
    have e : n = ρ n := hd
    have : lk n = n := h.fix.mp e.symm
    rw [this]
  | succ d =>
    rw [it] at hd
    obtain ⟨d', hd'⟩ := h.2 (lk n)
    -- both are reached from lk n, and both are fixed
    have key : ∀ (a b m : Nat), lk (it lk a m) = it lk a m → lk (it lk b m) = it lk b m → it lk a m = it lk b m := by
      intro a
      induction a with
      | zero => intro b m h1 _; exact (it_fix h1 b).symm
      | succ a ih =>
        intro b m h1 h2
        cases b with
        | zero => exact it_fix h2 (a + 1)
        | succ b => exact ih b (lk m) h1 h2
    rw [← hd, ← hd']
    exact key d' d (lk n) (by rw [hd']; exact h.1 _) (by rw [hd]; exact h.1 _)
theorem lkr_up {lk ρ : Nat → Nat} {x y : Nat} (h : lkr lk ρ) (hx : ρ x = x) (hy : ρ y = y) (hne : x ≠ y) : lkr (upN lk x y) (lkn ρ x y) := by
  have lx := h.fix.mp hx
  have ly := h.fix.mp hy
  refine ⟨fun n => ?_, fun n => ?_⟩
  · unfold lkn upN
    by_cases e : ρ n = x
    · rw [if_pos e, if_neg (fun z => hne z.symm)]
      exact ly
    · rw [if_neg e, if_neg e]
      exact h.1 n
  · obtain ⟨d, hd⟩ := h.2 n
    unfold lkn
    by_cases e : ρ n = x
    · rw [if_pos e]
      rw [e] at hd
      have key : ∀ (d m : Nat), it lk d m = x → ∃ d', it (upN lk x y) d' m = y := by
        intro d
        induction d with
        | zero =>
          intro m hm
          have hm' : m = x := hm
          exact ⟨1, by rw [hm']; simp [it, upN]⟩
        | succ d ih =>
          intro m hm
          by_cases em : m = x
          · exact ⟨1, by rw [em]; simp [it, upN]⟩
          · obtain ⟨d', hd'⟩ := ih (lk m) hm
            exact ⟨d' + 1, by rw [it, show upN lk x y m = lk m by simp [upN, em]]; exact hd'⟩
      exact key d n hd
    · rw [if_neg e]
      have key : ∀ (d m r : Nat), it lk d m = r → r ≠ x → it (upN lk x y) d m = r := by
        intro d
        induction d with
        | zero => intro m r hm _; exact hm
        | succ d ih =>
          intro m r hm hr
          have em : m ≠ x := fun z => by
            rw [z, it_fix lx] at hm
            exact hr hm.symm
          rw [it, show upN lk x y m = lk m by simp [upN, em]]
          exact ih (lk m) r hm hr
      exact ⟨d, key d n (ρ n) hd e⟩
/-- the nodes in use: those below N, and the two for TRUTHS and THINGS -/
def ac (N n : Nat) : Prop := n < N ∨ n = 192 ∨ n = 193
/-- the model's nodes -/
def ug (D : fx_D) (N : Nat) (K L R lk : Nat → Nat) : Prop := ∀ n, ac N n → D.1 23 n = nI (K n) ∧ D.1 24 n = nI (L n) ∧ D.1 25 n = nI (R n) ∧ D.1 26 n = nI (lk n)
def ug_b (N : Nat) (K L R lk : Nat → Nat) : Prop := N ≤ 192 ∧ (∀ n, K n < 4) ∧ (∀ n, ac N n → ac N (L n) ∧ ac N (R n) ∧ ac N (lk n)) ∧ ∀ n, ¬ ac N n → K n = 0 ∧ lk n = n
theorem ug_b.lt {N : Nat} {K L R lk : Nat → Nat} (h : ug_b N K L R lk) {n : Nat} (hn : ac N n) : n < 194 := by
  have := h.1
  unfold ac at hn
  omega
theorem it_ac {N : Nat} {lk : Nat → Nat} (h : ∀ n, ac N n → ac N (lk n)) : ∀ (d n : Nat), ac N n → ac N (it lk d n)
  | 0, n, hn => hn
  | d + 1, n, hn => it_ac h d (lk n) (h n hn)
theorem lkr.ac {N : Nat} {K L R lk ρ : Nat → Nat} (h : lkr lk ρ) (hb : ug_b N K L R lk) {n : Nat} (hn : ac N n) : ac N (ρ n) := by
  obtain ⟨d, hd⟩ := h.2 n
  rw [← hd]
  exact it_ac (fun m hm => (hb.2.2.1 m hm).2.2) d n hn
theorem dMO_root_0 : decode prog_13_method_32_code 0 = .ok (.iload_n 1, 1) := by decide +kernel
theorem dMO_root_1 : decode prog_13_method_32_code 1 = .ok (.istore_n 2, 1) := by decide +kernel
theorem dMO_root_2 : decode prog_13_method_32_code 2 = .ok (.aload_n 0, 1) := by decide +kernel
theorem dMO_root_3 : decode prog_13_method_32_code 3 = .ok (.getfield 85, 3) := by decide +kernel
theorem dMO_root_6 : decode prog_13_method_32_code 6 = .ok (.iload_n 2, 1) := by decide +kernel
theorem dMO_root_7 : decode prog_13_method_32_code 7 = .ok (.iaload, 1) := by decide +kernel
theorem dMO_root_8 : decode prog_13_method_32_code 8 = .ok (.iload_n 2, 1) := by decide +kernel
theorem dMO_root_9 : decode prog_13_method_32_code 9 = .ok (.if_icmp .eq (13), 3) := by decide +kernel
theorem dMO_root_12 : decode prog_13_method_32_code 12 = .ok (.aload_n 0, 1) := by decide +kernel
theorem dMO_root_13 : decode prog_13_method_32_code 13 = .ok (.getfield 85, 3) := by decide +kernel
theorem dMO_root_16 : decode prog_13_method_32_code 16 = .ok (.iload_n 2, 1) := by decide +kernel
theorem dMO_root_17 : decode prog_13_method_32_code 17 = .ok (.iaload, 1) := by decide +kernel
theorem dMO_root_18 : decode prog_13_method_32_code 18 = .ok (.istore_n 2, 1) := by decide +kernel
theorem dMO_root_19 : decode prog_13_method_32_code 19 = .ok (.goto (-17), 3) := by decide +kernel
theorem dMO_root_22 : decode prog_13_method_32_code 22 = .ok (.iload_n 2, 1) := by decide +kernel
theorem dMO_root_23 : decode prog_13_method_32_code 23 = .ok (.ireturn, 1) := by decide +kernel
theorem l_MO_root {G : sd_G} {o : Nat} {D : fx_D} {h0 : sd_H} {nx v N : Nat} {K L R lk : Nat → Nat} (hu : ug D N K L R lk) (hb : ug_b N K L R lk) : ∀ (d n : Nat), ac N n → it lk d n = v → lk v = v → sd_W G mMO_root 0 0 0 (sd_is (some (.int (nI v))) (fx_h G.1.2 mo_S o D h0) nx) 2 [(0, .ref (o + 0)), (2, .int (nI n))] [] (fx_h G.1.2 mo_S o D h0) nx 0 0 := by
  intro d
  induction d with
  | zero =>
    intro n hn hd hv
    have e : n = v := hd
    subst e
    have hlt := hb.lt hn
    have hll := hb.lt (hb.2.2.1 n hn).2.2
    refine sd_aload_n dMO_root_2 rfl rfl ?_
    refine fx_getr 10 33 (26) dMO_root_3 fMO_85 rfl rfl ?_
    refine sd_iload_n dMO_root_6 rfl rfl ?_
    refine fx_ialdv (v := (nI (lk n))) (n) dMO_root_7 rfl rfl (by omega) (by decide) ((hu n hn).2.2.2) ?_
    refine sd_iload_n dMO_root_8 rfl rfl ?_
    refine nn_icmp_eq 22 dMO_root_9 (by decide) (by omega) (by omega) (fun c9 => ?_) (fun c9 => ?_)
    ·
      refine sd_iload_n dMO_root_22 rfl rfl ?_
      exact sd_iret dMO_root_23 rfl (Nat.le_refl _) (Nat.le_refl _) ⟨rfl, rfl, rfl⟩
    ·
      exact absurd hv c9
  | succ d ih =>
    intro n hn hd hv
    have hl := (hb.2.2.1 n hn).2.2
    have hlt := hb.lt hn
    have hll := hb.lt hl
    refine sd_aload_n dMO_root_2 rfl rfl ?_
    refine fx_getr 10 33 (26) dMO_root_3 fMO_85 rfl rfl ?_
    refine sd_iload_n dMO_root_6 rfl rfl ?_
    refine fx_ialdv (v := (nI (lk n))) (n) dMO_root_7 rfl rfl (by omega) (by decide) ((hu n hn).2.2.2) ?_
    refine sd_iload_n dMO_root_8 rfl rfl ?_
    refine nn_icmp_eq 22 dMO_root_9 (by decide) (by omega) (by omega) (fun c9 => ?_) (fun c9 => ?_)
    ·
      refine sd_iload_n dMO_root_22 rfl rfl ?_
      obtain rfl : n = v := by rw [← hd]; exact (it_fix c9 (d + 1)).symm
      exact sd_iret dMO_root_23 rfl (Nat.le_refl _) (Nat.le_refl _) ⟨rfl, rfl, rfl⟩
    ·
      refine sd_aload_n dMO_root_12 rfl rfl ?_
      refine fx_getr 10 33 (26) dMO_root_13 fMO_85 rfl rfl ?_
      refine sd_iload_n dMO_root_16 rfl rfl ?_
      refine fx_ialdv (v := (nI (lk n))) (n) dMO_root_17 rfl rfl (by omega) (by decide) ((hu n hn).2.2.2) ?_
      refine sd_istore_n dMO_root_18 rfl (by decide) ?_
      refine sd_goto 2 dMO_root_19 (by decide) ?_
      refine sd_locp (al' := [(0, .ref (o + (0))), (2, .int (nI (lk n)))]) [1, 0] rfl ?_
      exact ih (lk n) hl hd hv
theorem c_MO_root {G : sd_G} {o : Nat} {D : fx_D} {h0 : sd_H} {nx n N : Nat} {K L R lk ρ : Nat → Nat} (hu : ug D N K L R lk) (hb : ug_b N K L R lk) (hr : lkr lk ρ) (hn : ac N n) : sd_Ct G mMO_root 0 0 0 [.ref (o + 0), .int (nI n)] (fx_h G.1.2 mo_S o D h0) nx (sd_is (some (.int (nI (ρ n)))) (fx_h G.1.2 mo_S o D h0) nx) := by
  refine sd_Ct_of (by decide) (Nat.le_of_ble_eq_true rfl) ?_
  obtain ⟨d, hd⟩ := hr.2 n
  refine sd_iload_n dMO_root_0 rfl rfl ?_
  refine sd_istore_n dMO_root_1 rfl (by decide) ?_
  refine sd_locp (al' := [(0, .ref (o + (0))), (2, .int (nI (n)))]) [1, 0] rfl ?_
  exact l_MO_root hu hb d n hn hd (hr.1 n)
