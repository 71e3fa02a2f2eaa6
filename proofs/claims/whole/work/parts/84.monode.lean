/-! ===== the model: fresh, nodeOf ===== -/
/-- where the parts of a type begin, from digit h on -/
def ty_ps (t : Nat) : Nat → List Nat
  | 0 => []
  | 1 => []
  | h + 2 => (h + 2) :: (if t / 2 ^ (h + 1) % 2 = 1 then ty_ps t (h + 1) else ty_ps t h)
def fo_fun : List ft → List ft
  | l :: r :: rest => .append l r :: rest
  | x => x
/-- the trees from digit h on -/
def ty_fo (t : Nat) : Nat → List ft
  | 0 => []
  | 1 => []
  | h + 2 => if t / 2 ^ (h + 1) % 2 = 1 then fo_fun (ty_fo t (h + 1)) else (if t / 2 ^ h % 2 = 0 then .nil else .line) :: ty_fo t h
/-- how many functions are in them -/
def ty_nf (t : Nat) : Nat → Nat
  | 0 => 0
  | 1 => 0
  | h + 2 => if t / 2 ^ (h + 1) % 2 = 1 then 1 + ty_nf t (h + 1) else ty_nf t h
def ty_tree (t : Nat) : ft := (ty_fo t (Nat.log2 t)).headD .line
theorem ty_fo_len {t : Nat} : ∀ (n h e : Nat), h ≤ n → ty_ex t h e = some 0 → (ty_fo t h).length = e ∧ 3 * ty_nf t h + 2 * e = h := by
  intro n
  induction n with
  | zero =>
    intro h e hh he
    obtain rfl : h = 0 := by omega
    cases e with
    | zero => exact ⟨rfl, rfl⟩
    | succ e => simp [ty_ex] at he
  | succ n ih =>
    intro h e hh he
    match h, e, he with
    | 0, 0, he => exact ⟨rfl, rfl⟩
    | h + 1, 0, he => simp [ty_ex] at he
    | 0, e + 1, he => simp [ty_ex] at he
    | 1, e + 1, he => simp [ty_ex] at he
    | h + 2, e + 1, he =>
      rw [ty_ex] at he
      rw [ty_fo, ty_nf]
      by_cases hb : t / 2 ^ (h + 1) % 2 = 1
      · rw [if_pos hb] at he ⊢
        rw [if_pos hb]
        obtain ⟨h1, h2⟩ := ih _ _ (by omega) he
        match hf : ty_fo t (h + 1) with
        | [] => rw [hf] at h1; simp at h1
        | [x] => rw [hf] at h1; simp at h1
        | l :: r :: rest =>
          rw [hf] at h1
          simp [fo_fun] at h1 ⊢
          omega
      · rw [if_neg hb] at he ⊢
        rw [if_neg hb]
        obtain ⟨h1, h2⟩ := ih _ _ (by omega) he
        simp
        omega
theorem ty_tree_one {t : Nat} (h : ty_ok t) : ty_fo t (Nat.log2 t) = [ty_tree t] := by
  have hl := (ty_fo_len _ _ _ (Nat.le_refl _) h.2.2).1
  unfold ty_tree
  match hf : ty_fo t (Nat.log2 t) with
  | [] => rw [hf] at hl; simp at hl
  | [x] => rfl
  | a :: b :: r => rw [hf] at hl; simp at hl
/-- in every choice of trees for the nodes, node m has this one -/
def rep (K L R : Nat → Nat) (m : Nat) (t : ft) : Prop := ∀ τ, gsol K L R τ → τ m = t
/-- the graph is made larger -/
def gx (ρ : Nat → Nat) (N : Nat) (K L R : Nat → Nat) (N' : Nat) (K' L' R' : Nat → Nat) : Prop := N ≤ N' ∧ (∀ τ, gsol K' L' R' τ → gsol K L R τ) ∧ (∀ τ, gsol K L R τ → rsp τ ρ → ∃ τ', gsol K' L' R' τ' ∧ rsp τ' ρ ∧ ∀ n, n < N → τ' n = τ n)
theorem gx.rf {ρ : Nat → Nat} {N : Nat} {K L R : Nat → Nat} : gx ρ N K L R N K L R := ⟨Nat.le_refl _, fun _ h => h, fun τ h h' => ⟨τ, h, h', fun _ _ => rfl⟩⟩
theorem gx.tr {ρ : Nat → Nat} {N N' N2 : Nat} {K L R K' L' R' K2 L2 R2 : Nat → Nat} (h : gx ρ N K L R N' K' L' R') (h2 : gx ρ N' K' L' R' N2 K2 L2 R2) : gx ρ N K L R N2 K2 L2 R2 := by
  refine ⟨Nat.le_trans h.1 h2.1, fun τ a => h.2.1 τ (h2.2.1 τ a), fun τ a b => ?_⟩
  obtain ⟨τ1, a1, b1, c1⟩ := h.2.2 τ a b
  obtain ⟨τ2, a2, b2, c2⟩ := h2.2.2 τ1 a1 b1
  exact ⟨τ2, a2, b2, fun n hn => (c2 n (Nat.lt_of_lt_of_le hn h.1)).trans (c1 n hn)⟩
theorem rep.gx {ρ : Nat → Nat} {N N' : Nat} {K L R K' L' R' : Nat → Nat} {m : Nat} {t : ft} (h : rep K L R m t) (hg : gx ρ N K L R N' K' L' R') : rep K' L' R' m t := fun τ a => h τ (hg.2.1 τ a)
/-- node z, of which nothing spoke, becomes a function -/
theorem uf_new {K L R ρ : Nat → Nat} {z l r : Nat} (h : uf_inv K L R ρ []) (hz : ∀ n, ρ n = z → n = z) (hz2 : ρ z = z) : uf_inv (upN K z 3) (upN L z l) (upN R z r) ρ [] := by
  obtain ⟨h1, h2, h3⟩ := h
  refine ⟨h1, fun n hn => ?_, fun n hn => ?_⟩
  · by_cases e : n = z
    · rw [e, hz2]
    · have e2 : ρ n ≠ z := fun e2 => e (hz n e2)
      simp only [upN, e, e2, if_false] at hn ⊢
      exact h2 n hn
  · by_cases e : n = z
    · rw [e, hz2]
      exact ⟨eqv_of rfl, eqv_of rfl⟩
    · have e2 : ρ n ≠ z := fun e2 => e (hz n e2)
      simp only [upN, e, e2, if_false] at hn ⊢
      exact h3 n hn
theorem gs_new {K L R ρ : Nat → Nat} {z l r : Nat} (k0 : K z = 0) (hz : ∀ n, ρ n = z → n = z) (hz2 : ρ z = z) (hc : ∀ n, K n = 3 → L n ≠ z ∧ R n ≠ z) (hl : l ≠ z) (hr : r ≠ z) : (∀ τ, gsol (upN K z 3) (upN L z l) (upN R z r) τ → gsol K L R τ) ∧ ∀ τ, gsol K L R τ → rsp τ ρ → gsol (upN K z 3) (upN L z l) (upN R z r) (upN τ z (.append (τ l) (τ r))) ∧ rsp (upN τ z (.append (τ l) (τ r))) ρ := by
  refine ⟨fun τ h n => ?_, fun τ h h' => ⟨fun n => ?_, fun n => ?_⟩⟩
  · by_cases e : n = z
    · subst e
      exact ⟨fun z => by omega, fun z => by omega, fun z => by omega⟩
    · have := h n
      simp only [upN, e, if_false] at this
      exact this
  · by_cases e : n = z
    · subst e
      simp only [upN, if_true, hl, hr, if_false]
      exact ⟨fun z => by omega, fun z => by omega, fun _ => trivial⟩
    · simp only [upN, e, if_false]
      obtain ⟨a1, a2, a3⟩ := h n
      refine ⟨a1, a2, fun k => ?_⟩
      obtain ⟨c1, c2⟩ := hc n k
      simp only [c1, c2, if_false]
      exact a3 k
  · by_cases e : n = z
    · rw [e, hz2]
    · have e2 : ρ n ≠ z := fun e2 => e (hz n e2)
      simp only [upN, e, e2, if_false]
      exact h' n
/-- nothing speaks of node z -/
def iso (K L R ρ : Nat → Nat) (z : Nat) : Prop := K z = 0 ∧ (∀ n, ρ n = z → n = z) ∧ ρ z = z ∧ (∀ n, K n = 3 → L n ≠ z ∧ R n ≠ z)
theorem iso_set {K L R ρ : Nat → Nat} {z z' l r : Nat} (h : iso K L R ρ z') (hne : z' ≠ z) (hl : l ≠ z') (hr : r ≠ z') : iso (upN K z 3) (upN L z l) (upN R z r) ρ z' := by
  obtain ⟨z1, z2, z3, z4⟩ := h
  refine ⟨by simp only [upN, hne, if_false]; exact z1, z2, z3, fun n hn => ?_⟩
  by_cases e : n = z
  · subst e
    simp only [upN, if_true]
    exact ⟨hl, hr⟩
  · simp only [upN, e, if_false] at hn ⊢
    exact z4 n hn
theorem ac_mono {N n : Nat} (h : ac N n) : ac (N + 1) n := by unfold ac at *; omega
theorem ug_b_new {N : Nat} {K L R lk : Nat → Nat} {l r : Nat} (h : ug_b N K L R lk) (hN : N < 192) (hl : ac N l) (hr : ac N r) : ug_b (N + 1) (upN K N 3) (upN L N l) (upN R N r) lk := by
  obtain ⟨h1, h2, h3, h4⟩ := h
  refine ⟨by omega, fun n => ?_, fun n hn => ?_, fun n hn => ?_⟩
  · unfold upN
    split
    · omega
    · exact h2 n
  · by_cases e : n = N
    · subst e
      have hna : ¬ ac n n := by unfold ac; omega
      simp only [upN, if_true]
      refine ⟨ac_mono hl, ac_mono hr, ?_⟩
      rw [(h4 n hna).2]
      exact hn
    · have hna : ac N n := by unfold ac at *; omega
      simp only [upN, e, if_false]
      obtain ⟨a, b, c⟩ := h3 n hna
      exact ⟨ac_mono a, ac_mono b, ac_mono c⟩
  · have e : n ≠ N := by unfold ac at hn; omega
    have hna : ¬ ac N n := fun z => hn (ac_mono z)
    simp only [upN, e, if_false]
    exact h4 n hna
/-- a node that isn't in use stands for itself alone -/
theorem lkr_out {N : Nat} {K L R lk ρ : Nat → Nat} (hr : lkr lk ρ) (hb : ug_b N K L R lk) {z : Nat} (hz : ¬ ac N z) : ρ z = z ∧ ∀ n, ρ n = z → n = z := by
  have hz2 : ρ z = z := hr.fix.mpr (hb.2.2.2 z hz).2
  refine ⟨hz2, fun n hn => ?_⟩
  by_cases e : ac N n
  · exact absurd (by rw [← hn]; exact hr.ac hb e) hz
  · have := hr.fix.mpr (hb.2.2.2 n e).2
    rw [← this]
    exact hn
theorem gx_new {N : Nat} {K L R lk ρ : Nat → Nat} {l r : Nat} (hr : lkr lk ρ) (hb : ug_b N K L R lk) (hN : N < 192) (hl : ac N l) (hr' : ac N r) : gx ρ N K L R (N + 1) (upN K N 3) (upN L N l) (upN R N r) := by
  have hna : ¬ ac N N := by unfold ac; omega
  obtain ⟨z1, z2⟩ := lkr_out hr hb hna
  have nz : ∀ {n}, ac N n → n ≠ N := fun {n} h e => hna (by have h2 := h; rw [e] at h2; exact h2)
  obtain ⟨g1, g2⟩ := gs_new (L := L) (R := R) (l := l) (r := r) (hb.2.2.2 N hna).1 z2 z1 (fun n k => by
    have ha : ac N n := Classical.byContradiction (fun z => by have := (hb.2.2.2 n z).1; omega)
    exact ⟨nz (hb.2.2.1 n ha).1, nz (hb.2.2.1 n ha).2.1⟩) (nz hl) (nz hr')
  refine ⟨by omega, g1, fun τ a b => ⟨_, (g2 τ a b).1, (g2 τ a b).2, fun n hn => ?_⟩⟩
  simp only [upN, show ¬ n = N by omega, if_false]
/-- the model's nodes with one more -/
def fr_D (D : fx_D) (n : Nat) (k l r : Int32) : fx_D := fx_ua (fx_ua (fx_ua (fx_ua (fx_uf D 0 37 (nI (n + 1))) 23 n k) 24 n l) 25 n r) 26 n (nI n)
theorem ug_new {D : fx_D} {N : Nat} {K L R lk : Nat → Nat} {l r : Nat} (h : ug D N K L R lk) (hb : ug_b N K L R lk) (hN : N < 192) : ug (fr_D D N (nI 3) (nI l) (nI r)) (N + 1) (upN K N 3) (upN L N l) (upN R N r) lk := by
  intro n hn
  by_cases e : n = N
  · subst e
    have hna : ¬ ac n n := by unfold ac; omega
    have := (hb.2.2.2 n hna).2
    rw [this]
    refine ⟨by simp [fr_D, fx_ua, fx_uf, upd, upN], by simp [fr_D, fx_ua, fx_uf, upd, upN], by simp [fr_D, fx_ua, fx_uf, upd, upN], by simp [fr_D, fx_ua, fx_uf, upd, upN]⟩
  · have hna : ac N n := by unfold ac at *; omega
    obtain ⟨a, b, c, d⟩ := h n hna
    refine ⟨?_, ?_, ?_, ?_⟩
    · simpa [fr_D, fx_ua, fx_uf, upd, upN, e] using a
    · simpa [fr_D, fx_ua, fx_uf, upd, upN, e] using b
    · simpa [fr_D, fx_ua, fx_uf, upd, upN, e] using c
    · simpa [fr_D, fx_ua, fx_uf, upd, upN, e] using d
theorem dMO_fresh_0 : decode prog_13_method_33_code 0 = .ok (.aload_n 0, 1) := by decide +kernel
theorem dMO_fresh_1 : decode prog_13_method_33_code 1 = .ok (.dup, 1) := by decide +kernel
theorem dMO_fresh_2 : decode prog_13_method_33_code 2 = .ok (.getfield 161, 3) := by decide +kernel
theorem dMO_fresh_5 : decode prog_13_method_33_code 5 = .ok (.dup_x1, 1) := by decide +kernel
theorem dMO_fresh_6 : decode prog_13_method_33_code 6 = .ok (.iconst 1, 1) := by decide +kernel
theorem dMO_fresh_7 : decode prog_13_method_33_code 7 = .ok (.iadd, 1) := by decide +kernel
theorem dMO_fresh_8 : decode prog_13_method_33_code 8 = .ok (.putfield 161, 3) := by decide +kernel
theorem dMO_fresh_11 : decode prog_13_method_33_code 11 = .ok (.istore 4, 2) := by decide +kernel
theorem dMO_fresh_13 : decode prog_13_method_33_code 13 = .ok (.aload_n 0, 1) := by decide +kernel
theorem dMO_fresh_14 : decode prog_13_method_33_code 14 = .ok (.getfield 76, 3) := by decide +kernel
theorem dMO_fresh_17 : decode prog_13_method_33_code 17 = .ok (.iload 4, 2) := by decide +kernel
theorem dMO_fresh_19 : decode prog_13_method_33_code 19 = .ok (.iload_n 1, 1) := by decide +kernel
theorem dMO_fresh_20 : decode prog_13_method_33_code 20 = .ok (.iastore, 1) := by decide +kernel
theorem dMO_fresh_21 : decode prog_13_method_33_code 21 = .ok (.aload_n 0, 1) := by decide +kernel
theorem dMO_fresh_22 : decode prog_13_method_33_code 22 = .ok (.getfield 79, 3) := by decide +kernel
theorem dMO_fresh_25 : decode prog_13_method_33_code 25 = .ok (.iload 4, 2) := by decide +kernel
theorem dMO_fresh_27 : decode prog_13_method_33_code 27 = .ok (.iload_n 2, 1) := by decide +kernel
theorem dMO_fresh_28 : decode prog_13_method_33_code 28 = .ok (.iastore, 1) := by decide +kernel
theorem dMO_fresh_29 : decode prog_13_method_33_code 29 = .ok (.aload_n 0, 1) := by decide +kernel
theorem dMO_fresh_30 : decode prog_13_method_33_code 30 = .ok (.getfield 82, 3) := by decide +kernel
theorem dMO_fresh_33 : decode prog_13_method_33_code 33 = .ok (.iload 4, 2) := by decide +kernel
theorem dMO_fresh_35 : decode prog_13_method_33_code 35 = .ok (.iload_n 3, 1) := by decide +kernel
theorem dMO_fresh_36 : decode prog_13_method_33_code 36 = .ok (.iastore, 1) := by decide +kernel
theorem dMO_fresh_37 : decode prog_13_method_33_code 37 = .ok (.aload_n 0, 1) := by decide +kernel
theorem dMO_fresh_38 : decode prog_13_method_33_code 38 = .ok (.getfield 85, 3) := by decide +kernel
theorem dMO_fresh_41 : decode prog_13_method_33_code 41 = .ok (.iload 4, 2) := by decide +kernel
theorem dMO_fresh_43 : decode prog_13_method_33_code 43 = .ok (.iload 4, 2) := by decide +kernel
theorem dMO_fresh_45 : decode prog_13_method_33_code 45 = .ok (.iastore, 1) := by decide +kernel
theorem dMO_fresh_46 : decode prog_13_method_33_code 46 = .ok (.iload 4, 2) := by decide +kernel
theorem dMO_fresh_48 : decode prog_13_method_33_code 48 = .ok (.ireturn, 1) := by decide +kernel
theorem c_MO_fresh {G : sd_G} {o : Nat} {D : fx_D} {h0 : sd_H} {nx n : Nat} {k l r : Int32} (hB : G.2.1 ≤ o) (hn : n < 194) (d37 : D.2.1 0 37 = nI n) : sd_Ct G mMO_fresh 0 0 0 [.ref (o + 0), .int k, .int l, .int r] (fx_h G.1.2 mo_S o D h0) nx (sd_is (some (.int (nI n))) (fx_h G.1.2 mo_S o (fr_D D n k l r) h0) nx) := by
  refine sd_Ct_of (by decide) (Nat.le_of_ble_eq_true rfl) ?_
  refine sd_aload_n dMO_fresh_0 rfl rfl ?_
  refine sd_dup dMO_fresh_1 rfl ?_
  refine fx_getiv (v := (nI (n))) 10 37 dMO_fresh_2 fMO_161 rfl rfl (d37) ?_
  refine sd_dup_x1 dMO_fresh_5 rfl rfl ?_
  refine sd_iconst (v := nI 1) dMO_fresh_6 (by decide) ?_
  refine nn_iadd dMO_fresh_7 ?_
  refine fx_puti 10 37 dMO_fresh_8 fMO_161 rfl rfl rfl rfl hB ?_
  refine sd_istore dMO_fresh_11 (by decide) ?_
  refine sd_aload_n dMO_fresh_13 rfl rfl ?_
  refine fx_getr 10 30 (23) dMO_fresh_14 fMO_76 rfl rfl ?_
  refine sd_iload dMO_fresh_17 rfl ?_
  refine sd_iload_n dMO_fresh_19 rfl rfl ?_
  refine fx_iast (n) dMO_fresh_20 rfl rfl (by omega) (by decide) hB ?_
  refine sd_aload_n dMO_fresh_21 rfl rfl ?_
  refine fx_getr 10 31 (24) dMO_fresh_22 fMO_79 rfl rfl ?_
  refine sd_iload dMO_fresh_25 rfl ?_
  refine sd_iload_n dMO_fresh_27 rfl rfl ?_
  refine fx_iast (n) dMO_fresh_28 rfl rfl (by omega) (by decide) hB ?_
  refine sd_aload_n dMO_fresh_29 rfl rfl ?_
  refine fx_getr 10 32 (25) dMO_fresh_30 fMO_82 rfl rfl ?_
  refine sd_iload dMO_fresh_33 rfl ?_
  refine sd_iload_n dMO_fresh_35 rfl rfl ?_
  refine fx_iast (n) dMO_fresh_36 rfl rfl (by omega) (by decide) hB ?_
  refine sd_aload_n dMO_fresh_37 rfl rfl ?_
  refine fx_getr 10 33 (26) dMO_fresh_38 fMO_85 rfl rfl ?_
  refine sd_iload dMO_fresh_41 rfl ?_
  refine sd_iload dMO_fresh_43 rfl ?_
  refine fx_iast (n) dMO_fresh_45 rfl rfl (by omega) (by decide) hB ?_
  refine sd_iload dMO_fresh_46 rfl ?_
  exact sd_iret dMO_fresh_48 rfl (Nat.le_refl _) (Nat.le_refl _) ⟨rfl, rfl, rfl⟩
