/-! ===== the class's Inference: equate, functionNode, root ===== -/
def in_ck (k : Nat) : Nat := if k = 3 then 1 else if k = 1 then 4 else if k = 2 then 5 else 0
/-- the graph of types in the class: N nodes, their kinds, parts and links -/
def in_B (N : Nat) (K L R lk : Nat → Nat) : Prop := 50 ≤ N ∧ N ≤ 242 ∧ (∀ n, n < N → lk n < N ∧ (K n = 3 → L n < N ∧ R n < N)) ∧ (∀ n, K n < 4) ∧ (∀ n, N ≤ n → K n = 0 ∧ lk n = n) ∧ K 48 = 1 ∧ K 49 = 2
def in_G (D : fx_D) (N : Nat) (K L R lk : Nat → Nat) : Prop := D.2.1 299 7 = nI N ∧ ∀ n, n < N → D.1 300 n = nI (lk n) ∧ D.1 301 n = nI (in_ck (K n)) ∧ (K n = 3 → D.1 302 n = nI (L n) ∧ D.1 303 n = nI (R n))
/-- its equations -/
def in_E (D : fx_D) (P : List (Nat × Nat)) (N : Nat) : Prop := P.length ≤ 432 ∧ D.2.1 299 8 = nI P.length ∧ ∀ (i : Nat) (p : Nat × Nat), P[i]? = some p → D.1 305 i = nI p.1 ∧ D.1 306 i = nI p.2 ∧ p.1 < N ∧ p.2 < N
def in_f (D D' : fx_D) : Prop := ∀ x, ¬ (299 ≤ x ∧ x ≤ 306) → ag D D' x
theorem in_f.rf (D : fx_D) : in_f D D := fun _ _ => ⟨rfl, rfl, rfl⟩
theorem in_f.tr {D D' D2 : fx_D} (h : in_f D D') (h2 : in_f D' D2) : in_f D D2 := fun x a => (h x a).tr (h2 x a)
theorem in_E.mono {D : fx_D} {P : List (Nat × Nat)} {N N' : Nat} (h : in_E D P N) (hN : N ≤ N') : in_E D P N' := ⟨h.1, h.2.1, fun i p hp => by obtain ⟨a, b, c, d⟩ := h.2.2 i p hp; exact ⟨a, b, by omega, by omega⟩⟩
def eq_D (D : fx_D) (n a b : Nat) : fx_D := fx_uf (fx_ua (fx_ua D 305 n (nI a)) 306 n (nI b)) 299 8 (nI (n + 1))
theorem eq_f {D : fx_D} {n a b : Nat} : in_f D (eq_D D n a b) := fun x hx => ((ag_ua (by omega)).tr (ag_ua (by omega))).tr (ag_uf (by omega))
theorem eq_G {D : fx_D} {n a b N : Nat} {K L R lk : Nat → Nat} (h : in_G D N K L R lk) : in_G (eq_D D n a b) N K L R lk := ⟨by simpa [eq_D, fx_uf, fx_ua, upd] using h.1, fun m hm => by simpa [eq_D, fx_uf, fx_ua] using h.2 m hm⟩
theorem eq_E {D : fx_D} {a b N : Nat} {P : List (Nat × Nat)} (h : in_E D P N) (hl : P.length < 432) (ha : a < N) (hb : b < N) : in_E (eq_D D P.length a b) (P ++ [(a, b)]) N := by
  refine ⟨by simp; omega, by simp [eq_D, fx_uf, upd], fun i p hp => ?_⟩
  by_cases hi : i < P.length
  · rw [List.getElem?_append_left hi] at hp
    simpa [eq_D, fx_uf, fx_ua, upd, show i ≠ P.length by omega] using h.2.2 i p hp
  · have hi' : i = P.length := by
      have := getE_lt hp
      simp at this
      omega
    subst hi'
    have : p = (a, b) := by simpa using hp.symm
    subst this
    simpa [eq_D, fx_uf, fx_ua, upd] using ⟨ha, hb⟩
theorem eq_304 {D : fx_D} {n a b : Nat} : (eq_D D n a b).1 304 = D.1 304 := by simp [eq_D, fx_uf, fx_ua]
theorem dIN_equate_0 : decode prog_5_method_6_code 0 = .ok (.aload_n 0, 1) := by decide +kernel
theorem dIN_equate_1 : decode prog_5_method_6_code 1 = .ok (.getfield 71, 3) := by decide +kernel
theorem dIN_equate_4 : decode prog_5_method_6_code 4 = .ok (.sipush (432), 3) := by decide +kernel
theorem dIN_equate_7 : decode prog_5_method_6_code 7 = .ok (.if_icmp .lt (4), 3) := by decide +kernel
theorem dIN_equate_10 : decode prog_5_method_6_code 10 = .ok (.return_, 1) := by decide +kernel
theorem dIN_equate_11 : decode prog_5_method_6_code 11 = .ok (.aload_n 0, 1) := by decide +kernel
theorem dIN_equate_12 : decode prog_5_method_6_code 12 = .ok (.getfield 27, 3) := by decide +kernel
theorem dIN_equate_15 : decode prog_5_method_6_code 15 = .ok (.aload_n 0, 1) := by decide +kernel
theorem dIN_equate_16 : decode prog_5_method_6_code 16 = .ok (.getfield 71, 3) := by decide +kernel
theorem dIN_equate_19 : decode prog_5_method_6_code 19 = .ok (.iload_n 1, 1) := by decide +kernel
theorem dIN_equate_20 : decode prog_5_method_6_code 20 = .ok (.iastore, 1) := by decide +kernel
theorem dIN_equate_21 : decode prog_5_method_6_code 21 = .ok (.aload_n 0, 1) := by decide +kernel
theorem dIN_equate_22 : decode prog_5_method_6_code 22 = .ok (.getfield 30, 3) := by decide +kernel
theorem dIN_equate_25 : decode prog_5_method_6_code 25 = .ok (.aload_n 0, 1) := by decide +kernel
theorem dIN_equate_26 : decode prog_5_method_6_code 26 = .ok (.getfield 71, 3) := by decide +kernel
theorem dIN_equate_29 : decode prog_5_method_6_code 29 = .ok (.iload_n 2, 1) := by decide +kernel
theorem dIN_equate_30 : decode prog_5_method_6_code 30 = .ok (.iastore, 1) := by decide +kernel
theorem dIN_equate_31 : decode prog_5_method_6_code 31 = .ok (.aload_n 0, 1) := by decide +kernel
theorem dIN_equate_32 : decode prog_5_method_6_code 32 = .ok (.dup, 1) := by decide +kernel
theorem dIN_equate_33 : decode prog_5_method_6_code 33 = .ok (.getfield 71, 3) := by decide +kernel
theorem dIN_equate_36 : decode prog_5_method_6_code 36 = .ok (.iconst 1, 1) := by decide +kernel
theorem dIN_equate_37 : decode prog_5_method_6_code 37 = .ok (.iadd, 1) := by decide +kernel
theorem dIN_equate_38 : decode prog_5_method_6_code 38 = .ok (.putfield 71, 3) := by decide +kernel
theorem dIN_equate_41 : decode prog_5_method_6_code 41 = .ok (.return_, 1) := by decide +kernel
theorem c_IN_equate {G : sd_G} {o : Nat} {D : fx_D} {h0 : sd_H} {nx a b n : Nat} (hB : G.2.1 ≤ o) (hE : D.2.1 299 8 = nI n) (hl : n < 432) (ha : a < 2 ^ 30) (hb : b < 2 ^ 30) : sd_Ct G mIN_equate 0 0 0 [.ref (o + 299), .int (nI a), .int (nI b)] (fx_h G.1.2 dk_S o D h0) nx (sd_is none (fx_h G.1.2 dk_S o (eq_D D n a b) h0) nx) := by
  refine sd_Ct_of (by decide) (Nat.le_of_ble_eq_true rfl) ?_
  refine sd_aload_n dIN_equate_0 rfl rfl ?_
  refine fx_getiv (v := (nI (n))) 4 8 dIN_equate_1 fIN_71 rfl rfl (hE) ?_
  refine sd_sipush (v := nI 432) dIN_equate_4 (by decide) ?_
  refine nn_icmp_lt 11 dIN_equate_7 (by decide) (by omega) (by omega) (fun c7 => ?_) (fun c7 => ?_)
  ·
    refine sd_aload_n dIN_equate_11 rfl rfl ?_
    refine fx_getr 4 5 (305) dIN_equate_12 fIN_27 rfl rfl ?_
    refine sd_aload_n dIN_equate_15 rfl rfl ?_
    refine fx_getiv (v := (nI (n))) 4 8 dIN_equate_16 fIN_71 rfl rfl (hE) ?_
    refine sd_iload_n dIN_equate_19 rfl rfl ?_
    refine fx_iast (n) dIN_equate_20 rfl rfl (by omega) (by decide) hB ?_
    refine sd_aload_n dIN_equate_21 rfl rfl ?_
    refine fx_getr 4 6 (306) dIN_equate_22 fIN_30 rfl rfl ?_
    refine sd_aload_n dIN_equate_25 rfl rfl ?_
    refine fx_getiv (v := (nI (n))) 4 8 dIN_equate_26 fIN_71 rfl rfl ((by rw [← hE]; rfl)) ?_
    refine sd_iload_n dIN_equate_29 rfl rfl ?_
    refine fx_iast (n) dIN_equate_30 rfl rfl (by omega) (by decide) hB ?_
    refine sd_aload_n dIN_equate_31 rfl rfl ?_
    refine sd_dup dIN_equate_32 rfl ?_
    refine fx_getiv (v := (nI (n))) 4 8 dIN_equate_33 fIN_71 rfl rfl ((by rw [← hE]; rfl)) ?_
    refine sd_iconst (v := nI 1) dIN_equate_36 (by decide) ?_
    refine nn_iadd dIN_equate_37 ?_
    refine fx_puti 4 8 dIN_equate_38 fIN_71 rfl rfl rfl rfl hB ?_
    exact sd_vret dIN_equate_41 rfl (Nat.le_refl _) (Nat.le_refl _) ⟨rfl, rfl, rfl⟩
  ·
    exact absurd c7 (by omega)
def fn_D (D : fx_D) (n a b : Nat) : fx_D := fx_uf (fx_ua (fx_ua (fx_ua (fx_ua D 300 n (nI n)) 301 n (nI 1)) 302 n (nI a)) 303 n (nI b)) 299 7 (nI (n + 1))
theorem fn_f {D : fx_D} {n a b : Nat} : in_f D (fn_D D n a b) := fun x hx => ((((ag_ua (by omega)).tr (ag_ua (by omega))).tr (ag_ua (by omega))).tr (ag_ua (by omega))).tr (ag_uf (by omega))
theorem fn_E {D : fx_D} {n a b N : Nat} {P : List (Nat × Nat)} (h : in_E D P N) : in_E (fn_D D n a b) P N := ⟨h.1, by simpa [fn_D, fx_uf, fx_ua, upd] using h.2.1, fun i p hp => by simpa [fn_D, fx_uf, fx_ua] using h.2.2 i p hp⟩
theorem fn_G {D : fx_D} {a b N : Nat} {K L R lk : Nat → Nat} (h : in_G D N K L R lk) (hb : in_B N K L R lk) : in_G (fn_D D N a b) (N + 1) (upN K N 3) (upN L N a) (upN R N b) lk := by
  refine ⟨by simp [fn_D, fx_uf, upd], fun m hm => ?_⟩
  by_cases e : m = N
  · subst e
    have := (hb.2.2.2.2.1 m (Nat.le_refl _)).2
    simp [fn_D, fx_uf, fx_ua, upd, upN, in_ck, this]
  · have := h.2 m (by omega)
    simpa [fn_D, fx_uf, fx_ua, upd, upN, e] using this
theorem fn_B {a b N : Nat} {K L R lk : Nat → Nat} (hb : in_B N K L R lk) (hN : N < 242) (ha : a < N) (hb2 : b < N) : in_B (N + 1) (upN K N 3) (upN L N a) (upN R N b) lk := by
  obtain ⟨b1, b2, b3, b4, b5, b6, b7⟩ := hb
  refine ⟨by omega, by omega, fun m hm => ?_, fun m => ?_, fun m hm => ?_, ?_, ?_⟩
  · by_cases e : m = N
    · subst e
      have := (b5 m (Nat.le_refl _)).2
      simp only [upN, if_true]
      exact ⟨by omega, fun _ => ⟨by omega, by omega⟩⟩
    · simp only [upN, e, if_false]
      obtain ⟨c1, c2⟩ := b3 m (by omega)
      exact ⟨by omega, fun q => by have := c2 q; omega⟩
  · unfold upN
    split
    · omega
    · exact b4 m
  · simp only [upN, show ¬ m = N by omega, if_false]
    exact b5 m (by omega)
  · simp only [upN, show ¬ 48 = N by omega, if_false]
    exact b6
  · simp only [upN, show ¬ 49 = N by omega, if_false]
    exact b7
theorem dIN_functionNode_0 : decode prog_5_method_7_code 0 = .ok (.aload_n 0, 1) := by decide +kernel
theorem dIN_functionNode_1 : decode prog_5_method_7_code 1 = .ok (.getfield 74, 3) := by decide +kernel
theorem dIN_functionNode_4 : decode prog_5_method_7_code 4 = .ok (.sipush (241), 3) := by decide +kernel
theorem dIN_functionNode_7 : decode prog_5_method_7_code 7 = .ok (.invokestatic 94, 3) := by decide +kernel
theorem dIN_functionNode_10 : decode prog_5_method_7_code 10 = .ok (.istore_n 3, 1) := by decide +kernel
theorem dIN_functionNode_11 : decode prog_5_method_7_code 11 = .ok (.aload_n 0, 1) := by decide +kernel
theorem dIN_functionNode_12 : decode prog_5_method_7_code 12 = .ok (.getfield 11, 3) := by decide +kernel
theorem dIN_functionNode_15 : decode prog_5_method_7_code 15 = .ok (.iload_n 3, 1) := by decide +kernel
theorem dIN_functionNode_16 : decode prog_5_method_7_code 16 = .ok (.iload_n 3, 1) := by decide +kernel
theorem dIN_functionNode_17 : decode prog_5_method_7_code 17 = .ok (.iastore, 1) := by decide +kernel
theorem dIN_functionNode_18 : decode prog_5_method_7_code 18 = .ok (.aload_n 0, 1) := by decide +kernel
theorem dIN_functionNode_19 : decode prog_5_method_7_code 19 = .ok (.getfield 15, 3) := by decide +kernel
theorem dIN_functionNode_22 : decode prog_5_method_7_code 22 = .ok (.iload_n 3, 1) := by decide +kernel
theorem dIN_functionNode_23 : decode prog_5_method_7_code 23 = .ok (.iconst 1, 1) := by decide +kernel
theorem dIN_functionNode_24 : decode prog_5_method_7_code 24 = .ok (.iastore, 1) := by decide +kernel
theorem dIN_functionNode_25 : decode prog_5_method_7_code 25 = .ok (.aload_n 0, 1) := by decide +kernel
theorem dIN_functionNode_26 : decode prog_5_method_7_code 26 = .ok (.getfield 18, 3) := by decide +kernel
theorem dIN_functionNode_29 : decode prog_5_method_7_code 29 = .ok (.iload_n 3, 1) := by decide +kernel
theorem dIN_functionNode_30 : decode prog_5_method_7_code 30 = .ok (.iload_n 1, 1) := by decide +kernel
theorem dIN_functionNode_31 : decode prog_5_method_7_code 31 = .ok (.iastore, 1) := by decide +kernel
theorem dIN_functionNode_32 : decode prog_5_method_7_code 32 = .ok (.aload_n 0, 1) := by decide +kernel
theorem dIN_functionNode_33 : decode prog_5_method_7_code 33 = .ok (.getfield 21, 3) := by decide +kernel
theorem dIN_functionNode_36 : decode prog_5_method_7_code 36 = .ok (.iload_n 3, 1) := by decide +kernel
theorem dIN_functionNode_37 : decode prog_5_method_7_code 37 = .ok (.iload_n 2, 1) := by decide +kernel
theorem dIN_functionNode_38 : decode prog_5_method_7_code 38 = .ok (.iastore, 1) := by decide +kernel
theorem dIN_functionNode_39 : decode prog_5_method_7_code 39 = .ok (.aload_n 0, 1) := by decide +kernel
theorem dIN_functionNode_40 : decode prog_5_method_7_code 40 = .ok (.iload_n 3, 1) := by decide +kernel
theorem dIN_functionNode_41 : decode prog_5_method_7_code 41 = .ok (.iconst 1, 1) := by decide +kernel
theorem dIN_functionNode_42 : decode prog_5_method_7_code 42 = .ok (.iadd, 1) := by decide +kernel
theorem dIN_functionNode_43 : decode prog_5_method_7_code 43 = .ok (.putfield 74, 3) := by decide +kernel
theorem dIN_functionNode_46 : decode prog_5_method_7_code 46 = .ok (.iload_n 3, 1) := by decide +kernel
theorem dIN_functionNode_47 : decode prog_5_method_7_code 47 = .ok (.ireturn, 1) := by decide +kernel
theorem c_IN_functionNode {G : sd_G} {o : Nat} {D : fx_D} {h0 : sd_H} {nx a b n : Nat} (hB : G.2.1 ≤ o) (hN : D.2.1 299 7 = nI n) (hl : n < 242) (ha : a < 2 ^ 30) (hb : b < 2 ^ 30) : sd_Ct G mIN_functionNode 1 0 0 [.ref (o + 299), .int (nI a), .int (nI b)] (fx_h G.1.2 dk_S o D h0) nx (sd_is (some (.int (nI n))) (fx_h G.1.2 dk_S o (fn_D D n a b) h0) nx) := by
  refine sd_Ct_of (by decide) (Nat.le_of_ble_eq_true rfl) ?_
  refine sd_aload_n dIN_functionNode_0 rfl rfl ?_
  refine fx_getiv (v := (nI (n))) 4 7 dIN_functionNode_1 fIN_74 rfl rfl (hN) ?_
  refine sd_sipush (v := nI 241) dIN_functionNode_4 (by decide) ?_
  refine sd_cS [.int (nI (n)), .int (nI (241))] [] dIN_functionNode_7 kIN_94 mMA_min_s (c_MA_mn (c := n) (by omega) (by omega) (by omega)) (by decide) (Nat.le_refl _) (Nat.le_refl _) (Nat.le_of_ble_eq_true rfl) rfl ?_
  refine sd_istore_n dIN_functionNode_10 rfl (by decide) ?_
  refine sd_aload_n dIN_functionNode_11 rfl rfl ?_
  refine fx_getr 4 0 (300) dIN_functionNode_12 fIN_11 rfl rfl ?_
  refine sd_iload_n dIN_functionNode_15 rfl rfl ?_
  refine sd_iload_n dIN_functionNode_16 rfl rfl ?_
  refine fx_iast (n) dIN_functionNode_17 rfl rfl (by omega) (by decide) hB ?_
  refine sd_aload_n dIN_functionNode_18 rfl rfl ?_
  refine fx_getr 4 1 (301) dIN_functionNode_19 fIN_15 rfl rfl ?_
  refine sd_iload_n dIN_functionNode_22 rfl rfl ?_
  refine sd_iconst (v := nI 1) dIN_functionNode_23 (by decide) ?_
  refine fx_iast (n) dIN_functionNode_24 rfl rfl (by omega) (by decide) hB ?_
  refine sd_aload_n dIN_functionNode_25 rfl rfl ?_
  refine fx_getr 4 2 (302) dIN_functionNode_26 fIN_18 rfl rfl ?_
  refine sd_iload_n dIN_functionNode_29 rfl rfl ?_
  refine sd_iload_n dIN_functionNode_30 rfl rfl ?_
  refine fx_iast (n) dIN_functionNode_31 rfl rfl (by omega) (by decide) hB ?_
  refine sd_aload_n dIN_functionNode_32 rfl rfl ?_
  refine fx_getr 4 3 (303) dIN_functionNode_33 fIN_21 rfl rfl ?_
  refine sd_iload_n dIN_functionNode_36 rfl rfl ?_
  refine sd_iload_n dIN_functionNode_37 rfl rfl ?_
  refine fx_iast (n) dIN_functionNode_38 rfl rfl (by omega) (by decide) hB ?_
  refine sd_aload_n dIN_functionNode_39 rfl rfl ?_
  refine sd_iload_n dIN_functionNode_40 rfl rfl ?_
  refine sd_iconst (v := nI 1) dIN_functionNode_41 (by decide) ?_
  refine nn_iadd dIN_functionNode_42 ?_
  refine fx_puti 4 7 dIN_functionNode_43 fIN_74 rfl rfl rfl rfl hB ?_
  refine sd_iload_n dIN_functionNode_46 rfl rfl ?_
  exact sd_iret dIN_functionNode_47 rfl (Nat.le_refl _) (Nat.le_refl _) ⟨rfl, rfl, rfl⟩
/-- more nodes -/
def gxx (N : Nat) (K L R : Nat → Nat) (N' : Nat) (K' L' R' : Nat → Nat) : Prop := N ≤ N' ∧ (∀ n, n < N → K' n = K n ∧ L' n = L n ∧ R' n = R n) ∧ (∀ σ, gsol K L R σ → ∃ σ', gsol K' L' R' σ' ∧ ∀ n, n < N → σ' n = σ n)
theorem gxx.rf (N : Nat) (K L R : Nat → Nat) : gxx N K L R N K L R := ⟨Nat.le_refl _, fun _ _ => ⟨rfl, rfl, rfl⟩, fun σ h => ⟨σ, h, fun _ _ => rfl⟩⟩
theorem gxx.tr {N N' N2 : Nat} {K L R K' L' R' K2 L2 R2 : Nat → Nat} (h : gxx N K L R N' K' L' R') (h2 : gxx N' K' L' R' N2 K2 L2 R2) : gxx N K L R N2 K2 L2 R2 := by
  refine ⟨Nat.le_trans h.1 h2.1, fun n hn => ?_, fun σ hσ => ?_⟩
  · obtain ⟨a, b, c⟩ := h.2.1 n hn
    obtain ⟨a', b', c'⟩ := h2.2.1 n (by have := h.1; omega)
    exact ⟨a'.trans a, b'.trans b, c'.trans c⟩
  · obtain ⟨σ', q1, q2⟩ := h.2.2 σ hσ
    obtain ⟨σ2, q3, q4⟩ := h2.2.2 σ' q1
    exact ⟨σ2, q3, fun n hn => (q4 n (by have := h.1; omega)).trans (q2 n hn)⟩
theorem gxx.back {N N' : Nat} {K L R K' L' R' lk : Nat → Nat} {σ : Nat → ft} (h : gxx N K L R N' K' L' R') (hb : in_B N K L R lk) (hσ : gsol K' L' R' σ) : gsol K L R σ := by
  intro n
  by_cases hn : n < N
  · obtain ⟨a, b, c⟩ := h.2.1 n hn
    have := hσ n
    rw [a, b, c] at this
    exact this
  · have := (hb.2.2.2.2.1 n (by omega)).1
    exact ⟨fun q => by omega, fun q => by omega, fun q => by omega⟩
theorem gxx.fn {N a b : Nat} {K L R lk : Nat → Nat} (hb : in_B N K L R lk) (ha : a < N) (hb2 : b < N) : gxx N K L R (N + 1) (upN K N 3) (upN L N a) (upN R N b) := by
  refine ⟨by omega, fun n hn => by simp only [upN, show ¬ n = N by omega, if_false]; exact ⟨trivial, trivial, trivial⟩, fun σ hσ => ⟨upN σ N (.append (σ a) (σ b)), fun n => ?_, fun n hn => by simp only [upN, show ¬ n = N by omega, if_false]⟩⟩
  by_cases e : n = N
  · subst e
    simp only [upN, if_true, show ¬ a = n by omega, show ¬ b = n by omega, if_false]
    exact ⟨fun q => by omega, fun q => by omega, fun _ => trivial⟩
  · simp only [upN, e, if_false]
    obtain ⟨q1, q2, q3⟩ := hσ n
    refine ⟨q1, q2, fun q => ?_⟩
    have hn : n < N := by
      by_cases z : n < N
      · exact z
      · have := (hb.2.2.2.2.1 n (by omega)).1
        omega
    obtain ⟨c1, c2⟩ := (hb.2.2.1 n hn).2 q
    rw [if_neg (by omega), if_neg (by omega)]
    exact q3 q
theorem it_add (f : Nat → Nat) : ∀ (a b n : Nat), it f (a + b) n = it f b (it f a n)
  | 0, b, n => by rw [Nat.zero_add]; rfl
  | a + 1, b, n => by rw [show a + 1 + b = (a + b) + 1 by omega]; exact it_add f a b (f n)
theorem it_lt {f : Nat → Nat} {N : Nat} (h : ∀ n, n < N → f n < N) : ∀ (d n : Nat), n < N → it f d n < N
  | 0, n, hn => hn
  | d + 1, n, hn => it_lt h d (f n) (h n hn)
/-- links lead to where they end in at most N steps -/
theorem lkr_bd {lk ρ : Nat → Nat} {N n : Nat} (h : lkr lk ρ) (hN : ∀ n, n < N → lk n < N) (hn : n < N) : ∃ d, d ≤ N ∧ it lk d n = ρ n := by
  obtain ⟨d, hd⟩ := h.2 n
  induction d using Nat.strongRecOn with
  | ind d ih =>
    by_cases hle : d ≤ N
    · exact ⟨d, hle, hd⟩
    · have hrep : ∃ i j, i < j ∧ j ≤ N ∧ it lk i n = it lk j n := by
        apply Classical.byContradiction
        intro hno
        have hnd : ((List.range (N + 1)).map (fun i => it lk i n)).Nodup := by
          rw [List.Nodup, List.pairwise_map]
          refine List.pairwise_iff_getElem.mpr (fun i j hi hj hij e => hno ?_)
          simp only [List.length_range] at hi hj
          rw [List.getElem_range, List.getElem_range] at e
          exact ⟨i, j, hij, by omega, e⟩
        have := nd_len (m := List.range N) hnd (fun x hx => by
          obtain ⟨i, -, rfl⟩ := List.mem_map.mp hx
          exact List.mem_range.mpr (it_lt hN i n hn))
        simp only [List.length_map, List.length_range] at this
        omega
      obtain ⟨i, j, hij, hj, e⟩ := hrep
      refine ih (d - (j - i)) (by omega) ?_
      rw [show d - (j - i) = i + (d - j) by omega, it_add, e, ← it_add, show j + (d - j) = d by omega]
      exact hd
theorem lkr_lt {lk ρ : Nat → Nat} {N n : Nat} (h : lkr lk ρ) (hN : ∀ n, n < N → lk n < N) (hn : n < N) : ρ n < N := by
  obtain ⟨d, -, e⟩ := lkr_bd h hN hn
  rw [← e]
  exact it_lt hN d n hn
theorem dIN_root_0 : decode prog_5_method_9_code 0 = .ok (.iload_n 1, 1) := by decide +kernel
theorem dIN_root_1 : decode prog_5_method_9_code 1 = .ok (.istore_n 2, 1) := by decide +kernel
theorem dIN_root_2 : decode prog_5_method_9_code 2 = .ok (.iconst 0, 1) := by decide +kernel
theorem dIN_root_3 : decode prog_5_method_9_code 3 = .ok (.istore_n 3, 1) := by decide +kernel
theorem dIN_root_4 : decode prog_5_method_9_code 4 = .ok (.iload_n 3, 1) := by decide +kernel
theorem dIN_root_5 : decode prog_5_method_9_code 5 = .ok (.sipush (242), 3) := by decide +kernel
theorem dIN_root_8 : decode prog_5_method_9_code 8 = .ok (.if_icmp .ge (26), 3) := by decide +kernel
theorem dIN_root_11 : decode prog_5_method_9_code 11 = .ok (.aload_n 0, 1) := by decide +kernel
theorem dIN_root_12 : decode prog_5_method_9_code 12 = .ok (.getfield 11, 3) := by decide +kernel
theorem dIN_root_15 : decode prog_5_method_9_code 15 = .ok (.iload_n 2, 1) := by decide +kernel
theorem dIN_root_16 : decode prog_5_method_9_code 16 = .ok (.iaload, 1) := by decide +kernel
theorem dIN_root_17 : decode prog_5_method_9_code 17 = .ok (.iload_n 2, 1) := by decide +kernel
theorem dIN_root_18 : decode prog_5_method_9_code 18 = .ok (.if_icmp .eq (16), 3) := by decide +kernel
theorem dIN_root_21 : decode prog_5_method_9_code 21 = .ok (.aload_n 0, 1) := by decide +kernel
theorem dIN_root_22 : decode prog_5_method_9_code 22 = .ok (.getfield 11, 3) := by decide +kernel
theorem dIN_root_25 : decode prog_5_method_9_code 25 = .ok (.iload_n 2, 1) := by decide +kernel
theorem dIN_root_26 : decode prog_5_method_9_code 26 = .ok (.iaload, 1) := by decide +kernel
theorem dIN_root_27 : decode prog_5_method_9_code 27 = .ok (.istore_n 2, 1) := by decide +kernel
theorem dIN_root_28 : decode prog_5_method_9_code 28 = .ok (.iinc 3 (1), 3) := by decide +kernel
theorem dIN_root_31 : decode prog_5_method_9_code 31 = .ok (.goto (-27), 3) := by decide +kernel
theorem dIN_root_34 : decode prog_5_method_9_code 34 = .ok (.iload_n 2, 1) := by decide +kernel
theorem dIN_root_35 : decode prog_5_method_9_code 35 = .ok (.ireturn, 1) := by decide +kernel
theorem l_IN_root {G : sd_G} {o : Nat} {D : fx_D} {h0 : sd_H} {nx N v x : Nat} {K L R lk : Nat → Nat} (hG : in_G D N K L R lk) (hb : in_B N K L R lk) : ∀ (d s m : Nat), d + s ≤ 242 → m < N → it lk d m = v → lk v = v → sd_W G mIN_root 0 0 0 (sd_is (some (.int (nI v))) (fx_h G.1.2 dk_S o D h0) nx) 4 [(0, .ref (o + 299)), (1, .int (nI x)), (2, .int (nI m)), (3, .int (nI s))] [] (fx_h G.1.2 dk_S o D h0) nx 0 0 := by
  have b2 := hb.2.1
  intro d
  induction d with
  | zero =>
    intro s m hd hm e hv
    have e' : m = v := e
    subst e'
    obtain ⟨g1, -, -⟩ := hG.2 m hm
    rw [hv] at g1
    refine sd_iload_n dIN_root_4 rfl rfl ?_
    refine sd_sipush (v := nI 242) dIN_root_5 (by decide) ?_
    refine nn_icmp_ge 34 dIN_root_8 (by decide) (by omega) (by omega) (fun c8 => ?_) (fun c8 => ?_)
    ·
      refine sd_iload_n dIN_root_34 rfl rfl ?_
      exact sd_iret dIN_root_35 rfl (Nat.le_refl _) (Nat.le_refl _) ⟨rfl, rfl, rfl⟩
    ·
      refine sd_aload_n dIN_root_11 rfl rfl ?_
      refine fx_getr 4 0 (300) dIN_root_12 fIN_11 rfl rfl ?_
      refine sd_iload_n dIN_root_15 rfl rfl ?_
      refine fx_ialdv (v := (nI (m))) (m) dIN_root_16 rfl rfl (by omega) (by decide) (g1) ?_
      refine sd_iload_n dIN_root_17 rfl rfl ?_
      refine nn_icmp_eq 34 dIN_root_18 (by decide) (by omega) (by omega) (fun c18 => ?_) (fun c18 => ?_)
      ·
        refine sd_iload_n dIN_root_34 rfl rfl ?_
        exact sd_iret dIN_root_35 rfl (Nat.le_refl _) (Nat.le_refl _) ⟨rfl, rfl, rfl⟩
      ·
        exact absurd rfl c18
  | succ d ih =>
    intro s m hd hm e hv
    obtain ⟨g1, -, -⟩ := hG.2 m hm
    have hlt := (hb.2.2.1 m hm).1
    by_cases c : lk m = m
    · have e' : m = v := by rw [← e, it_fix c]
      subst e'
      refine sd_iload_n dIN_root_4 rfl rfl ?_
      refine sd_sipush (v := nI 242) dIN_root_5 (by decide) ?_
      refine nn_icmp_ge 34 dIN_root_8 (by decide) (by omega) (by omega) (fun c8 => ?_) (fun c8 => ?_)
      ·
        refine sd_iload_n dIN_root_34 rfl rfl ?_
        exact sd_iret dIN_root_35 rfl (Nat.le_refl _) (Nat.le_refl _) ⟨rfl, rfl, rfl⟩
      ·
        refine sd_aload_n dIN_root_11 rfl rfl ?_
        refine fx_getr 4 0 (300) dIN_root_12 fIN_11 rfl rfl ?_
        refine sd_iload_n dIN_root_15 rfl rfl ?_
        refine fx_ialdv (v := (nI (lk m))) (m) dIN_root_16 rfl rfl (by omega) (by decide) (g1) ?_
        refine sd_iload_n dIN_root_17 rfl rfl ?_
        refine nn_icmp_eq 34 dIN_root_18 (by decide) (by omega) (by omega) (fun c18 => ?_) (fun c18 => ?_)
        ·
          refine sd_iload_n dIN_root_34 rfl rfl ?_
          exact sd_iret dIN_root_35 rfl (Nat.le_refl _) (Nat.le_refl _) ⟨rfl, rfl, rfl⟩
        ·
          exact absurd c c18
    · skip
      refine sd_iload_n dIN_root_4 rfl rfl ?_
      refine sd_sipush (v := nI 242) dIN_root_5 (by decide) ?_
      refine nn_icmp_ge 34 dIN_root_8 (by decide) (by omega) (by omega) (fun c8 => ?_) (fun c8 => ?_)
      ·
        exact absurd c8 (by omega)
      ·
        refine sd_aload_n dIN_root_11 rfl rfl ?_
        refine fx_getr 4 0 (300) dIN_root_12 fIN_11 rfl rfl ?_
        refine sd_iload_n dIN_root_15 rfl rfl ?_
        refine fx_ialdv (v := (nI (lk m))) (m) dIN_root_16 rfl rfl (by omega) (by decide) (g1) ?_
        refine sd_iload_n dIN_root_17 rfl rfl ?_
        refine nn_icmp_eq 34 dIN_root_18 (by decide) (by omega) (by omega) (fun c18 => ?_) (fun c18 => ?_)
        ·
          exact absurd c18 c
        ·
          refine sd_aload_n dIN_root_21 rfl rfl ?_
          refine fx_getr 4 0 (300) dIN_root_22 fIN_11 rfl rfl ?_
          refine sd_iload_n dIN_root_25 rfl rfl ?_
          refine fx_ialdv (v := (nI (lk m))) (m) dIN_root_26 rfl rfl (by omega) (by decide) (g1) ?_
          refine sd_istore_n dIN_root_27 rfl (by decide) ?_
          refine nn_iinc 1 dIN_root_28 rfl (by decide) ?_
          refine sd_goto 4 dIN_root_31 (by decide) ?_
          refine sd_locp (al' := [(0, .ref (o + (299))), (1, .int (nI (x))), (2, .int (nI (lk m))), (3, .int (nI (s + 1)))]) [2, 3, 1, 0] rfl ?_
          exact ih (s + 1) (lk m) (by omega) hlt e hv
theorem c_IN_root {G : sd_G} {o : Nat} {D : fx_D} {h0 : sd_H} {nx N n : Nat} {K L R lk ρ : Nat → Nat} (hG : in_G D N K L R lk) (hb : in_B N K L R lk) (hr : lkr lk ρ) (hn : n < N) : sd_Ct G mIN_root 0 0 0 [.ref (o + 299), .int (nI n)] (fx_h G.1.2 dk_S o D h0) nx (sd_is (some (.int (nI (ρ n)))) (fx_h G.1.2 dk_S o D h0) nx) := by
  refine sd_Ct_of (by decide) (Nat.le_of_ble_eq_true rfl) ?_
  have b2 := hb.2.1
  obtain ⟨d, hd, e⟩ := lkr_bd hr (fun m hm => (hb.2.2.1 m hm).1) hn
  refine sd_iload_n dIN_root_0 rfl rfl ?_
  refine sd_istore_n dIN_root_1 rfl (by decide) ?_
  refine sd_iconst (v := nI 0) dIN_root_2 (by decide) ?_
  refine sd_istore_n dIN_root_3 rfl (by decide) ?_
  refine sd_locp (al' := [(0, .ref (o + (299))), (1, .int (nI (n))), (2, .int (nI (n))), (3, .int (nI (0)))]) [2, 3, 1, 0] rfl ?_
  exact l_IN_root hG hb d 0 n (by omega) hn e (hr.1 n)
theorem dIN_begin_0 : decode prog_5_method_3_code 0 = .ok (.aload_n 0, 1) := by decide +kernel
theorem dIN_begin_1 : decode prog_5_method_3_code 1 = .ok (.iconst 0, 1) := by decide +kernel
theorem dIN_begin_2 : decode prog_5_method_3_code 2 = .ok (.putfield 71, 3) := by decide +kernel
theorem dIN_begin_5 : decode prog_5_method_3_code 5 = .ok (.aload_n 0, 1) := by decide +kernel
theorem dIN_begin_6 : decode prog_5_method_3_code 6 = .ok (.bipush (50), 2) := by decide +kernel
theorem dIN_begin_8 : decode prog_5_method_3_code 8 = .ok (.putfield 74, 3) := by decide +kernel
theorem dIN_begin_11 : decode prog_5_method_3_code 11 = .ok (.iconst 0, 1) := by decide +kernel
theorem dIN_begin_12 : decode prog_5_method_3_code 12 = .ok (.istore_n 1, 1) := by decide +kernel
theorem dIN_begin_13 : decode prog_5_method_3_code 13 = .ok (.iload_n 1, 1) := by decide +kernel
theorem dIN_begin_14 : decode prog_5_method_3_code 14 = .ok (.bipush (50), 2) := by decide +kernel
theorem dIN_begin_16 : decode prog_5_method_3_code 16 = .ok (.if_icmp .ge (23), 3) := by decide +kernel
theorem dIN_begin_19 : decode prog_5_method_3_code 19 = .ok (.aload_n 0, 1) := by decide +kernel
theorem dIN_begin_20 : decode prog_5_method_3_code 20 = .ok (.getfield 11, 3) := by decide +kernel
theorem dIN_begin_23 : decode prog_5_method_3_code 23 = .ok (.iload_n 1, 1) := by decide +kernel
theorem dIN_begin_24 : decode prog_5_method_3_code 24 = .ok (.iload_n 1, 1) := by decide +kernel
theorem dIN_begin_25 : decode prog_5_method_3_code 25 = .ok (.iastore, 1) := by decide +kernel
theorem dIN_begin_26 : decode prog_5_method_3_code 26 = .ok (.aload_n 0, 1) := by decide +kernel
theorem dIN_begin_27 : decode prog_5_method_3_code 27 = .ok (.getfield 15, 3) := by decide +kernel
theorem dIN_begin_30 : decode prog_5_method_3_code 30 = .ok (.iload_n 1, 1) := by decide +kernel
theorem dIN_begin_31 : decode prog_5_method_3_code 31 = .ok (.iconst 0, 1) := by decide +kernel
theorem dIN_begin_32 : decode prog_5_method_3_code 32 = .ok (.iastore, 1) := by decide +kernel
theorem dIN_begin_33 : decode prog_5_method_3_code 33 = .ok (.iinc 1 (1), 3) := by decide +kernel
theorem dIN_begin_36 : decode prog_5_method_3_code 36 = .ok (.goto (-23), 3) := by decide +kernel
theorem dIN_begin_39 : decode prog_5_method_3_code 39 = .ok (.aload_n 0, 1) := by decide +kernel
theorem dIN_begin_40 : decode prog_5_method_3_code 40 = .ok (.getfield 15, 3) := by decide +kernel
theorem dIN_begin_43 : decode prog_5_method_3_code 43 = .ok (.bipush (48), 2) := by decide +kernel
theorem dIN_begin_45 : decode prog_5_method_3_code 45 = .ok (.iconst 4, 1) := by decide +kernel
theorem dIN_begin_46 : decode prog_5_method_3_code 46 = .ok (.iastore, 1) := by decide +kernel
theorem dIN_begin_47 : decode prog_5_method_3_code 47 = .ok (.aload_n 0, 1) := by decide +kernel
theorem dIN_begin_48 : decode prog_5_method_3_code 48 = .ok (.getfield 15, 3) := by decide +kernel
theorem dIN_begin_51 : decode prog_5_method_3_code 51 = .ok (.bipush (49), 2) := by decide +kernel
theorem dIN_begin_53 : decode prog_5_method_3_code 53 = .ok (.iconst 5, 1) := by decide +kernel
theorem dIN_begin_54 : decode prog_5_method_3_code 54 = .ok (.iastore, 1) := by decide +kernel
theorem dIN_begin_55 : decode prog_5_method_3_code 55 = .ok (.return_, 1) := by decide +kernel
def K1_ (n : Nat) : Nat := if n = 48 then 1 else if n = 49 then 2 else 0
theorem l_IN_begin {G : sd_G} {o : Nat} {D0 : fx_D} {h0 : sd_H} {nx : Nat} (hB : G.2.1 ≤ o) : ∀ (m n : Nat) (D : fx_D), n + m = 50 → (∀ i, i < n → D.1 300 i = nI i ∧ D.1 301 i = nI 0) → D.2.1 299 7 = nI 50 → D.2.1 299 8 = nI 0 → in_f D0 D → sd_W G mIN_begin 0 0 0 (fx_is G.1.2 dk_S o h0 nx none (fun D' => in_G D' 50 K1_ (fun _ => 0) (fun _ => 0) (fun n => n) ∧ in_E D' [] 50 ∧ in_f D0 D')) 13 [(0, .ref (o + 299)), (1, .int (nI n))] [] (fx_h G.1.2 dk_S o D h0) nx 0 0 := by
  intro m
  induction m with
  | zero =>
    intro n D hn h1 h2 h3 hf
    refine sd_iload_n dIN_begin_13 rfl rfl ?_
    refine sd_bipush (v := nI 50) dIN_begin_14 (by decide) ?_
    refine nn_icmp_ge 39 dIN_begin_16 (by decide) (by omega) (by omega) (fun c16 => ?_) (fun c16 => ?_)
    ·
      refine sd_aload_n dIN_begin_39 rfl rfl ?_
      refine fx_getr 4 1 (301) dIN_begin_40 fIN_15 rfl rfl ?_
      refine sd_bipush (v := nI 48) dIN_begin_43 (by decide) ?_
      refine sd_iconst (v := nI 4) dIN_begin_45 (by decide) ?_
      refine fx_iast (48) dIN_begin_46 rfl rfl (by omega) (by decide) hB ?_
      refine sd_aload_n dIN_begin_47 rfl rfl ?_
      refine fx_getr 4 1 (301) dIN_begin_48 fIN_15 rfl rfl ?_
      refine sd_bipush (v := nI 49) dIN_begin_51 (by decide) ?_
      refine sd_iconst (v := nI 5) dIN_begin_53 (by decide) ?_
      refine fx_iast (49) dIN_begin_54 rfl rfl (by omega) (by decide) hB ?_
      refine sd_vret dIN_begin_55 rfl (Nat.le_refl _) (Nat.le_refl _) ⟨rfl, rfl, _, rfl, ⟨by simpa [fx_ua] using h2, fun i hi => ?_⟩, ⟨by simp, by simpa [fx_ua] using h3, fun i p hp => by simp at hp⟩, hf.tr (fun x hx => (ag_ua (by omega)).tr (ag_ua (by omega)))⟩
      obtain ⟨q1, q2⟩ := h1 i (by omega)
      refine ⟨by simpa [fx_ua] using q1, ?_, fun q => ?_⟩
      · by_cases e1 : i = 48
        · subst e1
          simp [fx_ua, upd, in_ck, K1_]
        · by_cases e2 : i = 49
          · subst e2
            simp [fx_ua, upd, in_ck, K1_]
          · simpa [fx_ua, upd, in_ck, K1_, e1, e2] using q2
      · unfold K1_ at q
        split at q
        · omega
        · split at q <;> omega
    ·
      exact absurd c16 (by omega)
  | succ m ih =>
    intro n D hn h1 h2 h3 hf
    refine sd_iload_n dIN_begin_13 rfl rfl ?_
    refine sd_bipush (v := nI 50) dIN_begin_14 (by decide) ?_
    refine nn_icmp_ge 39 dIN_begin_16 (by decide) (by omega) (by omega) (fun c16 => ?_) (fun c16 => ?_)
    ·
      exact absurd c16 (by omega)
    ·
      refine sd_aload_n dIN_begin_19 rfl rfl ?_
      refine fx_getr 4 0 (300) dIN_begin_20 fIN_11 rfl rfl ?_
      refine sd_iload_n dIN_begin_23 rfl rfl ?_
      refine sd_iload_n dIN_begin_24 rfl rfl ?_
      refine fx_iast (n) dIN_begin_25 rfl rfl (by omega) (by decide) hB ?_
      refine sd_aload_n dIN_begin_26 rfl rfl ?_
      refine fx_getr 4 1 (301) dIN_begin_27 fIN_15 rfl rfl ?_
      refine sd_iload_n dIN_begin_30 rfl rfl ?_
      refine sd_iconst (v := nI 0) dIN_begin_31 (by decide) ?_
      refine fx_iast (n) dIN_begin_32 rfl rfl (by omega) (by decide) hB ?_
      refine nn_iinc 1 dIN_begin_33 rfl (by decide) ?_
      refine sd_goto 13 dIN_begin_36 (by decide) ?_
      refine sd_locp (al' := [(0, .ref (o + (299))), (1, .int (nI (n + 1)))]) [1, 0] rfl ?_
      refine ih (n + 1) _ (by omega) (fun i hi => ?_) (by simpa [fx_ua] using h2) (by simpa [fx_ua] using h3) (hf.tr (fun x hx => (ag_ua (by omega)).tr (ag_ua (by omega))))
      by_cases e : i = n
      · subst e
        simp [fx_ua, upd]
      · simpa [fx_ua, upd, e] using h1 i (by omega)
theorem c_IN_begin {G : sd_G} {o : Nat} {D : fx_D} {h0 : sd_H} {nx : Nat} (hB : G.2.1 ≤ o) : sd_Ct G mIN_begin 0 0 0 [.ref (o + 299)] (fx_h G.1.2 dk_S o D h0) nx (fx_is G.1.2 dk_S o h0 nx none (fun D' => in_G D' 50 K1_ (fun _ => 0) (fun _ => 0) (fun n => n) ∧ in_E D' [] 50 ∧ in_f D D')) := by
  refine sd_Ct_of (by decide) (Nat.le_of_ble_eq_true rfl) ?_
  refine sd_aload_n dIN_begin_0 rfl rfl ?_
  refine sd_iconst (v := nI 0) dIN_begin_1 (by decide) ?_
  refine fx_puti 4 8 dIN_begin_2 fIN_71 rfl rfl rfl rfl hB ?_
  refine sd_aload_n dIN_begin_5 rfl rfl ?_
  refine sd_bipush (v := nI 50) dIN_begin_6 (by decide) ?_
  refine fx_puti 4 7 dIN_begin_8 fIN_74 rfl rfl rfl rfl hB ?_
  refine sd_iconst (v := nI 0) dIN_begin_11 (by decide) ?_
  refine sd_istore_n dIN_begin_12 rfl (by decide) ?_
  refine sd_locp (al' := [(0, .ref (o + (299))), (1, .int (nI (0)))]) [1, 0] rfl ?_
  exact l_IN_begin hB 50 0 _ (by omega) (fun i hi => by omega) (by simp [fx_uf, upd]) (by simp [fx_uf, upd]) (fun x hx => (ag_uf (by omega)).tr (ag_uf (by omega)))
theorem in_B0 : in_B 50 K1_ (fun _ => 0) (fun _ => 0) (fun n => n) := by
  refine ⟨by omega, by omega, fun n hn => ⟨hn, fun _ => ⟨show (0 : Nat) < 50 by decide, show (0 : Nat) < 50 by decide⟩⟩, fun n => ?_, fun n hn => ⟨?_, rfl⟩, rfl, rfl⟩
  · unfold K1_
    split
    · omega
    · split <;> omega
  · unfold K1_
    rw [if_neg (by omega), if_neg (by omega)]
