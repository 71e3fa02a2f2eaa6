/-! ===== the model: nodeOf ===== -/
/-- an answer that is a number m with P m -/
def fx_ex (A : Nat → ClassId) (S : fx_S) (o : Nat) (h0 : sd_H) (nx : Nat) (P : Nat → fx_D → Prop) : sd_Q := fun r h' nx' => nx' = nx ∧ ∃ (m : Nat) (D : fx_D), r = some (.int (nI m)) ∧ h' = fx_h A S o D h0 ∧ P m D
section FXE
variable {G : sd_G} {M : sd_M} {d mc ms : Nat} {Q : sd_Q} {pc : Nat} {al : List (Nat × Value)} {st : List Value} {nx k n : Nat} {S : fx_S} {o : Nat} {D : fx_D} {h0 : sd_H}
theorem fx_cE {M' : sd_M} {index d' x : Nat} {t : List fx_E} {P : Nat → fx_D → Prop} (ci : Nat) (r0 : vw_C) (av rest : List Value) (hd : decode M.2.1 pc = .ok (.invokevirtual index, 3)) (hw : sd_ml M.1.cls index M' av.length) (hr : sd_cl[ci]? = some r0) (hs : S x = some (.inl (ci, t))) (hst : Cond.instanceMethod M'.1 ∈ sd_tbl ∧ Cond.selects r0.1 M'.1 M'.1 ∈ sd_tbl) (hct : sd_Ct G M' d' 0 0 (.ref (o + x) :: av) (fx_h G.1.2 S o D h0) nx (fx_ex G.1.2 S o h0 nx P)) (hd' : d' + 1 ≤ d) (hk : k ≤ mc) (hn : n ≤ ms) (hrest : (rest.map fun v => v.category).sum ≤ 8) (hst2 : st = av.reverse ++ .ref (o + x) :: rest) (kk : ∀ (m : Nat) (D' : fx_D), P m D' → sd_W G M d mc ms Q (pc + 3) al (.int (nI m) :: rest) (fx_h G.1.2 S o D' h0) nx k n) : sd_W G M d mc ms Q pc al st (fx_h G.1.2 S o D h0) nx k n :=
  sd_callV ci r0 av rest hd hw hr (fx_at hs) hst hct hd' hk hn hrest hst2 (fun r h' nx' q => by
    obtain ⟨rfl, m, D', rfl, rfl, hP⟩ := q
    exact kk m D' hP)
end FXE
/-- the graph that the model holds -/
def gst (D : fx_D) (N : Nat) (K L R lk ρ : Nat → Nat) : Prop := ug D N K L R lk ∧ ug_b N K L R lk ∧ lkr lk ρ ∧ uf_inv K L R ρ [] ∧ D.2.1 0 37 = nI N ∧ K 192 = 1 ∧ K 193 = 2
/-- D' differs from D in the graph -/
def mo_fgr (D D' : fx_D) : Prop := (∀ x, (x < 23 ∨ x = 27 ∨ x = 28) → D'.1 x = D.1 x) ∧ (∀ x j, ¬ (x = 0 ∧ j = 37) → D'.2.1 x j = D.2.1 x j) ∧ D'.2.2 = D.2.2
theorem mo_fgr.rf (D : fx_D) : mo_fgr D D := ⟨fun _ _ => rfl, fun _ _ _ => rfl, rfl⟩
theorem mo_fgr.tr {D D' D2 : fx_D} (h : mo_fgr D D') (h2 : mo_fgr D' D2) : mo_fgr D D2 := ⟨fun x a => (h2.1 x a).trans (h.1 x a), fun x j a => (h2.2.1 x j a).trans (h.2.1 x j a), h2.2.2.trans h.2.2⟩
theorem mo_fgr.ua (D : fx_D) {x i : Nat} {v : Int32} (h : 23 ≤ x ∧ x ≤ 26 ∨ x = 29) : mo_fgr D (fx_ua D x i v) := ⟨fun y a => by simp [fx_ua, show ¬ y = x by omega], fun _ _ _ => rfl, rfl⟩
theorem mo_fgr.uf (D : fx_D) {v : Int32} : mo_fgr D (fx_uf D 0 37 v) := ⟨fun _ _ => rfl, fun y i hy => by
  by_cases h : y = 0
  · subst h
    have : ¬ i = 37 := fun e => hy ⟨rfl, e⟩
    simp [fx_uf, upd, upN, this]
  · simp [fx_uf, h], rfl⟩
theorem mo_fgr.fr (D : fx_D) {n : Nat} {k l r : Int32} : mo_fgr D (fr_D D n k l r) := ((((mo_fgr.uf D).tr (mo_fgr.ua _ (by omega))).tr (mo_fgr.ua _ (by omega))).tr (mo_fgr.ua _ (by omega))).tr (mo_fgr.ua _ (by omega))
theorem mo_fu.fgr {D D' : fx_D} (h : mo_fu D D') : mo_fgr D D' := ⟨fun x a => h.1 x (by omega) (by omega), fun x j _ => by rw [h.2], by rw [h.2]⟩
theorem gst_29 {D : fx_D} {N i : Nat} {v : Int32} {K L R lk ρ : Nat → Nat} (h : gst D N K L R lk ρ) : gst (fx_ua D 29 i v) N K L R lk ρ := ⟨ug_fu h.1 (mo_fu.ua D (Or.inr rfl)) (by simp [fx_ua]), h.2⟩
theorem gst_new {D : fx_D} {N l r : Nat} {K L R lk ρ : Nat → Nat} (h : gst D N K L R lk ρ) (hN : N < 192) (hl : ac N l) (hr : ac N r) : gst (fr_D D N (nI 3) (nI l) (nI r)) (N + 1) (upN K N 3) (upN L N l) (upN R N r) lk ρ := by
  obtain ⟨h1, h2, h3, h4, h5, h6, h7⟩ := h
  obtain ⟨z1, z2⟩ := lkr_out h3 h2 (show ¬ ac N N by unfold ac; omega)
  refine ⟨ug_new h1 h2 hN, ug_b_new h2 hN hl hr, h3, uf_new h4 z2 z1, by simp [fr_D, fx_ua, fx_uf, upd, upN], ?_, ?_⟩
  · simp only [upN, show ¬ 192 = N by omega, if_false]; exact h6
  · simp only [upN, show ¬ 193 = N by omega, if_false]; exact h7
/-- the nodes, the latest first, have these trees -/
def rpl (K L R : Nat → Nat) (N : Nat) (ms : List Nat) (fo : List ft) : Prop := ms.length = fo.length ∧ ∀ (j m : Nat) t, ms[j]? = some m → fo[j]? = some t → rep K L R m t ∧ ac N m
theorem rpl_cons {K L R : Nat → Nat} {N m : Nat} {ms : List Nat} {t : ft} {fo : List ft} (h : rpl K L R N ms fo) (h1 : rep K L R m t) (h2 : ac N m) : rpl K L R N (m :: ms) (t :: fo) := by
  refine ⟨by rw [List.length_cons, List.length_cons, h.1], fun j a b ha hb => ?_⟩
  cases j with
  | zero => cases ha; cases hb; exact ⟨h1, h2⟩
  | succ j => exact h.2 j a b ha hb
theorem rpl_tail {K L R : Nat → Nat} {N m : Nat} {ms : List Nat} {t : ft} {fo : List ft} (h : rpl K L R N (m :: ms) (t :: fo)) : rep K L R m t ∧ ac N m ∧ rpl K L R N ms fo := ⟨(h.2 0 m t rfl rfl).1, (h.2 0 m t rfl rfl).2, by have := h.1; simp at this; exact this, fun j a b ha hb => h.2 (j + 1) a b ha hb⟩
theorem rpl_gx {ρ : Nat → Nat} {N N' : Nat} {K L R K' L' R' : Nat → Nat} {ms : List Nat} {fo : List ft} (h : rpl K L R N ms fo) (hg : gx ρ N K L R N' K' L' R') : rpl K' L' R' N' ms fo := ⟨h.1, fun j a b ha hb => ⟨(h.2 j a b ha hb).1.gx hg, by have := (h.2 j a b ha hb).2; have := hg.1; unfold ac at *; omega⟩⟩
theorem ty_ps_le {t : Nat} : ∀ (n h : Nat), h ≤ n → (ty_ps t h).length ≤ h
  | 0, h, hh => by
    obtain rfl : h = 0 := by omega
    exact Nat.le_refl _
  | n + 1, 0, _ => Nat.le_refl _
  | n + 1, 1, _ => Nat.zero_le _
  | n + 1, h + 2, hh => by
    rw [ty_ps, List.length_cons]
    split
    · have := ty_ps_le (t := t) n (h + 1) (by omega)
      omega
    · have := ty_ps_le (t := t) n h (by omega)
      omega
theorem dMO_nodeOf_0 : decode prog_13_method_34_code 0 = .ok (.iconst 0, 1) := by decide +kernel
theorem dMO_nodeOf_1 : decode prog_13_method_34_code 1 = .ok (.istore_n 2, 1) := by decide +kernel
theorem dMO_nodeOf_2 : decode prog_13_method_34_code 2 = .ok (.iload_n 1, 1) := by decide +kernel
theorem dMO_nodeOf_3 : decode prog_13_method_34_code 3 = .ok (.invokestatic 97, 3) := by decide +kernel
theorem dMO_nodeOf_6 : decode prog_13_method_34_code 6 = .ok (.istore_n 3, 1) := by decide +kernel
theorem dMO_nodeOf_7 : decode prog_13_method_34_code 7 = .ok (.iload_n 3, 1) := by decide +kernel
theorem dMO_nodeOf_8 : decode prog_13_method_34_code 8 = .ok (.istore 4, 2) := by decide +kernel
theorem dMO_nodeOf_10 : decode prog_13_method_34_code 10 = .ok (.iload 4, 2) := by decide +kernel
theorem dMO_nodeOf_12 : decode prog_13_method_34_code 12 = .ok (.ifCond .le (38), 3) := by decide +kernel
theorem dMO_nodeOf_15 : decode prog_13_method_34_code 15 = .ok (.aload_n 0, 1) := by decide +kernel
theorem dMO_nodeOf_16 : decode prog_13_method_34_code 16 = .ok (.getfield 94, 3) := by decide +kernel
theorem dMO_nodeOf_19 : decode prog_13_method_34_code 19 = .ok (.sipush (200), 3) := by decide +kernel
theorem dMO_nodeOf_22 : decode prog_13_method_34_code 22 = .ok (.iload_n 2, 1) := by decide +kernel
theorem dMO_nodeOf_23 : decode prog_13_method_34_code 23 = .ok (.iinc 2 (1), 3) := by decide +kernel
theorem dMO_nodeOf_26 : decode prog_13_method_34_code 26 = .ok (.iadd, 1) := by decide +kernel
theorem dMO_nodeOf_27 : decode prog_13_method_34_code 27 = .ok (.iload 4, 2) := by decide +kernel
theorem dMO_nodeOf_29 : decode prog_13_method_34_code 29 = .ok (.iastore, 1) := by decide +kernel
theorem dMO_nodeOf_30 : decode prog_13_method_34_code 30 = .ok (.iload_n 1, 1) := by decide +kernel
theorem dMO_nodeOf_31 : decode prog_13_method_34_code 31 = .ok (.iload 4, 2) := by decide +kernel
theorem dMO_nodeOf_33 : decode prog_13_method_34_code 33 = .ok (.iconst 1, 1) := by decide +kernel
theorem dMO_nodeOf_34 : decode prog_13_method_34_code 34 = .ok (.isub, 1) := by decide +kernel
theorem dMO_nodeOf_35 : decode prog_13_method_34_code 35 = .ok (.ishr, 1) := by decide +kernel
theorem dMO_nodeOf_36 : decode prog_13_method_34_code 36 = .ok (.iconst 1, 1) := by decide +kernel
theorem dMO_nodeOf_37 : decode prog_13_method_34_code 37 = .ok (.iand, 1) := by decide +kernel
theorem dMO_nodeOf_38 : decode prog_13_method_34_code 38 = .ok (.ifCond .ne (6), 3) := by decide +kernel
theorem dMO_nodeOf_41 : decode prog_13_method_34_code 41 = .ok (.iinc 4 (-1), 3) := by decide +kernel
theorem dMO_nodeOf_44 : decode prog_13_method_34_code 44 = .ok (.iinc 4 (-1), 3) := by decide +kernel
theorem dMO_nodeOf_47 : decode prog_13_method_34_code 47 = .ok (.goto (-37), 3) := by decide +kernel
theorem dMO_nodeOf_50 : decode prog_13_method_34_code 50 = .ok (.iconst 0, 1) := by decide +kernel
theorem dMO_nodeOf_51 : decode prog_13_method_34_code 51 = .ok (.istore 4, 2) := by decide +kernel
theorem dMO_nodeOf_53 : decode prog_13_method_34_code 53 = .ok (.iload_n 2, 1) := by decide +kernel
theorem dMO_nodeOf_54 : decode prog_13_method_34_code 54 = .ok (.iconst 1, 1) := by decide +kernel
theorem dMO_nodeOf_55 : decode prog_13_method_34_code 55 = .ok (.isub, 1) := by decide +kernel
theorem dMO_nodeOf_56 : decode prog_13_method_34_code 56 = .ok (.istore 5, 2) := by decide +kernel
theorem dMO_nodeOf_58 : decode prog_13_method_34_code 58 = .ok (.iload 5, 2) := by decide +kernel
theorem dMO_nodeOf_60 : decode prog_13_method_34_code 60 = .ok (.ifCond .lt (109), 3) := by decide +kernel
theorem dMO_nodeOf_63 : decode prog_13_method_34_code 63 = .ok (.aload_n 0, 1) := by decide +kernel
theorem dMO_nodeOf_64 : decode prog_13_method_34_code 64 = .ok (.getfield 94, 3) := by decide +kernel
theorem dMO_nodeOf_67 : decode prog_13_method_34_code 67 = .ok (.sipush (200), 3) := by decide +kernel
theorem dMO_nodeOf_70 : decode prog_13_method_34_code 70 = .ok (.iload 5, 2) := by decide +kernel
theorem dMO_nodeOf_72 : decode prog_13_method_34_code 72 = .ok (.iadd, 1) := by decide +kernel
theorem dMO_nodeOf_73 : decode prog_13_method_34_code 73 = .ok (.iaload, 1) := by decide +kernel
theorem dMO_nodeOf_74 : decode prog_13_method_34_code 74 = .ok (.istore 6, 2) := by decide +kernel
theorem dMO_nodeOf_76 : decode prog_13_method_34_code 76 = .ok (.iload_n 1, 1) := by decide +kernel
theorem dMO_nodeOf_77 : decode prog_13_method_34_code 77 = .ok (.iload 6, 2) := by decide +kernel
theorem dMO_nodeOf_79 : decode prog_13_method_34_code 79 = .ok (.iconst 1, 1) := by decide +kernel
theorem dMO_nodeOf_80 : decode prog_13_method_34_code 80 = .ok (.isub, 1) := by decide +kernel
theorem dMO_nodeOf_81 : decode prog_13_method_34_code 81 = .ok (.ishr, 1) := by decide +kernel
theorem dMO_nodeOf_82 : decode prog_13_method_34_code 82 = .ok (.iconst 1, 1) := by decide +kernel
theorem dMO_nodeOf_83 : decode prog_13_method_34_code 83 = .ok (.iand, 1) := by decide +kernel
theorem dMO_nodeOf_84 : decode prog_13_method_34_code 84 = .ok (.ifCond .ne (36), 3) := by decide +kernel
theorem dMO_nodeOf_87 : decode prog_13_method_34_code 87 = .ok (.aload_n 0, 1) := by decide +kernel
theorem dMO_nodeOf_88 : decode prog_13_method_34_code 88 = .ok (.getfield 94, 3) := by decide +kernel
theorem dMO_nodeOf_91 : decode prog_13_method_34_code 91 = .ok (.iload 4, 2) := by decide +kernel
theorem dMO_nodeOf_93 : decode prog_13_method_34_code 93 = .ok (.iinc 4 (1), 3) := by decide +kernel
theorem dMO_nodeOf_96 : decode prog_13_method_34_code 96 = .ok (.iload_n 1, 1) := by decide +kernel
theorem dMO_nodeOf_97 : decode prog_13_method_34_code 97 = .ok (.iload 6, 2) := by decide +kernel
theorem dMO_nodeOf_99 : decode prog_13_method_34_code 99 = .ok (.iconst 2, 1) := by decide +kernel
theorem dMO_nodeOf_100 : decode prog_13_method_34_code 100 = .ok (.isub, 1) := by decide +kernel
theorem dMO_nodeOf_101 : decode prog_13_method_34_code 101 = .ok (.ishr, 1) := by decide +kernel
theorem dMO_nodeOf_102 : decode prog_13_method_34_code 102 = .ok (.iconst 1, 1) := by decide +kernel
theorem dMO_nodeOf_103 : decode prog_13_method_34_code 103 = .ok (.iand, 1) := by decide +kernel
theorem dMO_nodeOf_104 : decode prog_13_method_34_code 104 = .ok (.ifCond .ne (9), 3) := by decide +kernel
theorem dMO_nodeOf_107 : decode prog_13_method_34_code 107 = .ok (.sipush (192), 3) := by decide +kernel
theorem dMO_nodeOf_110 : decode prog_13_method_34_code 110 = .ok (.goto (6), 3) := by decide +kernel
theorem dMO_nodeOf_113 : decode prog_13_method_34_code 113 = .ok (.sipush (193), 3) := by decide +kernel
theorem dMO_nodeOf_116 : decode prog_13_method_34_code 116 = .ok (.iastore, 1) := by decide +kernel
theorem dMO_nodeOf_117 : decode prog_13_method_34_code 117 = .ok (.goto (46), 3) := by decide +kernel
theorem dMO_nodeOf_120 : decode prog_13_method_34_code 120 = .ok (.aload_n 0, 1) := by decide +kernel
theorem dMO_nodeOf_121 : decode prog_13_method_34_code 121 = .ok (.getfield 94, 3) := by decide +kernel
theorem dMO_nodeOf_124 : decode prog_13_method_34_code 124 = .ok (.iinc 4 (-1), 3) := by decide +kernel
theorem dMO_nodeOf_127 : decode prog_13_method_34_code 127 = .ok (.iload 4, 2) := by decide +kernel
theorem dMO_nodeOf_129 : decode prog_13_method_34_code 129 = .ok (.iaload, 1) := by decide +kernel
theorem dMO_nodeOf_130 : decode prog_13_method_34_code 130 = .ok (.istore 7, 2) := by decide +kernel
theorem dMO_nodeOf_132 : decode prog_13_method_34_code 132 = .ok (.aload_n 0, 1) := by decide +kernel
theorem dMO_nodeOf_133 : decode prog_13_method_34_code 133 = .ok (.getfield 94, 3) := by decide +kernel
theorem dMO_nodeOf_136 : decode prog_13_method_34_code 136 = .ok (.iinc 4 (-1), 3) := by decide +kernel
theorem dMO_nodeOf_139 : decode prog_13_method_34_code 139 = .ok (.iload 4, 2) := by decide +kernel
theorem dMO_nodeOf_141 : decode prog_13_method_34_code 141 = .ok (.iaload, 1) := by decide +kernel
theorem dMO_nodeOf_142 : decode prog_13_method_34_code 142 = .ok (.istore 8, 2) := by decide +kernel
theorem dMO_nodeOf_144 : decode prog_13_method_34_code 144 = .ok (.aload_n 0, 1) := by decide +kernel
theorem dMO_nodeOf_145 : decode prog_13_method_34_code 145 = .ok (.getfield 94, 3) := by decide +kernel
theorem dMO_nodeOf_148 : decode prog_13_method_34_code 148 = .ok (.iload 4, 2) := by decide +kernel
theorem dMO_nodeOf_150 : decode prog_13_method_34_code 150 = .ok (.iinc 4 (1), 3) := by decide +kernel
theorem dMO_nodeOf_153 : decode prog_13_method_34_code 153 = .ok (.aload_n 0, 1) := by decide +kernel
theorem dMO_nodeOf_154 : decode prog_13_method_34_code 154 = .ok (.iconst 3, 1) := by decide +kernel
theorem dMO_nodeOf_155 : decode prog_13_method_34_code 155 = .ok (.iload 7, 2) := by decide +kernel
theorem dMO_nodeOf_157 : decode prog_13_method_34_code 157 = .ok (.iload 8, 2) := by decide +kernel
theorem dMO_nodeOf_159 : decode prog_13_method_34_code 159 = .ok (.invokevirtual 164, 3) := by decide +kernel
theorem dMO_nodeOf_162 : decode prog_13_method_34_code 162 = .ok (.iastore, 1) := by decide +kernel
theorem dMO_nodeOf_163 : decode prog_13_method_34_code 163 = .ok (.iinc 5 (-1), 3) := by decide +kernel
theorem dMO_nodeOf_166 : decode prog_13_method_34_code 166 = .ok (.goto (-108), 3) := by decide +kernel
theorem dMO_nodeOf_169 : decode prog_13_method_34_code 169 = .ok (.aload_n 0, 1) := by decide +kernel
theorem dMO_nodeOf_170 : decode prog_13_method_34_code 170 = .ok (.getfield 94, 3) := by decide +kernel
theorem dMO_nodeOf_173 : decode prog_13_method_34_code 173 = .ok (.iconst 0, 1) := by decide +kernel
theorem dMO_nodeOf_174 : decode prog_13_method_34_code 174 = .ok (.iaload, 1) := by decide +kernel
theorem dMO_nodeOf_175 : decode prog_13_method_34_code 175 = .ok (.ireturn, 1) := by decide +kernel
theorem l_MO_nodeOf1 {G : sd_G} {o : Nat} {h0 : sd_H} {nx t : Nat} {Q : sd_Q} (hB : G.2.1 ≤ o) (ht : t < 2 ^ 25) : ∀ (n h e top : Nat) (D : fx_D), h ≤ n → h ≤ 24 → top + h ≤ 100 → ty_ex t h e = some 0 → (∀ D' : fx_D, (∀ x, x ≠ 29 → D'.1 x = D.1 x) → D'.2 = D.2 → (∀ i, i < 200 + top → D'.1 29 i = D.1 29 i) → (∀ (j p : Nat), (ty_ps t h)[j]? = some p → D'.1 29 (200 + top + j) = nI p) → sd_W G mMO_nodeOf 2 0 0 Q 50 [(0, .ref (o + 0)), (1, .int (nI t)), (2, .int (nI (top + (ty_ps t h).length)))] [] (fx_h G.1.2 mo_S o D' h0) nx 0 0) → sd_W G mMO_nodeOf 2 0 0 Q 10 [(0, .ref (o + 0)), (1, .int (nI t)), (2, .int (nI top)), (4, .int (nI h))] [] (fx_h G.1.2 mo_S o D h0) nx 0 0 := by
  intro n
  induction n with
  | zero =>
    intro h e top D hh h24 htop he K
    obtain rfl : h = 0 := by omega
    have k := K D (fun _ _ => rfl) rfl (fun _ _ => rfl) (fun j p hj => by simp [ty_ps] at hj)
    refine sd_iload dMO_nodeOf_10 rfl ?_
    refine nn_if_le 50 dMO_nodeOf_12 (by decide) (by decide) (fun _ => ?_) (fun c => absurd c (by decide))
    refine sd_locp (al' := [(0, .ref (o + (0))), (1, .int (nI (t))), (2, .int (nI (top)))]) [0, 1, 2] rfl ?_
    exact k
  | succ n ih =>
    intro h e top D hh h24 htop he K
    match h, e, he with
    | 0, e, he =>
      have k := K D (fun _ _ => rfl) rfl (fun _ _ => rfl) (fun j p hj => by simp [ty_ps] at hj)
      refine sd_iload dMO_nodeOf_10 rfl ?_
      refine nn_if_le 50 dMO_nodeOf_12 (by decide) (by decide) (fun _ => ?_) (fun c => absurd c (by decide))
      refine sd_locp (al' := [(0, .ref (o + (0))), (1, .int (nI (t))), (2, .int (nI (top)))]) [0, 1, 2] rfl ?_
      exact k
    | h + 1, 0, he => simp [ty_ex] at he
    | 1, e + 1, he => simp [ty_ex] at he
    | h + 2, e + 1, he =>
      rw [ty_ex] at he
      have htd : t / 2 ^ (h + 1) < 2 ^ 31 := tp_div (by omega)
      have go : ∀ (h' e' : Nat), h' ≤ n → h' < h + 2 → ty_ex t h' e' = some 0 → ty_ps t (h + 2) = (h + 2) :: ty_ps t h' → sd_W G mMO_nodeOf 2 0 0 Q 10 [(0, .ref (o + 0)), (1, .int (nI t)), (2, .int (nI (top + 1))), (4, .int (nI h'))] [] (fx_h G.1.2 mo_S o (fx_ua D 29 (200 + top) (nI (h + 2))) h0) nx 0 0 := by
        intro h' e' l1 l2 he' hps
        refine ih h' e' (top + 1) _ l1 (by omega) (by omega) he' (fun D' a1 a2 a3 a4 => ?_)
        have k := K D' (fun x hx => (a1 x hx).trans (by simp [fx_ua, hx])) (a2.trans rfl) (fun i hi => (a3 i (by omega)).trans (by rw [ua_at, if_neg (by omega)])) (fun j p hj => by
          rw [hps] at hj
          cases j with
          | zero =>
            cases hj
            rw [Nat.add_zero, a3 _ (by omega), ua_at, if_pos rfl]
          | succ j =>
            have := a4 j p hj
            rw [show 200 + (top + 1) + j = 200 + top + (j + 1) by omega] at this
            exact this)
        rw [hps, List.length_cons, show top + ((ty_ps t h').length + 1) = top + 1 + (ty_ps t h').length by omega] at k
        exact k
      by_cases hb : t / 2 ^ (h + 1) % 2 = 1
      · rw [if_pos hb] at he
        have nxt := go (h + 1) (e + 2) (by omega) (by omega) he (by rw [ty_ps, if_pos hb])
        refine sd_iload dMO_nodeOf_10 rfl ?_
        refine nn_if_le 50 dMO_nodeOf_12 (by decide) (by omega) (fun c12 => ?_) (fun c12 => ?_)
        ·
          exact absurd c12 (by omega)
        ·
          refine sd_aload_n dMO_nodeOf_15 rfl rfl ?_
          refine fx_getr 10 36 (29) dMO_nodeOf_16 fMO_94 rfl rfl ?_
          refine sd_sipush (v := nI 200) dMO_nodeOf_19 (by decide) ?_
          refine sd_iload_n dMO_nodeOf_22 rfl rfl ?_
          refine nn_iinc 1 dMO_nodeOf_23 rfl (by decide) ?_
          refine nn_iadd dMO_nodeOf_26 ?_
          refine sd_iload dMO_nodeOf_27 rfl ?_
          refine fx_iast (200 + top) dMO_nodeOf_29 rfl rfl (by omega) (by decide) hB ?_
          refine sd_iload_n dMO_nodeOf_30 rfl rfl ?_
          refine sd_iload dMO_nodeOf_31 rfl ?_
          refine sd_iconst (v := nI 1) dMO_nodeOf_33 (by decide) ?_
          refine nn_isub dMO_nodeOf_34 (by omega) ?_
          refine nn_ishr dMO_nodeOf_35 (by omega) (by omega) ?_
          refine sd_iconst (v := nI 1) dMO_nodeOf_36 (by decide) ?_
          refine nn_iand1 dMO_nodeOf_37 htd ?_
          refine nn_if_ne 44 dMO_nodeOf_38 (by decide) (by omega) (fun c38 => ?_) (fun c38 => ?_)
          ·
            refine nn_idec dMO_nodeOf_44 rfl (by omega) (by decide) ?_
            refine sd_goto 10 dMO_nodeOf_47 (by decide) ?_
            refine sd_locp (al' := [(0, .ref (o + (0))), (1, .int (nI (t))), (2, .int (nI (top + 1))), (4, .int (nI (h + 2 - 1)))]) [2, 3, 1, 0] rfl ?_
            exact nxt
          ·
            exact absurd c38 (by show ¬ t / 2 ^ (h + 1) % 2 = 0; omega)
      · rw [if_neg hb] at he
        have nxt := go h e (by omega) (by omega) he (by rw [ty_ps, if_neg hb])
        refine sd_iload dMO_nodeOf_10 rfl ?_
        refine nn_if_le 50 dMO_nodeOf_12 (by decide) (by omega) (fun c12 => ?_) (fun c12 => ?_)
        ·
          exact absurd c12 (by omega)
        ·
          refine sd_aload_n dMO_nodeOf_15 rfl rfl ?_
          refine fx_getr 10 36 (29) dMO_nodeOf_16 fMO_94 rfl rfl ?_
          refine sd_sipush (v := nI 200) dMO_nodeOf_19 (by decide) ?_
          refine sd_iload_n dMO_nodeOf_22 rfl rfl ?_
          refine nn_iinc 1 dMO_nodeOf_23 rfl (by decide) ?_
          refine nn_iadd dMO_nodeOf_26 ?_
          refine sd_iload dMO_nodeOf_27 rfl ?_
          refine fx_iast (200 + top) dMO_nodeOf_29 rfl rfl (by omega) (by decide) hB ?_
          refine sd_iload_n dMO_nodeOf_30 rfl rfl ?_
          refine sd_iload dMO_nodeOf_31 rfl ?_
          refine sd_iconst (v := nI 1) dMO_nodeOf_33 (by decide) ?_
          refine nn_isub dMO_nodeOf_34 (by omega) ?_
          refine nn_ishr dMO_nodeOf_35 (by omega) (by omega) ?_
          refine sd_iconst (v := nI 1) dMO_nodeOf_36 (by decide) ?_
          refine nn_iand1 dMO_nodeOf_37 htd ?_
          refine nn_if_ne 44 dMO_nodeOf_38 (by decide) (by omega) (fun c38 => ?_) (fun c38 => ?_)
          ·
            exact absurd (show t / 2 ^ (h + 1) % 2 = 0 by omega) c38
          ·
            refine nn_idec dMO_nodeOf_41 rfl (by omega) (by decide) ?_
            refine nn_idec dMO_nodeOf_44 rfl (by omega) (by decide) ?_
            refine sd_goto 10 dMO_nodeOf_47 (by decide) ?_
            refine sd_locp (al' := [(0, .ref (o + (0))), (1, .int (nI (t))), (2, .int (nI (top + 1))), (4, .int (nI (h + 2 - 1 - 1)))]) [2, 3, 1, 0] rfl ?_
            exact nxt
