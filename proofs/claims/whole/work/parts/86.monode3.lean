/-! ===== the model: nodeOf, its second loop ===== -/
theorem sk_f {D D' : fx_D} {l : List Nat} (h : sk D l) (hf : ∀ i, i < l.length → D'.1 29 i = D.1 29 i) : sk D' l := fun i v hi => by rw [hf i (getE_lt hi)]; exact h i v hi
/-- behind the places from i on of nodeOf's second loop -/
def nd_P (t : Nat) (lk ρ : Nat → Nat) (h : Nat) (D : fx_D) (N : Nat) (K L R : Nat → Nat) (D' : fx_D) (ms : List Nat) : Prop := ∃ K' L' R', gst D' (N + ty_nf t h) K' L' R' lk ρ ∧ gx ρ N K L R (N + ty_nf t h) K' L' R' ∧ sk D' ms.reverse ∧ rpl K' L' R' (N + ty_nf t h) ms (ty_fo t h) ∧ (∀ j, 200 ≤ j → D'.1 29 j = D.1 29 j) ∧ mo_fgr D D' ∧ (∀ z, z < 72 → iso K L R ρ z → iso K' L' R' ρ z) ∧ ∀ m ∈ ms, 72 ≤ m
theorem x_MO_leaf {G : sd_G} {o : Nat} {D : fx_D} {h0 : sd_H} {nx t h i b : Nat} {ms : List Nat} {Q : sd_Q} (hB : G.2.1 ≤ o) (ht : t < 2 ^ 25) (h24 : h + 2 ≤ 24) (hi : i < 100) (hm : ms.length < 100) (d29 : D.1 29 (200 + i) = nI (h + 2)) (hb0 : t / 2 ^ (h + 1) % 2 = 0) (hb : b = if t / 2 ^ h % 2 = 0 then 192 else 193) (K : sd_W G mMO_nodeOf 2 0 0 Q 58 [(0, .ref (o + 0)), (1, .int (nI t)), (4, .int (nI (ms.length + 1))), (5, .int (ix i))] [] (fx_h G.1.2 mo_S o (fx_ua D 29 ms.length (nI b)) h0) nx 0 0) : sd_W G mMO_nodeOf 2 0 0 Q 58 [(0, .ref (o + 0)), (1, .int (nI t)), (4, .int (nI ms.length)), (5, .int (nI i))] [] (fx_h G.1.2 mo_S o D h0) nx 0 0 := by
  have htd : t / 2 ^ (h + 1) < 2 ^ 31 := tp_div (by omega)
  have htd2 : t / 2 ^ h < 2 ^ 31 := tp_div (by omega)
  by_cases e : t / 2 ^ h % 2 = 0
  · rw [if_pos e] at hb
    subst hb
    refine sd_iload dMO_nodeOf_58 rfl ?_
    refine nn_if_lt dMO_nodeOf_60 169 (by decide) (by omega) ?_
    refine sd_aload_n dMO_nodeOf_63 rfl rfl ?_
    refine fx_getr 10 36 (29) dMO_nodeOf_64 fMO_94 rfl rfl ?_
    refine sd_sipush (v := nI 200) dMO_nodeOf_67 (by decide) ?_
    refine sd_iload dMO_nodeOf_70 rfl ?_
    refine nn_iadd dMO_nodeOf_72 ?_
    refine fx_ialdv (v := (nI (h + 2))) (200 + i) dMO_nodeOf_73 rfl rfl (by omega) (by decide) (d29) ?_
    refine sd_istore dMO_nodeOf_74 (by decide) ?_
    refine sd_iload_n dMO_nodeOf_76 rfl rfl ?_
    refine sd_iload dMO_nodeOf_77 rfl ?_
    refine sd_iconst (v := nI 1) dMO_nodeOf_79 (by decide) ?_
    refine nn_isub dMO_nodeOf_80 (by omega) ?_
    refine nn_ishr dMO_nodeOf_81 (by omega) (by omega) ?_
    refine sd_iconst (v := nI 1) dMO_nodeOf_82 (by decide) ?_
    refine nn_iand1 dMO_nodeOf_83 htd ?_
    refine nn_if_ne 120 dMO_nodeOf_84 (by decide) (by omega) (fun c84 => ?_) (fun c84 => ?_)
    ·
      exact absurd (show t / 2 ^ (h + 1) % 2 = 0 from hb0) c84
    ·
      refine sd_aload_n dMO_nodeOf_87 rfl rfl ?_
      refine fx_getr 10 36 (29) dMO_nodeOf_88 fMO_94 rfl rfl ?_
      refine sd_iload dMO_nodeOf_91 rfl ?_
      refine nn_iinc 1 dMO_nodeOf_93 rfl (by decide) ?_
      refine sd_iload_n dMO_nodeOf_96 rfl rfl ?_
      refine sd_iload dMO_nodeOf_97 rfl ?_
      refine sd_iconst (v := nI 2) dMO_nodeOf_99 (by decide) ?_
      refine nn_isub dMO_nodeOf_100 (by omega) ?_
      refine nn_ishr dMO_nodeOf_101 (by omega) (by omega) ?_
      refine sd_iconst (v := nI 1) dMO_nodeOf_102 (by decide) ?_
      refine nn_iand1 dMO_nodeOf_103 htd2 ?_
      refine nn_if_ne 113 dMO_nodeOf_104 (by decide) (by omega) (fun c104 => ?_) (fun c104 => ?_)
      ·
        exact absurd (show t / 2 ^ h % 2 = 0 from e) c104
      ·
        refine sd_sipush (v := nI 192) dMO_nodeOf_107 (by decide) ?_
        refine sd_goto 116 dMO_nodeOf_110 (by decide) ?_
        refine fx_iast (ms.length) dMO_nodeOf_116 rfl rfl (by omega) (by decide) hB ?_
        refine sd_goto 163 dMO_nodeOf_117 (by decide) ?_
        refine sd_iinc (ix i) dMO_nodeOf_163 rfl (ix_dec i) (by decide) ?_
        refine sd_goto 58 dMO_nodeOf_166 (by decide) ?_
        refine sd_locp (al' := [(0, .ref (o + (0))), (1, .int (nI (t))), (4, .int (nI (ms.length + 1))), (5, .int (ix i))]) [3, 4, 1, 0] rfl ?_
        exact K
  · rw [if_neg e] at hb
    subst hb
    refine sd_iload dMO_nodeOf_58 rfl ?_
    refine nn_if_lt dMO_nodeOf_60 169 (by decide) (by omega) ?_
    refine sd_aload_n dMO_nodeOf_63 rfl rfl ?_
    refine fx_getr 10 36 (29) dMO_nodeOf_64 fMO_94 rfl rfl ?_
    refine sd_sipush (v := nI 200) dMO_nodeOf_67 (by decide) ?_
    refine sd_iload dMO_nodeOf_70 rfl ?_
    refine nn_iadd dMO_nodeOf_72 ?_
    refine fx_ialdv (v := (nI (h + 2))) (200 + i) dMO_nodeOf_73 rfl rfl (by omega) (by decide) (d29) ?_
    refine sd_istore dMO_nodeOf_74 (by decide) ?_
    refine sd_iload_n dMO_nodeOf_76 rfl rfl ?_
    refine sd_iload dMO_nodeOf_77 rfl ?_
    refine sd_iconst (v := nI 1) dMO_nodeOf_79 (by decide) ?_
    refine nn_isub dMO_nodeOf_80 (by omega) ?_
    refine nn_ishr dMO_nodeOf_81 (by omega) (by omega) ?_
    refine sd_iconst (v := nI 1) dMO_nodeOf_82 (by decide) ?_
    refine nn_iand1 dMO_nodeOf_83 htd ?_
    refine nn_if_ne 120 dMO_nodeOf_84 (by decide) (by omega) (fun c84 => ?_) (fun c84 => ?_)
    ·
      exact absurd (show t / 2 ^ (h + 1) % 2 = 0 from hb0) c84
    ·
      refine sd_aload_n dMO_nodeOf_87 rfl rfl ?_
      refine fx_getr 10 36 (29) dMO_nodeOf_88 fMO_94 rfl rfl ?_
      refine sd_iload dMO_nodeOf_91 rfl ?_
      refine nn_iinc 1 dMO_nodeOf_93 rfl (by decide) ?_
      refine sd_iload_n dMO_nodeOf_96 rfl rfl ?_
      refine sd_iload dMO_nodeOf_97 rfl ?_
      refine sd_iconst (v := nI 2) dMO_nodeOf_99 (by decide) ?_
      refine nn_isub dMO_nodeOf_100 (by omega) ?_
      refine nn_ishr dMO_nodeOf_101 (by omega) (by omega) ?_
      refine sd_iconst (v := nI 1) dMO_nodeOf_102 (by decide) ?_
      refine nn_iand1 dMO_nodeOf_103 htd2 ?_
      refine nn_if_ne 113 dMO_nodeOf_104 (by decide) (by omega) (fun c104 => ?_) (fun c104 => ?_)
      ·
        refine sd_sipush (v := nI 193) dMO_nodeOf_113 (by decide) ?_
        refine fx_iast (ms.length) dMO_nodeOf_116 rfl rfl (by omega) (by decide) hB ?_
        refine sd_goto 163 dMO_nodeOf_117 (by decide) ?_
        refine sd_iinc (ix i) dMO_nodeOf_163 rfl (ix_dec i) (by decide) ?_
        refine sd_goto 58 dMO_nodeOf_166 (by decide) ?_
        refine sd_locp (al' := [(0, .ref (o + (0))), (1, .int (nI (t))), (4, .int (nI (ms.length + 1))), (5, .int (ix i))]) [3, 4, 1, 0] rfl ?_
        exact K
      ·
        exact absurd (show t / 2 ^ h % 2 = 0 from c104) e
theorem x_MO_func {G : sd_G} {o : Nat} {D : fx_D} {h0 : sd_H} {nx t h i l r N : Nat} {rest : List Nat} {Q : sd_Q} (hB : G.2.1 ≤ o) (ht : t < 2 ^ 25) (h24 : h + 2 ≤ 24) (hi : i < 100) (hm : rest.length < 100) (hN : N < 192) (d29 : D.1 29 (200 + i) = nI (h + 2)) (d37 : D.2.1 0 37 = nI N) (hb1 : t / 2 ^ (h + 1) % 2 = 1) (e1 : D.1 29 (rest.length + 1) = nI l) (e2 : D.1 29 rest.length = nI r) (K : sd_W G mMO_nodeOf 2 0 0 Q 58 [(0, .ref (o + 0)), (1, .int (nI t)), (4, .int (nI (rest.length + 1))), (5, .int (ix i))] [] (fx_h G.1.2 mo_S o (fx_ua (fr_D D N (nI 3) (nI l) (nI r)) 29 rest.length (nI N)) h0) nx 0 0) : sd_W G mMO_nodeOf 2 0 0 Q 58 [(0, .ref (o + 0)), (1, .int (nI t)), (4, .int (nI (rest.length + 2))), (5, .int (nI i))] [] (fx_h G.1.2 mo_S o D h0) nx 0 0 := by
  have htd : t / 2 ^ (h + 1) < 2 ^ 31 := tp_div (by omega)
  refine sd_iload dMO_nodeOf_58 rfl ?_
  refine nn_if_lt dMO_nodeOf_60 169 (by decide) (by omega) ?_
  refine sd_aload_n dMO_nodeOf_63 rfl rfl ?_
  refine fx_getr 10 36 (29) dMO_nodeOf_64 fMO_94 rfl rfl ?_
  refine sd_sipush (v := nI 200) dMO_nodeOf_67 (by decide) ?_
  refine sd_iload dMO_nodeOf_70 rfl ?_
  refine nn_iadd dMO_nodeOf_72 ?_
  refine fx_ialdv (v := (nI (h + 2))) (200 + i) dMO_nodeOf_73 rfl rfl (by omega) (by decide) (d29) ?_
  refine sd_istore dMO_nodeOf_74 (by decide) ?_
  refine sd_iload_n dMO_nodeOf_76 rfl rfl ?_
  refine sd_iload dMO_nodeOf_77 rfl ?_
  refine sd_iconst (v := nI 1) dMO_nodeOf_79 (by decide) ?_
  refine nn_isub dMO_nodeOf_80 (by omega) ?_
  refine nn_ishr dMO_nodeOf_81 (by omega) (by omega) ?_
  refine sd_iconst (v := nI 1) dMO_nodeOf_82 (by decide) ?_
  refine nn_iand1 dMO_nodeOf_83 htd ?_
  refine nn_if_ne 120 dMO_nodeOf_84 (by decide) (by omega) (fun c84 => ?_) (fun c84 => ?_)
  ·
    refine sd_aload_n dMO_nodeOf_120 rfl rfl ?_
    refine fx_getr 10 36 (29) dMO_nodeOf_121 fMO_94 rfl rfl ?_
    refine nn_idec dMO_nodeOf_124 rfl (by omega) (by decide) ?_
    refine sd_iload dMO_nodeOf_127 rfl ?_
    refine fx_ialdv (v := (nI (l))) (rest.length + 2 - 1) dMO_nodeOf_129 rfl rfl (by omega) (by decide) (e1) ?_
    refine sd_istore dMO_nodeOf_130 (by decide) ?_
    refine sd_aload_n dMO_nodeOf_132 rfl rfl ?_
    refine fx_getr 10 36 (29) dMO_nodeOf_133 fMO_94 rfl rfl ?_
    refine nn_idec dMO_nodeOf_136 rfl (by omega) (by decide) ?_
    refine sd_iload dMO_nodeOf_139 rfl ?_
    refine fx_ialdv (v := (nI (r))) (rest.length + 2 - 1 - 1) dMO_nodeOf_141 rfl rfl (by omega) (by decide) (e2) ?_
    refine sd_istore dMO_nodeOf_142 (by decide) ?_
    refine sd_aload_n dMO_nodeOf_144 rfl rfl ?_
    refine fx_getr 10 36 (29) dMO_nodeOf_145 fMO_94 rfl rfl ?_
    refine sd_iload dMO_nodeOf_148 rfl ?_
    refine nn_iinc 1 dMO_nodeOf_150 rfl (by decide) ?_
    refine sd_aload_n dMO_nodeOf_153 rfl rfl ?_
    refine sd_iconst (v := nI 3) dMO_nodeOf_154 (by decide) ?_
    refine sd_iload dMO_nodeOf_155 rfl ?_
    refine sd_iload dMO_nodeOf_157 rfl ?_
    refine fx_cV 10 sR_MO [.int (nI (3)), .int (nI (l)), .int (nI (r))] [.int (nI (rest.length + 2 - 1 - 1)), .ref (o + (29))] dMO_nodeOf_159 kMO_164 rfl rfl mMO_fresh_v (c_MO_fresh hB (by omega) d37) (by decide) (Nat.le_refl _) (Nat.le_refl _) (Nat.le_of_ble_eq_true rfl) rfl ?_
    refine fx_iast (rest.length + 2 - 1 - 1) dMO_nodeOf_162 rfl rfl (by omega) (by decide) hB ?_
    refine sd_iinc (ix i) dMO_nodeOf_163 rfl (ix_dec i) (by decide) ?_
    refine sd_goto 58 dMO_nodeOf_166 (by decide) ?_
    refine sd_locp (al' := [(0, .ref (o + (0))), (1, .int (nI (t))), (4, .int (nI (rest.length + 2 - 1 - 1 + 1))), (5, .int (ix i))]) [5, 6, 1, 0] rfl ?_
    exact K
  ·
    exact absurd c84 (by show ¬ t / 2 ^ (h + 1) % 2 = 0; omega)
theorem l_MO_nodeOf2 {G : sd_G} {o : Nat} {h0 : sd_H} {nx t : Nat} {lk ρ : Nat → Nat} {Q : sd_Q} (hB : G.2.1 ≤ o) (ht : t < 2 ^ 25) : ∀ (n h e i N : Nat) (D : fx_D) (K L R : Nat → Nat), h ≤ n → h ≤ 24 → i + h ≤ 24 → e ≤ 24 → ty_ex t h e = some 0 → gst D N K L R lk ρ → N + ty_nf t h ≤ 192 → 72 ≤ N → (∀ (j p : Nat), (ty_ps t h)[j]? = some p → D.1 29 (200 + i + j) = nI p) →
    (∀ (D' : fx_D) (ms : List Nat), nd_P t lk ρ h D N K L R D' ms → sd_W G mMO_nodeOf 2 0 0 Q 58 [(0, .ref (o + 0)), (1, .int (nI t)), (4, .int (nI ms.length)), (5, .int (ix i))] [] (fx_h G.1.2 mo_S o D' h0) nx 0 0) →
    sd_W G mMO_nodeOf 2 0 0 Q 58 [(0, .ref (o + 0)), (1, .int (nI t)), (4, .int (nI 0)), (5, .int (ix (i + (ty_ps t h).length)))] [] (fx_h G.1.2 mo_S o D h0) nx 0 0 := by
  intro n
  induction n with
  | zero =>
    intro h e i N D K L R hh h24 hi he24 he hg hN h72 hps KK
    obtain rfl : h = 0 := by omega
    exact KK D [] ⟨K, L, R, hg, gx.rf, fun j v hj => by simp at hj, ⟨rfl, fun j m t hj => by simp at hj⟩, fun _ _ => rfl, mo_fgr.rf D, fun _ _ h => h, fun m hm => (by cases hm)⟩
  | succ n ih =>
    intro h e i N D K L R hh h24 hi he24 he hg hN h72 hps KK
    match h, e, he with
    | 0, e, he => exact KK D [] ⟨K, L, R, hg, gx.rf, fun j v hj => by simp at hj, ⟨rfl, fun j m t hj => by simp at hj⟩, fun _ _ => rfl, mo_fgr.rf D, fun _ _ h => h, fun m hm => (by cases hm)⟩
    | h + 1, 0, he => simp [ty_ex] at he
    | 1, e + 1, he => simp [ty_ex] at he
    | h + 2, e + 1, he =>
      rw [ty_ex] at he
      by_cases hb : t / 2 ^ (h + 1) % 2 = 1
      · rw [if_pos hb] at he
        have eps : ty_ps t (h + 2) = (h + 2) :: ty_ps t (h + 1) := by rw [ty_ps, if_pos hb]
        have enf : ty_nf t (h + 2) = 1 + ty_nf t (h + 1) := by rw [ty_nf, if_pos hb]
        have efo : ty_fo t (h + 2) = fo_fun (ty_fo t (h + 1)) := by rw [ty_fo, if_pos hb]
        obtain ⟨fl, -⟩ := ty_fo_len _ _ _ (Nat.le_refl _) he
        rw [eps] at hps ⊢
        rw [enf] at hN
        have hp0 := hps 0 (h + 2) rfl
        rw [List.length_cons, show i + ((ty_ps t (h + 1)).length + 1) = (i + 1) + (ty_ps t (h + 1)).length by omega]
        refine ih (h + 1) (e + 2) (i + 1) N D K L R (by omega) (by omega) (by omega) (by
          have := (ty_fo_len _ _ _ (Nat.le_refl _) he).2
          omega) he hg (by omega) h72 (fun j p hj => by
          have := hps (j + 1) p hj
          rw [show 200 + (i + 1) + j = 200 + i + (j + 1) by omega]
          exact this) (fun D' ms hP => ?_)
        obtain ⟨K', L', R', g1, g2, g3, g4, g5, g6, g7, g8⟩ := hP
        match ms, hf : ty_fo t (h + 1), g4, g3, g8 with
        | [], fo, g4, g3, g8 => have := g4.1; rw [← hf, fl] at this; simp at this
        | [x], fo, g4, g3, g8 => have := g4.1; rw [← hf, fl] at this; simp at this
        | l :: r :: rest, [], g4, g3, g8 => rw [hf] at fl; simp at fl
        | l :: r :: rest, [x], g4, g3, g8 => rw [hf] at fl; simp at fl
        | l :: r :: rest, tl :: tr :: fo, g4, g3, g8 =>
          obtain ⟨p1, p2, q⟩ := rpl_tail g4
          obtain ⟨p3, p4, q'⟩ := rpl_tail q
          have hrl : rest.length < 100 := by
            have := g4.1
            rw [hf] at fl
            simp at this fl
            omega
          rw [List.reverse_cons, List.reverse_cons] at g3
          have s1 := sk_top g3
          have s2 := sk_top (sk_pop g3)
          rw [List.length_append, List.length_singleton, List.length_reverse] at s1
          rw [List.length_reverse] at s2
          have gn := gst_new g1 (show N + ty_nf t (h + 1) < 192 by omega) p2 p4
          have gxn := gx_new g1.2.2.1 g1.2.1 (show N + ty_nf t (h + 1) < 192 by omega) p2 p4
          refine x_MO_func hB ht (by omega) (by omega) hrl (show N + ty_nf t (h + 1) < 192 by omega) (by rw [g5 _ (by omega)]; exact hp0) g1.2.2.2.2.1 hb s1 s2 ?_
          refine KK _ ((N + ty_nf t (h + 1)) :: rest) ⟨upN K' (N + ty_nf t (h + 1)) 3, upN L' (N + ty_nf t (h + 1)) l, upN R' (N + ty_nf t (h + 1)) r, ?_, ?_, ?_, ?_, ?_, ?_, ?_, ?_⟩
          · rw [enf, show N + (1 + ty_nf t (h + 1)) = N + ty_nf t (h + 1) + 1 by omega]
            exact gst_29 gn
          · rw [enf, show N + (1 + ty_nf t (h + 1)) = N + ty_nf t (h + 1) + 1 by omega]
            exact g2.tr gxn
          · have hs : sk (fr_D D' (N + ty_nf t (h + 1)) (nI 3) (nI l) (nI r)) rest.reverse := sk_f (sk_pop (sk_pop g3)) (fun i _ => by simp [fr_D, fx_ua, fx_uf])
            have := sk_push (v := N + ty_nf t (h + 1)) hs
            rw [List.length_reverse] at this
            rw [List.reverse_cons]
            exact this
          · rw [efo, hf, enf, show N + (1 + ty_nf t (h + 1)) = N + ty_nf t (h + 1) + 1 by omega]
            show rpl _ _ _ _ _ (.append tl tr :: fo)
            refine rpl_cons (rpl_gx q' gxn) (fun τ hτ => ?_) (by unfold ac; omega)
            have h3 := (hτ (N + ty_nf t (h + 1))).2.2 (by simp [upN])
            have hτ' := gxn.2.1 τ hτ
            rw [h3]
            simp only [upN, if_true]
            rw [p1 τ hτ', p3 τ hτ']
          · intro j hj
            rw [ua_at, if_neg (by omega)]
            rw [show (fr_D D' (N + ty_nf t (h + 1)) (nI 3) (nI l) (nI r)).1 29 j = D'.1 29 j by simp [fr_D, fx_ua, fx_uf]]
            exact g5 j hj
          · exact (g6.tr (mo_fgr.fr D')).tr (mo_fgr.ua _ (Or.inr rfl))
          · intro z hz hiso
            have e1 := g8 l (List.mem_cons_self ..)
            have e2 := g8 r (List.mem_cons_of_mem _ (List.mem_cons_self ..))
            exact iso_set (g7 z hz hiso) (by omega) (by omega) (by omega)
          · intro m hm
            rcases List.mem_cons.mp hm with e | hm
            · omega
            · exact g8 m (List.mem_cons_of_mem _ (List.mem_cons_of_mem _ hm))
      · rw [if_neg hb] at he
        have hb0 : t / 2 ^ (h + 1) % 2 = 0 := by omega
        have eps : ty_ps t (h + 2) = (h + 2) :: ty_ps t h := by rw [ty_ps, if_neg hb]
        have enf : ty_nf t (h + 2) = ty_nf t h := by rw [ty_nf, if_neg hb]
        have efo : ty_fo t (h + 2) = (if t / 2 ^ h % 2 = 0 then .nil else .line) :: ty_fo t h := by rw [ty_fo, if_neg hb]
        obtain ⟨fl, -⟩ := ty_fo_len _ _ _ (Nat.le_refl _) he
        rw [eps] at hps ⊢
        rw [enf] at hN
        have hp0 := hps 0 (h + 2) rfl
        rw [List.length_cons, show i + ((ty_ps t h).length + 1) = (i + 1) + (ty_ps t h).length by omega]
        refine ih h e (i + 1) N D K L R (by omega) (by omega) (by omega) (by omega) he hg hN h72 (fun j p hj => by
          have := hps (j + 1) p hj
          rw [show 200 + (i + 1) + j = 200 + i + (j + 1) by omega]
          exact this) (fun D' ms hP => ?_)
        obtain ⟨K', L', R', g1, g2, g3, g4, g5, g6, g7, g8⟩ := hP
        have hml : ms.length < 100 := by rw [g4.1, fl]; omega
        refine x_MO_leaf hB ht (by omega) (by omega) hml (by rw [g5 _ (by omega)]; exact hp0) hb0 rfl ?_
        refine KK _ ((if t / 2 ^ h % 2 = 0 then 192 else 193) :: ms) ⟨K', L', R', ?_, ?_, ?_, ?_, ?_, ?_, g7, ?_⟩
        · rw [enf]
          exact gst_29 g1
        · rw [enf]
          exact g2
        · have := sk_push (v := if t / 2 ^ h % 2 = 0 then 192 else 193) g3
          rw [List.length_reverse] at this
          rw [List.reverse_cons]
          exact this
        · rw [efo, enf]
          obtain ⟨-, -, -, -, -, k1, k2⟩ := g1
          by_cases e0 : t / 2 ^ h % 2 = 0
          · rw [if_pos e0, if_pos e0]
            exact rpl_cons g4 (fun τ hτ => (hτ 192).1 k1) (Or.inr (Or.inl rfl))
          · rw [if_neg e0, if_neg e0]
            exact rpl_cons g4 (fun τ hτ => (hτ 193).2.1 k2) (Or.inr (Or.inr rfl))
        · intro j hj
          rw [ua_at, if_neg (by omega)]
          exact g5 j hj
        · exact g6.tr (mo_fgr.ua _ (Or.inr rfl))
        · intro m hm
          rcases List.mem_cons.mp hm with e | hm
          · rw [e]
            split <;> omega
          · exact g8 m hm
