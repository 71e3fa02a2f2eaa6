/-! ===== the model: measure ===== -/
theorem log2_of {n k : Nat} (h1 : 2 ^ k ≤ n) (h2 : n < 2 ^ (k + 1)) : Nat.log2 n = k := by
  have hn : n ≠ 0 := by have := Nat.two_pow_pos k; omega
  have a := (Nat.le_log2 hn).mpr h1
  have b := (Nat.log2_lt hn).mpr h2
  omega
theorem log2_jn {a b : Nat} (ha : a ≠ 0) : Nat.log2 (ty_jn a b) = Nat.log2 a + Nat.log2 b + 1 := by
  have a1 := Nat.log2_self_le ha
  have a2 : a < 2 ^ (Nat.log2 a + 1) := Nat.lt_log2_self
  have b2 := Nat.mod_lt b (Nat.two_pow_pos (Nat.log2 b))
  apply log2_of
  · unfold ty_jn
    have : 2 ^ (Nat.log2 a + Nat.log2 b + 1) ≤ (2 ^ (Nat.log2 a + 1) + a) * 2 ^ Nat.log2 b := by
      rw [show Nat.log2 a + Nat.log2 b + 1 = (Nat.log2 a + 1) + Nat.log2 b by omega, Nat.pow_add]
      exact Nat.mul_le_mul_right _ (by omega)
    omega
  · unfold ty_jn
    have h : (2 ^ (Nat.log2 a + 1) + a + 1) * 2 ^ Nat.log2 b ≤ 2 ^ (Nat.log2 a + 2) * 2 ^ Nat.log2 b := Nat.mul_le_mul_right _ (by rw [Nat.pow_succ _ (Nat.log2 a + 1)]; omega)
    rw [← Nat.pow_add, Nat.add_mul, Nat.one_mul] at h
    rw [show Nat.log2 a + Nat.log2 b + 1 + 1 = Nat.log2 a + 2 + Nat.log2 b by omega]
    omega
theorem tt_len_2 : ∀ t, 2 ≤ tt_len t
  | .nil => Nat.le_refl _
  | .line => Nat.le_refl _
  | .append l r => by
    have := tt_len_2 l
    simp only [tt_len]
    omega
  | .align _ => Nat.le_refl _
  | .text _ => Nat.le_refl _
  | .nest _ _ => Nat.le_refl _
  | .group _ _ => Nat.le_refl _
  | .tag _ _ => Nat.le_refl _
theorem tt_log : ∀ t, tt_ok t → Nat.log2 (tt_n t) = tt_len t ∧ 4 ≤ tt_n t
  | .nil, _ => ⟨by decide, by decide⟩
  | .line, _ => ⟨by decide, by decide⟩
  | .append l r, h => by
    obtain ⟨a1, a2⟩ := tt_log l h.1
    obtain ⟨b1, b2⟩ := tt_log r h.2
    have e : Nat.log2 (tt_n (.append l r)) = tt_len (.append l r) := by
      simp only [tt_n, tt_len]
      rw [log2_jn (by omega), a1, b1]
      omega
    refine ⟨e, ?_⟩
    have h2 := tt_len_2 (.append l r)
    have hn : tt_n (.append l r) ≠ 0 := fun z => by
      rw [z] at e
      have : Nat.log2 0 = 0 := rfl
      omega
    have := (Nat.le_log2 hn).mp (show 2 ≤ Nat.log2 (tt_n (.append l r)) by omega)
    omega
  | .align _, h => h.elim
  | .text _, h => h.elim
  | .nest _ _, h => h.elim
  | .group _ _, h => h.elim
  | .tag _ _, h => h.elim
theorem tt_n_lt {t : ft} (h : tt_ok t) (hl : tt_len t ≤ 24) : tt_n t < 2 ^ 25 := by
  obtain ⟨a, b⟩ := tt_log t h
  have : tt_n t < 2 ^ (Nat.log2 (tt_n t) + 1) := Nat.lt_log2_self
  have h2 : 2 ^ (Nat.log2 (tt_n t) + 1) ≤ 2 ^ 25 := tp_pw (by omega)
  omega
/-- how measure writes a tree: its length, and its number -/
def dgt (t : ft) : Nat := if tt_len t ≤ 24 then tt_len t else 25
def nmb (t : ft) : Nat := if tt_len t ≤ 24 then tt_n t else 0
/-- the trees found so far -/
def mb (D : fx_D) (N : Nat) (K L R ρ : Nat → Nat) (T : Nat → Option ft) : Prop := (∀ n, ac N n → (∀ t, T n = some t → tt_ok t ∧ D.1 27 n = nI (dgt t) ∧ D.1 28 n = nI (nmb t)) ∧ (T n = none → K n = 3 ∧ D.1 27 n = nI 0)) ∧ (∀ n, ac N n → (K n = 0 → T n = some .line) ∧ (K n = 1 → T n = some .nil) ∧ (K n = 2 → T n = some .line) ∧ (K n = 3 → ∀ t, T n = some t → ∃ a b, T (ρ (L n)) = some a ∧ T (ρ (R n)) = some b ∧ t = .append a b))
def mb_c (N : Nat) (T : Nat → Option ft) : Nat := cn_r N (fun n => (T n).isNone)
/-- D' differs from D in what measure writes -/
def mo_fm (D D' : fx_D) : Prop := (∀ x, x ≠ 27 → x ≠ 28 → D'.1 x = D.1 x) ∧ D'.2 = D.2
theorem mo_fm.rf (D : fx_D) : mo_fm D D := ⟨fun _ _ _ => rfl, rfl⟩
theorem mo_fm.tr {D D' D2 : fx_D} (h : mo_fm D D') (h2 : mo_fm D' D2) : mo_fm D D2 := ⟨fun x a b => (h2.1 x a b).trans (h.1 x a b), h2.2.trans h.2⟩
theorem mo_fm.ua (D : fx_D) {x i : Nat} {v : Int32} (h : x = 27 ∨ x = 28) : mo_fm D (fx_ua D x i v) := ⟨fun y a b => by simp [fx_ua, show ¬ y = x by omega], rfl⟩
theorem gst_fm {D D' : fx_D} {N : Nat} {K L R lk ρ : Nat → Nat} (h : gst D N K L R lk ρ) (hf : mo_fm D D') : gst D' N K L R lk ρ := ⟨fun n hn => by
  rw [hf.1 23 (by decide) (by decide), hf.1 24 (by decide) (by decide), hf.1 25 (by decide) (by decide), hf.1 26 (by decide) (by decide)]
  exact h.1 n hn, h.2.1, h.2.2.1, h.2.2.2.1, by rw [hf.2]; exact h.2.2.2.2.1, h.2.2.2.2.2⟩
/-- one more tree is found -/
theorem mb_new {D : fx_D} {N n : Nat} {K L R lk ρ : Nat → Nat} {T : Nat → Option ft} {a b : ft} (hg : gst D N K L R lk ρ) (h : mb D N K L R ρ T) (hn : ac N n) (h0 : T n = none) (ha : T (ρ (L n)) = some a) (hb : T (ρ (R n)) = some b) : mb (fx_ua (fx_ua D 27 n (nI (dgt (.append a b)))) 28 n (nI (nmb (.append a b)))) N K L R ρ (upN T n (some (.append a b))) := by
  obtain ⟨h1, h2⟩ := h
  have aL := hg.2.2.1.ac hg.2.1 (hg.2.1.2.2.1 n hn).1
  have aR := hg.2.2.1.ac hg.2.1 (hg.2.1.2.2.1 n hn).2.1
  have oa := ((h1 _ aL).1 a ha).1
  have ob := ((h1 _ aR).1 b hb).1
  have k3 := ((h1 n hn).2 h0).1
  have keep : ∀ m t, T m = some t → upN T n (some (.append a b)) m = some t := fun m t hm => by
    have e : m ≠ n := fun e => by rw [e, h0] at hm; cases hm
    simp only [upN, e, if_false]
    exact hm
  refine ⟨fun m hm => ?_, fun m hm => ?_⟩
  · by_cases e : m = n
    · subst e
      refine ⟨fun t ht => ?_, fun z => by simp [upN] at z⟩
      simp only [upN, if_true, Option.some.injEq] at ht
      subst ht
      exact ⟨⟨oa, ob⟩, by simp [fx_ua, upd], by simp [fx_ua, upd]⟩
    · obtain ⟨a1, a2⟩ := h1 m hm
      simp only [upN, e, if_false]
      refine ⟨fun t ht => ?_, fun z => ?_⟩
      · obtain ⟨c1, c2, c3⟩ := a1 t ht
        exact ⟨c1, by simpa [fx_ua, upd, e] using c2, by simpa [fx_ua, upd, e] using c3⟩
      · obtain ⟨c1, c2⟩ := a2 z
        exact ⟨c1, by simpa [fx_ua, upd, e] using c2⟩
  · obtain ⟨k0, k1, k2, k3'⟩ := h2 m hm
    by_cases e : m = n
    · subst e
      refine ⟨fun z => by omega, fun z => by omega, fun z => by omega, fun _ t ht => ?_⟩
      simp only [upN, if_true, Option.some.injEq] at ht
      exact ⟨a, b, keep _ _ ha, keep _ _ hb, ht.symm⟩
    · simp only [upN, e, if_false]
      refine ⟨k0, k1, k2, fun k t ht => ?_⟩
      obtain ⟨a', b', c1, c2, c3⟩ := k3' k t ht
      have f1 := keep _ _ c1
      have f2 := keep _ _ c2
      simp only [upN] at f1 f2
      exact ⟨a', b', f1, f2, c3⟩
theorem mb_c_new {N n : Nat} {T : Nat → Option ft} {t : ft} (hn : n < N) (h0 : T n = none) : mb_c N (upN T n (some t)) < mb_c N T := by
  apply cn_r_lt (x := n) _ _ _ N hn
  · intro i hi
    by_cases e : i = n
    · rw [e, h0]; rfl
    · simp only [upN, e, if_false] at hi
      exact hi
  · simp [upN]
  · rw [h0]; rfl
theorem dMO_measure_0 : decode prog_13_method_39_code 0 = .ok (.iconst 0, 1) := by decide +kernel
theorem dMO_measure_1 : decode prog_13_method_39_code 1 = .ok (.istore_n 1, 1) := by decide +kernel
theorem dMO_measure_2 : decode prog_13_method_39_code 2 = .ok (.iload_n 1, 1) := by decide +kernel
theorem dMO_measure_3 : decode prog_13_method_39_code 3 = .ok (.sipush (194), 3) := by decide +kernel
theorem dMO_measure_6 : decode prog_13_method_39_code 6 = .ok (.if_icmp .ge (51), 3) := by decide +kernel
theorem dMO_measure_9 : decode prog_13_method_39_code 9 = .ok (.aload_n 0, 1) := by decide +kernel
theorem dMO_measure_10 : decode prog_13_method_39_code 10 = .ok (.getfield 88, 3) := by decide +kernel
theorem dMO_measure_13 : decode prog_13_method_39_code 13 = .ok (.iload_n 1, 1) := by decide +kernel
theorem dMO_measure_14 : decode prog_13_method_39_code 14 = .ok (.aload_n 0, 1) := by decide +kernel
theorem dMO_measure_15 : decode prog_13_method_39_code 15 = .ok (.getfield 76, 3) := by decide +kernel
theorem dMO_measure_18 : decode prog_13_method_39_code 18 = .ok (.iload_n 1, 1) := by decide +kernel
theorem dMO_measure_19 : decode prog_13_method_39_code 19 = .ok (.iaload, 1) := by decide +kernel
theorem dMO_measure_20 : decode prog_13_method_39_code 20 = .ok (.iconst 3, 1) := by decide +kernel
theorem dMO_measure_21 : decode prog_13_method_39_code 21 = .ok (.if_icmp .ne (7), 3) := by decide +kernel
theorem dMO_measure_24 : decode prog_13_method_39_code 24 = .ok (.iconst 0, 1) := by decide +kernel
theorem dMO_measure_25 : decode prog_13_method_39_code 25 = .ok (.goto (4), 3) := by decide +kernel
theorem dMO_measure_28 : decode prog_13_method_39_code 28 = .ok (.iconst 2, 1) := by decide +kernel
theorem dMO_measure_29 : decode prog_13_method_39_code 29 = .ok (.iastore, 1) := by decide +kernel
theorem dMO_measure_30 : decode prog_13_method_39_code 30 = .ok (.aload_n 0, 1) := by decide +kernel
theorem dMO_measure_31 : decode prog_13_method_39_code 31 = .ok (.getfield 91, 3) := by decide +kernel
theorem dMO_measure_34 : decode prog_13_method_39_code 34 = .ok (.iload_n 1, 1) := by decide +kernel
theorem dMO_measure_35 : decode prog_13_method_39_code 35 = .ok (.aload_n 0, 1) := by decide +kernel
theorem dMO_measure_36 : decode prog_13_method_39_code 36 = .ok (.getfield 76, 3) := by decide +kernel
theorem dMO_measure_39 : decode prog_13_method_39_code 39 = .ok (.iload_n 1, 1) := by decide +kernel
theorem dMO_measure_40 : decode prog_13_method_39_code 40 = .ok (.iaload, 1) := by decide +kernel
theorem dMO_measure_41 : decode prog_13_method_39_code 41 = .ok (.iconst 1, 1) := by decide +kernel
theorem dMO_measure_42 : decode prog_13_method_39_code 42 = .ok (.if_icmp .ne (7), 3) := by decide +kernel
theorem dMO_measure_45 : decode prog_13_method_39_code 45 = .ok (.iconst 4, 1) := by decide +kernel
theorem dMO_measure_46 : decode prog_13_method_39_code 46 = .ok (.goto (4), 3) := by decide +kernel
theorem dMO_measure_49 : decode prog_13_method_39_code 49 = .ok (.iconst 5, 1) := by decide +kernel
theorem dMO_measure_50 : decode prog_13_method_39_code 50 = .ok (.iastore, 1) := by decide +kernel
theorem dMO_measure_51 : decode prog_13_method_39_code 51 = .ok (.iinc 1 (1), 3) := by decide +kernel
theorem dMO_measure_54 : decode prog_13_method_39_code 54 = .ok (.goto (-52), 3) := by decide +kernel
theorem dMO_measure_57 : decode prog_13_method_39_code 57 = .ok (.iconst 1, 1) := by decide +kernel
theorem dMO_measure_58 : decode prog_13_method_39_code 58 = .ok (.istore_n 1, 1) := by decide +kernel
theorem dMO_measure_59 : decode prog_13_method_39_code 59 = .ok (.iload_n 1, 1) := by decide +kernel
theorem dMO_measure_60 : decode prog_13_method_39_code 60 = .ok (.ifCond .eq (164), 3) := by decide +kernel
theorem dMO_measure_63 : decode prog_13_method_39_code 63 = .ok (.iconst 0, 1) := by decide +kernel
theorem dMO_measure_64 : decode prog_13_method_39_code 64 = .ok (.istore_n 1, 1) := by decide +kernel
theorem dMO_measure_65 : decode prog_13_method_39_code 65 = .ok (.iconst 0, 1) := by decide +kernel
theorem dMO_measure_66 : decode prog_13_method_39_code 66 = .ok (.istore_n 2, 1) := by decide +kernel
theorem dMO_measure_67 : decode prog_13_method_39_code 67 = .ok (.iload_n 2, 1) := by decide +kernel
theorem dMO_measure_68 : decode prog_13_method_39_code 68 = .ok (.aload_n 0, 1) := by decide +kernel
theorem dMO_measure_69 : decode prog_13_method_39_code 69 = .ok (.getfield 161, 3) := by decide +kernel
theorem dMO_measure_72 : decode prog_13_method_39_code 72 = .ok (.if_icmp .ge (149), 3) := by decide +kernel
theorem dMO_measure_75 : decode prog_13_method_39_code 75 = .ok (.aload_n 0, 1) := by decide +kernel
theorem dMO_measure_76 : decode prog_13_method_39_code 76 = .ok (.getfield 85, 3) := by decide +kernel
theorem dMO_measure_79 : decode prog_13_method_39_code 79 = .ok (.iload_n 2, 1) := by decide +kernel
theorem dMO_measure_80 : decode prog_13_method_39_code 80 = .ok (.iaload, 1) := by decide +kernel
theorem dMO_measure_81 : decode prog_13_method_39_code 81 = .ok (.iload_n 2, 1) := by decide +kernel
theorem dMO_measure_82 : decode prog_13_method_39_code 82 = .ok (.if_icmp .ne (133), 3) := by decide +kernel
theorem dMO_measure_85 : decode prog_13_method_39_code 85 = .ok (.aload_n 0, 1) := by decide +kernel
theorem dMO_measure_86 : decode prog_13_method_39_code 86 = .ok (.getfield 88, 3) := by decide +kernel
theorem dMO_measure_89 : decode prog_13_method_39_code 89 = .ok (.iload_n 2, 1) := by decide +kernel
theorem dMO_measure_90 : decode prog_13_method_39_code 90 = .ok (.iaload, 1) := by decide +kernel
theorem dMO_measure_91 : decode prog_13_method_39_code 91 = .ok (.ifCond .le (6), 3) := by decide +kernel
theorem dMO_measure_94 : decode prog_13_method_39_code 94 = .ok (.goto (121), 3) := by decide +kernel
theorem dMO_measure_97 : decode prog_13_method_39_code 97 = .ok (.aload_n 0, 1) := by decide +kernel
theorem dMO_measure_98 : decode prog_13_method_39_code 98 = .ok (.aload_n 0, 1) := by decide +kernel
theorem dMO_measure_99 : decode prog_13_method_39_code 99 = .ok (.getfield 79, 3) := by decide +kernel
theorem dMO_measure_102 : decode prog_13_method_39_code 102 = .ok (.iload_n 2, 1) := by decide +kernel
theorem dMO_measure_103 : decode prog_13_method_39_code 103 = .ok (.iaload, 1) := by decide +kernel
theorem dMO_measure_104 : decode prog_13_method_39_code 104 = .ok (.invokevirtual 168, 3) := by decide +kernel
theorem dMO_measure_107 : decode prog_13_method_39_code 107 = .ok (.istore_n 3, 1) := by decide +kernel
theorem dMO_measure_108 : decode prog_13_method_39_code 108 = .ok (.aload_n 0, 1) := by decide +kernel
theorem dMO_measure_109 : decode prog_13_method_39_code 109 = .ok (.aload_n 0, 1) := by decide +kernel
theorem dMO_measure_110 : decode prog_13_method_39_code 110 = .ok (.getfield 82, 3) := by decide +kernel
theorem dMO_measure_113 : decode prog_13_method_39_code 113 = .ok (.iload_n 2, 1) := by decide +kernel
theorem dMO_measure_114 : decode prog_13_method_39_code 114 = .ok (.iaload, 1) := by decide +kernel
theorem dMO_measure_115 : decode prog_13_method_39_code 115 = .ok (.invokevirtual 168, 3) := by decide +kernel
theorem dMO_measure_118 : decode prog_13_method_39_code 118 = .ok (.istore 4, 2) := by decide +kernel
theorem dMO_measure_120 : decode prog_13_method_39_code 120 = .ok (.aload_n 0, 1) := by decide +kernel
theorem dMO_measure_121 : decode prog_13_method_39_code 121 = .ok (.getfield 88, 3) := by decide +kernel
theorem dMO_measure_124 : decode prog_13_method_39_code 124 = .ok (.iload_n 3, 1) := by decide +kernel
theorem dMO_measure_125 : decode prog_13_method_39_code 125 = .ok (.iaload, 1) := by decide +kernel
theorem dMO_measure_126 : decode prog_13_method_39_code 126 = .ok (.ifCond .eq (89), 3) := by decide +kernel
theorem dMO_measure_129 : decode prog_13_method_39_code 129 = .ok (.aload_n 0, 1) := by decide +kernel
theorem dMO_measure_130 : decode prog_13_method_39_code 130 = .ok (.getfield 88, 3) := by decide +kernel
theorem dMO_measure_133 : decode prog_13_method_39_code 133 = .ok (.iload 4, 2) := by decide +kernel
theorem dMO_measure_135 : decode prog_13_method_39_code 135 = .ok (.iaload, 1) := by decide +kernel
theorem dMO_measure_136 : decode prog_13_method_39_code 136 = .ok (.ifCond .ne (6), 3) := by decide +kernel
theorem dMO_measure_139 : decode prog_13_method_39_code 139 = .ok (.goto (76), 3) := by decide +kernel
theorem dMO_measure_142 : decode prog_13_method_39_code 142 = .ok (.iconst 1, 1) := by decide +kernel
theorem dMO_measure_143 : decode prog_13_method_39_code 143 = .ok (.aload_n 0, 1) := by decide +kernel
theorem dMO_measure_144 : decode prog_13_method_39_code 144 = .ok (.getfield 88, 3) := by decide +kernel
theorem dMO_measure_147 : decode prog_13_method_39_code 147 = .ok (.iload_n 3, 1) := by decide +kernel
theorem dMO_measure_148 : decode prog_13_method_39_code 148 = .ok (.iaload, 1) := by decide +kernel
theorem dMO_measure_149 : decode prog_13_method_39_code 149 = .ok (.iadd, 1) := by decide +kernel
theorem dMO_measure_150 : decode prog_13_method_39_code 150 = .ok (.aload_n 0, 1) := by decide +kernel
theorem dMO_measure_151 : decode prog_13_method_39_code 151 = .ok (.getfield 88, 3) := by decide +kernel
theorem dMO_measure_154 : decode prog_13_method_39_code 154 = .ok (.iload 4, 2) := by decide +kernel
theorem dMO_measure_156 : decode prog_13_method_39_code 156 = .ok (.iaload, 1) := by decide +kernel
theorem dMO_measure_157 : decode prog_13_method_39_code 157 = .ok (.iadd, 1) := by decide +kernel
theorem dMO_measure_158 : decode prog_13_method_39_code 158 = .ok (.istore 5, 2) := by decide +kernel
theorem dMO_measure_160 : decode prog_13_method_39_code 160 = .ok (.aload_n 0, 1) := by decide +kernel
theorem dMO_measure_161 : decode prog_13_method_39_code 161 = .ok (.getfield 88, 3) := by decide +kernel
theorem dMO_measure_164 : decode prog_13_method_39_code 164 = .ok (.iload_n 2, 1) := by decide +kernel
theorem dMO_measure_165 : decode prog_13_method_39_code 165 = .ok (.iload 5, 2) := by decide +kernel
theorem dMO_measure_167 : decode prog_13_method_39_code 167 = .ok (.bipush (24), 2) := by decide +kernel
theorem dMO_measure_169 : decode prog_13_method_39_code 169 = .ok (.if_icmp .le (8), 3) := by decide +kernel
theorem dMO_measure_172 : decode prog_13_method_39_code 172 = .ok (.bipush (25), 2) := by decide +kernel
theorem dMO_measure_174 : decode prog_13_method_39_code 174 = .ok (.goto (5), 3) := by decide +kernel
theorem dMO_measure_177 : decode prog_13_method_39_code 177 = .ok (.iload 5, 2) := by decide +kernel
theorem dMO_measure_179 : decode prog_13_method_39_code 179 = .ok (.iastore, 1) := by decide +kernel
theorem dMO_measure_180 : decode prog_13_method_39_code 180 = .ok (.aload_n 0, 1) := by decide +kernel
theorem dMO_measure_181 : decode prog_13_method_39_code 181 = .ok (.getfield 91, 3) := by decide +kernel
theorem dMO_measure_184 : decode prog_13_method_39_code 184 = .ok (.iload_n 2, 1) := by decide +kernel
theorem dMO_measure_185 : decode prog_13_method_39_code 185 = .ok (.iload 5, 2) := by decide +kernel
theorem dMO_measure_187 : decode prog_13_method_39_code 187 = .ok (.bipush (24), 2) := by decide +kernel
theorem dMO_measure_189 : decode prog_13_method_39_code 189 = .ok (.if_icmp .le (7), 3) := by decide +kernel
theorem dMO_measure_192 : decode prog_13_method_39_code 192 = .ok (.iconst 0, 1) := by decide +kernel
theorem dMO_measure_193 : decode prog_13_method_39_code 193 = .ok (.goto (19), 3) := by decide +kernel
theorem dMO_measure_196 : decode prog_13_method_39_code 196 = .ok (.aload_n 0, 1) := by decide +kernel
theorem dMO_measure_197 : decode prog_13_method_39_code 197 = .ok (.getfield 91, 3) := by decide +kernel
theorem dMO_measure_200 : decode prog_13_method_39_code 200 = .ok (.iload_n 3, 1) := by decide +kernel
theorem dMO_measure_201 : decode prog_13_method_39_code 201 = .ok (.iaload, 1) := by decide +kernel
theorem dMO_measure_202 : decode prog_13_method_39_code 202 = .ok (.aload_n 0, 1) := by decide +kernel
theorem dMO_measure_203 : decode prog_13_method_39_code 203 = .ok (.getfield 91, 3) := by decide +kernel
theorem dMO_measure_206 : decode prog_13_method_39_code 206 = .ok (.iload 4, 2) := by decide +kernel
theorem dMO_measure_208 : decode prog_13_method_39_code 208 = .ok (.iaload, 1) := by decide +kernel
theorem dMO_measure_209 : decode prog_13_method_39_code 209 = .ok (.invokestatic 114, 3) := by decide +kernel
theorem dMO_measure_212 : decode prog_13_method_39_code 212 = .ok (.iastore, 1) := by decide +kernel
theorem dMO_measure_213 : decode prog_13_method_39_code 213 = .ok (.iconst 1, 1) := by decide +kernel
theorem dMO_measure_214 : decode prog_13_method_39_code 214 = .ok (.istore_n 1, 1) := by decide +kernel
theorem dMO_measure_215 : decode prog_13_method_39_code 215 = .ok (.iinc 2 (1), 3) := by decide +kernel
theorem dMO_measure_218 : decode prog_13_method_39_code 218 = .ok (.goto (-151), 3) := by decide +kernel
theorem dMO_measure_221 : decode prog_13_method_39_code 221 = .ok (.goto (-162), 3) := by decide +kernel
theorem dMO_measure_224 : decode prog_13_method_39_code 224 = .ok (.iconst 0, 1) := by decide +kernel
theorem dMO_measure_225 : decode prog_13_method_39_code 225 = .ok (.istore_n 2, 1) := by decide +kernel
theorem dMO_measure_226 : decode prog_13_method_39_code 226 = .ok (.iload_n 2, 1) := by decide +kernel
theorem dMO_measure_227 : decode prog_13_method_39_code 227 = .ok (.aload_n 0, 1) := by decide +kernel
theorem dMO_measure_228 : decode prog_13_method_39_code 228 = .ok (.getfield 161, 3) := by decide +kernel
theorem dMO_measure_231 : decode prog_13_method_39_code 231 = .ok (.if_icmp .ge (30), 3) := by decide +kernel
theorem dMO_measure_234 : decode prog_13_method_39_code 234 = .ok (.aload_n 0, 1) := by decide +kernel
theorem dMO_measure_235 : decode prog_13_method_39_code 235 = .ok (.getfield 85, 3) := by decide +kernel
theorem dMO_measure_238 : decode prog_13_method_39_code 238 = .ok (.iload_n 2, 1) := by decide +kernel
theorem dMO_measure_239 : decode prog_13_method_39_code 239 = .ok (.iaload, 1) := by decide +kernel
theorem dMO_measure_240 : decode prog_13_method_39_code 240 = .ok (.iload_n 2, 1) := by decide +kernel
theorem dMO_measure_241 : decode prog_13_method_39_code 241 = .ok (.if_icmp .ne (14), 3) := by decide +kernel
theorem dMO_measure_244 : decode prog_13_method_39_code 244 = .ok (.aload_n 0, 1) := by decide +kernel
theorem dMO_measure_245 : decode prog_13_method_39_code 245 = .ok (.getfield 88, 3) := by decide +kernel
theorem dMO_measure_248 : decode prog_13_method_39_code 248 = .ok (.iload_n 2, 1) := by decide +kernel
theorem dMO_measure_249 : decode prog_13_method_39_code 249 = .ok (.iaload, 1) := by decide +kernel
theorem dMO_measure_250 : decode prog_13_method_39_code 250 = .ok (.ifCond .ne (5), 3) := by decide +kernel
theorem dMO_measure_253 : decode prog_13_method_39_code 253 = .ok (.iconst 0, 1) := by decide +kernel
theorem dMO_measure_254 : decode prog_13_method_39_code 254 = .ok (.ireturn, 1) := by decide +kernel
theorem dMO_measure_255 : decode prog_13_method_39_code 255 = .ok (.iinc 2 (1), 3) := by decide +kernel
theorem dMO_measure_258 : decode prog_13_method_39_code 258 = .ok (.goto (-32), 3) := by decide +kernel
theorem dMO_measure_261 : decode prog_13_method_39_code 261 = .ok (.iconst 1, 1) := by decide +kernel
theorem dMO_measure_262 : decode prog_13_method_39_code 262 = .ok (.ireturn, 1) := by decide +kernel
theorem l_MO_meas1 {G : sd_G} {o : Nat} {D0 : fx_D} {h0 : sd_H} {nx : Nat} {Q : sd_Q} (hB : G.2.1 ≤ o) (KK : ∀ D : fx_D, mo_fm D0 D → (∀ n, n < 194 → D.1 27 n = (if D0.1 23 n = nI 3 then nI 0 else nI 2) ∧ D.1 28 n = (if D0.1 23 n = nI 1 then nI 4 else nI 5)) → sd_W G mMO_measure 2 0 0 Q 57 [(0, .ref (o + 0))] [] (fx_h G.1.2 mo_S o D h0) nx 0 0) : ∀ (m j : Nat) (D : fx_D), 194 = j + m → mo_fm D0 D → (∀ n, n < j → D.1 27 n = (if D0.1 23 n = nI 3 then nI 0 else nI 2) ∧ D.1 28 n = (if D0.1 23 n = nI 1 then nI 4 else nI 5)) → sd_W G mMO_measure 2 0 0 Q 2 [(0, .ref (o + 0)), (1, .int (nI j))] [] (fx_h G.1.2 mo_S o D h0) nx 0 0 := by
  intro m
  induction m with
  | zero =>
    intro j D hj hf h
    obtain rfl : j = 194 := by omega
    refine sd_iload_n dMO_measure_2 rfl rfl ?_
    refine sd_sipush (v := nI 194) dMO_measure_3 (by decide) ?_
    refine nn_icmp_ge 57 dMO_measure_6 (by decide) (by decide) (by decide) (fun _ => ?_) (fun c => absurd c (by decide))
    refine sd_locp (al' := [(0, .ref (o + (0)))]) [0] rfl ?_
    exact KK D hf h
  | succ m ih =>
    intro j D hj hf h
    have e23 : D.1 23 j = D0.1 23 j := congrFun (hf.1 23 (by decide) (by decide)) j
    have nxt : ∀ v w : Int32, v = (if D0.1 23 j = nI 3 then nI 0 else nI 2) → w = (if D0.1 23 j = nI 1 then nI 4 else nI 5) → sd_W G mMO_measure 2 0 0 Q 2 [(0, .ref (o + 0)), (1, .int (nI (j + 1)))] [] (fx_h G.1.2 mo_S o (fx_ua (fx_ua D 27 j v) 28 j w) h0) nx 0 0 := by
      intro v w hv hw
      refine ih (j + 1) _ (by omega) ((hf.tr (mo_fm.ua D (Or.inl rfl))).tr (mo_fm.ua _ (Or.inr rfl))) (fun n hn => ?_)
      by_cases e : n = j
      · subst e
        rw [← hv, ← hw]
        exact ⟨by simp [fx_ua, upd], by simp [fx_ua, upd]⟩
      · obtain ⟨a, b⟩ := h n (by omega)
        exact ⟨by simpa [fx_ua, upd, e] using a, by simpa [fx_ua, upd, e] using b⟩
    by_cases c3 : D0.1 23 j = nI 3
    · have n3 := nxt (nI 0) (nI 5) (by rw [if_pos c3]) (by rw [if_neg (by rw [c3]; decide)])
      refine sd_iload_n dMO_measure_2 rfl rfl ?_
      refine sd_sipush (v := nI 194) dMO_measure_3 (by decide) ?_
      refine nn_icmp_ge 57 dMO_measure_6 (by decide) (by omega) (by omega) (fun c6 => ?_) (fun c6 => ?_)
      ·
        exact absurd c6 (by omega)
      ·
        refine sd_aload_n dMO_measure_9 rfl rfl ?_
        refine fx_getr 10 34 (27) dMO_measure_10 fMO_88 rfl rfl ?_
        refine sd_iload_n dMO_measure_13 rfl rfl ?_
        refine sd_aload_n dMO_measure_14 rfl rfl ?_
        refine fx_getr 10 30 (23) dMO_measure_15 fMO_76 rfl rfl ?_
        refine sd_iload_n dMO_measure_18 rfl rfl ?_
        refine fx_ialdv (v := (nI (3))) (j) dMO_measure_19 rfl rfl (by omega) (by decide) ((e23.trans c3)) ?_
        refine sd_iconst (v := nI 3) dMO_measure_20 (by decide) ?_
        refine nn_icmp_ne 28 dMO_measure_21 (by decide) (by decide) (by decide) (fun c => absurd c (by decide)) (fun _ => ?_)
        refine sd_iconst (v := nI 0) dMO_measure_24 (by decide) ?_
        refine sd_goto 29 dMO_measure_25 (by decide) ?_
        refine fx_iast (j) dMO_measure_29 rfl rfl (by omega) (by decide) hB ?_
        refine sd_aload_n dMO_measure_30 rfl rfl ?_
        refine fx_getr 10 35 (28) dMO_measure_31 fMO_91 rfl rfl ?_
        refine sd_iload_n dMO_measure_34 rfl rfl ?_
        refine sd_aload_n dMO_measure_35 rfl rfl ?_
        refine fx_getr 10 30 (23) dMO_measure_36 fMO_76 rfl rfl ?_
        refine sd_iload_n dMO_measure_39 rfl rfl ?_
        refine fx_ialdv (v := (nI (3))) (j) dMO_measure_40 rfl rfl (by omega) (by decide) ((by simpa [fx_ua] using e23.trans c3)) ?_
        refine sd_iconst (v := nI 1) dMO_measure_41 (by decide) ?_
        refine nn_icmp_ne 49 dMO_measure_42 (by decide) (by decide) (by decide) (fun _ => ?_) (fun c => absurd c (by decide))
        refine sd_iconst (v := nI 5) dMO_measure_49 (by decide) ?_
        refine fx_iast (j) dMO_measure_50 rfl rfl (by omega) (by decide) hB ?_
        refine nn_iinc 1 dMO_measure_51 rfl (by decide) ?_
        refine sd_goto 2 dMO_measure_54 (by decide) ?_
        refine sd_locp (al' := [(0, .ref (o + (0))), (1, .int (nI (j + 1)))]) [1, 0] rfl ?_
        exact n3
    · by_cases c1 : D0.1 23 j = nI 1
      · have n1 := nxt (nI 2) (nI 4) (by rw [if_neg c3]) (by rw [if_pos c1])
        refine sd_iload_n dMO_measure_2 rfl rfl ?_
        refine sd_sipush (v := nI 194) dMO_measure_3 (by decide) ?_
        refine nn_icmp_ge 57 dMO_measure_6 (by decide) (by omega) (by omega) (fun c6 => ?_) (fun c6 => ?_)
        ·
          exact absurd c6 (by omega)
        ·
          refine sd_aload_n dMO_measure_9 rfl rfl ?_
          refine fx_getr 10 34 (27) dMO_measure_10 fMO_88 rfl rfl ?_
          refine sd_iload_n dMO_measure_13 rfl rfl ?_
          refine sd_aload_n dMO_measure_14 rfl rfl ?_
          refine fx_getr 10 30 (23) dMO_measure_15 fMO_76 rfl rfl ?_
          refine sd_iload_n dMO_measure_18 rfl rfl ?_
          refine fx_ialdv (v := (nI (1))) (j) dMO_measure_19 rfl rfl (by omega) (by decide) ((e23.trans c1)) ?_
          refine sd_iconst (v := nI 3) dMO_measure_20 (by decide) ?_
          refine nn_icmp_ne 28 dMO_measure_21 (by decide) (by decide) (by decide) (fun _ => ?_) (fun c => absurd c (by decide))
          refine sd_iconst (v := nI 2) dMO_measure_28 (by decide) ?_
          refine fx_iast (j) dMO_measure_29 rfl rfl (by omega) (by decide) hB ?_
          refine sd_aload_n dMO_measure_30 rfl rfl ?_
          refine fx_getr 10 35 (28) dMO_measure_31 fMO_91 rfl rfl ?_
          refine sd_iload_n dMO_measure_34 rfl rfl ?_
          refine sd_aload_n dMO_measure_35 rfl rfl ?_
          refine fx_getr 10 30 (23) dMO_measure_36 fMO_76 rfl rfl ?_
          refine sd_iload_n dMO_measure_39 rfl rfl ?_
          refine fx_ialdv (v := (nI (1))) (j) dMO_measure_40 rfl rfl (by omega) (by decide) ((by simpa [fx_ua] using e23.trans c1)) ?_
          refine sd_iconst (v := nI 1) dMO_measure_41 (by decide) ?_
          refine nn_icmp_ne 49 dMO_measure_42 (by decide) (by decide) (by decide) (fun c => absurd c (by decide)) (fun _ => ?_)
          refine sd_iconst (v := nI 4) dMO_measure_45 (by decide) ?_
          refine sd_goto 50 dMO_measure_46 (by decide) ?_
          refine fx_iast (j) dMO_measure_50 rfl rfl (by omega) (by decide) hB ?_
          refine nn_iinc 1 dMO_measure_51 rfl (by decide) ?_
          refine sd_goto 2 dMO_measure_54 (by decide) ?_
          refine sd_locp (al' := [(0, .ref (o + (0))), (1, .int (nI (j + 1)))]) [1, 0] rfl ?_
          exact n1
      · have n2 := nxt (nI 2) (nI 5) (by rw [if_neg c3]) (by rw [if_neg c1])
        refine sd_iload_n dMO_measure_2 rfl rfl ?_
        refine sd_sipush (v := nI 194) dMO_measure_3 (by decide) ?_
        refine nn_icmp_ge 57 dMO_measure_6 (by decide) (by omega) (by omega) (fun c6 => ?_) (fun c6 => ?_)
        ·
          exact absurd c6 (by omega)
        ·
          refine sd_aload_n dMO_measure_9 rfl rfl ?_
          refine fx_getr 10 34 (27) dMO_measure_10 fMO_88 rfl rfl ?_
          refine sd_iload_n dMO_measure_13 rfl rfl ?_
          refine sd_aload_n dMO_measure_14 rfl rfl ?_
          refine fx_getr 10 30 (23) dMO_measure_15 fMO_76 rfl rfl ?_
          refine sd_iload_n dMO_measure_18 rfl rfl ?_
          refine fx_ialdv (v := (D0.1 23 j)) (j) dMO_measure_19 rfl rfl (by omega) (by decide) (e23) ?_
          refine sd_iconst (v := nI 3) dMO_measure_20 (by decide) ?_
          refine sd_icmp_ne 28 dMO_measure_21 (by decide) (fun c21 => ?_) (fun c21 => ?_)
          ·
            refine sd_iconst (v := nI 2) dMO_measure_28 (by decide) ?_
            refine fx_iast (j) dMO_measure_29 rfl rfl (by omega) (by decide) hB ?_
            refine sd_aload_n dMO_measure_30 rfl rfl ?_
            refine fx_getr 10 35 (28) dMO_measure_31 fMO_91 rfl rfl ?_
            refine sd_iload_n dMO_measure_34 rfl rfl ?_
            refine sd_aload_n dMO_measure_35 rfl rfl ?_
            refine fx_getr 10 30 (23) dMO_measure_36 fMO_76 rfl rfl ?_
            refine sd_iload_n dMO_measure_39 rfl rfl ?_
            refine fx_ialdv (v := (D0.1 23 j)) (j) dMO_measure_40 rfl rfl (by omega) (by decide) ((by simpa [fx_ua] using e23)) ?_
            refine sd_iconst (v := nI 1) dMO_measure_41 (by decide) ?_
            refine sd_icmp_ne 49 dMO_measure_42 (by decide) (fun c42 => ?_) (fun c42 => ?_)
            ·
              refine sd_iconst (v := nI 5) dMO_measure_49 (by decide) ?_
              refine fx_iast (j) dMO_measure_50 rfl rfl (by omega) (by decide) hB ?_
              refine nn_iinc 1 dMO_measure_51 rfl (by decide) ?_
              refine sd_goto 2 dMO_measure_54 (by decide) ?_
              refine sd_locp (al' := [(0, .ref (o + (0))), (1, .int (nI (j + 1)))]) [1, 0] rfl ?_
              exact n2
            ·
              exact absurd c42 c1
          ·
            exact absurd c21 c3
/-- the trees at the beginning -/
def T0_ (K : Nat → Nat) (n : Nat) : Option ft := if K n = 3 then none else if K n = 1 then some .nil else some .line
theorem mb_0 {D0 D : fx_D} {N : Nat} {K L R lk ρ : Nat → Nat} (hg : gst D0 N K L R lk ρ) (h : ∀ n, n < 194 → D.1 27 n = (if D0.1 23 n = nI 3 then nI 0 else nI 2) ∧ D.1 28 n = (if D0.1 23 n = nI 1 then nI 4 else nI 5)) : mb D N K L R ρ (T0_ K) := by
  have key : ∀ n, ac N n → ∀ c, c < 4 → (D0.1 23 n = nI c ↔ K n = c) := fun n hn c hc => by
    rw [(hg.1 n hn).1]
    have := hg.2.1.2.1 n
    exact nI_eq (by omega) (by omega)
  refine ⟨fun n hn => ?_, fun n hn => ?_⟩
  · obtain ⟨a, b⟩ := h n (hg.2.1.lt hn)
    have k3 := key n hn 3 (by omega)
    have k1 := key n hn 1 (by omega)
    unfold T0_
    by_cases e3 : K n = 3
    · rw [if_pos e3]
      rw [if_pos (k3.mpr e3)] at a
      exact ⟨fun t ht => (by cases ht), fun _ => ⟨e3, a⟩⟩
    · rw [if_neg e3]
      rw [if_neg (fun z => e3 (k3.mp z))] at a
      by_cases e1 : K n = 1
      · rw [if_pos e1]
        rw [if_pos (k1.mpr e1)] at b
        refine ⟨fun t ht => ?_, fun z => by cases z⟩
        cases ht
        exact ⟨trivial, a, b⟩
      · rw [if_neg e1]
        rw [if_neg (fun z => e1 (k1.mp z))] at b
        refine ⟨fun t ht => ?_, fun z => by cases z⟩
        cases ht
        exact ⟨trivial, a, b⟩
  · unfold T0_
    refine ⟨fun k => ?_, fun k => ?_, fun k => ?_, fun k t ht => ?_⟩
    · rw [if_neg (by omega), if_neg (by omega)]
    · rw [if_neg (by omega), if_pos k]
    · rw [if_neg (by omega), if_neg (by omega)]
    · rw [if_pos k] at ht
      cases ht
