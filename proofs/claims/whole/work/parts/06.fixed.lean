/-! ===== heaps of a fixed layout: objects at base + offset, only numbers vary ===== -/
/-- a field: a constant reference (its offset), or a number (true: a long) -/
abbrev fx_E : Type := Nat ⊕ Bool
/-- a cell: an object (class, fields), an int array (length), an array of references (tag, length, offsets) -/
abbrev fx_C : Type := (Nat × List fx_E) ⊕ Nat ⊕ (Nat × Nat × (Nat → Nat))
abbrev fx_S : Type := Nat → Option fx_C
/-- what varies: contents of int arrays by offset, int fields by offset and place, the long field of an offset -/
abbrev fx_D : Type := (Nat → Nat → Int32) × (Nat → Nat → Int32) × (Nat → Int64)
def fx_fs (o : Nat) (F : Nat → Int32) (L : Int64) : List fx_E → Nat → List Value
  | [], _ => []
  | .inl r :: t, k => .ref (o + r) :: fx_fs o F L t (k + 1)
  | .inr false :: t, k => .int (F k) :: fx_fs o F L t (k + 1)
  | .inr true :: t, k => .long L :: fx_fs o F L t (k + 1)
def fx_cell (A : Nat → ClassId) (o : Nat) (D : fx_D) (x : Nat) : fx_C → va_E
  | .inl (ci, t) => .inr (ci, fx_fs o (D.2.1 x) (D.2.2 x) t 0)
  | .inr (.inl N) => .inl (A 0, N, .inl (D.1 x))
  | .inr (.inr (tag, N, f)) => .inl (A tag, N, .inr (.inr (.inr (.inr (fun i => if i < N then some (o + f i) else none)))))
def fx_h (A : Nat → ClassId) (S : fx_S) (o : Nat) (D : fx_D) (h0 : sd_H) : sd_H := fun q => if q < o then h0 q else match S (q - o) with
  | none => h0 q
  | some c => some (fx_cell A o D (q - o) c)
theorem fx_at {A : Nat → ClassId} {S : fx_S} {o : Nat} {D : fx_D} {h0 : sd_H} {x : Nat} {c : fx_C} (hs : S x = some c) : fx_h A S o D h0 (o + x) = some (fx_cell A o D x c) := by
  unfold fx_h
  rw [if_neg (by omega), Nat.add_sub_cancel_left, hs]
def fx_ua (D : fx_D) (x i : Nat) (v : Int32) : fx_D := (fun y => if y = x then upd (D.1 x) i v else D.1 y, D.2)
def fx_uf (D : fx_D) (x j : Nat) (v : Int32) : fx_D := (D.1, fun y => if y = x then upd (D.2.1 x) j v else D.2.1 y, D.2.2)
def fx_ul (D : fx_D) (x : Nat) (v : Int64) : fx_D := (D.1, D.2.1, fun y => if y = x then v else D.2.2 y)
theorem fx_fs_get {o : Nat} {F : Nat → Int32} {L : Int64} : ∀ {t : List fx_E} {k j : Nat} {e : fx_E}, t[j]? = some e → (fx_fs o F L t k)[j]? = some (match e with | .inl r => .ref (o + r) | .inr false => .int (F (k + j)) | .inr true => .long L)
  | [], k, j, e, h => by simp at h
  | a :: t, k, 0, e, h => by
    simp at h
    subst h
    rcases a with r | b
    · rfl
    · cases b <;> rfl
  | a :: t, k, j + 1, e, h => by
    have h1 : t[j]? = some e := by simpa using h
    have h2 := fx_fs_get (o := o) (F := F) (L := L) (k := k + 1) h1
    rw [show k + (j + 1) = k + 1 + j by omega]
    rcases a with r | b
    · simpa [fx_fs] using h2
    · cases b <;> simpa [fx_fs] using h2
theorem fx_fs_len {o : Nat} {F : Nat → Int32} {L : Int64} : ∀ {t : List fx_E} {k : Nat}, (fx_fs o F L t k).length = t.length
  | [], _ => rfl
  | .inl r :: t, k => by simp [fx_fs, fx_fs_len]
  | .inr false :: t, k => by simp [fx_fs, fx_fs_len]
  | .inr true :: t, k => by simp [fx_fs, fx_fs_len]
theorem fx_fs_congr {o : Nat} {F F' : Nat → Int32} {L : Int64} : ∀ {t : List fx_E} {k : Nat}, (∀ i, k ≤ i → F i = F' i) → fx_fs o F L t k = fx_fs o F' L t k
  | [], _, _ => rfl
  | .inl r :: t, k, h => by simp [fx_fs, fx_fs_congr (k := k + 1) (fun i hi => h i (by omega))]
  | .inr false :: t, k, h => by simp [fx_fs, h k (Nat.le_refl k), fx_fs_congr (k := k + 1) (fun i hi => h i (by omega))]
  | .inr true :: t, k, h => by simp [fx_fs, fx_fs_congr (k := k + 1) (fun i hi => h i (by omega))]
theorem fx_fs_set {o : Nat} {F : Nat → Int32} {L : Int64} {v : Int32} : ∀ {t : List fx_E} {k j : Nat}, t[j]? = some (.inr false) → (fx_fs o F L t k).set j (.int v) = fx_fs o (upd F (k + j) v) L t k
  | [], k, j, h => by simp at h
  | a :: t, k, 0, h => by
    simp at h
    subst h
    simp only [fx_fs, List.set_cons_zero, Nat.add_zero]
    rw [pk_us, fx_fs_congr (F := F) (F' := upd F k v) (k := k + 1) (fun i hi => (pk_un (by omega)).symm)]
  | a :: t, k, j + 1, h => by
    have h1 : t[j]? = some (.inr false) := by simpa using h
    have h2 := fx_fs_set (o := o) (F := F) (L := L) (v := v) (k := k + 1) h1
    rw [show k + (j + 1) = k + 1 + j by omega]
    rcases a with r | b
    · simp [fx_fs, h2]
    · cases b
      · simp only [fx_fs, List.set_cons_succ, h2]
        rw [pk_un (by omega)]
      · simp [fx_fs, h2]
theorem fx_fs_setl {o : Nat} {F : Nat → Int32} {L v : Int64} : ∀ {t : List fx_E} {k j : Nat}, t[j]? = some (.inr true) → (∀ i, t[i]? = some (.inr true) → i = j) → (fx_fs o F L t k).set j (.long v) = fx_fs o F v t k
  | [], k, j, h, _ => by simp at h
  | a :: t, k, 0, h, hu => by
    simp at h
    subst h
    simp only [fx_fs, List.set_cons_zero]
    congr 1
    have hn : ∀ i : Nat, t[i]? ≠ some (.inr true : fx_E) := fun i hi => by
      have := hu (i + 1) (by simpa using hi)
      omega
    clear hu
    generalize k + 1 = k'
    induction t generalizing k' with
    | nil => rfl
    | cons b t ih =>
      have h3 := ih (fun i hi => hn (i + 1) (by simpa using hi)) (k' + 1)
      rcases b with r | b
      · simp [fx_fs, h3]
      · cases b
        · simp [fx_fs, h3]
        · exact absurd rfl (hn 0)
  | a :: t, k, j + 1, h, hu => by
    have h1 : t[j]? = some (.inr true) := by simpa using h
    have h2 := fx_fs_setl (o := o) (F := F) (L := L) (v := v) (k := k + 1) h1 (fun i hi => by have := hu (i + 1) (by simpa using hi); omega)
    rcases a with r | b
    · simp [fx_fs, h2]
    · cases b
      · simp [fx_fs, h2]
      · exact absurd (hu 0 rfl) (by omega)
theorem fx_up {A : Nat → ClassId} {S : fx_S} {o : Nat} {D D' : fx_D} {h0 : sd_H} {x : Nat} {c : fx_C} {e : va_E} (hs : S x = some c) (he : e = fx_cell A o D' x c) (ho : ∀ y c', y ≠ x → S y = some c' → fx_cell A o D y c' = fx_cell A o D' y c') : sd_up (fx_h A S o D h0) (o + x) e = fx_h A S o D' h0 := by
  funext q
  unfold sd_up fx_h
  by_cases hq : q = o + x
  · subst hq
    rw [if_pos rfl, if_neg (by omega), Nat.add_sub_cancel_left, hs, he]
  · rw [if_neg hq]
    by_cases hl : q < o
    · rw [if_pos hl, if_pos hl]
    · rw [if_neg hl, if_neg hl]
      cases hc : S (q - o) with
      | none => rfl
      | some c' =>
        simp only
        rw [ho (q - o) c' (by omega) hc]
theorem fx_cell_a {A : Nat → ClassId} {o : Nat} {D D' : fx_D} {y : Nat} {c : fx_C} (h1 : D.1 y = D'.1 y) (h2 : D.2.1 y = D'.2.1 y) (h3 : D.2.2 y = D'.2.2 y) : fx_cell A o D y c = fx_cell A o D' y c := by
  rcases c with ⟨ci, t⟩ | N | ⟨tag, N, f⟩
  · simp only [fx_cell, h2, h3]
  · simp only [fx_cell, h1]
  · rfl
section FXR
variable {G : sd_G} {M : sd_M} {d mc ms : Nat} {Q : sd_Q} {pc : Nat} {al : List (Nat × Value)} {st : List Value} {nx k n : Nat} {S : fx_S} {o : Nat} {D : fx_D} {h0 : sd_H}
theorem fx_getr {index x : Nat} {t : List fx_E} (ci j r : Nat) (hd : decode M.2.1 pc = .ok (.getfield index, 3)) (hw : sd_fl M.1.cls index ci j) (hs : S x = some (.inl (ci, t))) (ht : t[j]? = some (.inl r)) (kk : sd_W G M d mc ms Q (pc + 3) al (.ref (o + r) :: st) (fx_h G.1.2 S o D h0) nx k n) : sd_W G M d mc ms Q pc al (.ref (o + x) :: st) (fx_h G.1.2 S o D h0) nx k n :=
  sd_getf ci j hd hw (fx_at hs) (fx_fs_get ht) kk
theorem fx_geti {index x : Nat} {t : List fx_E} (ci j : Nat) (hd : decode M.2.1 pc = .ok (.getfield index, 3)) (hw : sd_fl M.1.cls index ci j) (hs : S x = some (.inl (ci, t))) (ht : t[j]? = some (.inr false)) (kk : sd_W G M d mc ms Q (pc + 3) al (.int (D.2.1 x j) :: st) (fx_h G.1.2 S o D h0) nx k n) : sd_W G M d mc ms Q pc al (.ref (o + x) :: st) (fx_h G.1.2 S o D h0) nx k n := by
  refine sd_getf ci j hd hw (fx_at hs) (fx_fs_get ht) ?_
  simp only [Nat.zero_add]
  exact kk
theorem fx_getl {index x : Nat} {t : List fx_E} (ci j : Nat) (hd : decode M.2.1 pc = .ok (.getfield index, 3)) (hw : sd_fl M.1.cls index ci j) (hs : S x = some (.inl (ci, t))) (ht : t[j]? = some (.inr true)) (kk : sd_W G M d mc ms Q (pc + 3) al (.long (D.2.2 x) :: st) (fx_h G.1.2 S o D h0) nx k n) : sd_W G M d mc ms Q pc al (.ref (o + x) :: st) (fx_h G.1.2 S o D h0) nx k n :=
  sd_getf ci j hd hw (fx_at hs) (fx_fs_get ht) kk
theorem fx_puti {index x : Nat} {t : List fx_E} {v : Int32} (ci j : Nat) (hd : decode M.2.1 pc = .ok (.putfield index, 3)) (hw : sd_fl M.1.cls index ci j) (hfin : (sd_cl[ci]?).map (fun r => (r.2.1 j).2.2.2) = some false) (hty : sd_ty ci j = .int) (hs : S x = some (.inl (ci, t))) (ht : t[j]? = some (.inr false)) (hB : G.2.1 ≤ o) (kk : sd_W G M d mc ms Q (pc + 3) al st (fx_h G.1.2 S o (fx_uf D x j v) h0) nx k n) : sd_W G M d mc ms Q pc al (.int v :: .ref (o + x) :: st) (fx_h G.1.2 S o D h0) nx k n := by
  refine sd_putf ci j .int hd hw hfin hty rfl rfl (fx_at hs) (by rw [fx_fs_len]; exact (List.getElem?_eq_some_iff.mp ht).1) (by omega) ?_
  rw [fx_up (D' := fx_uf D x j v) hs]
  · exact kk
  · simp only [fx_cell, fx_uf, if_pos]
    rw [fx_fs_set ht, Nat.zero_add]
  · intro y c' hy _
    exact fx_cell_a rfl (by simp [fx_uf, hy]) rfl
theorem fx_putz {index x : Nat} {t : List fx_E} {v : Int32} (ci j : Nat) (hd : decode M.2.1 pc = .ok (.putfield index, 3)) (hw : sd_fl M.1.cls index ci j) (hfin : (sd_cl[ci]?).map (fun r => (r.2.1 j).2.2.2) = some false) (hty : sd_ty ci j = .boolean) (hv : v = 0 ∨ v = 1) (hs : S x = some (.inl (ci, t))) (ht : t[j]? = some (.inr false)) (hB : G.2.1 ≤ o) (kk : sd_W G M d mc ms Q (pc + 3) al st (fx_h G.1.2 S o (fx_uf D x j v) h0) nx k n) : sd_W G M d mc ms Q pc al (.int v :: .ref (o + x) :: st) (fx_h G.1.2 S o D h0) nx k n := by
  refine sd_putf ci j .boolean hd hw hfin hty (by rcases hv with rfl | rfl <;> decide) (by rcases hv with rfl | rfl <;> decide) (fx_at hs) (by rw [fx_fs_len]; exact (List.getElem?_eq_some_iff.mp ht).1) (by omega) ?_
  rw [fx_up (D' := fx_uf D x j v) hs]
  · exact kk
  · simp only [fx_cell, fx_uf, if_pos]
    rw [fx_fs_set ht, Nat.zero_add]
  · intro y c' hy _
    exact fx_cell_a rfl (by simp [fx_uf, hy]) rfl
theorem fx_putl {index x : Nat} {t : List fx_E} {v : Int64} (ci j : Nat) (hd : decode M.2.1 pc = .ok (.putfield index, 3)) (hw : sd_fl M.1.cls index ci j) (hfin : (sd_cl[ci]?).map (fun r => (r.2.1 j).2.2.2) = some false) (hty : sd_ty ci j = .long) (hs : S x = some (.inl (ci, t))) (ht : t[j]? = some (.inr true)) (hu : ∀ i, t[i]? = some (.inr true) → i = j) (hB : G.2.1 ≤ o) (kk : sd_W G M d mc ms Q (pc + 3) al st (fx_h G.1.2 S o (fx_ul D x v) h0) nx k n) : sd_W G M d mc ms Q pc al (.long v :: .ref (o + x) :: st) (fx_h G.1.2 S o D h0) nx k n := by
  refine sd_putf ci j .long hd hw hfin hty rfl rfl (fx_at hs) (by rw [fx_fs_len]; exact (List.getElem?_eq_some_iff.mp ht).1) (by omega) ?_
  rw [fx_up (D' := fx_ul D x v) hs]
  · exact kk
  · simp only [fx_cell, fx_ul, if_pos]
    rw [fx_fs_setl ht hu]
  · intro y c' hy _
    exact fx_cell_a rfl rfl (by simp [fx_ul, hy])
theorem fx_iald {x N : Nat} {i : Int32} (j : Nat) (hd : decode M.2.1 pc = .ok (.iaload, 1)) (hs : S x = some (.inr (.inl N))) (hi : i = nI j) (hj : j < N) (hN : N < 2 ^ 31) (kk : sd_W G M d mc ms Q (pc + 1) al (.int (D.1 x j) :: st) (fx_h G.1.2 S o D h0) nx k n) : sd_W G M d mc ms Q pc al (.int i :: .ref (o + x) :: st) (fx_h G.1.2 S o D h0) nx k n := by
  subst hi
  refine sd_iald hd (fx_at hs) (vp_in_nI hj hN) ?_
  rw [nI_clamp (by omega)]
  exact kk
theorem fx_iast {x N : Nat} {i v : Int32} (j : Nat) (hd : decode M.2.1 pc = .ok (.iastore, 1)) (hs : S x = some (.inr (.inl N))) (hi : i = nI j) (hj : j < N) (hN : N < 2 ^ 31) (hB : G.2.1 ≤ o) (kk : sd_W G M d mc ms Q (pc + 1) al st (fx_h G.1.2 S o (fx_ua D x j v) h0) nx k n) : sd_W G M d mc ms Q pc al (.int v :: .int i :: .ref (o + x) :: st) (fx_h G.1.2 S o D h0) nx k n := by
  subst hi
  refine sd_iast hd (fx_at hs) (vp_in_nI hj hN) (by omega) ?_
  rw [nI_clamp (by omega), fx_up (D' := fx_ua D x j v) hs]
  · exact kk
  · simp only [fx_cell, fx_ua, if_pos]
  · intro y c' hy _
    exact fx_cell_a (by simp [fx_ua, hy]) rfl rfl
theorem fx_alen {x N : Nat} (hd : decode M.2.1 pc = .ok (.arraylength, 1)) (hs : S x = some (.inr (.inl N))) (kk : sd_W G M d mc ms Q (pc + 1) al (.int (nI N) :: st) (fx_h G.1.2 S o D h0) nx k n) : sd_W G M d mc ms Q pc al (.ref (o + x) :: st) (fx_h G.1.2 S o D h0) nx k n :=
  sd_alen (t := 0) .int hd (fx_at hs) rfl kk
theorem fx_alenr {x N tag : Nat} {f : Nat → Nat} {C : String} (hd : decode M.2.1 pc = .ok (.arraylength, 1)) (hs : S x = some (.inr (.inr (tag, N, f)))) (ht : (sd_tys G.1.2)[tag]? = some (G.1.2 tag, .object C)) (kk : sd_W G M d mc ms Q (pc + 1) al (.int (nI N) :: st) (fx_h G.1.2 S o D h0) nx k n) : sd_W G M d mc ms Q pc al (.ref (o + x) :: st) (fx_h G.1.2 S o D h0) nx k n :=
  sd_alen (t := tag) (.object C) hd (fx_at hs) ht kk
theorem fx_aald {x N tag : Nat} {f : Nat → Nat} {i : Int32} {C : String} (j : Nat) (hd : decode M.2.1 pc = .ok (.aaload, 1)) (hs : S x = some (.inr (.inr (tag, N, f)))) (ht : (sd_tys G.1.2)[tag]? = some (G.1.2 tag, .object C)) (hi : i = nI j) (hj : j < N) (hN : N < 2 ^ 31) (kk : sd_W G M d mc ms Q (pc + 1) al (.ref (o + f j) :: st) (fx_h G.1.2 S o D h0) nx k n) : sd_W G M d mc ms Q pc al (.int i :: .ref (o + x) :: st) (fx_h G.1.2 S o D h0) nx k n := by
  subst hi
  exact sd_aald tag C hd (fx_at hs) ht (vp_in_nI hj hN) (by rw [nI_clamp (by omega), if_pos hj]) kk
end FXR
/-- the answer v, the heap h2 -/
def sd_is (v : Option Value) (h2 : sd_H) (nx : Nat) : sd_Q := fun r h' nx' => r = v ∧ h' = h2 ∧ nx' = nx
section SDC
variable {G : sd_G} {M : sd_M} {d mc ms : Nat} {Q : sd_Q} {pc : Nat} {al : List (Nat × Value)} {st : List Value} {h : sd_H} {nx k n : Nat}
theorem sd_cS {M' : sd_M} {index d' : Nat} {v : Option Value} {h2 : sd_H} (av rest : List Value) (hd : decode M.2.1 pc = .ok (.invokestatic index, 3)) (hw : sd_ml M.1.cls index M' av.length) (hst : Cond.static M'.1 ∈ sd_tbl) (hct : sd_Ct G M' d' 0 0 av h nx (sd_is v h2 nx)) (hd' : d' + 1 ≤ d) (hk : k ≤ mc) (hn : n ≤ ms) (hrest : (rest.map fun v => v.category).sum ≤ 8) (hs : st = av.reverse ++ rest) (kk : sd_W G M d mc ms Q (pc + 3) al (v.toList ++ rest) h2 nx k n) : sd_W G M d mc ms Q pc al st h nx k n :=
  sd_callS av rest hd hw hst hct hd' hk hn hrest hs (fun r h' nx' q => by obtain ⟨rfl, rfl, rfl⟩ := q; exact kk)
theorem sd_cV {M' : sd_M} {index d' b : Nat} {v : Option Value} {h2 : sd_H} (ci : Nat) {fs : List Value} (r0 : vw_C) (av rest : List Value) (hd : decode M.2.1 pc = .ok (.invokevirtual index, 3)) (hw : sd_ml M.1.cls index M' av.length) (hr : sd_cl[ci]? = some r0) (hc : h b = some (.inr (ci, fs))) (hst : Cond.instanceMethod M'.1 ∈ sd_tbl ∧ Cond.selects r0.1 M'.1 M'.1 ∈ sd_tbl) (hct : sd_Ct G M' d' 0 0 (.ref b :: av) h nx (sd_is v h2 nx)) (hd' : d' + 1 ≤ d) (hk : k ≤ mc) (hn : n ≤ ms) (hrest : (rest.map fun v => v.category).sum ≤ 8) (hs : st = av.reverse ++ .ref b :: rest) (kk : sd_W G M d mc ms Q (pc + 3) al (v.toList ++ rest) h2 nx k n) : sd_W G M d mc ms Q pc al st h nx k n :=
  sd_callV ci r0 av rest hd hw hr hc hst hct hd' hk hn hrest hs (fun r h' nx' q => by obtain ⟨rfl, rfl, rfl⟩ := q; exact kk)
end SDC
