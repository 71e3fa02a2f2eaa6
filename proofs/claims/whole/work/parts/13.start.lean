/-! THE CLAIM OUT OF ONE WALK OF THE LAW'S BODY. Your part is whole_start (and what it stands on); all else here is the same for every law, but numbers. -/
def R_law : String := "SequentDeskLaw"
def lw_P (b : Addr) (xs : List Int32) (args : Array Value) (s : State) : Prop := args = #[.ref b] ∧ s.IntsAt b xs ∧ xs.length ≤ 2560 ∧ (Jvm.Cond.and given_1 narrow_1).before args s = true
def lw_Q (_ : Array Value) (s : State) (o : Outcome) (t : State) : Prop := o = .returned (some (.int 1)) ∧ Framed s o t [] 600000 7302250
def lw_Z (below : List Frame) (a : Array Value) (s : State) : State → Prop := fun t => ∃ o, t.status = .running ∧ Ended t below o ∧ lw_Q a s o t
/-- the law's own end, with 1 on the stack, nothing written that was there before, its room as the claim has it -/
theorem lw_ret {p : Program} {l : Launch} {e : Env} {s : State} {m : MethodId} {below : List Frame} {meth : Method} {c : Code} {b : Nat} (hx : p.tables.exec = Jvm.exec) (hb : c.code = code) (hr : meth.sig.returnType = ret) (hlocks : meth.locks = false) {pc : Nat} {H : Heap} {ls : Array Slot} (hdg : decode code pc = .ok (.ireturn, 1)) : W p l e room_1 s m #[Value.ref b] below meth c H [] 600000 7302250 (lw_Z below #[Value.ref b] s) (F0 m pc ls [.int 1]) := by
  intro T hT X
  obtain ⟨fs, hret, hrun, hended, hW, hframe⟩ := X.leave (v := some (.int 1)) (hlocks := hlocks) (fun h => by rw [hr] at h; cases h)
  have hmeth' : T.vm.method? m = some meth := X.method'
  refine ⟨T.setFrames fs, ?_, .returned (some (.int 1)), hrun, hended, rfl, ⟨_, rfl⟩, hW, hframe⟩
  jvm_step X.here [X.here.top, hx, hb, hdg, hmeth', hr, ret, narrow_b1]
  (try refine ⟨rfl, ?_⟩); (try refine ⟨rfl, ?_⟩)
  first | (intro acts; rw [hret _ acts rfl rfl rfl]) | rw [hret _ _ rfl rfl rfl]
  exact Steps.refl _
/-- what holds at the law's entry: the machine, the code, the tables' words (any of lw_tbl by 'hts w (by decide +kernel)'), the script of L ints xs at the cell b, what the Statement gives of the start (any of its parts by flat_of_before) -/
def lw_At (p : Program) (s : State) (m : MethodId) (meth : Method) (c : Code) (b L : Nat) (xs : Nat → Int32) : Prop :=
  p.tables.exec = Jvm.exec ∧ c.code = code ∧ meth.sig.returnType = ret ∧ c.maxLocals = 4 ∧ s.vm.findClass R_law = some m.cls ∧ (∀ w ∈ lw_tbl, w.before #[Value.ref b] s = true) ∧ va_X b L xs s s.heap ∧ b < s.heap.size ∧ meth.locks = false ∧ (Jvm.Cond.and given_1 narrow_1).before #[Value.ref b] s = true
/-! ===== what holds at the law's entry, in the words of the logic ===== -/
theorem sd_sub {w : Cond} (h : w ∈ sd_tbl) : w ∈ lw_tbl := (List.mem_filter.mp h).1
theorem sd_inst (ci : Nat) (r : vw_C) (h : sd_cl[ci]? = some r) : Cond.instantiable r.1 r.2.2 ∈ lw_tbl := by
  match ci, h with
  | 0, h => cases h; exact sd_sub (sd_memT (sd_in1 (List.mem_of_getElem? (i := 16) rfl)) rfl)
  | 1, h => cases h; exact sd_sub (sd_memT (sd_in1 (List.mem_of_getElem? (i := 92) rfl)) rfl)
  | 2, h => cases h; exact sd_sub (sd_memT (sd_in1 (List.mem_of_getElem? (i := 232) rfl)) rfl)
  | 3, h => cases h; exact sd_sub (sd_memT (sd_in1 (List.mem_of_getElem? (i := 225) rfl)) rfl)
  | 4, h => cases h; exact sd_sub (sd_memT (sd_in1 (List.mem_of_getElem? (i := 111) rfl)) rfl)
  | 5, h => cases h; exact sd_sub (sd_memT (sd_in1 (List.mem_of_getElem? (i := 145) rfl)) rfl)
  | 6, h => cases h; exact sd_sub (sd_memT (sd_in1 (List.mem_of_getElem? (i := 158) rfl)) rfl)
  | 7, h => cases h; exact sd_sub (sd_memT (sd_in1 (List.mem_of_getElem? (i := 31) rfl)) rfl)
  | 8, h => cases h; exact sd_sub (sd_memT (sd_in1 (List.mem_of_getElem? (i := 24) rfl)) rfl)
  | 9, h => cases h; exact sd_sub (sd_memT (sd_in1 (List.mem_of_getElem? (i := 152) rfl)) rfl)
  | 10, h => cases h; exact sd_sub (sd_memT (sd_in4 (List.mem_of_getElem? (i := 74) rfl)) rfl)
  | k + 11, h => simp [sd_cl] at h
theorem sd_known {s : State} {args : Array Value} (hts : ∀ w ∈ lw_tbl, w.before args s = true) : ∃ D : va_G, ∀ (c : Nat) (q : vw_C), sd_cl[c]? = some q → u_Kn s q.1 q.2.1 q.2.2 (D.1 c) (D.2 c) := by
  have hk : ∀ c : Nat, ∃ y : ClassId × (Nat → Nat), ∀ q : vw_C, sd_cl[c]? = some q → u_Kn s q.1 q.2.1 q.2.2 y.1 y.2 := by
    intro c
    cases hc : sd_cl[c]? with
    | none => exact ⟨(0, fun _ => 0), fun q hq => by cases hq⟩
    | some r =>
      obtain ⟨cC, iS, h⟩ := u_known (C := r.1) (T := r.2.1) (N := r.2.2) (n := r.2.2) hts (fun w hw => sd_sub ((sd_cls_ok c r hc).1 w hw)) (hts _ (sd_inst c r hc))
      exact ⟨(cC, iS), fun q hq => by cases hq; exact h⟩
  obtain ⟨f, hf⟩ := Classical.axiomOfChoice hk
  exact ⟨(fun c => (f c).1, fun c => (f c).2), hf⟩
theorem sd_arrs {s : State} {args : Array Value} (hts : ∀ w ∈ lw_tbl, w.before args s = true) (hao : ∀ C ∈ sd_aos, va_AO C s) : ∃ A : Nat → ClassId, ∀ (k : Nat) (q : ClassId × FieldType), (sd_tys A)[k]? = some q → ArrOfT s q.1 q.2 ∧ va_RA s q.1 q.2 := by
  have h0 : ∃ c : ClassId, ArrOfT s c .int ∧ va_RA s c .int := by
    obtain ⟨cA, kA, comp, hfind, hk, hkind⟩ := Cond.arrayClass_spec (hts _ (sd_sub sd_arr_int))
    exact ⟨cA, fun n z => ⟨fun k h => (by cases h), kA, hk, comp, hkind⟩, hfind⟩
  have h1 : ∀ C ∈ sd_aos, ∃ c : ClassId, ArrOfT s c (.object C) ∧ va_RA s c (.object C) := by
    intro C hC
    obtain ⟨comp, c, k, e1, e2, e3, e4, e5⟩ := Cond.arrayOver_spec (hao C hC)
    exact ⟨c, fun n z => ⟨fun k h => (by cases h), k, e3, comp, e4⟩, k, comp, e3, e4, e1, e5⟩
  obtain ⟨c0, a0⟩ := h0
  obtain ⟨c1, a1⟩ := h1 "SequentDesk$Term" (by decide)
  obtain ⟨c2, a2⟩ := h1 "SequentDesk$Theorem" (by decide)
  obtain ⟨c3, a3⟩ := h1 "SequentDesk$Goal" (by decide)
  refine ⟨fun k => if k = 0 then c0 else if k = 1 then c1 else if k = 2 then c2 else c3, fun k q hq => ?_⟩
  match k, hq with
  | 0, hq => cases hq; exact a0
  | 1, hq => cases hq; exact a1
  | 2, hq => cases hq; exact a2
  | 3, hq => cases hq; exact a3
  | k + 4, hq => simp [sd_tys] at hq
theorem st_USED_THEOREMS {s : State} {args : Array Value} {A : Nat → Prop} (hts : ∀ w ∈ lw_tbl, w.before args s = true) (hs : ∀ w ∈ flatC (Jvm.Cond.and given_1 narrow_1), w.before args s = true) (hA : ∀ a : Nat, a < s.heap.size → ¬ A a) : ∃ t : Nat, va_Z sz_USED.1 sz_USED.2.1 "[I" (.ref t) A s s.heap ∧ va_T .int t sz_USED.2.2.2.length (fun j => .int (sz_USED.2.2.2.getD j 0)) A s s.heap := by
  have hel : ∀ j : Nat, j < 9 → (Term.elem (.static "SequentDesk" "USED_THEOREMS" "[I") (.int (Int32.ofNat j))).eval args s none [] s = some ((fun j => .int (sz_USED.2.2.2.getD j 0)) j) := by
    intro j hj
    refine va_eqt ?_
    match j, hj with
    | 0, _ => exact hs (Cond.eq (.elem (.static "SequentDesk" "USED_THEOREMS" "[I") (.int 0)) (.int 0)) (by decide +kernel)
    | 1, _ => exact hs (Cond.eq (.elem (.static "SequentDesk" "USED_THEOREMS" "[I") (.int 1)) (.int 0)) (by decide +kernel)
    | 2, _ => exact hs (Cond.eq (.elem (.static "SequentDesk" "USED_THEOREMS" "[I") (.int 2)) (.int 2)) (by decide +kernel)
    | 3, _ => exact hs (Cond.eq (.elem (.static "SequentDesk" "USED_THEOREMS" "[I") (.int 3)) (.int 2)) (by decide +kernel)
    | 4, _ => exact hs (Cond.eq (.elem (.static "SequentDesk" "USED_THEOREMS" "[I") (.int 4)) (.int 1)) (by decide +kernel)
    | 5, _ => exact hs (Cond.eq (.elem (.static "SequentDesk" "USED_THEOREMS" "[I") (.int 5)) (.int 0)) (by decide +kernel)
    | 6, _ => exact hs (Cond.eq (.elem (.static "SequentDesk" "USED_THEOREMS" "[I") (.int 6)) (.int 2)) (by decide +kernel)
    | 7, _ => exact hs (Cond.eq (.elem (.static "SequentDesk" "USED_THEOREMS" "[I") (.int 7)) (.int 2)) (by decide +kernel)
    | 8, _ => exact hs (Cond.eq (.elem (.static "SequentDesk" "USED_THEOREMS" "[I") (.int 8)) (.int 1)) (by decide +kernel)
    | k + 9, hk => omega
  obtain ⟨t, h1, h2⟩ := va_Tof (tm := .static "SequentDesk" "USED_THEOREMS" "[I") (ty := .int) (N := 9) (f := fun j => .int (sz_USED.2.2.2.getD j 0)) (A := A) (by decide) (hs _ (by decide +kernel)) (va_eqt (hs (Cond.eq (.length (.static "SequentDesk" "USED_THEOREMS" "[I")) (.int 9)) (by decide +kernel))) hel hA
  exact ⟨t, va_Zref (hts (.laysStatic "SequentDesk" "USED_THEOREMS" "[I") (List.mem_append_right _ (sd_in3 (List.mem_of_getElem? (i := 58) rfl)))) (hts (.initialized "SequentDesk") (sd_sub (sd_memT (sd_in1 (List.mem_of_getElem? (i := 1) rfl)) rfl))) h1 hA, h2⟩
theorem st_LEFT_GOALS {s : State} {args : Array Value} {A : Nat → Prop} (hts : ∀ w ∈ lw_tbl, w.before args s = true) (hs : ∀ w ∈ flatC (Jvm.Cond.and given_1 narrow_1), w.before args s = true) (hA : ∀ a : Nat, a < s.heap.size → ¬ A a) : ∃ t : Nat, va_Z sz_LEFT.1 sz_LEFT.2.1 "[I" (.ref t) A s s.heap ∧ va_T .int t sz_LEFT.2.2.2.length (fun j => .int (sz_LEFT.2.2.2.getD j 0)) A s s.heap := by
  have hel : ∀ j : Nat, j < 9 → (Term.elem (.static "SequentDesk" "LEFT_GOALS" "[I") (.int (Int32.ofNat j))).eval args s none [] s = some ((fun j => .int (sz_LEFT.2.2.2.getD j 0)) j) := by
    intro j hj
    refine va_eqt ?_
    match j, hj with
    | 0, _ => exact hs (Cond.eq (.elem (.static "SequentDesk" "LEFT_GOALS" "[I") (.int 0)) (.int 0)) (by decide +kernel)
    | 1, _ => exact hs (Cond.eq (.elem (.static "SequentDesk" "LEFT_GOALS" "[I") (.int 1)) (.int 0)) (by decide +kernel)
    | 2, _ => exact hs (Cond.eq (.elem (.static "SequentDesk" "LEFT_GOALS" "[I") (.int 2)) (.int 2)) (by decide +kernel)
    | 3, _ => exact hs (Cond.eq (.elem (.static "SequentDesk" "LEFT_GOALS" "[I") (.int 3)) (.int 2)) (by decide +kernel)
    | 4, _ => exact hs (Cond.eq (.elem (.static "SequentDesk" "LEFT_GOALS" "[I") (.int 4)) (.int 1)) (by decide +kernel)
    | 5, _ => exact hs (Cond.eq (.elem (.static "SequentDesk" "LEFT_GOALS" "[I") (.int 5)) (.int 0)) (by decide +kernel)
    | 6, _ => exact hs (Cond.eq (.elem (.static "SequentDesk" "LEFT_GOALS" "[I") (.int 6)) (.int 2)) (by decide +kernel)
    | 7, _ => exact hs (Cond.eq (.elem (.static "SequentDesk" "LEFT_GOALS" "[I") (.int 7)) (.int 2)) (by decide +kernel)
    | 8, _ => exact hs (Cond.eq (.elem (.static "SequentDesk" "LEFT_GOALS" "[I") (.int 8)) (.int 0)) (by decide +kernel)
    | k + 9, hk => omega
  obtain ⟨t, h1, h2⟩ := va_Tof (tm := .static "SequentDesk" "LEFT_GOALS" "[I") (ty := .int) (N := 9) (f := fun j => .int (sz_LEFT.2.2.2.getD j 0)) (A := A) (by decide) (hs _ (by decide +kernel)) (va_eqt (hs (Cond.eq (.length (.static "SequentDesk" "LEFT_GOALS" "[I")) (.int 9)) (by decide +kernel))) hel hA
  exact ⟨t, va_Zref (hts (.laysStatic "SequentDesk" "LEFT_GOALS" "[I") (List.mem_append_right _ (sd_in4 (List.mem_of_getElem? (i := 22) rfl)))) (hts (.initialized "SequentDesk") (sd_sub (sd_memT (sd_in1 (List.mem_of_getElem? (i := 1) rfl)) rfl))) h1 hA, h2⟩
theorem st_REPEATED {s : State} {args : Array Value} {A : Nat → Prop} (hts : ∀ w ∈ lw_tbl, w.before args s = true) (hs : ∀ w ∈ flatC (Jvm.Cond.and given_1 narrow_1), w.before args s = true) (hA : ∀ a : Nat, a < s.heap.size → ¬ A a) : ∃ t : Nat, va_Z sz_REPEATED.1 sz_REPEATED.2.1 "[I" (.ref t) A s s.heap ∧ va_T .int t sz_REPEATED.2.2.2.length (fun j => .int (sz_REPEATED.2.2.2.getD j 0)) A s s.heap := by
  have hel : ∀ j : Nat, j < 12 → (Term.elem (.static "SequentDesk" "REPEATED" "[I") (.int (Int32.ofNat j))).eval args s none [] s = some ((fun j => .int (sz_REPEATED.2.2.2.getD j 0)) j) := by
    intro j hj
    refine va_eqt ?_
    match j, hj with
    | 0, _ => exact hs (Cond.eq (.elem (.static "SequentDesk" "REPEATED" "[I") (.int 0)) (.int 0)) (by decide +kernel)
    | 1, _ => exact hs (Cond.eq (.elem (.static "SequentDesk" "REPEATED" "[I") (.int 1)) (.int 1)) (by decide +kernel)
    | 2, _ => exact hs (Cond.eq (.elem (.static "SequentDesk" "REPEATED" "[I") (.int 2)) (.int 5)) (by decide +kernel)
    | 3, _ => exact hs (Cond.eq (.elem (.static "SequentDesk" "REPEATED" "[I") (.int 3)) (.int 4)) (by decide +kernel)
    | 4, _ => exact hs (Cond.eq (.elem (.static "SequentDesk" "REPEATED" "[I") (.int 4)) (.int 4)) (by decide +kernel)
    | 5, _ => exact hs (Cond.eq (.elem (.static "SequentDesk" "REPEATED" "[I") (.int 5)) (.int 4)) (by decide +kernel)
    | 6, _ => exact hs (Cond.eq (.elem (.static "SequentDesk" "REPEATED" "[I") (.int 6)) (.int 4)) (by decide +kernel)
    | 7, _ => exact hs (Cond.eq (.elem (.static "SequentDesk" "REPEATED" "[I") (.int 7)) (.int 4)) (by decide +kernel)
    | 8, _ => exact hs (Cond.eq (.elem (.static "SequentDesk" "REPEATED" "[I") (.int 8)) (.int 4)) (by decide +kernel)
    | 9, _ => exact hs (Cond.eq (.elem (.static "SequentDesk" "REPEATED" "[I") (.int 9)) (.int 4)) (by decide +kernel)
    | 10, _ => exact hs (Cond.eq (.elem (.static "SequentDesk" "REPEATED" "[I") (.int 10)) (.int 4)) (by decide +kernel)
    | 11, _ => exact hs (Cond.eq (.elem (.static "SequentDesk" "REPEATED" "[I") (.int 11)) (.int 3)) (by decide +kernel)
    | k + 12, hk => omega
  obtain ⟨t, h1, h2⟩ := va_Tof (tm := .static "SequentDesk" "REPEATED" "[I") (ty := .int) (N := 12) (f := fun j => .int (sz_REPEATED.2.2.2.getD j 0)) (A := A) (by decide) (hs _ (by decide +kernel)) (va_eqt (hs (Cond.eq (.length (.static "SequentDesk" "REPEATED" "[I")) (.int 12)) (by decide +kernel))) hel hA
  exact ⟨t, va_Zref (hts (.laysStatic "SequentDesk" "REPEATED" "[I") (List.mem_append_right _ (sd_in4 (List.mem_of_getElem? (i := 45) rfl)))) (hts (.initialized "SequentDesk") (sd_sub (sd_memT (sd_in1 (List.mem_of_getElem? (i := 1) rfl)) rfl))) h1 hA, h2⟩
theorem st_REPEATED_WITH {s : State} {args : Array Value} {A : Nat → Prop} (hts : ∀ w ∈ lw_tbl, w.before args s = true) (hs : ∀ w ∈ flatC (Jvm.Cond.and given_1 narrow_1), w.before args s = true) (hA : ∀ a : Nat, a < s.heap.size → ¬ A a) : ∃ t : Nat, va_Z sz_WITH.1 sz_WITH.2.1 "[I" (.ref t) A s s.heap ∧ va_T .int t sz_WITH.2.2.2.length (fun j => .int (sz_WITH.2.2.2.getD j 0)) A s s.heap := by
  have hel : ∀ j : Nat, j < 12 → (Term.elem (.static "SequentDesk" "REPEATED_WITH" "[I") (.int (Int32.ofNat j))).eval args s none [] s = some ((fun j => .int (sz_WITH.2.2.2.getD j 0)) j) := by
    intro j hj
    refine va_eqt ?_
    match j, hj with
    | 0, _ => exact hs (Cond.eq (.elem (.static "SequentDesk" "REPEATED_WITH" "[I") (.int 0)) (.int 0)) (by decide +kernel)
    | 1, _ => exact hs (Cond.eq (.elem (.static "SequentDesk" "REPEATED_WITH" "[I") (.int 1)) (.int 0)) (by decide +kernel)
    | 2, _ => exact hs (Cond.eq (.elem (.static "SequentDesk" "REPEATED_WITH" "[I") (.int 2)) (.int 0)) (by decide +kernel)
    | 3, _ => exact hs (Cond.eq (.elem (.static "SequentDesk" "REPEATED_WITH" "[I") (.int 3)) (.int 0)) (by decide +kernel)
    | 4, _ => exact hs (Cond.eq (.elem (.static "SequentDesk" "REPEATED_WITH" "[I") (.int 4)) (.int 1)) (by decide +kernel)
    | 5, _ => exact hs (Cond.eq (.elem (.static "SequentDesk" "REPEATED_WITH" "[I") (.int 5)) (.int 2)) (by decide +kernel)
    | 6, _ => exact hs (Cond.eq (.elem (.static "SequentDesk" "REPEATED_WITH" "[I") (.int 6)) (.int 3)) (by decide +kernel)
    | 7, _ => exact hs (Cond.eq (.elem (.static "SequentDesk" "REPEATED_WITH" "[I") (.int 7)) (.int 4)) (by decide +kernel)
    | 8, _ => exact hs (Cond.eq (.elem (.static "SequentDesk" "REPEATED_WITH" "[I") (.int 8)) (.int 5)) (by decide +kernel)
    | 9, _ => exact hs (Cond.eq (.elem (.static "SequentDesk" "REPEATED_WITH" "[I") (.int 9)) (.int 6)) (by decide +kernel)
    | 10, _ => exact hs (Cond.eq (.elem (.static "SequentDesk" "REPEATED_WITH" "[I") (.int 10)) (.int 7)) (by decide +kernel)
    | 11, _ => exact hs (Cond.eq (.elem (.static "SequentDesk" "REPEATED_WITH" "[I") (.int 11)) (.int 0)) (by decide +kernel)
    | k + 12, hk => omega
  obtain ⟨t, h1, h2⟩ := va_Tof (tm := .static "SequentDesk" "REPEATED_WITH" "[I") (ty := .int) (N := 12) (f := fun j => .int (sz_WITH.2.2.2.getD j 0)) (A := A) (by decide) (hs _ (by decide +kernel)) (va_eqt (hs (Cond.eq (.length (.static "SequentDesk" "REPEATED_WITH" "[I")) (.int 12)) (by decide +kernel))) hel hA
  exact ⟨t, va_Zref (hts (.laysStatic "SequentDesk" "REPEATED_WITH" "[I") (List.mem_append_right _ (sd_in4 (List.mem_of_getElem? (i := 47) rfl)))) (hts (.initialized "SequentDesk") (sd_sub (sd_memT (sd_in1 (List.mem_of_getElem? (i := 1) rfl)) rfl))) h1 hA, h2⟩
theorem sd_start {p : Program} {s : State} {m : MethodId} {meth : Method} {c : Code} {b L : Nat} {xs : Nat → Int32} (C0 : lw_At p s m meth c b L xs) : ∃ G : sd_G, sd_T G s ∧ G.2.1 = s.heap.size ∧ G.2.2.2 = (b, L, xs) := by
  obtain ⟨hx, hb, hr, hml, hown, hts, hX, hbl, hlocks, hgv⟩ := C0
  have hA : ∀ a : Nat, a < s.heap.size → ¬ s.heap.size ≤ a := fun a h => Nat.not_le.mpr h
  have hs := flat_of_before _ hgv
  have hao : ∀ C ∈ sd_aos, va_AO C s := by
    intro C hC
    simp only [sd_aos, List.mem_cons, List.not_mem_nil, or_false] at hC
    rcases hC with rfl | rfl | rfl
    · exact va_AO.of (hts _ (List.mem_append_right _ (sd_in1 (List.mem_of_getElem? (i := 30) rfl))))
    · exact va_AO.of (hts _ (List.mem_append_right _ (sd_in1 (List.mem_of_getElem? (i := 151) rfl))))
    · exact va_AO.of (hts _ (List.mem_append_right _ (sd_in1 (List.mem_of_getElem? (i := 231) rfl))))
  obtain ⟨D, hD⟩ := sd_known hts
  obtain ⟨A, hAr⟩ := sd_arrs hts hao
  obtain ⟨t0, z0⟩ := st_USED_THEOREMS (A := fun q => s.heap.size ≤ q) hts hs hA
  obtain ⟨t1, z1⟩ := st_LEFT_GOALS (A := fun q => s.heap.size ≤ q) hts hs hA
  obtain ⟨t2, z2⟩ := st_REPEATED (A := fun q => s.heap.size ≤ q) hts hs hA
  obtain ⟨t3, z3⟩ := st_REPEATED_WITH (A := fun q => s.heap.size ≤ q) hts hs hA
  refine ⟨((D, A), s.heap.size, (fun k => if k = 0 then t0 else if k = 1 then t1 else if k = 2 then t2 else t3), (b, L, xs)), ⟨⟨hD, hAr⟩, fun w hw => ?_, hao, fun z hz => ?_, ?_⟩, rfl, rfl⟩
  · exact va_Nw.of (sd_nest_on w hw) (hts w (List.mem_append_right _ (List.mem_filter.mp hw).1))
  · simp only [sd_sts, List.mem_cons, List.not_mem_nil, or_false] at hz
    rcases hz with rfl | rfl | rfl | rfl
    · exact z0
    · exact z1
    · exact z2
    · exact z3
  · obtain ⟨scr, h1, h2, h3, h4, h5⟩ := hX
    exact ⟨scr, h1, h2, h3, by rw [h4]; exact Nat.le_refl _, by rw [h4], h5, hA b hbl⟩
