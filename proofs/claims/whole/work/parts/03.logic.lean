/-! ===== the logic: contracts sd_Ct and the judgement sd_W over a heap that is a function of addresses ===== -/
def sd_up (h : sd_H) (a : Nat) (e : va_E) : sd_H := fun q => if q = a then some e else h q
theorem sd_up_s {h : sd_H} {a : Nat} {e : va_E} : sd_up h a e a = some e := if_pos rfl
theorem sd_up_n {h : sd_H} {a q : Nat} {e : va_E} (n : q ≠ a) : sd_up h a e q = h q := if_neg n
def sd_R (G : sd_G) (h : sd_H) (nx : Nat) (H : Heap) : Prop := H.size = nx ∧ G.2.1 ≤ nx ∧ ∀ (a : Nat) (e : va_E), h a = some e → va_at G.1.1 sd_cl (a, e) H
theorem sd_R.lt {G : sd_G} {h : sd_H} {nx : Nat} {H : Heap} (hR : sd_R G h nx H) {a : Nat} {e : va_E} (hc : h a = some e) : a < nx := by
  have := (hR.2.2 a e hc).lt
  rw [hR.1] at this
  exact this
theorem sd_R.one {G : sd_G} {h : sd_H} {nx : Nat} {H : Heap} (hR : sd_R G h nx H) {a : Nat} {e : va_E} (hc : h a = some e) : va_P G.1.1 sd_cl [(a, e)] H := by
  intro k q hk
  rcases k with _ | k
  · cases hk; exact hR.2.2 a e hc
  · simp at hk
/-- a cell is written -/
theorem sd_R.put {G : sd_G} {h : sd_H} {nx : Nat} {H H1 : Heap} (hR : sd_R G h nx H) {a : Nat} {e : va_E} (he : va_at G.1.1 sd_cl (a, e) H1) (hz : H1.size = H.size) (oq : ∀ q : Nat, q ≠ a → H1[q]? = H[q]?) : sd_R G (sd_up h a e) nx H1 := by
  refine ⟨hz.trans hR.1, hR.2.1, fun b f hb => ?_⟩
  by_cases hba : b = a
  · subst hba
    rw [sd_up_s] at hb
    cases hb
    exact he
  · rw [sd_up_n hba] at hb
    exact (hR.2.2 b f hb).kept (oq b hba)
/-- a cell is made -/
theorem sd_R.new {G : sd_G} {h : sd_H} {nx : Nat} {H H1 : Heap} (hR : sd_R G h nx H) {e : va_E} (he : va_at G.1.1 sd_cl (nx, e) H1) (hz : H1.size = nx + 1) (oq : ∀ q : Nat, q < nx → H1[q]? = H[q]?) : sd_R G (sd_up h nx e) (nx + 1) H1 := by
  refine ⟨hz, Nat.le_succ_of_le hR.2.1, fun b f hb => ?_⟩
  by_cases hba : b = nx
  · subst hba
    rw [sd_up_s] at hb
    cases hb
    exact he
  · rw [sd_up_n hba] at hb
    exact (hR.2.2 b f hb).kept (oq b (hR.lt hb))
theorem sd_S.put {G : sd_G} {H0 H H1 : Heap} {locs : List Loc} (hS : va_S (sd_A G) H0 H locs) {a i : Nat} (ha : G.2.1 ≤ a) (hz : H1.size = H.size) (oq : ∀ q : Nat, q ≠ a → H1[q]? = H[q]?) : va_S (sd_A G) H0 H1 (locs ++ [⟨a, i⟩]) := by
  refine ⟨by rw [hz]; exact hS.1, fun q h1 h2 => ?_, fun q hq => ?_⟩
  · rw [oq q (fun z => h2 (by rw [z]; exact ha))]
    exact hS.2.1 q h1 h2
  · rcases List.mem_append.mp hq with h | h
    · exact hS.2.2 q h
    · rw [List.mem_singleton] at h
      rw [h]
      exact ha
theorem sd_S.new {G : sd_G} {H0 H H1 : Heap} {locs : List Loc} (hS : va_S (sd_A G) H0 H locs) (hz : H1.size = H.size + 1) (oq : ∀ q : Nat, q < H.size → H1[q]? = H[q]?) : va_S (sd_A G) H0 H1 locs :=
  ⟨by rw [hz]; exact Nat.le_succ_of_le hS.1, fun q h1 h2 => (oq q (Nat.lt_of_lt_of_le h1 hS.1)).trans (hS.2.1 q h1 h2), hS.2.2⟩
def sd_get (al : List (Nat × Value)) (i : Nat) : Option Value := match al with
  | [] => none
  | q :: r => if q.1 == i then some q.2 else sd_get r i
theorem sd_get_mem {i : Nat} {v : Value} : ∀ {al : List (Nat × Value)}, sd_get al i = some v → (i, v) ∈ al
  | [], h => by cases h
  | q :: r, h => by
    unfold sd_get at h
    by_cases hq : q.1 == i
    · rw [if_pos hq] at h
      have h1 : q.1 = i := by simpa using hq
      have h2 : q.2 = v := Option.some.inj h
      rw [← h1, ← h2]
      exact List.mem_cons_self
    · rw [if_neg hq] at h
      exact List.mem_cons_of_mem _ (sd_get_mem h)
theorem sd_lget {ls : Array Slot} {nL i : Nat} {al : List (Nat × Value)} {v : Value} (h : lv_has ls nL al) (hg : sd_get al i = some v) : ls[i]? = some (.val v) := h.2.2 _ (sd_get_mem hg)
def sd_s1 (al : List (Nat × Value)) (i : Nat) (v : Value) : List (Nat × Value) := (i, v) :: al.filter (fun q => !(q.1 == i) && !(q.1 + 1 == i && q.2.category == 2))
def sd_s2 (al : List (Nat × Value)) (i : Nat) (v : Value) : List (Nat × Value) := (i, v) :: al.filter (fun q => !(q.1 == i) && (!(q.1 == i + 1) && !(q.1 + 1 == i && q.2.category == 2)))
/-- the instruction at pc returns r -/
def sd_ret (M : sd_M) (pc : Nat) (r : Option Value) : Prop := match r with
  | none => decode M.2.1 pc = .ok (.return_, 1) ∧ M.2.2.2 = none
  | some (.int v) => decode M.2.1 pc = .ok (.ireturn, 1) ∧ ∃ ty, M.2.2.2 = some ty ∧ narrow ty (.int v) = .int v
  | some (.long _) => decode M.2.1 pc = .ok (.lreturn, 1) ∧ M.2.2.2 = some .long
  | some (.ref _) => decode M.2.1 pc = .ok (.areturn, 1) ∧ ∃ rt, M.2.2.2 = some rt ∧ ((∃ n, rt = .object n) ∨ ∃ t, rt = .array t)
  | some .null => decode M.2.1 pc = .ok (.areturn, 1) ∧ ∃ rt, M.2.2.2 = some rt ∧ ((∃ n, rt = .object n) ∨ ∃ t, rt = .array t)
  | _ => False
abbrev sd_Q : Type := Option Value → sd_H → Nat → Prop
/-- what holds all along a frame of method M -/
def sd_X (G : sd_G) (M : sd_M) (d mc ms : Nat) (Q : sd_Q) (R : Room) (Z : State → Prop) (p : Program) (l : Launch) (e : Env) (s : State) (m : MethodId) (args : Array Value) (below : List Frame) (meth : Method) (c : Code) : Prop :=
  p.tables.exec = Jvm.exec ∧ c.code = M.2.1 ∧ c.maxLocals = M.2.2.1 ∧ s.vm.findClass M.1.cls = some m.cls ∧ (∀ w ∈ sd_tbl, w.before args s = true) ∧ sd_T G s ∧ (M.1.name = "<init>" → meth.name = "<init>") ∧ (d ≤ R.frames ∧ 64 * d ≤ R.locals ∧ mc ≤ R.cells ∧ ms ≤ R.slots) ∧ G.2.1 ≤ s.heap.size ∧
  ∀ (r : Option Value) (h : sd_H) (nx : Nat) (H : Heap) (locs : List Loc) (ls : Array Slot) (pc : Nat), Q r h nx → sd_R G h nx H → va_S (sd_A G) s.heap H locs → sd_ret M pc r → W p l e R s m args below meth c H locs mc ms Z (F0 m pc ls r.toList)
/-- from pc, with locals al and stack st, over the heap h whose next address is nx, with k cells and n slots made so far: the method comes to an end with Q -/
def sd_W (G : sd_G) (M : sd_M) (d mc ms : Nat) (Q : sd_Q) (pc : Nat) (al : List (Nat × Value)) (st : List Value) (h : sd_H) (nx k n : Nat) : Prop :=
  ∀ (p : Program) (l : Launch) (e : Env) (R : Room) (Z : State → Prop) (s : State) (m : MethodId) (args : Array Value) (below : List Frame) (meth : Method) (c : Code) (H : Heap) (locs : List Loc) (ls : Array Slot),
    sd_X G M d mc ms Q R Z p l e s m args below meth c → sd_R G h nx H → va_S (sd_A G) s.heap H locs → lv_has ls M.2.2.1 al → W p l e R s m args below meth c H locs k n Z (F0 m pc ls st)
def sd_ws (M : sd_M) : List Cond := .code M.1 M.2.1 M.2.2.1 M.2.2.2 :: sd_tbl
def sd_rm (d mc ms : Nat) : Room := { frames := d, cells := mc, slots := ms, locals := 64 * d }
def sd_Pc (G : sd_G) (av : List Value) (h : sd_H) (nx : Nat) : Array Value → State → Prop := va_Pc av (fun U => sd_R G h nx U.heap ∧ sd_T G U)
def sd_Qc (G : sd_G) (Q : sd_Q) : Array Value → State → Outcome → State → Prop := fun _ st oc t => (∃ r h nx, oc = .returned r ∧ Q r h nx ∧ sd_R G h nx t.heap) ∧ va_F (sd_A G) st t
/-- method M, called with av over h: within d frames, mc cells and ms slots it returns with Q -/
def sd_Ct (G : sd_G) (M : sd_M) (d mc ms : Nat) (av : List Value) (h : sd_H) (nx : Nat) (Q : sd_Q) : Prop :=
  ∀ l : Launch, Met l M.1 (sd_ws M) (sd_rm d mc ms) (sd_Pc G av h nx) (sd_Qc G Q) mc ms (sd_A G)
theorem sd_Ct_of {G : sd_G} {M : sd_M} {d mc ms : Nat} {av : List Value} {h : sd_H} {nx : Nat} {Q : sd_Q} (hy : plainName M.1.cls = true) (hn : (lg_sl av).length ≤ M.2.2.1) (hw : sd_W G M d mc ms Q 0 (lv_args 0 av) [] h nx 0 0) : sd_Ct G M d mc ms av h nx Q := by
  intro l
  refine Met.ofW (cc := M.2.1) (maxL := M.2.2.1) (ret := M.2.2.2) hy rfl ?_
  intro p e s m args below meth c s₁ B hml hv
  obtain ⟨rfl, hR, hT⟩ := hv
  have hts := atoms_spec (ws := sd_ws M) B.pre
  have hr := B.returns
  have hx := B.exec
  have hb := B.bytes
  have hlocks := B.notSynchronized
  have hl := lv_entry av (n := M.2.2.1) hn
  rw [lg_entry_eq]
  refine hw p l e _ _ s m _ below meth c s.heap [] _ ⟨hx, hb, hml, findClass_of_methodNamed B.named, fun w hw => hts w (List.mem_cons_of_mem _ hw), hT, fun hi => (name_of_methodNamed B.named B.method).1.trans hi, ⟨Nat.le_refl _, Nat.le_refl _, Nat.le_refl _, Nat.le_refl _⟩, by rw [hR.1]; exact hR.2.1, ?_⟩ hR va_S.rf hl
  intro r h2 nx2 H locs ls pc hq hR2 hS hret
  have fin : ∀ t : State, t.heap = H → s.WarmedH t.vm → sd_Qc G Q av.toArray s (.returned r) t := fun t ht _ => ⟨⟨r, h2, nx2, rfl, hq, by rw [ht]; exact hR2⟩, hS.F ht⟩
  match r, hret with
  | none, hret => exact W.vret hx hb (hr.trans hret.2) fin hS.2.2 hret.1
  | some (.int v), hret =>
    obtain ⟨hd, ty, h1, h2⟩ := hret
    exact W.zret hx hb (hr.trans h1) h2 fin hS.2.2 hd
  | some (.long v), hret => exact W.lret hx hb (hr.trans hret.2) fin hS.2.2 hret.1
  | some (.ref a), hret =>
    obtain ⟨hd, rt, h1, h2⟩ := hret
    exact W.aret hx hb (hr.trans h1) h2 (Or.inr ⟨a, rfl⟩) fin hS.2.2 hd
  | some .null, hret =>
    obtain ⟨hd, rt, h1, h2⟩ := hret
    exact W.aret hx hb (hr.trans h1) h2 (Or.inl rfl) fin hS.2.2 hd
section SDR
variable {G : sd_G} {M : sd_M} {d mc ms : Nat} {Q : sd_Q} {pc : Nat} {al : List (Nat × Value)} {st : List Value} {h : sd_H} {nx k n : Nat}
theorem sd_eq {pc' : Nat} {al' : List (Nat × Value)} {st' : List Value} {h' : sd_H} {nx' k' n' : Nat} (e1 : pc = pc') (e2 : al = al') (e3 : st = st') (e4 : h = h') (e5 : nx = nx') (e6 : k = k') (e7 : n = n') (kk : sd_W G M d mc ms Q pc' al' st' h' nx' k' n') : sd_W G M d mc ms Q pc al st h nx k n := by
  subst e1; subst e2; subst e3; subst e4; subst e5; subst e6; subst e7; exact kk
/-- locals may be forgotten and listed anew -/
theorem sd_loc {al' : List (Nat × Value)} (hs : ∀ q ∈ al', q ∈ al) (kk : sd_W G M d mc ms Q pc al' st h nx k n) : sd_W G M d mc ms Q pc al st h nx k n :=
  fun p l e R Z s m args below meth c H locs ls X hR hS hl => kk p l e R Z s m args below meth c H locs ls X hR hS ⟨hl.1, hl.2.1, fun q hq => hl.2.2 q (hs q hq)⟩
theorem sd_locp {al' : List (Nat × Value)} (ks : List Nat) (hs : lv_pick al ks = al') (kk : sd_W G M d mc ms Q pc al' st h nx k n) : sd_W G M d mc ms Q pc al st h nx k n :=
  fun p l e R Z s m args below meth c H locs ls X hR hS hl => kk p l e R Z s m args below meth c H locs ls X hR hS (lv_sub hl ks hs)
/-- more cells and slots may be counted as made -/
theorem sd_wid {k' n' : Nat} (h1 : k ≤ k') (h2 : n ≤ n') (kk : sd_W G M d mc ms Q pc al st h nx k' n') : sd_W G M d mc ms Q pc al st h nx k n :=
  fun p l e R Z s m args below meth c H locs ls X hR hS hl => W.widen h1 h2 (kk p l e R Z s m args below meth c H locs ls X hR hS hl)
/-- less may be known of the heap -/
theorem sd_less {h' : sd_H} (hs : ∀ a e, h' a = some e → h a = some e) (kk : sd_W G M d mc ms Q pc al st h' nx k n) : sd_W G M d mc ms Q pc al st h nx k n :=
  fun p l e R Z s m args below meth c H locs ls X hR hS hl => kk p l e R Z s m args below meth c H locs ls X ⟨hR.1, hR.2.1, fun a e he => hR.2.2 a e (hs a e he)⟩ hS hl
theorem sd_rets {r : Option Value} (hq : Q r h nx) (hr : sd_ret M pc r) (h1 : k ≤ mc) (h2 : n ≤ ms) (hst : st = r.toList) : sd_W G M d mc ms Q pc al st h nx k n := by
  subst hst
  intro p l e R Z s m args below meth c H locs ls X hR hS hl
  refine W.widen h1 h2 ?_
  exact X.2.2.2.2.2.2.2.2.2 r h nx H locs ls pc hq hR hS hr
theorem sd_vret (hd : decode M.2.1 pc = .ok (.return_, 1)) (hm : M.2.2.2 = none) (h1 : k ≤ mc) (h2 : n ≤ ms) (hq : Q none h nx) : sd_W G M d mc ms Q pc al [] h nx k n := sd_rets hq ⟨hd, hm⟩ h1 h2 rfl
theorem sd_iret {v : Int32} (hd : decode M.2.1 pc = .ok (.ireturn, 1)) (hm : M.2.2.2 = some .int) (h1 : k ≤ mc) (h2 : n ≤ ms) (hq : Q (some (.int v)) h nx) : sd_W G M d mc ms Q pc al [.int v] h nx k n := sd_rets hq ⟨hd, .int, hm, rfl⟩ h1 h2 rfl
theorem sd_zret {v : Int32} (hd : decode M.2.1 pc = .ok (.ireturn, 1)) (hm : M.2.2.2 = some .boolean) (hv : v = 0 ∨ v = 1) (h1 : k ≤ mc) (h2 : n ≤ ms) (hq : Q (some (.int v)) h nx) : sd_W G M d mc ms Q pc al [.int v] h nx k n := sd_rets hq ⟨hd, .boolean, hm, by rcases hv with rfl | rfl <;> decide⟩ h1 h2 rfl
theorem sd_lret {v : Int64} (hd : decode M.2.1 pc = .ok (.lreturn, 1)) (hm : M.2.2.2 = some .long) (h1 : k ≤ mc) (h2 : n ≤ ms) (hq : Q (some (.long v)) h nx) : sd_W G M d mc ms Q pc al [.long v] h nx k n := sd_rets hq ⟨hd, hm⟩ h1 h2 rfl
theorem sd_aret {v : Nat} {C : String} (hd : decode M.2.1 pc = .ok (.areturn, 1)) (hm : M.2.2.2 = some (.object C)) (h1 : k ≤ mc) (h2 : n ≤ ms) (hq : Q (some (.ref v)) h nx) : sd_W G M d mc ms Q pc al [.ref v] h nx k n := sd_rets hq ⟨hd, _, hm, Or.inl ⟨C, rfl⟩⟩ h1 h2 rfl
theorem sd_areta {v : Nat} {t : FieldType} (hd : decode M.2.1 pc = .ok (.areturn, 1)) (hm : M.2.2.2 = some (.array t)) (h1 : k ≤ mc) (h2 : n ≤ ms) (hq : Q (some (.ref v)) h nx) : sd_W G M d mc ms Q pc al [.ref v] h nx k n := sd_rets hq ⟨hd, _, hm, Or.inr ⟨t, rfl⟩⟩ h1 h2 rfl

theorem sd_iconst {i : Int} {v : Int32} (hd : decode M.2.1 pc = .ok (.iconst i, 1)) (hv : Int32.ofInt i = v) (kk : sd_W G M d mc ms Q (pc + 1) al (.int v :: st) h nx k n) : sd_W G M d mc ms Q (pc) al (st) h nx k n := fun p l e R Z s m args below meth c H locs ls X hR hS hl => lv_iconst X.1 X.2.1 hd hv (kk p l e R Z s m args below meth c H locs ls X hR hS hl)
theorem sd_bipush {i : Int} {v : Int32} (hd : decode M.2.1 pc = .ok (.bipush i, 2)) (hv : (Int8.ofInt i).toInt32 = v) (kk : sd_W G M d mc ms Q (pc + 2) al (.int v :: st) h nx k n) : sd_W G M d mc ms Q (pc) al (st) h nx k n := fun p l e R Z s m args below meth c H locs ls X hR hS hl => lv_bipush X.1 X.2.1 hd hv (kk p l e R Z s m args below meth c H locs ls X hR hS hl)
theorem sd_sipush {i : Int} {v : Int32} (hd : decode M.2.1 pc = .ok (.sipush i, 3)) (hv : (Int16.ofInt i).toInt32 = v) (kk : sd_W G M d mc ms Q (pc + 3) al (.int v :: st) h nx k n) : sd_W G M d mc ms Q (pc) al (st) h nx k n := fun p l e R Z s m args below meth c H locs ls X hR hS hl => lv_sipush X.1 X.2.1 hd hv (kk p l e R Z s m args below meth c H locs ls X hR hS hl)
theorem sd_lconst {i : Fin 2} {v : Int64} (hd : decode M.2.1 pc = .ok (.lconst i, 1)) (hv : Int64.ofNat (i : Nat) = v) (kk : sd_W G M d mc ms Q (pc + 1) al (.long v :: st) h nx k n) : sd_W G M d mc ms Q (pc) al (st) h nx k n := fun p l e R Z s m args below meth c H locs ls X hR hS hl => lv_lconst X.1 X.2.1 hd hv (kk p l e R Z s m args below meth c H locs ls X hR hS hl)
theorem sd_null  (hd : decode M.2.1 pc = .ok (.aconst_null, 1))  (kk : sd_W G M d mc ms Q (pc + 1) al (.null :: st) h nx k n) : sd_W G M d mc ms Q (pc) al (st) h nx k n := fun p l e R Z s m args below meth c H locs ls X hR hS hl => lv_null X.1 X.2.1 hd  (kk p l e R Z s m args below meth c H locs ls X hR hS hl)
theorem sd_iload_n {i : Fin 4} {j : Nat} {x : Int32} (hd : decode M.2.1 pc = .ok (.iload_n i, 1)) (hi : (i : Nat) = j) (hg : sd_get al j = some (.int x)) (kk : sd_W G M d mc ms Q (pc + 1) al (.int x :: st) h nx k n) : sd_W G M d mc ms Q (pc) al (st) h nx k n := fun p l e R Z s m args below meth c H locs ls X hR hS hl => lv_iload_n X.1 X.2.1 hd hi (sd_lget hl hg) (kk p l e R Z s m args below meth c H locs ls X hR hS hl)
theorem sd_iload {i : Nat} {x : Int32} (hd : decode M.2.1 pc = .ok (.iload i, 2)) (hg : sd_get al i = some (.int x)) (kk : sd_W G M d mc ms Q (pc + 2) al (.int x :: st) h nx k n) : sd_W G M d mc ms Q (pc) al (st) h nx k n := fun p l e R Z s m args below meth c H locs ls X hR hS hl => lv_iload X.1 X.2.1 hd (sd_lget hl hg) (kk p l e R Z s m args below meth c H locs ls X hR hS hl)
theorem sd_lload_n {i : Fin 4} {j : Nat} {x : Int64} (hd : decode M.2.1 pc = .ok (.lload_n i, 1)) (hi : (i : Nat) = j) (hg : sd_get al j = some (.long x)) (kk : sd_W G M d mc ms Q (pc + 1) al (.long x :: st) h nx k n) : sd_W G M d mc ms Q (pc) al (st) h nx k n := fun p l e R Z s m args below meth c H locs ls X hR hS hl => lv_lload_n X.1 X.2.1 hd hi (sd_lget hl hg) (kk p l e R Z s m args below meth c H locs ls X hR hS hl)
theorem sd_lload {i : Nat} {x : Int64} (hd : decode M.2.1 pc = .ok (.lload i, 2)) (hg : sd_get al i = some (.long x)) (kk : sd_W G M d mc ms Q (pc + 2) al (.long x :: st) h nx k n) : sd_W G M d mc ms Q (pc) al (st) h nx k n := fun p l e R Z s m args below meth c H locs ls X hR hS hl => lv_lload X.1 X.2.1 hd (sd_lget hl hg) (kk p l e R Z s m args below meth c H locs ls X hR hS hl)
theorem sd_aload_n {i : Fin 4} {j : Nat} {x : Nat} (hd : decode M.2.1 pc = .ok (.aload_n i, 1)) (hi : (i : Nat) = j) (hg : sd_get al j = some (.ref x)) (kk : sd_W G M d mc ms Q (pc + 1) al (.ref x :: st) h nx k n) : sd_W G M d mc ms Q (pc) al (st) h nx k n := fun p l e R Z s m args below meth c H locs ls X hR hS hl => lv_aload_n X.1 X.2.1 hd hi (sd_lget hl hg) (kk p l e R Z s m args below meth c H locs ls X hR hS hl)
theorem sd_aload {i : Nat} {x : Nat} (hd : decode M.2.1 pc = .ok (.aload i, 2)) (hg : sd_get al i = some (.ref x)) (kk : sd_W G M d mc ms Q (pc + 2) al (.ref x :: st) h nx k n) : sd_W G M d mc ms Q (pc) al (st) h nx k n := fun p l e R Z s m args below meth c H locs ls X hR hS hl => lv_aload X.1 X.2.1 hd (sd_lget hl hg) (kk p l e R Z s m args below meth c H locs ls X hR hS hl)
theorem sd_nload_n {i : Fin 4} {j : Nat} (hd : decode M.2.1 pc = .ok (.aload_n i, 1)) (hi : (i : Nat) = j) (hg : sd_get al j = some .null) (kk : sd_W G M d mc ms Q (pc + 1) al (.null :: st) h nx k n) : sd_W G M d mc ms Q (pc) al (st) h nx k n := fun p l e R Z s m args below meth c H locs ls X hR hS hl => lv_aload_nN X.1 X.2.1 hd hi (sd_lget hl hg) (kk p l e R Z s m args below meth c H locs ls X hR hS hl)
theorem sd_nload {i : Nat} (hd : decode M.2.1 pc = .ok (.aload i, 2)) (hg : sd_get al i = some .null) (kk : sd_W G M d mc ms Q (pc + 2) al (.null :: st) h nx k n) : sd_W G M d mc ms Q (pc) al (st) h nx k n := fun p l e R Z s m args below meth c H locs ls X hR hS hl => lv_aloadN X.1 X.2.1 hd (sd_lget hl hg) (kk p l e R Z s m args below meth c H locs ls X hR hS hl)
theorem sd_istore_n {i : Fin 4} {j : Nat} {x : Int32} (hd : decode M.2.1 pc = .ok (.istore_n i, 1)) (hi : (i : Nat) = j) (hn : j < M.2.2.1) (kk : sd_W G M d mc ms Q (pc + 1) (sd_s1 al j (.int x)) (st) h nx k n) : sd_W G M d mc ms Q (pc) al (.int x :: st) h nx k n := fun p l e R Z s m args below meth c H locs ls X hR hS hl => lv_istore_n X.1 X.2.1 hd hi hl hn rfl (fun ls' hl' => kk p l e R Z s m args below meth c H locs ls' X hR hS hl')
theorem sd_istore {i : Nat} {x : Int32} (hd : decode M.2.1 pc = .ok (.istore i, 2))  (hn : i < M.2.2.1) (kk : sd_W G M d mc ms Q (pc + 2) (sd_s1 al i (.int x)) (st) h nx k n) : sd_W G M d mc ms Q (pc) al (.int x :: st) h nx k n := fun p l e R Z s m args below meth c H locs ls X hR hS hl => lv_istore X.1 X.2.1 hd  hl hn rfl (fun ls' hl' => kk p l e R Z s m args below meth c H locs ls' X hR hS hl')
theorem sd_lstore_n {i : Fin 4} {j : Nat} {x : Int64} (hd : decode M.2.1 pc = .ok (.lstore_n i, 1)) (hi : (i : Nat) = j) (hn : j + 1 < M.2.2.1) (kk : sd_W G M d mc ms Q (pc + 1) (sd_s2 al j (.long x)) (st) h nx k n) : sd_W G M d mc ms Q (pc) al (.long x :: st) h nx k n := fun p l e R Z s m args below meth c H locs ls X hR hS hl => lv_lstore_n X.1 X.2.1 hd hi hl hn rfl (fun ls' hl' => kk p l e R Z s m args below meth c H locs ls' X hR hS hl')
theorem sd_lstore {i : Nat} {x : Int64} (hd : decode M.2.1 pc = .ok (.lstore i, 2))  (hn : i + 1 < M.2.2.1) (kk : sd_W G M d mc ms Q (pc + 2) (sd_s2 al i (.long x)) (st) h nx k n) : sd_W G M d mc ms Q (pc) al (.long x :: st) h nx k n := fun p l e R Z s m args below meth c H locs ls X hR hS hl => lv_lstore X.1 X.2.1 hd  hl hn rfl (fun ls' hl' => kk p l e R Z s m args below meth c H locs ls' X hR hS hl')
theorem sd_astore_n {i : Fin 4} {j : Nat} {x : Nat} (hd : decode M.2.1 pc = .ok (.astore_n i, 1)) (hi : (i : Nat) = j) (hn : j < M.2.2.1) (kk : sd_W G M d mc ms Q (pc + 1) (sd_s1 al j (.ref x)) (st) h nx k n) : sd_W G M d mc ms Q (pc) al (.ref x :: st) h nx k n := fun p l e R Z s m args below meth c H locs ls X hR hS hl => lv_astore_n X.1 X.2.1 hd hi hl hn rfl (fun ls' hl' => kk p l e R Z s m args below meth c H locs ls' X hR hS hl')
theorem sd_astore {i : Nat} {x : Nat} (hd : decode M.2.1 pc = .ok (.astore i, 2))  (hn : i < M.2.2.1) (kk : sd_W G M d mc ms Q (pc + 2) (sd_s1 al i (.ref x)) (st) h nx k n) : sd_W G M d mc ms Q (pc) al (.ref x :: st) h nx k n := fun p l e R Z s m args below meth c H locs ls X hR hS hl => lv_astore X.1 X.2.1 hd  hl hn rfl (fun ls' hl' => kk p l e R Z s m args below meth c H locs ls' X hR hS hl')
theorem sd_nstore_n {i : Fin 4} {j : Nat} (hd : decode M.2.1 pc = .ok (.astore_n i, 1)) (hi : (i : Nat) = j) (hn : j < M.2.2.1) (kk : sd_W G M d mc ms Q (pc + 1) (sd_s1 al j .null) (st) h nx k n) : sd_W G M d mc ms Q (pc) al (.null :: st) h nx k n := fun p l e R Z s m args below meth c H locs ls X hR hS hl => lv_astore_nN X.1 X.2.1 hd hi hl hn rfl (fun ls' hl' => kk p l e R Z s m args below meth c H locs ls' X hR hS hl')
theorem sd_nstore {i : Nat} (hd : decode M.2.1 pc = .ok (.astore i, 2))  (hn : i < M.2.2.1) (kk : sd_W G M d mc ms Q (pc + 2) (sd_s1 al i .null) (st) h nx k n) : sd_W G M d mc ms Q (pc) al (.null :: st) h nx k n := fun p l e R Z s m args below meth c H locs ls X hR hS hl => lv_astoreN X.1 X.2.1 hd  hl hn rfl (fun ls' hl' => kk p l e R Z s m args below meth c H locs ls' X hR hS hl')
theorem sd_iinc {i : Nat} {c0 : Int} {x : Int32} (v : Int32) (hd : decode M.2.1 pc = .ok (.iinc i c0, 3)) (hg : sd_get al i = some (.int x)) (hv : x + Int32.ofInt c0 = v) (hn : i < M.2.2.1) (kk : sd_W G M d mc ms Q (pc + 3) (sd_s1 al i (.int v)) (st) h nx k n) : sd_W G M d mc ms Q (pc) al (st) h nx k n := by
  intro p l e R Z s m args below meth c H locs ls X hR hS hl
  obtain ⟨k0, hk0⟩ := List.getElem?_of_mem (sd_get_mem hg)
  exact lv_iinc X.1 X.2.1 hd hl hk0 hv hn rfl (fun ls' hl' => kk p l e R Z s m args below meth c H locs ls' X hR hS hl')
theorem sd_iadd {x y : Int32} (hd : decode M.2.1 pc = .ok (.iadd, 1))  (kk : sd_W G M d mc ms Q (pc + 1) al (.int (x + y) :: st) h nx k n) : sd_W G M d mc ms Q (pc) al (.int y :: .int x :: st) h nx k n := fun p l e R Z s m args below meth c H locs ls X hR hS hl => lv_iadd X.1 X.2.1 hd  (kk p l e R Z s m args below meth c H locs ls X hR hS hl)
theorem sd_isub {x y : Int32} (hd : decode M.2.1 pc = .ok (.isub, 1))  (kk : sd_W G M d mc ms Q (pc + 1) al (.int (x - y) :: st) h nx k n) : sd_W G M d mc ms Q (pc) al (.int y :: .int x :: st) h nx k n := fun p l e R Z s m args below meth c H locs ls X hR hS hl => lv_isub X.1 X.2.1 hd  (kk p l e R Z s m args below meth c H locs ls X hR hS hl)
theorem sd_imul {x y : Int32} (hd : decode M.2.1 pc = .ok (.imul, 1))  (kk : sd_W G M d mc ms Q (pc + 1) al (.int (x * y) :: st) h nx k n) : sd_W G M d mc ms Q (pc) al (.int y :: .int x :: st) h nx k n := fun p l e R Z s m args below meth c H locs ls X hR hS hl => lv_imul X.1 X.2.1 hd  (kk p l e R Z s m args below meth c H locs ls X hR hS hl)
theorem sd_iand {x y : Int32} (hd : decode M.2.1 pc = .ok (.iand, 1))  (kk : sd_W G M d mc ms Q (pc + 1) al (.int (x &&& y) :: st) h nx k n) : sd_W G M d mc ms Q (pc) al (.int y :: .int x :: st) h nx k n := fun p l e R Z s m args below meth c H locs ls X hR hS hl => lv_iand X.1 X.2.1 hd  (kk p l e R Z s m args below meth c H locs ls X hR hS hl)
theorem sd_ior {x y : Int32} (hd : decode M.2.1 pc = .ok (.ior, 1))  (kk : sd_W G M d mc ms Q (pc + 1) al (.int (x ||| y) :: st) h nx k n) : sd_W G M d mc ms Q (pc) al (.int y :: .int x :: st) h nx k n := fun p l e R Z s m args below meth c H locs ls X hR hS hl => lv_ior X.1 X.2.1 hd  (kk p l e R Z s m args below meth c H locs ls X hR hS hl)
theorem sd_ixor {x y : Int32} (hd : decode M.2.1 pc = .ok (.ixor, 1))  (kk : sd_W G M d mc ms Q (pc + 1) al (.int (x ^^^ y) :: st) h nx k n) : sd_W G M d mc ms Q (pc) al (.int y :: .int x :: st) h nx k n := fun p l e R Z s m args below meth c H locs ls X hR hS hl => lv_ixor X.1 X.2.1 hd  (kk p l e R Z s m args below meth c H locs ls X hR hS hl)
theorem sd_ishl {x y : Int32} (hd : decode M.2.1 pc = .ok (.ishl, 1))  (kk : sd_W G M d mc ms Q (pc + 1) al (.int (x <<< (y &&& 31)) :: st) h nx k n) : sd_W G M d mc ms Q (pc) al (.int y :: .int x :: st) h nx k n := fun p l e R Z s m args below meth c H locs ls X hR hS hl => lv_ishl X.1 X.2.1 hd  (kk p l e R Z s m args below meth c H locs ls X hR hS hl)
theorem sd_ishr {x y : Int32} (hd : decode M.2.1 pc = .ok (.ishr, 1))  (kk : sd_W G M d mc ms Q (pc + 1) al (.int (x >>> (y &&& 31)) :: st) h nx k n) : sd_W G M d mc ms Q (pc) al (.int y :: .int x :: st) h nx k n := fun p l e R Z s m args below meth c H locs ls X hR hS hl => lv_ishr X.1 X.2.1 hd  (kk p l e R Z s m args below meth c H locs ls X hR hS hl)
theorem sd_iushr {x y v : Int32} (hd : decode M.2.1 pc = .ok (.iushr, 1)) (hv : (x.toUInt32 >>> (y.toUInt32 &&& Int32.toUInt32 31)).toInt32 = v) (kk : sd_W G M d mc ms Q (pc + 1) al (.int v :: st) h nx k n) : sd_W G M d mc ms Q (pc) al (.int y :: .int x :: st) h nx k n := fun p l e R Z s m args below meth c H locs ls X hR hS hl => lv_iushr X.1 X.2.1 hd hv (kk p l e R Z s m args below meth c H locs ls X hR hS hl)
theorem sd_idiv {x y : Int32} (hd : decode M.2.1 pc = .ok (.idiv, 1)) (hne : ¬ y = 0) (kk : sd_W G M d mc ms Q (pc + 1) al (.int (x / y) :: st) h nx k n) : sd_W G M d mc ms Q (pc) al (.int y :: .int x :: st) h nx k n := fun p l e R Z s m args below meth c H locs ls X hR hS hl => lv_idiv X.1 X.2.1 hd hne (kk p l e R Z s m args below meth c H locs ls X hR hS hl)
theorem sd_irem {x y : Int32} (hd : decode M.2.1 pc = .ok (.irem, 1)) (hne : ¬ y = 0) (kk : sd_W G M d mc ms Q (pc + 1) al (.int (x - x / y * y) :: st) h nx k n) : sd_W G M d mc ms Q (pc) al (.int y :: .int x :: st) h nx k n := fun p l e R Z s m args below meth c H locs ls X hR hS hl => lv_irem X.1 X.2.1 hd hne (kk p l e R Z s m args below meth c H locs ls X hR hS hl)
theorem sd_ineg {x : Int32} (hd : decode M.2.1 pc = .ok (.ineg, 1))  (kk : sd_W G M d mc ms Q (pc + 1) al (.int (-x) :: st) h nx k n) : sd_W G M d mc ms Q (pc) al (.int x :: st) h nx k n := fun p l e R Z s m args below meth c H locs ls X hR hS hl => lv_ineg X.1 X.2.1 hd  (kk p l e R Z s m args below meth c H locs ls X hR hS hl)
theorem sd_ladd {x y : Int64} (hd : decode M.2.1 pc = .ok (.ladd, 1))  (kk : sd_W G M d mc ms Q (pc + 1) al (.long (x + y) :: st) h nx k n) : sd_W G M d mc ms Q (pc) al (.long y :: .long x :: st) h nx k n := fun p l e R Z s m args below meth c H locs ls X hR hS hl => lv_ladd X.1 X.2.1 hd  (kk p l e R Z s m args below meth c H locs ls X hR hS hl)
theorem sd_lsub {x y : Int64} (hd : decode M.2.1 pc = .ok (.lsub, 1))  (kk : sd_W G M d mc ms Q (pc + 1) al (.long (x - y) :: st) h nx k n) : sd_W G M d mc ms Q (pc) al (.long y :: .long x :: st) h nx k n := fun p l e R Z s m args below meth c H locs ls X hR hS hl => lv_lsub X.1 X.2.1 hd  (kk p l e R Z s m args below meth c H locs ls X hR hS hl)
theorem sd_lmul {x y : Int64} (hd : decode M.2.1 pc = .ok (.lmul, 1))  (kk : sd_W G M d mc ms Q (pc + 1) al (.long (x * y) :: st) h nx k n) : sd_W G M d mc ms Q (pc) al (.long y :: .long x :: st) h nx k n := fun p l e R Z s m args below meth c H locs ls X hR hS hl => lv_lmul X.1 X.2.1 hd  (kk p l e R Z s m args below meth c H locs ls X hR hS hl)
theorem sd_land {x y : Int64} (hd : decode M.2.1 pc = .ok (.land, 1))  (kk : sd_W G M d mc ms Q (pc + 1) al (.long (x &&& y) :: st) h nx k n) : sd_W G M d mc ms Q (pc) al (.long y :: .long x :: st) h nx k n := fun p l e R Z s m args below meth c H locs ls X hR hS hl => lv_land X.1 X.2.1 hd  (kk p l e R Z s m args below meth c H locs ls X hR hS hl)
theorem sd_lor {x y : Int64} (hd : decode M.2.1 pc = .ok (.lor, 1))  (kk : sd_W G M d mc ms Q (pc + 1) al (.long (x ||| y) :: st) h nx k n) : sd_W G M d mc ms Q (pc) al (.long y :: .long x :: st) h nx k n := fun p l e R Z s m args below meth c H locs ls X hR hS hl => lv_lor X.1 X.2.1 hd  (kk p l e R Z s m args below meth c H locs ls X hR hS hl)
theorem sd_lxor {x y : Int64} (hd : decode M.2.1 pc = .ok (.lxor, 1))  (kk : sd_W G M d mc ms Q (pc + 1) al (.long (x ^^^ y) :: st) h nx k n) : sd_W G M d mc ms Q (pc) al (.long y :: .long x :: st) h nx k n := fun p l e R Z s m args below meth c H locs ls X hR hS hl => lv_lxor X.1 X.2.1 hd  (kk p l e R Z s m args below meth c H locs ls X hR hS hl)
theorem sd_lshl {x v : Int64} {y : Int32} (hd : decode M.2.1 pc = .ok (.lshl, 1)) (hv : x <<< (y.toInt64 &&& 63) = v) (kk : sd_W G M d mc ms Q (pc + 1) al (.long v :: st) h nx k n) : sd_W G M d mc ms Q (pc) al (.int y :: .long x :: st) h nx k n := fun p l e R Z s m args below meth c H locs ls X hR hS hl => lv_lshl X.1 X.2.1 hd hv (kk p l e R Z s m args below meth c H locs ls X hR hS hl)
theorem sd_lshr {x v : Int64} {y : Int32} (hd : decode M.2.1 pc = .ok (.lshr, 1)) (hv : x >>> (y.toInt64 &&& 63) = v) (kk : sd_W G M d mc ms Q (pc + 1) al (.long v :: st) h nx k n) : sd_W G M d mc ms Q (pc) al (.int y :: .long x :: st) h nx k n := fun p l e R Z s m args below meth c H locs ls X hR hS hl => lv_lshr X.1 X.2.1 hd hv (kk p l e R Z s m args below meth c H locs ls X hR hS hl)
theorem sd_lushr {x v : Int64} {y : Int32} (hd : decode M.2.1 pc = .ok (.lushr, 1)) (hv : (x.toUInt64 >>> (y.toInt64.toUInt64 &&& Int64.toUInt64 63)).toInt64 = v) (kk : sd_W G M d mc ms Q (pc + 1) al (.long v :: st) h nx k n) : sd_W G M d mc ms Q (pc) al (.int y :: .long x :: st) h nx k n := fun p l e R Z s m args below meth c H locs ls X hR hS hl => lv_lushr X.1 X.2.1 hd hv (kk p l e R Z s m args below meth c H locs ls X hR hS hl)
theorem sd_i2l {x : Int32} {v : Int64} (hd : decode M.2.1 pc = .ok (.i2l, 1)) (hv : x.toInt64 = v) (kk : sd_W G M d mc ms Q (pc + 1) al (.long v :: st) h nx k n) : sd_W G M d mc ms Q (pc) al (.int x :: st) h nx k n := fun p l e R Z s m args below meth c H locs ls X hR hS hl => lv_i2l X.1 X.2.1 hd hv (kk p l e R Z s m args below meth c H locs ls X hR hS hl)
theorem sd_l2i {x : Int64} {v : Int32} (hd : decode M.2.1 pc = .ok (.l2i, 1)) (hv : x.toInt32 = v) (kk : sd_W G M d mc ms Q (pc + 1) al (.int v :: st) h nx k n) : sd_W G M d mc ms Q (pc) al (.long x :: st) h nx k n := fun p l e R Z s m args below meth c H locs ls X hR hS hl => lv_l2i X.1 X.2.1 hd hv (kk p l e R Z s m args below meth c H locs ls X hR hS hl)
theorem sd_lcmp {x y : Int64} (hd : decode M.2.1 pc = .ok (.lcmp, 1))  (kk : sd_W G M d mc ms Q (pc + 1) al (.int (lg_cmp x y) :: st) h nx k n) : sd_W G M d mc ms Q (pc) al (.long y :: .long x :: st) h nx k n := fun p l e R Z s m args below meth c H locs ls X hR hS hl => W.lcmp X.1 X.2.1 hd  (kk p l e R Z s m args below meth c H locs ls X hR hS hl)
theorem sd_dup {va : Value} (hd : decode M.2.1 pc = .ok (.dup, 1)) (h1 : va.category = 1) (kk : sd_W G M d mc ms Q (pc + 1) al (va :: va :: st) h nx k n) : sd_W G M d mc ms Q (pc) al (va :: st) h nx k n := fun p l e R Z s m args below meth c H locs ls X hR hS hl => lv_dup X.1 X.2.1 hd h1 (kk p l e R Z s m args below meth c H locs ls X hR hS hl)
theorem sd_pop {va : Value} (hd : decode M.2.1 pc = .ok (.pop, 1)) (h1 : va.category = 1) (kk : sd_W G M d mc ms Q (pc + 1) al (st) h nx k n) : sd_W G M d mc ms Q (pc) al (va :: st) h nx k n := fun p l e R Z s m args below meth c H locs ls X hR hS hl => lv_pop X.1 X.2.1 hd h1 (kk p l e R Z s m args below meth c H locs ls X hR hS hl)
theorem sd_pop2_2 {va : Value} (hd : decode M.2.1 pc = .ok (.pop2, 1)) (h1 : va.category = 2) (kk : sd_W G M d mc ms Q (pc + 1) al (st) h nx k n) : sd_W G M d mc ms Q (pc) al (va :: st) h nx k n := fun p l e R Z s m args below meth c H locs ls X hR hS hl => lv_pop2_2 X.1 X.2.1 hd h1 (kk p l e R Z s m args below meth c H locs ls X hR hS hl)
theorem sd_dup_x1 {va vb : Value} (hd : decode M.2.1 pc = .ok (.dup_x1, 1)) (h1 : va.category = 1) (h2 : vb.category = 1) (kk : sd_W G M d mc ms Q (pc + 1) al (va :: vb :: va :: st) h nx k n) : sd_W G M d mc ms Q (pc) al (va :: vb :: st) h nx k n := fun p l e R Z s m args below meth c H locs ls X hR hS hl => lv_dup_x1 X.1 X.2.1 hd h1 h2 (kk p l e R Z s m args below meth c H locs ls X hR hS hl)
theorem sd_dup_x2 {va vb vc : Value} (hd : decode M.2.1 pc = .ok (.dup_x2, 1)) (h1 : va.category = 1) (h2 : vb.category = 1) (h3 : vc.category = 1) (kk : sd_W G M d mc ms Q (pc + 1) al (va :: vb :: vc :: va :: st) h nx k n) : sd_W G M d mc ms Q (pc) al (va :: vb :: vc :: st) h nx k n := fun p l e R Z s m args below meth c H locs ls X hR hS hl => lv_dup_x2 X.1 X.2.1 hd h1 h2 h3 (kk p l e R Z s m args below meth c H locs ls X hR hS hl)
theorem sd_dup2_11 {va vb : Value} (hd : decode M.2.1 pc = .ok (.dup2, 1)) (h1 : va.category = 1) (h2 : vb.category = 1) (kk : sd_W G M d mc ms Q (pc + 1) al (va :: vb :: va :: vb :: st) h nx k n) : sd_W G M d mc ms Q (pc) al (va :: vb :: st) h nx k n := fun p l e R Z s m args below meth c H locs ls X hR hS hl => lv_dup2_11 X.1 X.2.1 hd h1 h2 (kk p l e R Z s m args below meth c H locs ls X hR hS hl)
theorem sd_dup2_2 {va : Value} (hd : decode M.2.1 pc = .ok (.dup2, 1)) (h1 : va.category = 2) (kk : sd_W G M d mc ms Q (pc + 1) al (va :: va :: st) h nx k n) : sd_W G M d mc ms Q (pc) al (va :: st) h nx k n := fun p l e R Z s m args below meth c H locs ls X hR hS hl => lv_dup2_2 X.1 X.2.1 hd h1 (kk p l e R Z s m args below meth c H locs ls X hR hS hl)
theorem sd_if_eq {x : Int32} {off : Int} (tgt : Nat) (hd : decode M.2.1 pc = .ok (.ifCond .eq off, 3)) (ht : (pc : Int) + off = (tgt : Int)) (kt : x = 0 → sd_W G M d mc ms Q (tgt) al (st) h nx k n) (kf : ¬ x = 0 → sd_W G M d mc ms Q (pc + 3) al (st) h nx k n) : sd_W G M d mc ms Q (pc) al (.int x :: st) h nx k n := fun p l e R Z s m args below meth c H locs ls X hR hS hl => lv_if_eq X.1 X.2.1 hd ht (fun q => kt q p l e R Z s m args below meth c H locs ls X hR hS hl) (fun q => kf q p l e R Z s m args below meth c H locs ls X hR hS hl)
theorem sd_icmp_eq {x y : Int32} {off : Int} (tgt : Nat) (hd : decode M.2.1 pc = .ok (.if_icmp .eq off, 3)) (ht : (pc : Int) + off = (tgt : Int)) (kt : x = y → sd_W G M d mc ms Q (tgt) al (st) h nx k n) (kf : ¬ x = y → sd_W G M d mc ms Q (pc + 3) al (st) h nx k n) : sd_W G M d mc ms Q (pc) al (.int y :: .int x :: st) h nx k n := fun p l e R Z s m args below meth c H locs ls X hR hS hl => lv_icmp_eq X.1 X.2.1 hd ht (fun q => kt q p l e R Z s m args below meth c H locs ls X hR hS hl) (fun q => kf q p l e R Z s m args below meth c H locs ls X hR hS hl)
theorem sd_if_lt {x : Int32} {off : Int} (tgt : Nat) (hd : decode M.2.1 pc = .ok (.ifCond .lt off, 3)) (ht : (pc : Int) + off = (tgt : Int)) (kt : x < 0 → sd_W G M d mc ms Q (tgt) al (st) h nx k n) (kf : ¬ x < 0 → sd_W G M d mc ms Q (pc + 3) al (st) h nx k n) : sd_W G M d mc ms Q (pc) al (.int x :: st) h nx k n := fun p l e R Z s m args below meth c H locs ls X hR hS hl => lv_if_lt X.1 X.2.1 hd ht (fun q => kt q p l e R Z s m args below meth c H locs ls X hR hS hl) (fun q => kf q p l e R Z s m args below meth c H locs ls X hR hS hl)
theorem sd_icmp_lt {x y : Int32} {off : Int} (tgt : Nat) (hd : decode M.2.1 pc = .ok (.if_icmp .lt off, 3)) (ht : (pc : Int) + off = (tgt : Int)) (kt : x < y → sd_W G M d mc ms Q (tgt) al (st) h nx k n) (kf : ¬ x < y → sd_W G M d mc ms Q (pc + 3) al (st) h nx k n) : sd_W G M d mc ms Q (pc) al (.int y :: .int x :: st) h nx k n := fun p l e R Z s m args below meth c H locs ls X hR hS hl => lv_icmp_lt X.1 X.2.1 hd ht (fun q => kt q p l e R Z s m args below meth c H locs ls X hR hS hl) (fun q => kf q p l e R Z s m args below meth c H locs ls X hR hS hl)
theorem sd_if_ge {x : Int32} {off : Int} (tgt : Nat) (hd : decode M.2.1 pc = .ok (.ifCond .ge off, 3)) (ht : (pc : Int) + off = (tgt : Int)) (kt : 0 ≤ x → sd_W G M d mc ms Q (tgt) al (st) h nx k n) (kf : ¬ 0 ≤ x → sd_W G M d mc ms Q (pc + 3) al (st) h nx k n) : sd_W G M d mc ms Q (pc) al (.int x :: st) h nx k n := fun p l e R Z s m args below meth c H locs ls X hR hS hl => lv_if_ge X.1 X.2.1 hd ht (fun q => kt q p l e R Z s m args below meth c H locs ls X hR hS hl) (fun q => kf q p l e R Z s m args below meth c H locs ls X hR hS hl)
theorem sd_icmp_ge {x y : Int32} {off : Int} (tgt : Nat) (hd : decode M.2.1 pc = .ok (.if_icmp .ge off, 3)) (ht : (pc : Int) + off = (tgt : Int)) (kt : y ≤ x → sd_W G M d mc ms Q (tgt) al (st) h nx k n) (kf : ¬ y ≤ x → sd_W G M d mc ms Q (pc + 3) al (st) h nx k n) : sd_W G M d mc ms Q (pc) al (.int y :: .int x :: st) h nx k n := fun p l e R Z s m args below meth c H locs ls X hR hS hl => lv_icmp_ge X.1 X.2.1 hd ht (fun q => kt q p l e R Z s m args below meth c H locs ls X hR hS hl) (fun q => kf q p l e R Z s m args below meth c H locs ls X hR hS hl)
theorem sd_if_gt {x : Int32} {off : Int} (tgt : Nat) (hd : decode M.2.1 pc = .ok (.ifCond .gt off, 3)) (ht : (pc : Int) + off = (tgt : Int)) (kt : 0 < x → sd_W G M d mc ms Q (tgt) al (st) h nx k n) (kf : ¬ 0 < x → sd_W G M d mc ms Q (pc + 3) al (st) h nx k n) : sd_W G M d mc ms Q (pc) al (.int x :: st) h nx k n := fun p l e R Z s m args below meth c H locs ls X hR hS hl => lv_if_gt X.1 X.2.1 hd ht (fun q => kt q p l e R Z s m args below meth c H locs ls X hR hS hl) (fun q => kf q p l e R Z s m args below meth c H locs ls X hR hS hl)
theorem sd_icmp_gt {x y : Int32} {off : Int} (tgt : Nat) (hd : decode M.2.1 pc = .ok (.if_icmp .gt off, 3)) (ht : (pc : Int) + off = (tgt : Int)) (kt : y < x → sd_W G M d mc ms Q (tgt) al (st) h nx k n) (kf : ¬ y < x → sd_W G M d mc ms Q (pc + 3) al (st) h nx k n) : sd_W G M d mc ms Q (pc) al (.int y :: .int x :: st) h nx k n := fun p l e R Z s m args below meth c H locs ls X hR hS hl => lv_icmp_gt X.1 X.2.1 hd ht (fun q => kt q p l e R Z s m args below meth c H locs ls X hR hS hl) (fun q => kf q p l e R Z s m args below meth c H locs ls X hR hS hl)
theorem sd_if_le {x : Int32} {off : Int} (tgt : Nat) (hd : decode M.2.1 pc = .ok (.ifCond .le off, 3)) (ht : (pc : Int) + off = (tgt : Int)) (kt : x ≤ 0 → sd_W G M d mc ms Q (tgt) al (st) h nx k n) (kf : ¬ x ≤ 0 → sd_W G M d mc ms Q (pc + 3) al (st) h nx k n) : sd_W G M d mc ms Q (pc) al (.int x :: st) h nx k n := fun p l e R Z s m args below meth c H locs ls X hR hS hl => lv_if_le X.1 X.2.1 hd ht (fun q => kt q p l e R Z s m args below meth c H locs ls X hR hS hl) (fun q => kf q p l e R Z s m args below meth c H locs ls X hR hS hl)
theorem sd_icmp_le {x y : Int32} {off : Int} (tgt : Nat) (hd : decode M.2.1 pc = .ok (.if_icmp .le off, 3)) (ht : (pc : Int) + off = (tgt : Int)) (kt : x ≤ y → sd_W G M d mc ms Q (tgt) al (st) h nx k n) (kf : ¬ x ≤ y → sd_W G M d mc ms Q (pc + 3) al (st) h nx k n) : sd_W G M d mc ms Q (pc) al (.int y :: .int x :: st) h nx k n := fun p l e R Z s m args below meth c H locs ls X hR hS hl => lv_icmp_le X.1 X.2.1 hd ht (fun q => kt q p l e R Z s m args below meth c H locs ls X hR hS hl) (fun q => kf q p l e R Z s m args below meth c H locs ls X hR hS hl)
theorem sd_if_ne {x : Int32} {off : Int} (tgt : Nat) (hd : decode M.2.1 pc = .ok (.ifCond .ne off, 3)) (ht : (pc : Int) + off = (tgt : Int)) (kt : ¬ x = 0 → sd_W G M d mc ms Q (tgt) al (st) h nx k n) (kf : x = 0 → sd_W G M d mc ms Q (pc + 3) al (st) h nx k n) : sd_W G M d mc ms Q (pc) al (.int x :: st) h nx k n := fun p l e R Z s m args below meth c H locs ls X hR hS hl => lv_if_ne X.1 X.2.1 hd ht (fun q => kt q p l e R Z s m args below meth c H locs ls X hR hS hl) (fun q => kf q p l e R Z s m args below meth c H locs ls X hR hS hl)
theorem sd_icmp_ne {x y : Int32} {off : Int} (tgt : Nat) (hd : decode M.2.1 pc = .ok (.if_icmp .ne off, 3)) (ht : (pc : Int) + off = (tgt : Int)) (kt : ¬ x = y → sd_W G M d mc ms Q (tgt) al (st) h nx k n) (kf : x = y → sd_W G M d mc ms Q (pc + 3) al (st) h nx k n) : sd_W G M d mc ms Q (pc) al (.int y :: .int x :: st) h nx k n := fun p l e R Z s m args below meth c H locs ls X hR hS hl => lv_icmp_ne X.1 X.2.1 hd ht (fun q => kt q p l e R Z s m args below meth c H locs ls X hR hS hl) (fun q => kf q p l e R Z s m args below meth c H locs ls X hR hS hl)
theorem sd_goto {off : Int} (tgt : Nat) (hd : decode M.2.1 pc = .ok (.goto off, 3)) (ht : (pc : Int) + off = (tgt : Int)) (kk : sd_W G M d mc ms Q (tgt) al (st) h nx k n) : sd_W G M d mc ms Q (pc) al (st) h nx k n := fun p l e R Z s m args below meth c H locs ls X hR hS hl => lv_goto X.1 X.2.1 hd ht (kk p l e R Z s m args below meth c H locs ls X hR hS hl)
theorem sd_ifnull {x : Nat} {off : Int} (hd : decode M.2.1 pc = .ok (.ifnull off, 3)) (kk : sd_W G M d mc ms Q (pc + 3) al (st) h nx k n) : sd_W G M d mc ms Q (pc) al (.ref x :: st) h nx k n := fun p l e R Z s m args below meth c H locs ls X hR hS hl => lv_ifnull X.1 X.2.1 hd (kk p l e R Z s m args below meth c H locs ls X hR hS hl)
theorem sd_ifnullN {off : Int} (tgt : Nat) (hd : decode M.2.1 pc = .ok (.ifnull off, 3)) (ht : (pc : Int) + off = (tgt : Int)) (kk : sd_W G M d mc ms Q (tgt) al (st) h nx k n) : sd_W G M d mc ms Q (pc) al (.null :: st) h nx k n := fun p l e R Z s m args below meth c H locs ls X hR hS hl => lv_ifnullN X.1 X.2.1 hd ht (kk p l e R Z s m args below meth c H locs ls X hR hS hl)
theorem sd_ifnonnull {x : Nat} {off : Int} (tgt : Nat) (hd : decode M.2.1 pc = .ok (.ifnonnull off, 3)) (ht : (pc : Int) + off = (tgt : Int)) (kk : sd_W G M d mc ms Q (tgt) al (st) h nx k n) : sd_W G M d mc ms Q (pc) al (.ref x :: st) h nx k n := fun p l e R Z s m args below meth c H locs ls X hR hS hl => lv_ifnonnull X.1 X.2.1 hd ht (kk p l e R Z s m args below meth c H locs ls X hR hS hl)
theorem sd_ifnonnullN {off : Int} (hd : decode M.2.1 pc = .ok (.ifnonnull off, 3)) (kk : sd_W G M d mc ms Q (pc + 3) al (st) h nx k n) : sd_W G M d mc ms Q (pc) al (.null :: st) h nx k n := fun p l e R Z s m args below meth c H locs ls X hR hS hl => lv_ifnonnullN X.1 X.2.1 hd (kk p l e R Z s m args below meth c H locs ls X hR hS hl)
theorem sd_lookup {dflt : Int} {ps : Array (Int × Int)} {len : Nat} {x : Int32} {off : Int} (tgt : Nat) (hd : decode M.2.1 pc = .ok (.lookupswitch dflt ps, len)) (hp : (ps.toList.zip (ps.toList.drop 1)).all (fun (a, next) => a.1 < next.1) = true) (ho : Op.lookupswitch.offset ps.toList dflt x.toInt = off) (ht : (pc : Int) + off = (tgt : Int)) (kk : sd_W G M d mc ms Q (tgt) al (st) h nx k n) : sd_W G M d mc ms Q (pc) al (.int x :: st) h nx k n := fun p l e R Z s m args below meth c H locs ls X hR hS hl => lv_lookup X.1 X.2.1 hd hp ho ht (kk p l e R Z s m args below meth c H locs ls X hR hS hl)
theorem sd_tableOut {dflt lo hi : Int} {offs : Array Int} {len : Nat} {x : Int32} (tgt : Nat) (hd : decode M.2.1 pc = .ok (.tableswitch dflt lo hi offs, len)) (hx : x.toInt < lo ∨ hi < x.toInt) (ht : (pc : Int) + dflt = (tgt : Int)) (kk : sd_W G M d mc ms Q (tgt) al (st) h nx k n) : sd_W G M d mc ms Q (pc) al (.int x :: st) h nx k n := fun p l e R Z s m args below meth c H locs ls X hR hS hl => lv_tableOut X.1 X.2.1 hd hx ht (kk p l e R Z s m args below meth c H locs ls X hR hS hl)
theorem sd_tableIn {dflt lo hi : Int} {offs : Array Int} {len : Nat} {x : Int32} {off : Int} (tgt : Nat) (hd : decode M.2.1 pc = .ok (.tableswitch dflt lo hi offs, len)) (h1 : ¬ x.toInt < lo) (h2 : ¬ hi < x.toInt) (ho : offs[(x.toInt - lo).toNat]? = some off) (ht : (pc : Int) + off = (tgt : Int)) (kk : sd_W G M d mc ms Q (tgt) al (st) h nx k n) : sd_W G M d mc ms Q (pc) al (.int x :: st) h nx k n := fun p l e R Z s m args below meth c H locs ls X hR hS hl => lv_tableIn X.1 X.2.1 hd h1 h2 ho ht (kk p l e R Z s m args below meth c H locs ls X hR hS hl)
theorem sd_ldc {index : Nat} {v : Int32} (hd : decode M.2.1 pc = .ok (.ldc index, 2)) (hw : Cond.constant M.1.cls index v ∈ sd_tbl) (kk : sd_W G M d mc ms Q (pc + 2) al (.int v :: st) h nx k n) : sd_W G M d mc ms Q (pc) al (st) h nx k n := fun p l e R Z s m args below meth c H locs ls X hR hS hl => lv_ldc X.1 X.2.1 X.2.2.2.1 (X.2.2.2.2.1 _ hw) hd (kk p l e R Z s m args below meth c H locs ls X hR hS hl)
theorem sd_ldc2 {index : Nat} {v : Int64} (hd : decode M.2.1 pc = .ok (.ldc2_w index, 3)) (hw : Cond.constantLong M.1.cls index v ∈ sd_tbl) (kk : sd_W G M d mc ms Q (pc + 3) al (.long v :: st) h nx k n) : sd_W G M d mc ms Q (pc) al (st) h nx k n := fun p l e R Z s m args below meth c H locs ls X hR hS hl => lv_ldc2 X.1 X.2.1 X.2.2.2.1 (X.2.2.2.2.1 _ hw) hd (kk p l e R Z s m args below meth c H locs ls X hR hS hl)
end SDR
