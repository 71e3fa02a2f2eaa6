/-! ===== the logic, heap and calls ===== -/
theorem sd_T.calling {G : sd_G} {U : State} (hT : sd_T G U) (g : JFrame) (mk : MethodId) (a : Array Value) : sd_T G (U.calling g mk a) := by
  obtain ⟨h1, h2, h3, h4, h5⟩ := hT
  refine ⟨va_K.moved (u := U) (U := U.calling g mk a) (Vm.Alike.refl U.vm) h1, fun w hw => va_Nw.same (sd_nest_on w hw) (u := U) rfl (h2 w hw), fun C hC => va_AO.moved (u := U) (U := U.calling g mk a) (Vm.Alike.refl U.vm) (h3 C hC), fun z hz => ?_, va_T.moved (u := U) (U := U.calling g mk a) (Vm.Alike.refl U.vm) h5⟩
  obtain ⟨z1, z2⟩ := h4 z hz
  exact ⟨va_Z.moved (u := U) (U := U.calling g mk a) (Vm.Alike.refl U.vm) z1, va_T.moved (u := U) (U := U.calling g mk a) (Vm.Alike.refl U.vm) z2⟩
theorem sd_T.warm {G : sd_G} {s U : State} {H : Heap} {locs : List Loc} (hT : sd_T G s) (hS : va_S (sd_A G) s.heap H locs) (hU : U.heap = H) (hW : s.WarmedH U.vm) : sd_T G U := by
  obtain ⟨h1, h2, h3, h4, h5⟩ := hT
  have hq : ∀ a : Nat, a < s.heap.size → ¬ sd_A G a → U.heap[a]? = s.heap[a]? := fun a ha hA => by rw [hU]; exact hS.2.1 a ha hA
  refine ⟨va_K.moved hW.alike h1, fun w hw => sd_nest_warm w hw hW (h2 w hw), fun C hC => va_AO.moved hW.alike (h3 C hC), fun z hz => ?_, (va_T.moved hW.alike h5).kept hq⟩
  obtain ⟨z1, z2⟩ := h4 z hz
  exact ⟨(va_Z.moved hW.alike z1).kept hq, (va_T.moved hW.alike z2).kept hq⟩
theorem sd_blind {G : sd_G} {av : List Value} {h : sd_H} {nx : Nat} : FrameBlind (sd_Pc G av h nx) := fun a U g mk q => ⟨q.1, q.2.1, q.2.2.calling g mk a⟩
/-- own's constant 'index' is field j of class ci -/
def sd_fl (own : String) (index ci j : Nat) : Prop := ∃ r : vw_C, sd_cl[ci]? = some r ∧ j < r.2.2 ∧ (Cond.fieldLink own index (r.2.1 j).1 (r.2.1 j).2.1 (r.2.1 j).2.2.1 ∈ sd_tbl ∨ ∃ host, Cond.fieldLinkNest own index (r.2.1 j).1 (r.2.1 j).2.1 (r.2.1 j).2.2.1 host ∈ sd_nest)
/-- own's constant 'index' names method M' of n parameters -/
def sd_ml (own : String) (index : Nat) (M' : sd_M) (n : Nat) : Prop := (Cond.methodLink own index M'.1 ∈ sd_tbl ∨ ∃ host, Cond.methodLinkNest own index M'.1 host ∈ sd_nest) ∧ Cond.code M'.1 M'.2.1 M'.2.2.1 M'.2.2.2 ∈ sd_tbl ∧ Cond.initialized M'.1.cls ∈ sd_tbl ∧ (M'.1.cls ≠ "java/lang/invoke/MethodHandle" ∧ M'.1.cls ≠ "java/lang/invoke/VarHandle" ∧ (parseMethodDescriptor M'.1.desc).map (fun d => d.parameters.length) = some n) ∧ M'.2.2.1 ≤ 45
theorem sd_good {M : sd_M} (hc : Cond.code M.1 M.2.1 M.2.2.1 M.2.2.2 ∈ sd_tbl) : GoodIn sd_tbl (sd_ws M) := by
  intro w hw
  rcases List.mem_cons.mp hw with rfl | hw
  · exact ⟨hc, Or.inl rfl⟩
  · exact ⟨hw, good_of_word (List.mem_filter.mp hw).2⟩
section SDH
variable {G : sd_G} {M : sd_M} {d mc ms : Nat} {Q : sd_Q} {pc : Nat} {al : List (Nat × Value)} {st : List Value} {h : sd_H} {nx k n : Nat}
theorem sd_getf {index a : Nat} (ci j : Nat) {fs : List Value} {v : Value} (hd : decode M.2.1 pc = .ok (.getfield index, 3)) (hw : sd_fl M.1.cls index ci j) (hc : h a = some (.inr (ci, fs))) (hv : fs[j]? = some v) (kk : sd_W G M d mc ms Q (pc + 3) al (v :: st) h nx k n) : sd_W G M d mc ms Q pc al (.ref a :: st) h nx k n := by
  intro p l e R Z s m args below meth c H locs ls X hR hS hl
  obtain ⟨⟨C, T, N⟩, hr, hj, hlk⟩ := hw
  obtain ⟨hin, -, -⟩ := sd_cls_ok ci _ hr
  have K := kk p l e R Z s m args below meth c H locs ls X hR hS hl
  obtain ⟨hx, hb, -, ho, ht, hT, -⟩ := X
  rcases hlk with hlk | ⟨host, hlk⟩
  · exact va_get (D := G.1.1) (ci := ci) (v := v) hx hb ht hin ho hT.1 (hR.one hc) 0 rfl hr j hj (ht _ hlk) (fun _ q => q) hv hd K
  · exact va_getN (D := G.1.1) (ci := ci) (v := v) hx hb ht hin ho hT.1 (hR.one hc) 0 rfl hr j hj (va_Nw.use rfl (hT.2.1 _ hlk)) (fun _ q => q) hv hd K
theorem sd_putf {index a : Nat} (ci j : Nat) {fs : List Value} {v : Value} (ty : FieldType) (hd : decode M.2.1 pc = .ok (.putfield index, 3)) (hw : sd_fl M.1.cls index ci j) (hfin : (sd_cl[ci]?).map (fun r => (r.2.1 j).2.2.2) = some false) (hty : sd_ty ci j = ty) (hn : narrow ty v = v) (hf : fits ty v = true) (hc : h a = some (.inr (ci, fs))) (hlj : j < fs.length) (hB : G.2.1 ≤ a) (kk : sd_W G M d mc ms Q (pc + 3) al st (sd_up h a (.inr (ci, fs.set j v))) nx k n) : sd_W G M d mc ms Q pc al (v :: .ref a :: st) h nx k n := by
  intro p l e R Z s m args below meth c H locs ls X hR hS hl
  obtain ⟨⟨C, T, N⟩, hr, hj, hlk⟩ := hw
  rw [hr] at hfin
  have hfin : (T j).2.2.2 = false := Option.some.inj hfin
  obtain ⟨hin, hpt, hnm⟩ := sd_cls_ok ci _ hr
  have hx := X.1
  have hb := X.2.1
  have ho := X.2.2.2.1
  have ht := X.2.2.2.2.1
  have hT := X.2.2.2.2.2.1
  have hap := va_apart (own := M.1.cls) ht hin (sd_ty ci) hpt hnm hT.1 hr
  obtain ⟨r, h1, cell, q1, q2, q3, q4⟩ := hR.2.2 a _ hc
  have hr2 : r = (C, T, N) := Option.some.inj (h1.symm.trans hr)
  subst hr2
  obtain ⟨hSl, hfc, kC, hkC, hkind⟩ := hT.1.1 ci _ hr
  obtain ⟨cf, kf, fi, f, hi, hsl⟩ := hSl j hj
  have hlay := ht _ (hin _ (u_in_lay hj))
  unfold u_lay at hlay
  rw [if_neg (by rw [hfin]; decide)] at hlay
  have hst := (u_facts hfc hkC (u_lays ht hin hj) hi).1
  have hpj := hpt j hj
  rw [hty] at hpj
  have h6 := u_store hfc hkC hkind hlay hi hpj hn hf
  have fin : ∀ H' : Heap, H'[a]? = some (cell.setSlot f.slot v) → H'.size = H.size → (∀ q, q ≠ a → H'[q]? = H[q]?) → W p l e R s m args below meth c H' (locs ++ [⟨a, f.slot⟩]) k n Z (F0 m (pc + 3) ls st) := by
    intro H' e1 e2 e3
    rw [hsl] at e1
    exact kk p l e R Z s m args below meth c H' _ ls X (hR.put ⟨_, hr, t_OB.to (V := updV (vp_V fs) j v) ⟨_, e1, q2, q3, t_set q4 hap hj v⟩ (fun i _ => vp_updV_set hlj v i)⟩ e2 e3) (sd_S.put hS hB e2 e3) hl
  rcases hlk with hlk | ⟨host, hlk⟩
  · exact W.putK hx hb (f := f) ⟨ho, ht _ hlk, ⟨_, _, _, hi⟩, hst⟩ (by rw [q2]; exact h6) q1 q3 (by rw [hsl]; exact k2_hasslot (q4 j hj)) rfl rfl hd fin
  · exact va_WputK hx hb (f := f) ho (va_Nw.use rfl (hT.2.1 _ hlk)) hi hst (by rw [q2]; exact h6) q1 q3 (by rw [hsl]; exact k2_hasslot (q4 j hj)) rfl rfl hd fin
/-- a final field, in its class's constructor -/
theorem sd_putF {index a : Nat} (ci j : Nat) {fs : List Value} {v : Value} (ty : FieldType) (hd : decode M.2.1 pc = .ok (.putfield index, 3)) (hlk : ∃ r : vw_C, sd_cl[ci]? = some r ∧ j < r.2.2 ∧ Cond.fieldLink M.1.cls index (r.2.1 j).1 (r.2.1 j).2.1 (r.2.1 j).2.2.1 ∈ sd_tbl ∧ (r.2.1 j).2.2.2 = true ∧ (r.2.1 j).1 = M.1.cls) (hin2 : M.1.name = "<init>") (hty : sd_ty ci j = ty) (hn : narrow ty v = v) (hf : fits ty v = true) (hc : h a = some (.inr (ci, fs))) (hlj : j < fs.length) (hB : G.2.1 ≤ a) (kk : sd_W G M d mc ms Q (pc + 3) al st (sd_up h a (.inr (ci, fs.set j v))) nx k n) : sd_W G M d mc ms Q pc al (v :: .ref a :: st) h nx k n := by
  intro p l e R Z s m args below meth c H locs ls X hR hS hl
  obtain ⟨⟨C, T, N⟩, hr, hj, hlk, hfin, hdecl⟩ := hlk
  obtain ⟨hin, hpt, hnm⟩ := sd_cls_ok ci _ hr
  have hx := X.1
  have hb := X.2.1
  have ho := X.2.2.2.1
  have ht := X.2.2.2.2.1
  have hT := X.2.2.2.2.2.1
  have hnam := X.2.2.2.2.2.2.1
  have hap := va_apart (own := M.1.cls) ht hin (sd_ty ci) hpt hnm hT.1 hr
  obtain ⟨r, h1, cell, q1, q2, q3, q4⟩ := hR.2.2 a _ hc
  have hr2 : r = (C, T, N) := Option.some.inj (h1.symm.trans hr)
  subst hr2
  obtain ⟨hSl, hfc, kC, hkC, hkind⟩ := hT.1.1 ci _ hr
  obtain ⟨cf, kf, fi, f, hi, hsl⟩ := hSl j hj
  have hlay := ht _ (hin _ (u_in_lay hj))
  unfold u_lay at hlay
  rw [if_pos hfin] at hlay
  have hst := (u_facts hfc hkC (u_lays ht hin hj) hi).1
  have hcf : m.cls = cf := by
    obtain ⟨_, _, c', _, _, _, -, -, hf', -, -, -, hown2, -⟩ := Cond.laysFinal_spec hlay
    have e1 : c' = cf := by have := hi.symm.trans hf'; simp at this; exact this.1.symm
    dsimp only at hdecl
    rw [hdecl] at hown2
    rw [← e1]; exact Option.some.inj (ho.symm.trans hown2)
  have hpj := hpt j hj
  rw [hty] at hpj
  have h6 := u_fits hfc hkC hkind (Or.inr hlay) hi hpj hn hf
  refine W.putFinK hx hb ho (ht _ hlk) hi hst hcf (hnam hin2) (by rw [q2]; exact h6) q1 q3 (by rw [hsl]; exact k2_hasslot (q4 j hj)) rfl rfl hd fun H' e1 e2 e3 => ?_
  rw [hsl] at e1 ⊢
  exact kk p l e R Z s m args below meth c H' _ ls X (hR.put ⟨_, hr, t_OB.to (V := updV (vp_V fs) j v) ⟨_, e1, q2, q3, t_set q4 hap hj v⟩ (fun i _ => vp_updV_set hlj v i)⟩ e2 e3) (sd_S.put hS hB e2 e3) hl
theorem sd_iald {a N : Nat} {f : Nat → Int32} {i : Int32} (hd : decode M.2.1 pc = .ok (.iaload, 1)) (hc : h a = some (.inl (G.1.2 0, N, .inl f))) (hin : vp_in i N) (kk : sd_W G M d mc ms Q (pc + 1) al (.int (f i.toNatClampNeg) :: st) h nx k n) : sd_W G M d mc ms Q pc al (.int i :: .ref a :: st) h nx k n := by
  intro p l e R Z s m args below meth c H locs ls X hR hS hl
  exact va_iald (D := G.1.1) X.1 X.2.1 X.2.2.2.2.2.1.1 (hR.one hc) 0 0 rfl rfl hin hd (kk p l e R Z s m args below meth c H locs ls X hR hS hl)
theorem sd_alen {a N t : Nat} {f : (Nat → Int32) ⊕ (Nat → Int64) ⊕ (Nat → UInt32) ⊕ (Nat → UInt64) ⊕ (Nat → Option Nat)} (ty : FieldType) (hd : decode M.2.1 pc = .ok (.arraylength, 1)) (hc : h a = some (.inl (G.1.2 t, N, f))) (ht : (sd_tys G.1.2)[t]? = some (G.1.2 t, ty)) (kk : sd_W G M d mc ms Q (pc + 1) al (.int (nI N) :: st) h nx k n) : sd_W G M d mc ms Q pc al (.ref a :: st) h nx k n := by
  intro p l e R Z s m args below meth c H locs ls X hR hS hl
  exact va_alen (D := G.1.1) X.1 X.2.1 X.2.2.2.2.2.1.1 (hR.one hc) 0 t rfl ht rfl hd (kk p l e R Z s m args below meth c H locs ls X hR hS hl)
theorem sd_iast {a N : Nat} {f : Nat → Int32} {i x : Int32} (hd : decode M.2.1 pc = .ok (.iastore, 1)) (hc : h a = some (.inl (G.1.2 0, N, .inl f))) (hin : vp_in i N) (hB : G.2.1 ≤ a) (kk : sd_W G M d mc ms Q (pc + 1) al st (sd_up h a (.inl (G.1.2 0, N, .inl (upd f i.toNatClampNeg x)))) nx k n) : sd_W G M d mc ms Q pc al (.int x :: .int i :: .ref a :: st) h nx k n := by
  intro p l e R Z s m args below meth c H locs ls X hR hS hl
  have hK := X.2.2.2.2.2.1.1
  refine W.iast X.1 X.2.1 (hR.2.2 a _ hc) ((hK.2 0 _ rfl).1 N (fun j => .int (f j))) (fun q => by cases q) (by show ¬ (i < 0 ∨ (arrV _ _ _).slots.size ≤ _); rw [arrV_size]; exact hin) rfl rfl hd fun H1 e1 z oq => ?_
  refine kk p l e R Z s m args below meth c H1 _ ls X (hR.put ?_ z oq) (sd_S.put hS hB z oq) hl
  show H1[a]? = some (vp_cell _ _)
  rw [e1]
  rw [vp_cell_i, vp_cell_i, arrV_store]
  congr 2
  funext q
  by_cases hq : q = i.toNatClampNeg
  · subst hq
    simp [updV, upd]
  · simp [updV, upd, hq]
theorem sd_aald {a N : Nat} (t : Nat) {f : Nat → Option Nat} {i : Int32} {b : Nat} (C : String) (hd : decode M.2.1 pc = .ok (.aaload, 1)) (hc : h a = some (.inl (G.1.2 t, N, .inr (.inr (.inr (.inr f)))))) (ht : (sd_tys G.1.2)[t]? = some (G.1.2 t, .object C)) (hin : vp_in i N) (hv : f i.toNatClampNeg = some b) (kk : sd_W G M d mc ms Q (pc + 1) al (.ref b :: st) h nx k n) : sd_W G M d mc ms Q pc al (.int i :: .ref a :: st) h nx k n := by
  intro p l e R Z s m args below meth c H locs ls X hR hS hl
  refine va_aldq (D := G.1.1) X.1 X.2.1 X.2.2.2.2.2.1.1 (hR.one hc) 0 t rfl ht hin hd ?_
  rw [hv]
  exact kk p l e R Z s m args below meth c H locs ls X hR hS hl
theorem sd_aast {a N : Nat} (t ci : Nat) {f : Nat → Option Nat} {i : Int32} {b : Nat} {fs : List Value} (r : vw_C) (hd : decode M.2.1 pc = .ok (.aastore, 1)) (hc : h a = some (.inl (G.1.2 t, N, .inr (.inr (.inr (.inr f)))))) (ht : (sd_tys G.1.2)[t]? = some (G.1.2 t, .object r.1)) (hv : h b = some (.inr (ci, fs))) (hr : sd_cl[ci]? = some r) (hin : vp_in i N) (hB : G.2.1 ≤ a) (kk : sd_W G M d mc ms Q (pc + 1) al st (sd_up h a (.inl (G.1.2 t, N, .inr (.inr (.inr (.inr (va_up f i.toNatClampNeg (some b)))))))) nx k n) : sd_W G M d mc ms Q pc al (.ref b :: .int i :: .ref a :: st) h nx k n := by
  intro p l e R Z s m args below meth c H locs ls X hR hS hl
  have hK := X.2.2.2.2.2.1.1
  have hlt : i.toNatClampNeg < N := Nat.not_le.mp fun q => hin (Or.inr q)
  have h0 : ¬ i < 0 := fun q => hin (Or.inl q)
  obtain ⟨r', hr', cellV, g1, g2, g3, -⟩ := hR.2.2 b _ hv
  have hcls := (hK.1 ci r hr).2
  obtain ⟨kA, comp, k1, k2, k3, -⟩ := (hK.2 t _ ht).2
  have hcomp : comp = G.1.1.1 ci := Option.some.inj (k3.symm.trans hcls.1)
  subst hcomp
  obtain ⟨kC, hkC, -⟩ := hcls.2
  refine W.aast X.1 X.2.1 (hR.2.2 a _ hc) (fun q h => by cases h) (fun h => by cases h) k1 k2 rfl hkC ⟨h0, by show _ < (arrV _ _ _).slots.size; rw [arrV_size]; exact hlt⟩ g1 (fun q h => by rw [g3] at h; cases h) (by rw [g2]; exact hkC) (by rw [g2]; exact va_assign hcls) rfl rfl hd fun H1 e1 z oq => ?_
  refine kk p l e R Z s m args below meth c H1 _ ls X (hR.put ?_ z oq) (sd_S.put hS hB z oq) hl
  show H1[a]? = some (vp_cell _ _)
  rw [e1]
  rw [vp_cell_q, vp_cell_q, arrV_store]
  congr 2
  funext q
  by_cases hq : q = i.toNatClampNeg
  · subst hq
    simp [updV, va_up, va_rf]
  · simp [updV, va_up, hq]
theorem sd_newi {i : Int32} (N : Nat) (hd : decode M.2.1 pc = .ok (.newarray .int, 2)) (hi : i = nI N) (hN : N < 100000) (hk : k + 1 ≤ mc) (hn : n + N ≤ ms) (kk : sd_W G M d mc ms Q (pc + 2) al (.ref nx :: st) (sd_up h nx (.inl (G.1.2 0, N, .inl (fun _ => 0)))) (nx + 1) (k + 1) (n + N)) : sd_W G M d mc ms Q pc al (.int i :: st) h nx k n := by
  subst hi
  intro p l e R Z s m args below meth c H locs ls X hR hS hl
  have hK := X.2.2.2.2.2.1.1
  have hrm := X.2.2.2.2.2.2.2.1
  refine va_newaK X.1 X.2.1 (X.2.2.2.2.1 _ sd_arr_int) rfl hd rfl (nI_pos (by omega)) (nI_clamp (by omega)) (by show N * 4 ≤ _; omega) (by omega) (by omega) hR.1 fun H1 cA e1 z1 o1 hAr hNm => ?_
  have hcA : cA = G.1.2 0 := Option.some.inj (hNm.symm.trans (hK.2 0 _ rfl).2)
  subst hcA
  exact kk p l e R Z s m args below meth c H1 _ ls X (hR.new e1 z1 o1) (sd_S.new hS (by rw [z1, hR.1]) (fun q hq => o1 q (by rw [← hR.1]; exact hq))) hl
theorem sd_newo {index : Nat} (ci : Nat) {fs : List Value} (r : vw_C) (hd : decode M.2.1 pc = .ok (.new index, 3)) (hr : sd_cl[ci]? = some r) (hw : Cond.classLink M.1.cls index r.1 ∈ sd_tbl ∧ Cond.instantiable r.1 r.2.2 ∈ sd_tbl ∧ Cond.initialized r.1 ∈ sd_tbl) (hfs : ∀ j, j < r.2.2 → defaultValue (sd_ty ci j) = vp_V fs j) (hk : k + 1 ≤ mc) (hn : n + r.2.2 ≤ ms) (kk : sd_W G M d mc ms Q (pc + 3) al (.ref nx :: st) (sd_up h nx (.inr (ci, fs))) (nx + 1) (k + 1) (n + r.2.2)) : sd_W G M d mc ms Q pc al st h nx k n := by
  intro p l e R Z s m args below meth c H locs ls X hR hS hl
  have hrm := X.2.2.2.2.2.2.2.1
  have ht := X.2.2.2.2.1
  obtain ⟨hin, hpt, hnm⟩ := sd_cls_ok ci _ hr
  have hKn := X.2.2.2.2.2.1.1.1 ci _ hr
  refine W.newcK X.1 X.2.1 X.2.2.2.1 (ht _ hw.1) (ht _ hw.2.1) (ht _ hw.2.2) rfl hd (by omega) (by omega) hKn.2.1 hR.1 fun H1 kC hkC e1 z1 o1 => ?_
  exact kk p l e R Z s m args below meth c H1 _ ls X (hR.new ⟨_, hr, (u_born (sd_ty ci) ht hin hKn hkC e1 hpt).to hfs⟩ z1 o1) (sd_S.new hS (by rw [z1, hR.1]) (fun q hq => o1 q (by rw [← hR.1]; exact hq))) hl
theorem sd_newa {index : Nat} {i : Int32} (t N : Nat) (C : String) (hd : decode M.2.1 pc = .ok (.anewarray index, 3)) (hi : i = nI N) (hN : N < 100000) (ht : (sd_tys G.1.2)[t]? = some (G.1.2 t, .object C)) (hw : Cond.classLink M.1.cls index C ∈ sd_tbl) (hC : C ∈ sd_aos) (hk : k + 1 ≤ mc) (hn : n + N ≤ ms) (kk : sd_W G M d mc ms Q (pc + 3) al (.ref nx :: st) (sd_up h nx (.inl (G.1.2 t, N, .inr (.inr (.inr (.inr (fun _ => none))))))) (nx + 1) (k + 1) (n + N)) : sd_W G M d mc ms Q pc al (.int i :: st) h nx k n := by
  subst hi
  intro p l e R Z s m args below meth c H locs ls X hR hS hl
  have hK := X.2.2.2.2.2.1.1
  have hrm := X.2.2.2.2.2.2.2.1
  have hcl : (nI N).toNatClampNeg = N := nI_clamp (by omega)
  refine W.anew X.1 X.2.1 X.2.2.2.1 (X.2.2.2.2.1 _ hw) (va_AO.use (X.2.2.2.2.2.1.2.2.1 C hC)) rfl hd rfl (nI_pos (by omega)) (by rw [hcl]; omega) (by omega) (by rw [hcl]; omega) fun cA kA comp f1 f2 f3 f4 => ?_
  rw [hcl]
  obtain ⟨kA', comp', k1, k2, k3, k4⟩ := (hK.2 t _ ht).2
  have hcA : cA = G.1.2 t := Option.some.inj (f1.symm.trans k4)
  subst hcA
  generalize hH1 : H.push ({ cls := G.1.2 t, slots := Array.replicate N .null, vm := .none } : Cell) = H1
  have z1 : H1.size = nx + 1 := by rw [← hH1, Array.size_push, hR.1]
  have e1 : H1[nx]? = some (arrV (G.1.2 t) N (fun _ => .null)) := by rw [← hH1, ← hR.1, Array.getElem?_push_size, ← arrV_new]
  have o1 : ∀ q : Nat, q < nx → H1[q]? = H[q]? := fun q hq => by rw [← hH1, Array.getElem?_push, if_neg (by rw [hR.1]; exact Nat.ne_of_lt hq)]
  rw [hR.1]
  exact kk p l e R Z s m args below meth c H1 _ ls X (hR.new (show H1[nx]? = some (vp_cell _ _) by rw [vp_cell_q]; exact e1) z1 o1) (sd_S.new hS (by rw [z1, hR.1]) (fun q hq => o1 q (by rw [← hR.1]; exact hq))) hl
/-- a static table -/
theorem sd_gets {index : Nat} (z : sd_Z) (hd : decode M.2.1 pc = .ok (.getstatic index, 3)) (hz : z ∈ sd_sts) (hw : Cond.fieldLink M.1.cls index z.1 z.2.1 "[I" ∈ sd_tbl ∨ ∃ host, Cond.fieldLinkNest M.1.cls index z.1 z.2.1 "[I" host ∈ sd_nest) (kk : sd_W G M d mc ms Q (pc + 3) al (.ref (G.2.2.1 z.2.2.1) :: st) h nx k n) : sd_W G M d mc ms Q pc al st h nx k n := by
  intro p l e R Z s m args below meth c H locs ls X hR hS hl
  have K := kk p l e R Z s m args below meth c H locs ls X hR hS hl
  obtain ⟨hx, hb, -, ho, ht, hT, -⟩ := X
  obtain ⟨z1, -⟩ := hT.2.2.2.1 z hz
  rcases hw with hw | ⟨host, hw⟩
  · exact va_gets hx hb z1 hS ho (ht _ hw) (fun _ q => q) hd K
  · exact va_getsN hx hb z1 hS ho (va_Nw.use rfl (hT.2.1 _ hw)) (fun _ q => q) hd K
theorem sd_tald (z : sd_Z) {i v : Int32} (hd : decode M.2.1 pc = .ok (.iaload, 1)) (hz : z ∈ sd_sts) (hin : vp_in i z.2.2.2.length) (hv : z.2.2.2.getD i.toNatClampNeg 0 = v) (kk : sd_W G M d mc ms Q (pc + 1) al (.int v :: st) h nx k n) : sd_W G M d mc ms Q pc al (.int i :: .ref (G.2.2.1 z.2.2.1) :: st) h nx k n := by
  intro p l e R Z s m args below meth c H locs ls X hR hS hl
  obtain ⟨-, z2⟩ := X.2.2.2.2.2.1.2.2.2.1 z hz
  exact va_ti X.1 X.2.1 z2 hS hin (by rw [hv]) hd (kk p l e R Z s m args below meth c H locs ls X hR hS hl)
theorem sd_tlen (z : sd_Z) (hd : decode M.2.1 pc = .ok (.arraylength, 1)) (hz : z ∈ sd_sts) (kk : sd_W G M d mc ms Q (pc + 1) al (.int (nI z.2.2.2.length) :: st) h nx k n) : sd_W G M d mc ms Q pc al (.ref (G.2.2.1 z.2.2.1) :: st) h nx k n := by
  intro p l e R Z s m args below meth c H locs ls X hR hS hl
  obtain ⟨-, z2⟩ := X.2.2.2.2.2.1.2.2.2.1 z hz
  exact va_tlen X.1 X.2.1 z2 hS rfl hd (kk p l e R Z s m args below meth c H locs ls X hR hS hl)
/-- the script -/
theorem sd_sld {i : Int32} (hd : decode M.2.1 pc = .ok (.iaload, 1)) (hin : vp_in i G.2.2.2.2.1) (kk : sd_W G M d mc ms Q (pc + 1) al (.int (G.2.2.2.2.2 i.toNatClampNeg) :: st) h nx k n) : sd_W G M d mc ms Q pc al (.int i :: .ref G.2.2.2.1 :: st) h nx k n := by
  intro p l e R Z s m args below meth c H locs ls X hR hS hl
  exact va_ti X.1 X.2.1 X.2.2.2.2.2.1.2.2.2.2 hS hin rfl hd (kk p l e R Z s m args below meth c H locs ls X hR hS hl)
theorem sd_slen (hd : decode M.2.1 pc = .ok (.arraylength, 1)) (kk : sd_W G M d mc ms Q (pc + 1) al (.int (nI G.2.2.2.2.1) :: st) h nx k n) : sd_W G M d mc ms Q pc al (.ref G.2.2.2.1 :: st) h nx k n := by
  intro p l e R Z s m args below meth c H locs ls X hR hS hl
  exact va_tlen X.1 X.2.1 X.2.2.2.2.2.1.2.2.2.2 hS rfl hd (kk p l e R Z s m args below meth c H locs ls X hR hS hl)
/-- what comes behind a call -/
theorem sd_back {Q' : sd_Q} {mc' ms' : Nat} {rest st0 : List Value} {av : Array Value} {p : Program} {l : Launch} {e : Env} {R : Room} {Z : State → Prop} {s : State} {m : MethodId} {args : Array Value} {below : List Frame} {meth : Method} {c : Code} {H : Heap} {locs : List Loc} {ls : Array Slot} (X : sd_X G M d mc ms Q R Z p l e s m args below meth c) (hS : va_S (sd_A G) s.heap H locs) (hl : lv_has ls M.2.2.1 al)
    (run : va_Run p l e R s m args below meth c H locs k n mc' ms' (F0 m pc ls st0) rest (sd_Qc G Q' av) (sd_A G)) (kk : ∀ r h' nx', Q' r h' nx' → sd_W G M d mc ms Q (pc + 3) al (r.toList ++ rest) h' nx' (k + mc') (n + ms')) : W p l e R s m args below meth c H locs k n Z (F0 m pc ls st0) := by
  intro T hT Xst
  obtain ⟨v, st₀, t, T', L, h0, X', hL, e1, e2, ⟨⟨r, h2, nx2, hv, hq, hR2⟩, hz, hkk⟩, stp⟩ := run T hT Xst
  cases hv
  rw [h0] at hz hkk
  obtain ⟨t2, a1, b1⟩ := kk v h2 nx2 hq p l e R Z s m args below meth c T'.heap (locs ++ L) ls X (by rw [e1]; exact hR2)
    ⟨Nat.le_trans hS.1 (by rw [e1]; exact hz), fun q h1 h2 => by rw [e1, hkk q (Nat.lt_of_lt_of_le h1 hS.1) h2]; exact hS.2.1 q h1 h2, fun q hq => by
      rcases List.mem_append.mp hq with h | h
      · exact hS.2.2 q h
      · exact hL q h⟩ hl T' rfl X'
  exact ⟨t2, stp t2 a1, b1⟩
theorem sd_callS {M' : sd_M} {index d' mc' ms' : Nat} (av rest : List Value) {Q' : sd_Q} (hd : decode M.2.1 pc = .ok (.invokestatic index, 3)) (hw : sd_ml M.1.cls index M' av.length) (hst : Cond.static M'.1 ∈ sd_tbl) (hct : sd_Ct G M' d' mc' ms' av h nx Q') (hd' : d' + 1 ≤ d) (hk : k + mc' ≤ mc) (hn : n + ms' ≤ ms) (hrest : (rest.map fun v => v.category).sum ≤ 8) (hs : st = av.reverse ++ rest)
    (kk : ∀ r h' nx', Q' r h' nx' → sd_W G M d mc ms Q (pc + 3) al (r.toList ++ rest) h' nx' (k + mc') (n + ms')) : sd_W G M d mc ms Q pc al st h nx k n := by
  subst hs
  intro p l e R Z s m args below meth c H locs ls X hR hS hl
  obtain ⟨hlk, hcd, hini, hdd, hmx⟩ := hw
  have hrm := X.2.2.2.2.2.2.2.1
  have ht := X.2.2.2.2.1
  have hT := X.2.2.2.2.2.1
  have hG := sd_good hcd
  have hroom : (sd_rm d' mc' ms').frames + 1 ≤ R.frames ∧ 8 + (M'.2.2.1 + 11) + (sd_rm d' mc' ms').locals ≤ R.locals := ⟨Nat.le_trans hd' hrm.1, by show 8 + (M'.2.2.1 + 11) + 64 * d' ≤ _; omega⟩
  have hp : PreS s H (sd_Pc G av h nx) av := ⟨sd_blind, fun U hU hW => ⟨rfl, by rw [hU]; exact hR, hT.warm hS hU hW⟩⟩
  rcases hlk with hlk | ⟨host, hlk⟩
  · exact sd_back X hS hl (va_runS (As := av) (rest := rest) ⟨X.1, X.2.1, X.2.2.1, X.2.2.2.1, ht⟩ (hct l) ⟨callB_of av.length ht hG rfl rfl rfl (ht _ hini) (ht _ hlk) hdd hroom, ht _ hst⟩ hp rfl rfl hl.1 rfl (lv_room hrest) hd ⟨by omega, by omega⟩) kk
  · exact sd_back X hS hl (va_runSN (As := av) (rest := rest) ⟨X.1, X.2.1, X.2.2.1, X.2.2.2.1, ht⟩ (hct l) ⟨va_cnB av.length ht hG rfl rfl rfl (hT.2.1 _ hlk) (ht _ hini) hdd hroom, ht _ hst, trivial⟩ hp rfl rfl hl.1 rfl (lv_room hrest) hd ⟨by omega, by omega⟩) kk
theorem sd_callI {M' : sd_M} {index d' mc' ms' b : Nat} (av rest : List Value) {Q' : sd_Q} (hd : decode M.2.1 pc = .ok (.invokespecial index, 3)) (hw : sd_ml M.1.cls index M' av.length) (hi : M'.1.name = "<init>" ∧ M'.2.2.2 = none) (hst : Cond.instanceMethod M'.1 ∈ sd_tbl) (hct : sd_Ct G M' d' mc' ms' (.ref b :: av) h nx Q') (hd' : d' + 1 ≤ d) (hk : k + mc' ≤ mc) (hn : n + ms' ≤ ms) (hrest : (rest.map fun v => v.category).sum ≤ 8) (hs : st = av.reverse ++ .ref b :: rest)
    (kk : ∀ r h' nx', Q' r h' nx' → sd_W G M d mc ms Q (pc + 3) al (r.toList ++ rest) h' nx' (k + mc') (n + ms')) : sd_W G M d mc ms Q pc al st h nx k n := by
  subst hs
  intro p l e R Z s m args below meth c H locs ls X hR hS hl
  obtain ⟨hlk, hcd, hini, hdd, hmx⟩ := hw
  have hrm := X.2.2.2.2.2.2.2.1
  have ht := X.2.2.2.2.1
  have hT := X.2.2.2.2.2.1
  have hG := sd_good hcd
  have hw2 : sd_ws M' = Cond.code M'.1 M'.2.1 M'.2.2.1 none :: sd_tbl := by rw [← hi.2]; rfl
  have hroom : (sd_rm d' mc' ms').frames + 1 ≤ R.frames ∧ 8 + (M'.2.2.1 + 11) + (sd_rm d' mc' ms').locals ≤ R.locals := ⟨Nat.le_trans hd' hrm.1, by show 8 + (M'.2.2.1 + 11) + 64 * d' ≤ _; omega⟩
  have hp : PreS s H (sd_Pc G (.ref b :: av) h nx) (.ref b :: av) := ⟨sd_blind, fun U hU hW => ⟨rfl, by rw [hU]; exact hR, hT.warm hS hU hW⟩⟩
  rcases hlk with hlk | ⟨host, hlk⟩
  · exact sd_back X hS hl (va_runI (As := av) (rest := rest) ⟨X.1, X.2.1, X.2.2.1, X.2.2.2.1, ht⟩ (hct l) ⟨callB_of av.length ht hG hw2 rfl rfl (ht _ hini) (ht _ hlk) hdd hroom, hi.1, ht _ hst⟩ hp rfl rfl hl.1 rfl (lv_room hrest) hd ⟨by omega, by omega⟩) kk
  · exact sd_back X hS hl (va_runIN (As := av) (rest := rest) ⟨X.1, X.2.1, X.2.2.1, X.2.2.2.1, ht⟩ (hct l) ⟨va_cnB av.length ht hG hw2 rfl rfl (hT.2.1 _ hlk) (ht _ hini) hdd hroom, hi.1, ht _ hst⟩ hp rfl rfl hl.1 rfl (lv_room hrest) hd ⟨by omega, by omega⟩) kk
theorem sd_callV {M' : sd_M} {index d' mc' ms' b : Nat} (ci : Nat) {fs : List Value} (r0 : vw_C) (av rest : List Value) {Q' : sd_Q} (hd : decode M.2.1 pc = .ok (.invokevirtual index, 3)) (hw : sd_ml M.1.cls index M' av.length) (hr : sd_cl[ci]? = some r0) (hc : h b = some (.inr (ci, fs))) (hst : Cond.instanceMethod M'.1 ∈ sd_tbl ∧ Cond.selects r0.1 M'.1 M'.1 ∈ sd_tbl) (hct : sd_Ct G M' d' mc' ms' (.ref b :: av) h nx Q') (hd' : d' + 1 ≤ d) (hk : k + mc' ≤ mc) (hn : n + ms' ≤ ms) (hrest : (rest.map fun v => v.category).sum ≤ 8) (hs : st = av.reverse ++ .ref b :: rest)
    (kk : ∀ r h' nx', Q' r h' nx' → sd_W G M d mc ms Q (pc + 3) al (r.toList ++ rest) h' nx' (k + mc') (n + ms')) : sd_W G M d mc ms Q pc al st h nx k n := by
  subst hs
  intro p l e R Z s m args below meth c H locs ls X hR hS hl
  obtain ⟨hlk, hcd, hini, hdd, hmx⟩ := hw
  have hrm := X.2.2.2.2.2.2.2.1
  have ht := X.2.2.2.2.1
  have hT := X.2.2.2.2.2.1
  have hG := sd_good hcd
  have hroom : (sd_rm d' mc' ms').frames + 1 ≤ R.frames ∧ 8 + (M'.2.2.1 + 11) + (sd_rm d' mc' ms').locals ≤ R.locals := ⟨Nat.le_trans hd' hrm.1, by show 8 + (M'.2.2.1 + 11) + 64 * d' ≤ _; omega⟩
  have hp : PreV s H r0.1 b (sd_Pc G (.ref b :: av) h nx) av := ⟨sd_blind, va_recv hT.1 (hR.one hc) hr (q0 := 0) rfl, fun U hU hW => ⟨rfl, by rw [hU]; exact hR, hT.warm hS hU hW⟩⟩
  rcases hlk with hlk | ⟨host, hlk⟩
  · exact sd_back X hS hl (va_runV (As := av) (rest := rest) ⟨X.1, X.2.1, X.2.2.1, X.2.2.2.1, ht⟩ (hct l) ⟨callB_of av.length ht hG rfl rfl rfl (ht _ hini) (ht _ hlk) hdd hroom, ht _ hst.1, ht _ hst.2⟩ hp rfl rfl hl.1 rfl (lv_room hrest) hd ⟨by omega, by omega⟩) kk
  · exact sd_back X hS hl (va_runVN (As := av) (rest := rest) ⟨X.1, X.2.1, X.2.2.1, X.2.2.2.1, ht⟩ (hct l) ⟨va_cnB av.length ht hG rfl rfl rfl (hT.2.1 _ hlk) (ht _ hini) hdd hroom, ht _ hst.1, ht _ hst.2⟩ hp rfl rfl hl.1 rfl (lv_room hrest) hd ⟨by omega, by omega⟩) kk
/-- Object.<init> -/
theorem sd_oinit {index a : Nat} (hd : decode M.2.1 pc = .ok (.invokespecial index, 3)) (hw : Cond.methodLink M.1.cls index objectInit ∈ sd_tbl) (hd1 : 1 ≤ d) (hrest : (st.map fun v => v.category).sum ≤ 8) (kk : sd_W G M d mc ms Q (pc + 3) al st h nx k n) : sd_W G M d mc ms Q pc al (.ref a :: st) h nx k n := by
  intro p l e R Z s m args below meth c H locs ls X hR hS hl
  have hrm := X.2.2.2.2.2.2.2.1
  have ht := X.2.2.2.2.1
  refine W.objInit X.1 X.2.1 X.2.2.2.1 (ht _ hw) (ht _ sd_obj.1) (ht _ sd_obj.2) rfl (by rw [X.2.2.1]; exact hl.1) rfl hd (by omega) (by show 2 * 0 + _ + 12 ≤ _; omega) ?_
  exact kk p l e R Z s m args below meth c H locs ls X hR hS hl
end SDH
