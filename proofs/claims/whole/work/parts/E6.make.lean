/-! ===== objects that are being made ===== -/
/-- cells i .. j of the shape, over h -/
def pf (A : Nat → ClassId) (S : fx_S) (o : Nat) (D : fx_D) (h : sd_H) (i j : Nat) : sd_H := fun q => if o + i ≤ q ∧ q < o + j then (S (q - o)).map (fx_cell A o D (q - o)) else h q
def zD (t : Nat) (F : Nat → Int32) : fx_D := (fun y => if y = t then F else fun _ => 0, fun _ _ => 0, fun _ => 0)
theorem zD_n {t x : Nat} {F : Nat → Int32} (hn : x ≠ t) : (zD t F).1 x = fun _ => 0 := if_neg hn
theorem zD_s {t : Nat} {F : Nat → Int32} : (zD t F).1 t = F := if_pos rfl
def bi_fin (own : String) (index ci j : Nat) : Prop := ∃ r : vw_C, sd_cl[ci]? = some r ∧ j < r.2.2 ∧ Cond.fieldLink own index (r.2.1 j).1 (r.2.1 j).2.1 (r.2.1 j).2.2.1 ∈ sd_tbl ∧ (r.2.1 j).2.2.2 = true ∧ (r.2.1 j).1 = own
section PF
variable {A : Nat → ClassId} {S : fx_S} {o : Nat} {D : fx_D} {h : sd_H} {i j : Nat}
theorem pf_in {x : Nat} {c : fx_C} (h1 : i ≤ x) (h2 : x < j) (hs : S x = some c) : pf A S o D h i j (o + x) = some (fx_cell A o D x c) := by
  unfold pf
  rw [if_pos ⟨by omega, by omega⟩, Nat.add_sub_cancel_left, hs]
  rfl
theorem pf_out {q : Nat} (hq : q < o + i ∨ o + j ≤ q) : pf A S o D h i j q = h q := if_neg (by omega)
theorem pf_of {h' : sd_H} (h1 : ∀ q, (q < o + i ∨ o + j ≤ q) → h' q = h q) (h2 : ∀ x, i ≤ x → x < j → h' (o + x) = (S x).map (fx_cell A o D x)) : h' = pf A S o D h i j := by
  funext q
  unfold pf
  split
  · next e =>
    have := h2 (q - o) (by omega) (by omega)
    rw [show o + (q - o) = q by omega] at this
    exact this
  · next e => exact h1 q (by omega)
theorem bi_0 {b : Nat} {E : va_E} (hb : h (o + b) = some E) : h = sd_up (pf A S o D h (b + 1) (b + 1)) (o + b) E := by
  funext q
  by_cases e : q = o + b
  · rw [e, sd_up_s, hb]
  · rw [sd_up_n e, pf_out (by omega)]
theorem bi_new {b x : Nat} {c : fx_C} {e E : va_E} (hb : b < x) (hs : S x = some c) (he : fx_cell A o D x c = e) : sd_up (sd_up (pf A S o D h (b + 1) x) (o + b) E) (o + x) e = sd_up (pf A S o D h (b + 1) (x + 1)) (o + b) E := by
  funext q
  by_cases e1 : q = o + x
  · rw [e1, sd_up_s, sd_up_n (by omega), pf_in (by omega) (by omega) hs, he]
  · rw [sd_up_n e1]
    by_cases e2 : q = o + b
    · rw [e2, sd_up_s, sd_up_s]
    · rw [sd_up_n e2, sd_up_n e2]
      by_cases e3 : o + (b + 1) ≤ q ∧ q < o + x
      · unfold pf
        rw [if_pos e3, if_pos ⟨e3.1, by omega⟩]
      · rw [pf_out (by omega), pf_out (by omega)]
theorem sd_up2 {a : Nat} {e e' : va_E} : sd_up (sd_up h a e) a e' = sd_up h a e' := by
  funext q
  by_cases e1 : q = a
  · rw [e1, sd_up_s, sd_up_s]
  · rw [sd_up_n e1, sd_up_n e1, sd_up_n e1]
theorem sd_upc {a b : Nat} {e e' : va_E} (hn : a ≠ b) : sd_up (sd_up h a e) b e' = sd_up (sd_up h b e') a e := by
  funext q
  by_cases e1 : q = a
  · rw [e1, sd_up_n hn, sd_up_s, sd_up_s]
  · by_cases e2 : q = b
    · rw [e2, sd_up_s, sd_up_n (fun w => hn w.symm), sd_up_s]
    · rw [sd_up_n e2, sd_up_n e1, sd_up_n e1, sd_up_n e2]
/-- an object of its own cells was made inside -/
theorem bi_ob {b x y : Nat} {E F E' : va_E} (h1 : b < x) (h2 : x < y) : sd_up (pf A S o D (sd_up (sd_up (pf A S o D h (b + 1) x) (o + b) E) (o + x) F) x y) (o + b) E' = sd_up (pf A S o D h (b + 1) y) (o + b) E' := by
  funext q
  by_cases e1 : q = o + b
  · rw [e1, sd_up_s, sd_up_s]
  · rw [sd_up_n e1, sd_up_n e1]
    by_cases e2 : o + x ≤ q ∧ q < o + y
    · unfold pf
      rw [if_pos e2, if_pos ⟨by omega, e2.2⟩]
    · rw [pf_out (by omega), sd_up_n (by omega), sd_up_n e1]
      by_cases e3 : o + (b + 1) ≤ q ∧ q < o + x
      · unfold pf
        rw [if_pos e3, if_pos ⟨e3.1, by omega⟩]
      · rw [pf_out (by omega), pf_out (by omega)]
/-- the same, with an array at t that is being filled -/
theorem bi_el {b t x y : Nat} {E F P P' : va_E} (h1 : b < t) (h2 : t < x) (h3 : x < y) : sd_up (pf A S o D (sd_up (sd_up (sd_up (pf A S o D h (b + 1) x) (o + b) E) (o + t) P) (o + x) F) x y) (o + t) P' = sd_up (sd_up (pf A S o D h (b + 1) y) (o + b) E) (o + t) P' := by
  funext q
  by_cases e0 : q = o + t
  · rw [e0, sd_up_s, sd_up_s]
  rw [sd_up_n e0, sd_up_n e0]
  by_cases e1 : q = o + b
  · rw [e1, sd_up_s, pf_out (by omega), sd_up_n (by omega), sd_up_n (by omega), sd_up_s]
  · rw [sd_up_n e1]
    by_cases e2 : o + x ≤ q ∧ q < o + y
    · unfold pf
      rw [if_pos e2, if_pos ⟨by omega, e2.2⟩]
    · rw [pf_out (by omega), sd_up_n (by omega), sd_up_n e0, sd_up_n e1]
      by_cases e3 : o + (b + 1) ≤ q ∧ q < o + x
      · unfold pf
        rw [if_pos e3, if_pos ⟨e3.1, by omega⟩]
      · rw [pf_out (by omega), pf_out (by omega)]
/-- it is whole -/
theorem bi_end {b x : Nat} {c : fx_C} {E : va_E} (h1 : b < x) (hs : S b = some c) (he : fx_cell A o D b c = E) : sd_up (pf A S o D h (b + 1) x) (o + b) E = pf A S o D h b x := by
  funext q
  by_cases e1 : q = o + b
  · rw [e1, sd_up_s, pf_in (by omega) (by omega) hs, he]
  · rw [sd_up_n e1]
    by_cases e3 : o + (b + 1) ≤ q ∧ q < o + x
    · unfold pf
      rw [if_pos e3, if_pos ⟨by omega, by omega⟩]
    · rw [pf_out (by omega), pf_out (by omega)]
theorem bi_put {t x : Nat} {c : fx_C} {E : va_E} (h1 : i ≤ t) (h2 : t < x) (hs : S t = some c) (he : fx_cell A o D t c = E) : sd_up (pf A S o D h i x) (o + t) E = pf A S o D h i x := by
  funext q
  by_cases e1 : q = o + t
  · rw [e1, sd_up_s, pf_in (by omega) (by omega) hs, he]
  · rw [sd_up_n e1]
theorem bi_ua {t x N : Nat} {F F' : Nat → Int32} (h1 : i ≤ t) (h2 : t < x) (hs : S t = some (.inr (.inl N))) : sd_up (pf A S o (zD t F) h i x) (o + t) (.inl (A 0, N, .inl F')) = pf A S o (zD t F') h i x := by
  funext q
  by_cases e1 : q = o + t
  · rw [e1, sd_up_s, pf_in (by omega) (by omega) hs]
    simp [fx_cell, zD]
  · rw [sd_up_n e1]
    unfold pf
    split
    · next e =>
      have ne : q - o ≠ t := by omega
      congr 1
      funext c
      rcases c with ⟨ci, t'⟩ | N' | ⟨tag, N', f⟩
      · rfl
      · simp [fx_cell, zD, ne]
      · rfl
    · rfl
end PF
section BI
variable {G : sd_G} {M : sd_M} {d mc ms : Nat} {Q : sd_Q} {pc : Nat} {al : List (Nat × Value)} {st : List Value} {h : sd_H} {nx k n : Nat} {S : fx_S} {o : Nat} {D : fx_D}
/-- newarray, putfield of a final field -/
theorem bi_arr {b ci index : Nat} {fs : List Value} (x N j : Nat) (hd1 : decode M.2.1 pc = .ok (.newarray .int, 2)) (hd2 : decode M.2.1 (pc + 2) = .ok (.putfield index, 3)) (hl : bi_fin M.1.cls index ci j) (hi : M.1.name = "<init>") (hty : sd_ty ci j = .array .int) (hx : b < x) (hs : S x = some (.inr (.inl N))) (hD : D.1 x = fun _ => 0) (hN : N < 100000) (hj : j < fs.length) (hB : G.2.1 ≤ o) (hk : k + 1 ≤ mc) (hn : n + N ≤ ms)
    (kk : sd_W G M d mc ms Q (pc + 2 + 3) al st (sd_up (pf G.1.2 S o D h (b + 1) (x + 1)) (o + b) (.inr (ci, fs.set j (.ref (o + x))))) (o + (x + 1)) (k + 1) (n + N)) : sd_W G M d mc ms Q pc al (.int (nI N) :: .ref (o + b) :: st) (sd_up (pf G.1.2 S o D h (b + 1) x) (o + b) (.inr (ci, fs))) (o + x) k n := by
  refine sd_newi N hd1 rfl hN hk hn ?_
  rw [bi_new hx hs (show fx_cell G.1.2 o D x (.inr (.inl N)) = .inl (G.1.2 0, N, .inl (fun _ => 0)) by simp only [fx_cell, hD])]
  refine sd_putF ci j (.array .int) hd2 hl hi hty rfl rfl sd_up_s hj (by omega) ?_
  rw [sd_up2]
  exact kk
end BI

theorem FDK_10 : bi_fin "SequentDesk" 10 0 0 := ⟨sR_DK, rfl, by decide, (sd_memT (sd_in2 (List.mem_of_getElem? (i := 43) rfl)) rfl), rfl, rfl⟩
theorem FDK_19 : bi_fin "SequentDesk" 19 0 1 := ⟨sR_DK, rfl, by decide, (sd_memT (sd_in2 (List.mem_of_getElem? (i := 44) rfl)) rfl), rfl, rfl⟩
theorem FDK_26 : bi_fin "SequentDesk" 26 0 2 := ⟨sR_DK, rfl, by decide, (sd_memT (sd_in2 (List.mem_of_getElem? (i := 45) rfl)) rfl), rfl, rfl⟩
theorem FDK_35 : bi_fin "SequentDesk" 35 0 3 := ⟨sR_DK, rfl, by decide, (sd_memT (sd_in2 (List.mem_of_getElem? (i := 46) rfl)) rfl), rfl, rfl⟩
theorem FDK_44 : bi_fin "SequentDesk" 44 0 4 := ⟨sR_DK, rfl, by decide, (sd_memT (sd_in2 (List.mem_of_getElem? (i := 47) rfl)) rfl), rfl, rfl⟩
theorem FDR_9 : bi_fin "SequentDesk$Draft" 9 1 0 := ⟨sR_DR, rfl, by decide, (sd_memT (sd_in1 (List.mem_of_getElem? (i := 97) rfl)) rfl), rfl, rfl⟩
theorem FDR_15 : bi_fin "SequentDesk$Draft" 15 1 1 := ⟨sR_DR, rfl, by decide, (sd_memT (sd_in1 (List.mem_of_getElem? (i := 99) rfl)) rfl), rfl, rfl⟩
theorem FGL_10 : bi_fin "SequentDesk$Goal" 10 2 0 := ⟨sR_GL, rfl, by decide, (sd_memT (sd_in1 (List.mem_of_getElem? (i := 239) rfl)) rfl), rfl, rfl⟩
theorem FGS_11 : bi_fin "SequentDesk$Goals" 11 3 2 := ⟨sR_GS, rfl, by decide, (sd_memT (sd_in2 (List.mem_of_getElem? (i := 18) rfl)) rfl), rfl, rfl⟩
theorem FGS_17 : bi_fin "SequentDesk$Goals" 17 3 4 := ⟨sR_GS, rfl, by decide, (sd_memT (sd_in2 (List.mem_of_getElem? (i := 21) rfl)) rfl), rfl, rfl⟩
theorem FGS_21 : bi_fin "SequentDesk$Goals" 21 3 6 := ⟨sR_GS, rfl, by decide, (sd_memT (sd_in2 (List.mem_of_getElem? (i := 24) rfl)) rfl), rfl, rfl⟩
theorem FGS_24 : bi_fin "SequentDesk$Goals" 24 3 0 := ⟨sR_GS, rfl, by decide, (sd_memT (sd_in2 (List.mem_of_getElem? (i := 16) rfl)) rfl), rfl, rfl⟩
theorem FGS_28 : bi_fin "SequentDesk$Goals" 28 3 1 := ⟨sR_GS, rfl, by decide, (sd_memT (sd_in2 (List.mem_of_getElem? (i := 17) rfl)) rfl), rfl, rfl⟩
theorem FIN_11 : bi_fin "SequentDesk$Inference" 11 4 0 := ⟨sR_IN, rfl, by decide, (sd_memT (sd_in1 (List.mem_of_getElem? (i := 116) rfl)) rfl), rfl, rfl⟩
theorem FIN_15 : bi_fin "SequentDesk$Inference" 15 4 1 := ⟨sR_IN, rfl, by decide, (sd_memT (sd_in1 (List.mem_of_getElem? (i := 117) rfl)) rfl), rfl, rfl⟩
theorem FIN_18 : bi_fin "SequentDesk$Inference" 18 4 2 := ⟨sR_IN, rfl, by decide, (sd_memT (sd_in1 (List.mem_of_getElem? (i := 118) rfl)) rfl), rfl, rfl⟩
theorem FIN_21 : bi_fin "SequentDesk$Inference" 21 4 3 := ⟨sR_IN, rfl, by decide, (sd_memT (sd_in1 (List.mem_of_getElem? (i := 119) rfl)) rfl), rfl, rfl⟩
theorem FIN_24 : bi_fin "SequentDesk$Inference" 24 4 4 := ⟨sR_IN, rfl, by decide, (sd_memT (sd_in1 (List.mem_of_getElem? (i := 120) rfl)) rfl), rfl, rfl⟩
theorem FIN_27 : bi_fin "SequentDesk$Inference" 27 4 5 := ⟨sR_IN, rfl, by decide, (sd_memT (sd_in1 (List.mem_of_getElem? (i := 121) rfl)) rfl), rfl, rfl⟩
theorem FIN_30 : bi_fin "SequentDesk$Inference" 30 4 6 := ⟨sR_IN, rfl, by decide, (sd_memT (sd_in1 (List.mem_of_getElem? (i := 122) rfl)) rfl), rfl, rfl⟩
theorem FRU_11 : bi_fin "SequentDesk$Rules" 11 5 1 := ⟨sR_RU, rfl, by decide, (sd_memT (sd_in1 (List.mem_of_getElem? (i := 211) rfl)) rfl), rfl, rfl⟩
theorem FRU_17 : bi_fin "SequentDesk$Rules" 17 5 0 := ⟨sR_RU, rfl, by decide, (sd_memT (sd_in1 (List.mem_of_getElem? (i := 210) rfl)) rfl), rfl, rfl⟩
theorem FST_9 : bi_fin "SequentDesk$Statement" 9 6 0 := ⟨sR_ST, rfl, by decide, (sd_memT (sd_in1 (List.mem_of_getElem? (i := 163) rfl)) rfl), rfl, rfl⟩
theorem FTM_9 : bi_fin "SequentDesk$Term" 9 7 0 := ⟨sR_TM, rfl, by decide, (sd_memT (sd_in1 (List.mem_of_getElem? (i := 36) rfl)) rfl), rfl, rfl⟩
theorem FTM_15 : bi_fin "SequentDesk$Term" 15 7 1 := ⟨sR_TM, rfl, by decide, (sd_memT (sd_in1 (List.mem_of_getElem? (i := 41) rfl)) rfl), rfl, rfl⟩
theorem FTM_18 : bi_fin "SequentDesk$Term" 18 7 2 := ⟨sR_TM, rfl, by decide, (sd_memT (sd_in1 (List.mem_of_getElem? (i := 46) rfl)) rfl), rfl, rfl⟩
theorem FTS_9 : bi_fin "SequentDesk$Terms" 9 8 0 := ⟨sR_TS, rfl, by decide, (sd_memT (sd_in1 (List.mem_of_getElem? (i := 69) rfl)) rfl), rfl, rfl⟩
theorem FTS_17 : bi_fin "SequentDesk$Terms" 17 8 1 := ⟨sR_TS, rfl, by decide, (sd_memT (sd_in1 (List.mem_of_getElem? (i := 73) rfl)) rfl), rfl, rfl⟩
theorem FTS_22 : bi_fin "SequentDesk$Terms" 22 8 3 := ⟨sR_TS, rfl, by decide, (sd_memT (sd_in1 (List.mem_of_getElem? (i := 81) rfl)) rfl), rfl, rfl⟩
theorem FTH_10 : bi_fin "SequentDesk$Theorem" 10 9 0 := ⟨sR_TH, rfl, by decide, (sd_memT (sd_in1 (List.mem_of_getElem? (i := 187) rfl)) rfl), rfl, rfl⟩
theorem FMO_7 : bi_fin "SequentDeskModel" 7 10 0 := ⟨sR_MO, rfl, by decide, (sd_memT (sd_in4 (List.mem_of_getElem? (i := 79) rfl)) rfl), rfl, rfl⟩
theorem FMO_13 : bi_fin "SequentDeskModel" 13 10 1 := ⟨sR_MO, rfl, by decide, (sd_memT (sd_in4 (List.mem_of_getElem? (i := 80) rfl)) rfl), rfl, rfl⟩
theorem FMO_16 : bi_fin "SequentDeskModel" 16 10 2 := ⟨sR_MO, rfl, by decide, (sd_memT (sd_in4 (List.mem_of_getElem? (i := 81) rfl)) rfl), rfl, rfl⟩
theorem FMO_19 : bi_fin "SequentDeskModel" 19 10 3 := ⟨sR_MO, rfl, by decide, (sd_memT (sd_in4 (List.mem_of_getElem? (i := 82) rfl)) rfl), rfl, rfl⟩
theorem FMO_22 : bi_fin "SequentDeskModel" 22 10 4 := ⟨sR_MO, rfl, by decide, (sd_memT (sd_in4 (List.mem_of_getElem? (i := 83) rfl)) rfl), rfl, rfl⟩
theorem FMO_25 : bi_fin "SequentDeskModel" 25 10 8 := ⟨sR_MO, rfl, by decide, (sd_memT (sd_in4 (List.mem_of_getElem? (i := 87) rfl)) rfl), rfl, rfl⟩
theorem FMO_28 : bi_fin "SequentDeskModel" 28 10 9 := ⟨sR_MO, rfl, by decide, (sd_memT (sd_in4 (List.mem_of_getElem? (i := 88) rfl)) rfl), rfl, rfl⟩
theorem FMO_31 : bi_fin "SequentDeskModel" 31 10 10 := ⟨sR_MO, rfl, by decide, (sd_memT (sd_in4 (List.mem_of_getElem? (i := 89) rfl)) rfl), rfl, rfl⟩
theorem FMO_34 : bi_fin "SequentDeskModel" 34 10 11 := ⟨sR_MO, rfl, by decide, (sd_memT (sd_in4 (List.mem_of_getElem? (i := 90) rfl)) rfl), rfl, rfl⟩
theorem FMO_37 : bi_fin "SequentDeskModel" 37 10 12 := ⟨sR_MO, rfl, by decide, (sd_memT (sd_in4 (List.mem_of_getElem? (i := 91) rfl)) rfl), rfl, rfl⟩
theorem FMO_40 : bi_fin "SequentDeskModel" 40 10 13 := ⟨sR_MO, rfl, by decide, (sd_memT (sd_in4 (List.mem_of_getElem? (i := 92) rfl)) rfl), rfl, rfl⟩
theorem FMO_43 : bi_fin "SequentDeskModel" 43 10 15 := ⟨sR_MO, rfl, by decide, (sd_memT (sd_in4 (List.mem_of_getElem? (i := 94) rfl)) rfl), rfl, rfl⟩
theorem FMO_46 : bi_fin "SequentDeskModel" 46 10 17 := ⟨sR_MO, rfl, by decide, (sd_memT (sd_in4 (List.mem_of_getElem? (i := 96) rfl)) rfl), rfl, rfl⟩
theorem FMO_49 : bi_fin "SequentDeskModel" 49 10 18 := ⟨sR_MO, rfl, by decide, (sd_memT (sd_in4 (List.mem_of_getElem? (i := 97) rfl)) rfl), rfl, rfl⟩
theorem FMO_52 : bi_fin "SequentDeskModel" 52 10 19 := ⟨sR_MO, rfl, by decide, (sd_memT (sd_in4 (List.mem_of_getElem? (i := 98) rfl)) rfl), rfl, rfl⟩
theorem FMO_55 : bi_fin "SequentDeskModel" 55 10 20 := ⟨sR_MO, rfl, by decide, (sd_memT (sd_in4 (List.mem_of_getElem? (i := 99) rfl)) rfl), rfl, rfl⟩
theorem FMO_58 : bi_fin "SequentDeskModel" 58 10 21 := ⟨sR_MO, rfl, by decide, (sd_memT (sd_in4 (List.mem_of_getElem? (i := 100) rfl)) rfl), rfl, rfl⟩
theorem FMO_61 : bi_fin "SequentDeskModel" 61 10 22 := ⟨sR_MO, rfl, by decide, (sd_memT (sd_in4 (List.mem_of_getElem? (i := 101) rfl)) rfl), rfl, rfl⟩
theorem FMO_64 : bi_fin "SequentDeskModel" 64 10 23 := ⟨sR_MO, rfl, by decide, (sd_memT (sd_in4 (List.mem_of_getElem? (i := 102) rfl)) rfl), rfl, rfl⟩
theorem FMO_67 : bi_fin "SequentDeskModel" 67 10 24 := ⟨sR_MO, rfl, by decide, (sd_memT (sd_in4 (List.mem_of_getElem? (i := 103) rfl)) rfl), rfl, rfl⟩
theorem FMO_70 : bi_fin "SequentDeskModel" 70 10 25 := ⟨sR_MO, rfl, by decide, (sd_memT (sd_in4 (List.mem_of_getElem? (i := 104) rfl)) rfl), rfl, rfl⟩
theorem FMO_73 : bi_fin "SequentDeskModel" 73 10 26 := ⟨sR_MO, rfl, by decide, (sd_memT (sd_in4 (List.mem_of_getElem? (i := 105) rfl)) rfl), rfl, rfl⟩
theorem FMO_76 : bi_fin "SequentDeskModel" 76 10 30 := ⟨sR_MO, rfl, by decide, (sd_memT (sd_in4 (List.mem_of_getElem? (i := 109) rfl)) rfl), rfl, rfl⟩
theorem FMO_79 : bi_fin "SequentDeskModel" 79 10 31 := ⟨sR_MO, rfl, by decide, (sd_memT (sd_in4 (List.mem_of_getElem? (i := 110) rfl)) rfl), rfl, rfl⟩
theorem FMO_82 : bi_fin "SequentDeskModel" 82 10 32 := ⟨sR_MO, rfl, by decide, (sd_memT (sd_in4 (List.mem_of_getElem? (i := 111) rfl)) rfl), rfl, rfl⟩
theorem FMO_85 : bi_fin "SequentDeskModel" 85 10 33 := ⟨sR_MO, rfl, by decide, (sd_memT (sd_in4 (List.mem_of_getElem? (i := 112) rfl)) rfl), rfl, rfl⟩
theorem FMO_88 : bi_fin "SequentDeskModel" 88 10 34 := ⟨sR_MO, rfl, by decide, (sd_memT (sd_in4 (List.mem_of_getElem? (i := 113) rfl)) rfl), rfl, rfl⟩
theorem FMO_91 : bi_fin "SequentDeskModel" 91 10 35 := ⟨sR_MO, rfl, by decide, (sd_memT (sd_in4 (List.mem_of_getElem? (i := 114) rfl)) rfl), rfl, rfl⟩
theorem FMO_94 : bi_fin "SequentDeskModel" 94 10 36 := ⟨sR_MO, rfl, by decide, (sd_memT (sd_in4 (List.mem_of_getElem? (i := 115) rfl)) rfl), rfl, rfl⟩
theorem ODK : Cond.methodLink "SequentDesk" 1 objectInit ∈ sd_tbl := (sd_memT (sd_in1 (List.mem_of_getElem? (i := 20) rfl)) rfl)
theorem ODR : Cond.methodLink "SequentDesk$Draft" 3 objectInit ∈ sd_tbl := (sd_memT (sd_in1 (List.mem_of_getElem? (i := 96) rfl)) rfl)
theorem OGL : Cond.methodLink "SequentDesk$Goal" 1 objectInit ∈ sd_tbl := (sd_memT (sd_in1 (List.mem_of_getElem? (i := 236) rfl)) rfl)
theorem OGS : Cond.methodLink "SequentDesk$Goals" 3 objectInit ∈ sd_tbl := (sd_memT (sd_in1 (List.mem_of_getElem? (i := 229) rfl)) rfl)
theorem OIN : Cond.methodLink "SequentDesk$Inference" 5 objectInit ∈ sd_tbl := (sd_memT (sd_in1 (List.mem_of_getElem? (i := 115) rfl)) rfl)
theorem ORU : Cond.methodLink "SequentDesk$Rules" 3 objectInit ∈ sd_tbl := (sd_memT (sd_in1 (List.mem_of_getElem? (i := 149) rfl)) rfl)
theorem OST : Cond.methodLink "SequentDesk$Statement" 3 objectInit ∈ sd_tbl := (sd_memT (sd_in1 (List.mem_of_getElem? (i := 162) rfl)) rfl)
theorem OTM : Cond.methodLink "SequentDesk$Term" 3 objectInit ∈ sd_tbl := (sd_memT (sd_in1 (List.mem_of_getElem? (i := 35) rfl)) rfl)
theorem OTS : Cond.methodLink "SequentDesk$Terms" 3 objectInit ∈ sd_tbl := (sd_memT (sd_in1 (List.mem_of_getElem? (i := 28) rfl)) rfl)
theorem OTH : Cond.methodLink "SequentDesk$Theorem" 1 objectInit ∈ sd_tbl := (sd_memT (sd_in1 (List.mem_of_getElem? (i := 156) rfl)) rfl)
theorem OMO : Cond.methodLink "SequentDeskModel" 1 objectInit ∈ sd_tbl := (sd_memT (sd_in4 (List.mem_of_getElem? (i := 78) rfl)) rfl)
theorem CDK_7 : Cond.classLink "SequentDesk" 7 "SequentDesk$Terms" ∈ sd_tbl ∧ Cond.instantiable "SequentDesk$Terms" 4 ∈ sd_tbl ∧ Cond.initialized "SequentDesk$Terms" ∈ sd_tbl := ⟨(sd_memT (sd_in1 (List.mem_of_getElem? (i := 23) rfl)) rfl), (sd_memT (sd_in1 (List.mem_of_getElem? (i := 24) rfl)) rfl), (sd_memT (sd_in1 (List.mem_of_getElem? (i := 2) rfl)) rfl)⟩
theorem CDK_16 : Cond.classLink "SequentDesk" 16 "SequentDesk$Draft" ∈ sd_tbl ∧ Cond.instantiable "SequentDesk$Draft" 3 ∈ sd_tbl ∧ Cond.initialized "SequentDesk$Draft" ∈ sd_tbl := ⟨(sd_memT (sd_in1 (List.mem_of_getElem? (i := 91) rfl)) rfl), (sd_memT (sd_in1 (List.mem_of_getElem? (i := 92) rfl)) rfl), (sd_memT (sd_in1 (List.mem_of_getElem? (i := 4) rfl)) rfl)⟩
theorem CDK_23 : Cond.classLink "SequentDesk" 23 "SequentDesk$Inference" ∈ sd_tbl ∧ Cond.instantiable "SequentDesk$Inference" 9 ∈ sd_tbl ∧ Cond.initialized "SequentDesk$Inference" ∈ sd_tbl := ⟨(sd_memT (sd_in1 (List.mem_of_getElem? (i := 110) rfl)) rfl), (sd_memT (sd_in1 (List.mem_of_getElem? (i := 111) rfl)) rfl), (sd_memT (sd_in1 (List.mem_of_getElem? (i := 5) rfl)) rfl)⟩
theorem CDK_30 : Cond.classLink "SequentDesk" 30 "SequentDesk$Rules" ∈ sd_tbl ∧ Cond.instantiable "SequentDesk$Rules" 3 ∈ sd_tbl ∧ Cond.initialized "SequentDesk$Rules" ∈ sd_tbl := ⟨(sd_memT (sd_in1 (List.mem_of_getElem? (i := 144) rfl)) rfl), (sd_memT (sd_in1 (List.mem_of_getElem? (i := 145) rfl)) rfl), (sd_memT (sd_in1 (List.mem_of_getElem? (i := 6) rfl)) rfl)⟩
theorem CDK_39 : Cond.classLink "SequentDesk" 39 "SequentDesk$Goals" ∈ sd_tbl ∧ Cond.instantiable "SequentDesk$Goals" 8 ∈ sd_tbl ∧ Cond.initialized "SequentDesk$Goals" ∈ sd_tbl := ⟨(sd_memT (sd_in1 (List.mem_of_getElem? (i := 224) rfl)) rfl), (sd_memT (sd_in1 (List.mem_of_getElem? (i := 225) rfl)) rfl), (sd_memT (sd_in1 (List.mem_of_getElem? (i := 9) rfl)) rfl)⟩
theorem CGL_7 : Cond.classLink "SequentDesk$Goal" 7 "SequentDesk$Statement" ∈ sd_tbl ∧ Cond.instantiable "SequentDesk$Statement" 4 ∈ sd_tbl ∧ Cond.initialized "SequentDesk$Statement" ∈ sd_tbl := ⟨(sd_memT (sd_in1 (List.mem_of_getElem? (i := 237) rfl)) rfl), (sd_memT (sd_in1 (List.mem_of_getElem? (i := 158) rfl)) rfl), (sd_memT (sd_in1 (List.mem_of_getElem? (i := 8) rfl)) rfl)⟩
theorem CGS_9 : Cond.classLink "SequentDesk$Goals" 9 "SequentDesk$Goal" ∈ sd_tbl ∧ Cond.instantiable "SequentDesk$Goal" 4 ∈ sd_tbl ∧ Cond.initialized "SequentDesk$Goal" ∈ sd_tbl := ⟨(sd_memT (sd_in1 (List.mem_of_getElem? (i := 230) rfl)) rfl), (sd_memT (sd_in1 (List.mem_of_getElem? (i := 232) rfl)) rfl), (sd_memT (sd_in1 (List.mem_of_getElem? (i := 10) rfl)) rfl)⟩
theorem CRU_9 : Cond.classLink "SequentDesk$Rules" 9 "SequentDesk$Theorem" ∈ sd_tbl ∧ Cond.instantiable "SequentDesk$Theorem" 5 ∈ sd_tbl ∧ Cond.initialized "SequentDesk$Theorem" ∈ sd_tbl := ⟨(sd_memT (sd_in1 (List.mem_of_getElem? (i := 150) rfl)) rfl), (sd_memT (sd_in1 (List.mem_of_getElem? (i := 152) rfl)) rfl), (sd_memT (sd_in1 (List.mem_of_getElem? (i := 7) rfl)) rfl)⟩
theorem CTS_15 : Cond.classLink "SequentDesk$Terms" 15 "SequentDesk$Term" ∈ sd_tbl ∧ Cond.instantiable "SequentDesk$Term" 5 ∈ sd_tbl ∧ Cond.initialized "SequentDesk$Term" ∈ sd_tbl := ⟨(sd_memT (sd_in1 (List.mem_of_getElem? (i := 29) rfl)) rfl), (sd_memT (sd_in1 (List.mem_of_getElem? (i := 31) rfl)) rfl), (sd_memT (sd_in1 (List.mem_of_getElem? (i := 3) rfl)) rfl)⟩
theorem CTH_7 : Cond.classLink "SequentDesk$Theorem" 7 "SequentDesk$Statement" ∈ sd_tbl ∧ Cond.instantiable "SequentDesk$Statement" 4 ∈ sd_tbl ∧ Cond.initialized "SequentDesk$Statement" ∈ sd_tbl := ⟨(sd_memT (sd_in1 (List.mem_of_getElem? (i := 157) rfl)) rfl), (sd_memT (sd_in1 (List.mem_of_getElem? (i := 158) rfl)) rfl), (sd_memT (sd_in1 (List.mem_of_getElem? (i := 8) rfl)) rfl)⟩
theorem CLA_7 : Cond.classLink "SequentDeskLaw" 7 "SequentDesk" ∈ sd_tbl ∧ Cond.instantiable "SequentDesk" 5 ∈ sd_tbl ∧ Cond.initialized "SequentDesk" ∈ sd_tbl := ⟨(sd_memT (sd_in1 (List.mem_of_getElem? (i := 15) rfl)) rfl), (sd_memT (sd_in1 (List.mem_of_getElem? (i := 16) rfl)) rfl), (sd_memT (sd_in1 (List.mem_of_getElem? (i := 1) rfl)) rfl)⟩
theorem CLA_10 : Cond.classLink "SequentDeskLaw" 10 "SequentDeskModel" ∈ sd_tbl ∧ Cond.instantiable "SequentDeskModel" 38 ∈ sd_tbl ∧ Cond.initialized "SequentDeskModel" ∈ sd_tbl := ⟨(sd_memT (sd_in4 (List.mem_of_getElem? (i := 73) rfl)) rfl), (sd_memT (sd_in4 (List.mem_of_getElem? (i := 74) rfl)) rfl), (sd_memT (sd_in1 (List.mem_of_getElem? (i := 11) rfl)) rfl)⟩
def fr_DK : List Value := [.null, .null, .null, .null, .null]
theorem fr_DK_ok : ∀ j, j < 5 → defaultValue (sd_ty 0 j) = vp_V fr_DK j
  | 0, _ => rfl
  | 1, _ => rfl
  | 2, _ => rfl
  | 3, _ => rfl
  | 4, _ => rfl
  | j + 5, h => absurd h (by omega)
def fr_DR : List Value := [.null, .null, .int 0]
theorem fr_DR_ok : ∀ j, j < 3 → defaultValue (sd_ty 1 j) = vp_V fr_DR j
  | 0, _ => rfl
  | 1, _ => rfl
  | 2, _ => rfl
  | j + 3, h => absurd h (by omega)
def fr_GL : List Value := [.null, .int 0, .int 0, .int 0]
theorem fr_GL_ok : ∀ j, j < 4 → defaultValue (sd_ty 2 j) = vp_V fr_GL j
  | 0, _ => rfl
  | 1, _ => rfl
  | 2, _ => rfl
  | 3, _ => rfl
  | j + 4, h => absurd h (by omega)
def fr_GS : List Value := [.null, .null, .null, .int 0, .null, .int 0, .null, .int 0]
theorem fr_GS_ok : ∀ j, j < 8 → defaultValue (sd_ty 3 j) = vp_V fr_GS j
  | 0, _ => rfl
  | 1, _ => rfl
  | 2, _ => rfl
  | 3, _ => rfl
  | 4, _ => rfl
  | 5, _ => rfl
  | 6, _ => rfl
  | 7, _ => rfl
  | j + 8, h => absurd h (by omega)
def fr_IN : List Value := [.null, .null, .null, .null, .null, .null, .null, .int 0, .int 0]
theorem fr_IN_ok : ∀ j, j < 9 → defaultValue (sd_ty 4 j) = vp_V fr_IN j
  | 0, _ => rfl
  | 1, _ => rfl
  | 2, _ => rfl
  | 3, _ => rfl
  | 4, _ => rfl
  | 5, _ => rfl
  | 6, _ => rfl
  | 7, _ => rfl
  | 8, _ => rfl
  | j + 9, h => absurd h (by omega)
def fr_RU : List Value := [.null, .null, .int 0]
theorem fr_RU_ok : ∀ j, j < 3 → defaultValue (sd_ty 5 j) = vp_V fr_RU j
  | 0, _ => rfl
  | 1, _ => rfl
  | 2, _ => rfl
  | j + 3, h => absurd h (by omega)
def fr_ST : List Value := [.null, .int 0, .int 0, .int 0]
theorem fr_ST_ok : ∀ j, j < 4 → defaultValue (sd_ty 6 j) = vp_V fr_ST j
  | 0, _ => rfl
  | 1, _ => rfl
  | 2, _ => rfl
  | 3, _ => rfl
  | j + 4, h => absurd h (by omega)
def fr_TM : List Value := [.null, .null, .null, .int 0, .int 0]
theorem fr_TM_ok : ∀ j, j < 5 → defaultValue (sd_ty 7 j) = vp_V fr_TM j
  | 0, _ => rfl
  | 1, _ => rfl
  | 2, _ => rfl
  | 3, _ => rfl
  | 4, _ => rfl
  | j + 5, h => absurd h (by omega)
def fr_TS : List Value := [.null, .null, .int 0, .null]
theorem fr_TS_ok : ∀ j, j < 4 → defaultValue (sd_ty 8 j) = vp_V fr_TS j
  | 0, _ => rfl
  | 1, _ => rfl
  | 2, _ => rfl
  | 3, _ => rfl
  | j + 4, h => absurd h (by omega)
def fr_TH : List Value := [.null, .int 0, .int 0, .int 0, .long 0]
theorem fr_TH_ok : ∀ j, j < 5 → defaultValue (sd_ty 9 j) = vp_V fr_TH j
  | 0, _ => rfl
  | 1, _ => rfl
  | 2, _ => rfl
  | 3, _ => rfl
  | 4, _ => rfl
  | j + 5, h => absurd h (by omega)
def fr_MO : List Value := [.null, .null, .null, .null, .null, .int 0, .int 0, .int 0, .null, .null, .null, .null, .null, .null, .int 0, .null, .int 0, .null, .null, .null, .null, .null, .null, .null, .null, .null, .null, .int 0, .int 0, .int 0, .null, .null, .null, .null, .null, .null, .null, .int 0]
theorem fr_MO_ok : ∀ j, j < 38 → defaultValue (sd_ty 10 j) = vp_V fr_MO j
  | 0, _ => rfl
  | 1, _ => rfl
  | 2, _ => rfl
  | 3, _ => rfl
  | 4, _ => rfl
  | 5, _ => rfl
  | 6, _ => rfl
  | 7, _ => rfl
  | 8, _ => rfl
  | 9, _ => rfl
  | 10, _ => rfl
  | 11, _ => rfl
  | 12, _ => rfl
  | 13, _ => rfl
  | 14, _ => rfl
  | 15, _ => rfl
  | 16, _ => rfl
  | 17, _ => rfl
  | 18, _ => rfl
  | 19, _ => rfl
  | 20, _ => rfl
  | 21, _ => rfl
  | 22, _ => rfl
  | 23, _ => rfl
  | 24, _ => rfl
  | 25, _ => rfl
  | 26, _ => rfl
  | 27, _ => rfl
  | 28, _ => rfl
  | 29, _ => rfl
  | 30, _ => rfl
  | 31, _ => rfl
  | 32, _ => rfl
  | 33, _ => rfl
  | 34, _ => rfl
  | 35, _ => rfl
  | 36, _ => rfl
  | 37, _ => rfl
  | j + 38, h => absurd h (by omega)
