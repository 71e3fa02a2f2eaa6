/-! ===== constructors of many ===== -/
/-- an array of which i are there -/
def bi_P (A : Nat → ClassId) (o tg N : Nat) (g : Nat → Nat) (i : Nat) : va_E := .inl (A tg, N, .inr (.inr (.inr (.inr (fun q => if q < i then some (o + g q) else none)))))
theorem bi_P0 {A : Nat → ClassId} {o tg N : Nat} {g : Nat → Nat} : bi_P A o tg N g 0 = .inl (A tg, N, .inr (.inr (.inr (.inr (fun _ => none))))) := by
  unfold bi_P
  simp
theorem bi_PN {A : Nat → ClassId} {o tg N : Nat} {g : Nat → Nat} {D : fx_D} {x : Nat} : fx_cell A o D x (.inr (.inr (tg, N, g))) = bi_P A o tg N g N := rfl
theorem bi_P1 {A : Nat → ClassId} {o tg N : Nat} {g : Nat → Nat} {i : Nat} (hi : i < 2 ^ 31) : (.inl (A tg, N, .inr (.inr (.inr (.inr (va_up (fun q => if q < i then some (o + g q) else none) (nI i).toNatClampNeg (some (o + g i))))))) : va_E) = bi_P A o tg N g (i + 1) := by
  rw [nI_clamp hi]
  unfold bi_P va_up
  congr 7
  funext q
  by_cases e : q = i
  · subst e
    simp
  · by_cases e2 : q < i
    · rw [if_neg e]
      dsimp only
      rw [if_pos e2, if_pos (by omega)]
    · rw [if_neg e]
      dsimp only
      rw [if_neg e2, if_neg (by omega)]
def F5_ (i : Nat) : Nat → Int32 := fun j => if j < i then 5 else 0
theorem F5_0 : F5_ 0 = fun _ => 0 := by
  unfold F5_
  simp
theorem F5_1 {i : Nat} (hi : i < 2 ^ 31) : upd (F5_ i) (nI i).toNatClampNeg 5 = F5_ (i + 1) := by
  rw [nI_clamp hi]
  funext q
  unfold F5_ upd
  by_cases e : q = i
  · subst e
    simp
  · by_cases e2 : q < i
    · rw [if_neg e]
      dsimp only
      rw [if_pos e2, if_pos (by omega)]
    · rw [if_neg e]
      dsimp only
      rw [if_neg e2, if_neg (by omega)]
theorem dTS_init_0 : decode prog_9_method_1_code 0 = .ok (.aload_n 0, 1) := by decide +kernel
theorem dTS_init_1 : decode prog_9_method_1_code 1 = .ok (.invokespecial 3, 3) := by decide +kernel
theorem dTS_init_4 : decode prog_9_method_1_code 4 = .ok (.aload_n 0, 1) := by decide +kernel
theorem dTS_init_5 : decode prog_9_method_1_code 5 = .ok (.bipush (8), 2) := by decide +kernel
theorem dTS_init_7 : decode prog_9_method_1_code 7 = .ok (.newarray .int, 2) := by decide +kernel
theorem dTS_init_9 : decode prog_9_method_1_code 9 = .ok (.putfield 9, 3) := by decide +kernel
theorem dTS_init_12 : decode prog_9_method_1_code 12 = .ok (.aload_n 0, 1) := by decide +kernel
theorem dTS_init_13 : decode prog_9_method_1_code 13 = .ok (.bipush (72), 2) := by decide +kernel
theorem dTS_init_15 : decode prog_9_method_1_code 15 = .ok (.anewarray 15, 3) := by decide +kernel
theorem dTS_init_18 : decode prog_9_method_1_code 18 = .ok (.putfield 17, 3) := by decide +kernel
theorem dTS_init_21 : decode prog_9_method_1_code 21 = .ok (.aload_n 0, 1) := by decide +kernel
theorem dTS_init_22 : decode prog_9_method_1_code 22 = .ok (.new 15, 3) := by decide +kernel
theorem dTS_init_25 : decode prog_9_method_1_code 25 = .ok (.dup, 1) := by decide +kernel
theorem dTS_init_26 : decode prog_9_method_1_code 26 = .ok (.invokespecial 21, 3) := by decide +kernel
theorem dTS_init_29 : decode prog_9_method_1_code 29 = .ok (.putfield 22, 3) := by decide +kernel
theorem dTS_init_32 : decode prog_9_method_1_code 32 = .ok (.iconst 0, 1) := by decide +kernel
theorem dTS_init_33 : decode prog_9_method_1_code 33 = .ok (.istore_n 1, 1) := by decide +kernel
theorem dTS_init_34 : decode prog_9_method_1_code 34 = .ok (.iload_n 1, 1) := by decide +kernel
theorem dTS_init_35 : decode prog_9_method_1_code 35 = .ok (.bipush (8), 2) := by decide +kernel
theorem dTS_init_37 : decode prog_9_method_1_code 37 = .ok (.if_icmp .ge (16), 3) := by decide +kernel
theorem dTS_init_40 : decode prog_9_method_1_code 40 = .ok (.aload_n 0, 1) := by decide +kernel
theorem dTS_init_41 : decode prog_9_method_1_code 41 = .ok (.getfield 9, 3) := by decide +kernel
theorem dTS_init_44 : decode prog_9_method_1_code 44 = .ok (.iload_n 1, 1) := by decide +kernel
theorem dTS_init_45 : decode prog_9_method_1_code 45 = .ok (.iconst 5, 1) := by decide +kernel
theorem dTS_init_46 : decode prog_9_method_1_code 46 = .ok (.iastore, 1) := by decide +kernel
theorem dTS_init_47 : decode prog_9_method_1_code 47 = .ok (.iinc 1 (1), 3) := by decide +kernel
theorem dTS_init_50 : decode prog_9_method_1_code 50 = .ok (.goto (-16), 3) := by decide +kernel
theorem dTS_init_53 : decode prog_9_method_1_code 53 = .ok (.iconst 0, 1) := by decide +kernel
theorem dTS_init_54 : decode prog_9_method_1_code 54 = .ok (.istore_n 1, 1) := by decide +kernel
theorem dTS_init_55 : decode prog_9_method_1_code 55 = .ok (.iload_n 1, 1) := by decide +kernel
theorem dTS_init_56 : decode prog_9_method_1_code 56 = .ok (.aload_n 0, 1) := by decide +kernel
theorem dTS_init_57 : decode prog_9_method_1_code 57 = .ok (.getfield 17, 3) := by decide +kernel
theorem dTS_init_60 : decode prog_9_method_1_code 60 = .ok (.arraylength, 1) := by decide +kernel
theorem dTS_init_61 : decode prog_9_method_1_code 61 = .ok (.if_icmp .ge (22), 3) := by decide +kernel
theorem dTS_init_64 : decode prog_9_method_1_code 64 = .ok (.aload_n 0, 1) := by decide +kernel
theorem dTS_init_65 : decode prog_9_method_1_code 65 = .ok (.getfield 17, 3) := by decide +kernel
theorem dTS_init_68 : decode prog_9_method_1_code 68 = .ok (.iload_n 1, 1) := by decide +kernel
theorem dTS_init_69 : decode prog_9_method_1_code 69 = .ok (.new 15, 3) := by decide +kernel
theorem dTS_init_72 : decode prog_9_method_1_code 72 = .ok (.dup, 1) := by decide +kernel
theorem dTS_init_73 : decode prog_9_method_1_code 73 = .ok (.invokespecial 21, 3) := by decide +kernel
theorem dTS_init_76 : decode prog_9_method_1_code 76 = .ok (.aastore, 1) := by decide +kernel
theorem dTS_init_77 : decode prog_9_method_1_code 77 = .ok (.iinc 1 (1), 3) := by decide +kernel
theorem dTS_init_80 : decode prog_9_method_1_code 80 = .ok (.goto (-25), 3) := by decide +kernel
theorem dTS_init_83 : decode prog_9_method_1_code 83 = .ok (.return_, 1) := by decide +kernel
theorem lp_TS {G : sd_G} {o : Nat} {F : Nat → Int32} {h : sd_H} {Q : sd_Q} (hB : G.2.1 ≤ o) (kk : sd_W G mTS_init 2 294 5701 Q 83 [(1, .int (nI 72)), (0, .ref (o + 1))] [] (sd_up (sd_up (pf G.1.2 dk_S o (zD 2 F) h (1 + 1) (4 + 4 * (72 + 1))) (o + 1) (.inr (8, [.ref (o + 2), .ref (o + 3), .int 0, .ref (o + tmo 0)]))) (o + 3) (bi_P G.1.2 o 1 72 (fun q => 4 + 4 * (q + 1)) (72))) (o + (4 + 4 * (72 + 1))) 294 5701) : ∀ (m i : Nat), m + i = 72 → sd_W G mTS_init 2 294 5701 Q 55 [(1, .int (nI i)), (0, .ref (o + 1))] [] (sd_up (sd_up (pf G.1.2 dk_S o (zD 2 F) h (1 + 1) (4 + 4 * (i + 1))) (o + 1) (.inr (8, [.ref (o + 2), .ref (o + 3), .int 0, .ref (o + tmo 0)]))) (o + 3) (bi_P G.1.2 o 1 72 (fun q => 4 + 4 * (q + 1)) (i))) (o + (4 + 4 * (i + 1))) (6 + i * 4) (157 + i * 77)
  | 0, i, e => by
    have e : i = 72 := by omega
    subst e
    refine sd_iload_n dTS_init_55 rfl rfl ?_
    refine sd_aload_n dTS_init_56 rfl rfl ?_
    refine sd_getf 8 1 dTS_init_57 fTS_17 (by rw [sd_up_n (by omega), sd_up_s]) rfl ?_
    refine sd_alen (t := 1) (.object "SequentDesk$Term") dTS_init_60 (by rw [sd_up_s]; rfl) rfl ?_
    refine nn_icmp_ge (a := 72) (b := 72) 83 dTS_init_61 rfl (by decide) (by decide) (fun _ => kk) (fun w => absurd w (by omega))
  | m + 1, i, e => by
    have hi : i < 72 := by omega
    have hx : 3 < 4 + 4 * (i + 1) := by omega
    refine sd_iload_n dTS_init_55 rfl rfl ?_
    refine sd_aload_n dTS_init_56 rfl rfl ?_
    refine sd_getf 8 1 dTS_init_57 fTS_17 (by rw [sd_up_n (by omega), sd_up_s]) rfl ?_
    refine sd_alen (t := 1) (.object "SequentDesk$Term") dTS_init_60 (by rw [sd_up_s]; rfl) rfl ?_
    refine nn_icmp_ge (a := i) (b := 72) 83 dTS_init_61 rfl (by omega) (by decide) (fun w => absurd w (by omega)) (fun _ => ?_)
    refine sd_aload_n dTS_init_64 rfl rfl ?_
    refine sd_getf 8 1 dTS_init_65 fTS_17 (by rw [sd_up_n (by omega), sd_up_s]) rfl ?_
    refine sd_iload_n dTS_init_68 rfl rfl ?_
    refine sd_newo 7 sR_TM dTS_init_69 rfl CTS_15 fr_TM_ok (by omega) (by show 157 + i * 77 + 5 ≤ 5701; omega) ?_
    refine sd_dup dTS_init_72 rfl ?_
    refine sd_callI [] [.ref (o + (4 + 4 * (i + 1))), .int (nI i), .ref (o + 3)] dTS_init_73 kTS_21 ⟨rfl, rfl⟩ mTM_init_i (c_TM_init (F := F) (r := i + 1) hB (by omega) sd_up_s) (by decide) (by omega) (by show 157 + i * 77 + 5 + 72 ≤ 5701; omega) (by simp [Value.category]) rfl ?_
    intro r h' nx' hq
    obtain ⟨rfl, rfl, rfl⟩ := hq
    have ht : tmo (i + 1) = 4 + 4 * (i + 1) := rfl
    refine sd_aast 1 7 sR_TM dTS_init_76 (by rw [pf_out (by omega), sd_up_n (by omega), sd_up_s]; rfl) rfl (by rw [pf_in (by omega) (by omega) (dk_tm (by omega))]; rfl) rfl (nI_in hi (by decide)) (by omega) ?_
    rw [bi_P1 (g := (fun q => 4 + 4 * (q + 1))) (by omega), bi_el (by omega) (by omega) (by omega)]
    refine nn_iinc 1 dTS_init_77 rfl (by decide) ?_
    refine sd_goto 55 dTS_init_80 rfl ?_
    exact sd_eq rfl rfl rfl (by rw [show 4 + 4 * (i + 1) + 1 + 1 + 1 + 1 = 4 + 4 * ((i + 1) + 1) by omega]) (by omega) (by omega) (by show 157 + i * 77 + 5 + 72 = _; omega) (lp_TS hB kk m (i + 1) (by omega))
theorem lp_TN {G : sd_G} {o : Nat} {h : sd_H} {Q : sd_Q} (hB : G.2.1 ≤ o) (kk : sd_W G mTS_init 2 294 5701 Q 53 [(1, .int (nI 8)), (0, .ref (o + 1))] [] (sd_up (sd_up (pf G.1.2 dk_S o (zD 2 (F5_ (8))) h (1 + 1) (4 + 4 * (0 + 1))) (o + 1) (.inr (8, [.ref (o + 2), .ref (o + 3), .int 0, .ref (o + tmo 0)]))) (o + 3) (bi_P G.1.2 o 1 72 (fun q => 4 + 4 * (q + 1)) 0)) (o + (4 + 4 * (0 + 1))) 6 157) : ∀ (m i : Nat), m + i = 8 → sd_W G mTS_init 2 294 5701 Q 34 [(1, .int (nI i)), (0, .ref (o + 1))] [] (sd_up (sd_up (pf G.1.2 dk_S o (zD 2 (F5_ (i))) h (1 + 1) (4 + 4 * (0 + 1))) (o + 1) (.inr (8, [.ref (o + 2), .ref (o + 3), .int 0, .ref (o + tmo 0)]))) (o + 3) (bi_P G.1.2 o 1 72 (fun q => 4 + 4 * (q + 1)) 0)) (o + (4 + 4 * (0 + 1))) 6 157
  | 0, i, e => by
    have e : i = 8 := by omega
    subst e
    refine sd_iload_n dTS_init_34 rfl rfl ?_
    refine sd_bipush (v := nI 8) dTS_init_35 (by decide) ?_
    refine nn_icmp_ge (a := 8) (b := 8) 53 dTS_init_37 rfl (by decide) (by decide) (fun _ => kk) (fun w => absurd w (by omega))
  | m + 1, i, e => by
    have hi : i < 8 := by omega
    refine sd_iload_n dTS_init_34 rfl rfl ?_
    refine sd_bipush (v := nI 8) dTS_init_35 (by decide) ?_
    refine nn_icmp_ge (a := i) (b := 8) 53 dTS_init_37 rfl (by omega) (by decide) (fun w => absurd w (by omega)) (fun _ => ?_)
    refine sd_aload_n dTS_init_40 rfl rfl ?_
    refine sd_getf 8 0 dTS_init_41 fTS_9 (by rw [sd_up_n (by omega), sd_up_s]) rfl ?_
    refine sd_iload_n dTS_init_44 rfl rfl ?_
    refine sd_iconst (v := 5) dTS_init_45 (by decide) ?_
    refine sd_iast (N := 8) (f := F5_ i) dTS_init_46 (by rw [sd_up_n (by omega), sd_up_n (by omega), pf_in (c := .inr (.inl 8)) (by omega) (by omega) rfl]; rfl) (nI_in hi (by decide)) (by omega) ?_
    rw [F5_1 (by omega), sd_upc (by omega), sd_upc (a := o + 1) (b := o + 2) (by omega), bi_ua (by omega) (by omega) rfl]
    refine nn_iinc 1 dTS_init_47 rfl (by decide) ?_
    refine sd_goto 34 dTS_init_50 rfl ?_
    exact lp_TN hB kk m (i + 1) (by omega)
theorem c_TS_init {G : sd_G} {o : Nat} {h : sd_H} (hB : G.2.1 ≤ o) (hc : h (o + 1) = some (.inr (8, fr_TS))) : sd_Ct G mTS_init 2 294 5701 [.ref (o + 1)] h (o + (1 + 1)) (sd_is none (pf G.1.2 dk_S o (zD 2 (F5_ 8)) h 1 296) (o + 296)) := by
  refine sd_Ct_of (by decide) (Nat.le_of_ble_eq_true rfl) ?_
  refine sd_eq rfl rfl rfl (bi_0 (A := G.1.2) (S := dk_S) (D := zD 2 (F5_ 0)) hc) rfl rfl rfl ?_
  refine sd_aload_n dTS_init_0 rfl rfl ?_
  refine sd_oinit dTS_init_1 OTS (by decide) (by decide) ?_
  refine sd_aload_n dTS_init_4 rfl rfl ?_
  refine sd_bipush (v := nI 8) dTS_init_5 (by decide) ?_
  refine bi_arr 2 8 0 dTS_init_7 dTS_init_9 FTS_9 rfl rfl (by omega) rfl (by rw [zD_s]; exact F5_0) (by decide) (Nat.le_of_ble_eq_true rfl) hB (by omega) (by omega) ?_
  refine sd_aload_n dTS_init_12 rfl rfl ?_
  refine sd_bipush (v := nI 72) dTS_init_13 (by decide) ?_
  refine sd_newa 1 72 "SequentDesk$Term" dTS_init_15 rfl (by decide) rfl CTS_15.1 (by decide) (by decide) (by decide) ?_
  rw [← bi_P0 (A := G.1.2) (o := o) (tg := 1) (N := 72) (g := fun q => 4 + 4 * (q + 1))]
  refine sd_putF 8 1 (.array (.object "SequentDesk$Term")) dTS_init_18 FTS_17 rfl rfl rfl rfl (by rw [sd_up_n (by omega), sd_up_s]) (Nat.le_of_ble_eq_true rfl) (by omega) ?_
  refine sd_eq (h' := sd_up (sd_up (pf G.1.2 dk_S o (zD 2 (F5_ 0)) h (1 + 1) (3 + 1)) (o + 1) (.inr (8, [.ref (o + 2), .ref (o + 3), .int 0, .null]))) (o + 3) (bi_P G.1.2 o 1 72 (fun q => 4 + 4 * (q + 1)) 0)) rfl rfl rfl ?_ rfl rfl rfl ?_
  · rw [sd_upc (by omega), sd_up2, ← bi_new (b := 1) (x := 3) (e := bi_P G.1.2 o 1 72 (fun q => 4 + 4 * (q + 1)) 72) (c := .inr (.inr (1, 72, fun t => 4 + 4 * (t + 1)))) (by omega) rfl rfl, sd_up2]
    rfl
  refine sd_aload_n dTS_init_21 rfl rfl ?_
  refine sd_newo 7 sR_TM dTS_init_22 rfl CTS_15 fr_TM_ok (by decide) (by decide) ?_
  refine sd_dup dTS_init_25 rfl ?_
  refine sd_callI [] [.ref (o + tmo 0), .ref (o + 1)] dTS_init_26 kTS_21 ⟨rfl, rfl⟩ mTM_init_i (c_TM_init (F := F5_ 0) (r := 0) hB (by omega) sd_up_s) (by decide) (by decide) (by decide) (by simp [Value.category]) rfl ?_
  intro r h' nx' hq
  obtain ⟨rfl, rfl, rfl⟩ := hq
  refine sd_putF 8 3 (.object "SequentDesk$Term") dTS_init_29 FTS_22 rfl rfl rfl rfl (by rw [pf_out (by unfold tmo; omega), sd_up_n (by omega), sd_up_n (by omega), sd_up_s]) (Nat.le_of_ble_eq_true rfl) (by omega) ?_
  refine sd_eq (h' := (sd_up (sd_up (pf G.1.2 dk_S o (zD 2 (F5_ (0))) h (1 + 1) (4 + 4 * (0 + 1))) (o + 1) (.inr (8, [.ref (o + 2), .ref (o + 3), .int 0, .ref (o + tmo 0)]))) (o + 3) (bi_P G.1.2 o 1 72 (fun q => 4 + 4 * (q + 1)) 0))) rfl rfl rfl ?_ rfl rfl rfl ?_
  · have e := bi_el (A := G.1.2) (S := dk_S) (o := o) (D := zD 2 (F5_ 0)) (h := h) (b := 1) (t := 3) (x := 4) (y := 8) (E := .inr (8, [.ref (o + 2), .ref (o + 3), .int 0, .null])) (F := .inr (7, fr_TM)) (P := bi_P G.1.2 o 1 72 (fun q => 4 + 4 * (q + 1)) 0) (P' := bi_P G.1.2 o 1 72 (fun q => 4 + 4 * (q + 1)) 0) (by omega) (by omega) (by omega)
    have e2 : sd_up (pf G.1.2 dk_S o (zD 2 (F5_ 0)) (sd_up (sd_up (sd_up (pf G.1.2 dk_S o (zD 2 (F5_ 0)) h (1 + 1) 4) (o + 1) (.inr (8, [.ref (o + 2), .ref (o + 3), .int 0, .null]))) (o + 3) (bi_P G.1.2 o 1 72 (fun q => 4 + 4 * (q + 1)) 0)) (o + 4) (.inr (7, fr_TM))) 4 8) (o + 3) (bi_P G.1.2 o 1 72 (fun q => 4 + 4 * (q + 1)) 0) = pf G.1.2 dk_S o (zD 2 (F5_ 0)) (sd_up (sd_up (sd_up (pf G.1.2 dk_S o (zD 2 (F5_ 0)) h (1 + 1) 4) (o + 1) (.inr (8, [.ref (o + 2), .ref (o + 3), .int 0, .null]))) (o + 3) (bi_P G.1.2 o 1 72 (fun q => 4 + 4 * (q + 1)) 0)) (o + 4) (.inr (7, fr_TM))) 4 8 := by
      funext q
      by_cases w : q = o + 3
      · rw [w, sd_up_s, pf_out (by omega), sd_up_n (by omega), sd_up_s]
      · rw [sd_up_n w]
    rw [e2] at e
    show sd_up (pf G.1.2 dk_S o (zD 2 (F5_ 0)) (sd_up (sd_up (sd_up (pf G.1.2 dk_S o (zD 2 (F5_ 0)) h (1 + 1) 4) (o + 1) (.inr (8, [.ref (o + 2), .ref (o + 3), .int 0, .null]))) (o + 3) (bi_P G.1.2 o 1 72 (fun q => 4 + 4 * (q + 1)) 0)) (o + 4) (.inr (7, fr_TM))) 4 8) (o + 1) _ = _
    rw [e, sd_upc (by omega), sd_up2]
    rfl
  refine sd_iconst (v := nI 0) dTS_init_32 (by decide) ?_
  refine sd_istore_n dTS_init_33 rfl (by decide) ?_
  refine lp_TN hB ?_ 8 0 rfl
  refine sd_iconst (v := nI 0) dTS_init_53 (by decide) ?_
  refine sd_istore_n dTS_init_54 rfl (by decide) ?_
  refine lp_TS (F := F5_ 8) (h := h) hB ?_ 72 0 rfl
  refine sd_vret dTS_init_83 rfl (by decide) (by decide) ⟨rfl, ?_, rfl⟩
  rw [sd_upc (by omega), bi_put (t := 3) (E := bi_P G.1.2 o 1 72 (fun q => 4 + 4 * (q + 1)) 72) (c := .inr (.inr (1, 72, fun t => 4 + 4 * (t + 1)))) (by omega) (by omega) rfl rfl]
  exact bi_end (b := 1) (x := 296) (by omega) rfl rfl
section PG
variable {A : Nat → ClassId} {S : fx_S} {o : Nat} {D : fx_D} {h : sd_H}
theorem bi_pp {a b : Nat} {E E' B : va_E} (hn : b ≠ a) : sd_up (sd_up (sd_up h a E) b B) a E' = sd_up (sd_up h a E') b B := by
  rw [sd_upc hn, sd_up2]
theorem bi_na {b x : Nat} {c : fx_C} {E E' B : va_E} (hb : b < x) (hs : S x = some c) : sd_up (sd_up (sd_up (pf A S o D h (b + 1) x) (o + b) E) (o + x) B) (o + b) E' = sd_up (sd_up (pf A S o D h (b + 1) (x + 1)) (o + b) E') (o + x) B := by
  rw [bi_pp (by omega), ← bi_new (b := b) (x := x) hb hs rfl, sd_up2]
theorem bi_new2 {b t x : Nat} {c : fx_C} {e E B : va_E} (hb : b < t) (ht : t < x) (hs : S x = some c) (he : fx_cell A o D x c = e) : sd_up (sd_up (sd_up (pf A S o D h (b + 1) x) (o + b) E) (o + t) B) (o + x) e = sd_up (sd_up (pf A S o D h (b + 1) (x + 1)) (o + b) E) (o + t) B := by
  rw [sd_upc (by omega), bi_new (by omega) hs he]
end PG
theorem dRU_init_0 : decode prog_6_method_1_code 0 = .ok (.aload_n 0, 1) := by decide +kernel
theorem dRU_init_1 : decode prog_6_method_1_code 1 = .ok (.invokespecial 3, 3) := by decide +kernel
theorem dRU_init_4 : decode prog_6_method_1_code 4 = .ok (.aload_n 0, 1) := by decide +kernel
theorem dRU_init_5 : decode prog_6_method_1_code 5 = .ok (.bipush (41), 2) := by decide +kernel
theorem dRU_init_7 : decode prog_6_method_1_code 7 = .ok (.anewarray 9, 3) := by decide +kernel
theorem dRU_init_10 : decode prog_6_method_1_code 10 = .ok (.putfield 11, 3) := by decide +kernel
theorem dRU_init_13 : decode prog_6_method_1_code 13 = .ok (.aload_n 0, 1) := by decide +kernel
theorem dRU_init_14 : decode prog_6_method_1_code 14 = .ok (.aload_n 1, 1) := by decide +kernel
theorem dRU_init_15 : decode prog_6_method_1_code 15 = .ok (.putfield 17, 3) := by decide +kernel
theorem dRU_init_18 : decode prog_6_method_1_code 18 = .ok (.iconst 0, 1) := by decide +kernel
theorem dRU_init_19 : decode prog_6_method_1_code 19 = .ok (.istore_n 2, 1) := by decide +kernel
theorem dRU_init_20 : decode prog_6_method_1_code 20 = .ok (.iload_n 2, 1) := by decide +kernel
theorem dRU_init_21 : decode prog_6_method_1_code 21 = .ok (.aload_n 0, 1) := by decide +kernel
theorem dRU_init_22 : decode prog_6_method_1_code 22 = .ok (.getfield 11, 3) := by decide +kernel
theorem dRU_init_25 : decode prog_6_method_1_code 25 = .ok (.arraylength, 1) := by decide +kernel
theorem dRU_init_26 : decode prog_6_method_1_code 26 = .ok (.if_icmp .ge (22), 3) := by decide +kernel
theorem dRU_init_29 : decode prog_6_method_1_code 29 = .ok (.aload_n 0, 1) := by decide +kernel
theorem dRU_init_30 : decode prog_6_method_1_code 30 = .ok (.getfield 11, 3) := by decide +kernel
theorem dRU_init_33 : decode prog_6_method_1_code 33 = .ok (.iload_n 2, 1) := by decide +kernel
theorem dRU_init_34 : decode prog_6_method_1_code 34 = .ok (.new 9, 3) := by decide +kernel
theorem dRU_init_37 : decode prog_6_method_1_code 37 = .ok (.dup, 1) := by decide +kernel
theorem dRU_init_38 : decode prog_6_method_1_code 38 = .ok (.invokespecial 21, 3) := by decide +kernel
theorem dRU_init_41 : decode prog_6_method_1_code 41 = .ok (.aastore, 1) := by decide +kernel
theorem dRU_init_42 : decode prog_6_method_1_code 42 = .ok (.iinc 2 (1), 3) := by decide +kernel
theorem dRU_init_45 : decode prog_6_method_1_code 45 = .ok (.goto (-25), 3) := by decide +kernel
theorem dRU_init_48 : decode prog_6_method_1_code 48 = .ok (.return_, 1) := by decide +kernel
theorem lp_RU {G : sd_G} {o : Nat} {F : Nat → Int32} {h : sd_H} {Q : sd_Q} (hB : G.2.1 ≤ o) (kk : sd_W G mRU_init 3 124 656 Q 48 [(2, .int (nI 41)), (0, .ref (o + 307)), (1, .ref (o + 1))] [] (sd_up (sd_up (pf G.1.2 dk_S o (zD 2 F) h (307 + 1) (309 + 3 * 41)) (o + 307) (.inr (5, [.ref (o + 1), .ref (o + 308), .int 0]))) (o + 308) (bi_P G.1.2 o 2 41 (fun q => 309 + 3 * q) (41))) (o + (309 + 3 * 41)) 124 656) : ∀ (m i : Nat), m + i = 41 → sd_W G mRU_init 3 124 656 Q 20 [(2, .int (nI i)), (0, .ref (o + 307)), (1, .ref (o + 1))] [] (sd_up (sd_up (pf G.1.2 dk_S o (zD 2 F) h (307 + 1) (309 + 3 * i)) (o + 307) (.inr (5, [.ref (o + 1), .ref (o + 308), .int 0]))) (o + 308) (bi_P G.1.2 o 2 41 (fun q => 309 + 3 * q) (i))) (o + (309 + 3 * i)) (1 + i * 3) (41 + i * 15)
  | 0, i, e => by
    have e : i = 41 := by omega
    subst e
    refine sd_iload_n dRU_init_20 rfl rfl ?_
    refine sd_aload_n dRU_init_21 rfl rfl ?_
    refine sd_getf 5 1 dRU_init_22 fRU_11 (by rw [sd_up_n (by omega), sd_up_s]) rfl ?_
    refine sd_alen (t := 2) (.object "SequentDesk$Theorem") dRU_init_25 (by rw [sd_up_s]; rfl) rfl ?_
    refine nn_icmp_ge (a := 41) (b := 41) 48 dRU_init_26 rfl (by decide) (by decide) (fun _ => kk) (fun w => absurd w (by omega))
  | m + 1, i, e => by
    have hi : i < 41 := by omega
    have hx : 308 < 309 + 3 * i := by omega
    refine sd_iload_n dRU_init_20 rfl rfl ?_
    refine sd_aload_n dRU_init_21 rfl rfl ?_
    refine sd_getf 5 1 dRU_init_22 fRU_11 (by rw [sd_up_n (by omega), sd_up_s]) rfl ?_
    refine sd_alen (t := 2) (.object "SequentDesk$Theorem") dRU_init_25 (by rw [sd_up_s]; rfl) rfl ?_
    refine nn_icmp_ge (a := i) (b := 41) 48 dRU_init_26 rfl (by omega) (by decide) (fun w => absurd w (by omega)) (fun _ => ?_)
    refine sd_aload_n dRU_init_29 rfl rfl ?_
    refine sd_getf 5 1 dRU_init_30 fRU_11 (by rw [sd_up_n (by omega), sd_up_s]) rfl ?_
    refine sd_iload_n dRU_init_33 rfl rfl ?_
    refine sd_newo 9 sR_TH dRU_init_34 rfl CRU_9 fr_TH_ok (by omega) (by show 41 + i * 15 + 5 ≤ 656; omega) ?_
    refine sd_dup dRU_init_37 rfl ?_
    refine sd_callI [] [.ref (o + (309 + 3 * i)), .int (nI i), .ref (o + 308)] dRU_init_38 kRU_21 ⟨rfl, rfl⟩ mTH_init_i (c_TH_init (F := F) (p := i) hB hi sd_up_s) (by decide) (by omega) (by show 41 + i * 15 + 5 + 10 ≤ 656; omega) (by simp [Value.category]) rfl ?_
    intro r h' nx' hq
    obtain ⟨rfl, rfl, rfl⟩ := hq
    refine sd_aast 2 9 sR_TH dRU_init_41 (by rw [pf_out (by omega), sd_up_n (by omega), sd_up_s]; rfl) rfl (by rw [pf_in (by omega) (by omega) (dk_th hi)]; rfl) rfl (nI_in hi (by decide)) (by omega) ?_
    rw [bi_P1 (g := (fun q => 309 + 3 * q)) (by omega), bi_el (by omega) (by omega) (by omega)]
    refine nn_iinc 1 dRU_init_42 rfl (by decide) ?_
    refine sd_goto 20 dRU_init_45 rfl ?_
    exact sd_eq rfl rfl rfl (by rw [show 309 + 3 * i + 1 + 1 + 1 = 309 + 3 * (i + 1) by omega]) (by omega) (by omega) (by show 41 + i * 15 + 5 + 10 = _; omega) (lp_RU hB kk m (i + 1) (by omega))
theorem c_RU_init {G : sd_G} {o : Nat} {F : Nat → Int32} {h : sd_H} (hB : G.2.1 ≤ o) (hc : h (o + 307) = some (.inr (5, fr_RU))) : sd_Ct G mRU_init 3 124 656 [.ref (o + 307), .ref (o + 1)] h (o + (307 + 1)) (sd_is none (pf G.1.2 dk_S o (zD 2 F) h 307 432) (o + 432)) := by
  refine sd_Ct_of (by decide) (Nat.le_of_ble_eq_true rfl) ?_
  refine sd_eq rfl rfl rfl (bi_0 (A := G.1.2) (S := dk_S) (D := zD 2 F) hc) rfl rfl rfl ?_
  refine sd_aload_n dRU_init_0 rfl rfl ?_
  refine sd_oinit dRU_init_1 ORU (by decide) (by decide) ?_
  refine sd_aload_n dRU_init_4 rfl rfl ?_
  refine sd_bipush (v := nI 41) dRU_init_5 (by decide) ?_
  refine sd_newa 2 41 "SequentDesk$Theorem" dRU_init_7 rfl (by decide) rfl CRU_9.1 (by decide) (by decide) (by decide) ?_
  rw [← bi_P0 (A := G.1.2) (o := o) (tg := 2) (N := 41) (g := fun q => 309 + 3 * q)]
  refine sd_putF 5 1 (.array (.object "SequentDesk$Theorem")) dRU_init_10 FRU_11 rfl rfl rfl rfl (by rw [sd_up_n (by omega), sd_up_s]) (Nat.le_of_ble_eq_true rfl) (by omega) ?_
  refine sd_eq rfl rfl rfl (bi_na (b := 307) (x := 308) (by omega) rfl) rfl rfl rfl ?_
  refine sd_aload_n dRU_init_13 rfl rfl ?_
  refine sd_aload_n dRU_init_14 rfl rfl ?_
  refine sd_putF 5 0 (.object "SequentDesk$Terms") dRU_init_15 FRU_17 rfl rfl rfl rfl (by rw [sd_up_n (by omega), sd_up_s]) (Nat.le_of_ble_eq_true rfl) (by omega) ?_
  refine sd_eq rfl rfl rfl (bi_pp (by omega)) rfl rfl rfl ?_
  refine sd_iconst (v := nI 0) dRU_init_18 (by decide) ?_
  refine sd_istore_n dRU_init_19 rfl (by decide) ?_
  refine lp_RU (F := F) (h := h) hB ?_ 41 0 rfl
  refine sd_vret dRU_init_48 rfl (by decide) (by decide) ⟨rfl, ?_, rfl⟩
  rw [sd_upc (by omega), bi_put (t := 308) (E := bi_P G.1.2 o 2 41 (fun q => 309 + 3 * q) 41) (c := .inr (.inr (2, 41, fun p => 309 + 3 * p))) (by omega) (by omega) rfl rfl]
  exact bi_end (b := 307) (x := 432) (by omega) rfl rfl
theorem dGS_init_0 : decode prog_4_method_1_code 0 = .ok (.aload_n 0, 1) := by decide +kernel
theorem dGS_init_1 : decode prog_4_method_1_code 1 = .ok (.invokespecial 3, 3) := by decide +kernel
theorem dGS_init_4 : decode prog_4_method_1_code 4 = .ok (.aload_n 0, 1) := by decide +kernel
theorem dGS_init_5 : decode prog_4_method_1_code 5 = .ok (.bipush (32), 2) := by decide +kernel
theorem dGS_init_7 : decode prog_4_method_1_code 7 = .ok (.anewarray 9, 3) := by decide +kernel
theorem dGS_init_10 : decode prog_4_method_1_code 10 = .ok (.putfield 11, 3) := by decide +kernel
theorem dGS_init_13 : decode prog_4_method_1_code 13 = .ok (.aload_n 0, 1) := by decide +kernel
theorem dGS_init_14 : decode prog_4_method_1_code 14 = .ok (.bipush (30), 2) := by decide +kernel
theorem dGS_init_16 : decode prog_4_method_1_code 16 = .ok (.newarray .int, 2) := by decide +kernel
theorem dGS_init_18 : decode prog_4_method_1_code 18 = .ok (.putfield 17, 3) := by decide +kernel
theorem dGS_init_21 : decode prog_4_method_1_code 21 = .ok (.aload_n 0, 1) := by decide +kernel
theorem dGS_init_22 : decode prog_4_method_1_code 22 = .ok (.bipush (30), 2) := by decide +kernel
theorem dGS_init_24 : decode prog_4_method_1_code 24 = .ok (.newarray .int, 2) := by decide +kernel
theorem dGS_init_26 : decode prog_4_method_1_code 26 = .ok (.putfield 21, 3) := by decide +kernel
theorem dGS_init_29 : decode prog_4_method_1_code 29 = .ok (.aload_n 0, 1) := by decide +kernel
theorem dGS_init_30 : decode prog_4_method_1_code 30 = .ok (.aload_n 1, 1) := by decide +kernel
theorem dGS_init_31 : decode prog_4_method_1_code 31 = .ok (.putfield 24, 3) := by decide +kernel
theorem dGS_init_34 : decode prog_4_method_1_code 34 = .ok (.aload_n 0, 1) := by decide +kernel
theorem dGS_init_35 : decode prog_4_method_1_code 35 = .ok (.aload_n 2, 1) := by decide +kernel
theorem dGS_init_36 : decode prog_4_method_1_code 36 = .ok (.putfield 28, 3) := by decide +kernel
theorem dGS_init_39 : decode prog_4_method_1_code 39 = .ok (.iconst 0, 1) := by decide +kernel
theorem dGS_init_40 : decode prog_4_method_1_code 40 = .ok (.istore_n 3, 1) := by decide +kernel
theorem dGS_init_41 : decode prog_4_method_1_code 41 = .ok (.iload_n 3, 1) := by decide +kernel
theorem dGS_init_42 : decode prog_4_method_1_code 42 = .ok (.aload_n 0, 1) := by decide +kernel
theorem dGS_init_43 : decode prog_4_method_1_code 43 = .ok (.getfield 11, 3) := by decide +kernel
theorem dGS_init_46 : decode prog_4_method_1_code 46 = .ok (.arraylength, 1) := by decide +kernel
theorem dGS_init_47 : decode prog_4_method_1_code 47 = .ok (.if_icmp .ge (22), 3) := by decide +kernel
theorem dGS_init_50 : decode prog_4_method_1_code 50 = .ok (.aload_n 0, 1) := by decide +kernel
theorem dGS_init_51 : decode prog_4_method_1_code 51 = .ok (.getfield 11, 3) := by decide +kernel
theorem dGS_init_54 : decode prog_4_method_1_code 54 = .ok (.iload_n 3, 1) := by decide +kernel
theorem dGS_init_55 : decode prog_4_method_1_code 55 = .ok (.new 9, 3) := by decide +kernel
theorem dGS_init_58 : decode prog_4_method_1_code 58 = .ok (.dup, 1) := by decide +kernel
theorem dGS_init_59 : decode prog_4_method_1_code 59 = .ok (.invokespecial 32, 3) := by decide +kernel
theorem dGS_init_62 : decode prog_4_method_1_code 62 = .ok (.aastore, 1) := by decide +kernel
theorem dGS_init_63 : decode prog_4_method_1_code 63 = .ok (.iinc 3 (1), 3) := by decide +kernel
theorem dGS_init_66 : decode prog_4_method_1_code 66 = .ok (.goto (-25), 3) := by decide +kernel
theorem dGS_init_69 : decode prog_4_method_1_code 69 = .ok (.return_, 1) := by decide +kernel
theorem lp_GS {G : sd_G} {o : Nat} {F : Nat → Int32} {h : sd_H} {Q : sd_Q} (hB : G.2.1 ≤ o) (kk : sd_W G mGS_init 3 99 540 Q 69 [(3, .int (nI 32)), (0, .ref (o + 432)), (1, .ref (o + 1)), (2, .ref (o + 307))] [] (sd_up (sd_up (pf G.1.2 dk_S o (zD 2 F) h (432 + 1) (436 + 3 * 32)) (o + 432) (.inr (3, [.ref (o + 1), .ref (o + 307), .ref (o + 433), .int 0, .ref (o + 434), .int 0, .ref (o + 435), .int 0]))) (o + 433) (bi_P G.1.2 o 3 32 (fun q => 436 + 3 * q) (32))) (o + (436 + 3 * 32)) 99 540) : ∀ (m i : Nat), m + i = 32 → sd_W G mGS_init 3 99 540 Q 41 [(3, .int (nI i)), (0, .ref (o + 432)), (1, .ref (o + 1)), (2, .ref (o + 307))] [] (sd_up (sd_up (pf G.1.2 dk_S o (zD 2 F) h (432 + 1) (436 + 3 * i)) (o + 432) (.inr (3, [.ref (o + 1), .ref (o + 307), .ref (o + 433), .int 0, .ref (o + 434), .int 0, .ref (o + 435), .int 0]))) (o + 433) (bi_P G.1.2 o 3 32 (fun q => 436 + 3 * q) (i))) (o + (436 + 3 * i)) (3 + i * 3) (92 + i * 14)
  | 0, i, e => by
    have e : i = 32 := by omega
    subst e
    refine sd_iload_n dGS_init_41 rfl rfl ?_
    refine sd_aload_n dGS_init_42 rfl rfl ?_
    refine sd_getf 3 2 dGS_init_43 fGS_11 (by rw [sd_up_n (by omega), sd_up_s]) rfl ?_
    refine sd_alen (t := 3) (.object "SequentDesk$Goal") dGS_init_46 (by rw [sd_up_s]; rfl) rfl ?_
    refine nn_icmp_ge (a := 32) (b := 32) 69 dGS_init_47 rfl (by decide) (by decide) (fun _ => kk) (fun w => absurd w (by omega))
  | m + 1, i, e => by
    have hi : i < 32 := by omega
    have hx : 433 < 436 + 3 * i := by omega
    refine sd_iload_n dGS_init_41 rfl rfl ?_
    refine sd_aload_n dGS_init_42 rfl rfl ?_
    refine sd_getf 3 2 dGS_init_43 fGS_11 (by rw [sd_up_n (by omega), sd_up_s]) rfl ?_
    refine sd_alen (t := 3) (.object "SequentDesk$Goal") dGS_init_46 (by rw [sd_up_s]; rfl) rfl ?_
    refine nn_icmp_ge (a := i) (b := 32) 69 dGS_init_47 rfl (by omega) (by decide) (fun w => absurd w (by omega)) (fun _ => ?_)
    refine sd_aload_n dGS_init_50 rfl rfl ?_
    refine sd_getf 3 2 dGS_init_51 fGS_11 (by rw [sd_up_n (by omega), sd_up_s]) rfl ?_
    refine sd_iload_n dGS_init_54 rfl rfl ?_
    refine sd_newo 2 sR_GL dGS_init_55 rfl CGS_9 fr_GL_ok (by omega) (by show 92 + i * 14 + 4 ≤ 540; omega) ?_
    refine sd_dup dGS_init_58 rfl ?_
    refine sd_callI [] [.ref (o + (436 + 3 * i)), .int (nI i), .ref (o + 433)] dGS_init_59 kGS_32 ⟨rfl, rfl⟩ mGL_init_i (c_GL_init (F := F) (g := i) hB hi sd_up_s) (by decide) (by omega) (by show 92 + i * 14 + 4 + 10 ≤ 540; omega) (by simp [Value.category]) rfl ?_
    intro r h' nx' hq
    obtain ⟨rfl, rfl, rfl⟩ := hq
    refine sd_aast 3 2 sR_GL dGS_init_62 (by rw [pf_out (by omega), sd_up_n (by omega), sd_up_s]; rfl) rfl (by rw [pf_in (by omega) (by omega) (dk_gl hi)]; rfl) rfl (nI_in hi (by decide)) (by omega) ?_
    rw [bi_P1 (g := (fun q => 436 + 3 * q)) (by omega), bi_el (by omega) (by omega) (by omega)]
    refine nn_iinc 1 dGS_init_63 rfl (by decide) ?_
    refine sd_goto 41 dGS_init_66 rfl ?_
    exact sd_eq rfl rfl rfl (by rw [show 436 + 3 * i + 1 + 1 + 1 = 436 + 3 * (i + 1) by omega]) (by omega) (by omega) (by show 92 + i * 14 + 4 + 10 = _; omega) (lp_GS hB kk m (i + 1) (by omega))
theorem c_GS_init {G : sd_G} {o : Nat} {F : Nat → Int32} {h : sd_H} (hB : G.2.1 ≤ o) (hc : h (o + 432) = some (.inr (3, fr_GS))) : sd_Ct G mGS_init 3 99 540 [.ref (o + 432), .ref (o + 1), .ref (o + 307)] h (o + (432 + 1)) (sd_is none (pf G.1.2 dk_S o (zD 2 F) h 432 532) (o + 532)) := by
  refine sd_Ct_of (by decide) (Nat.le_of_ble_eq_true rfl) ?_
  refine sd_eq rfl rfl rfl (bi_0 (A := G.1.2) (S := dk_S) (D := zD 2 F) hc) rfl rfl rfl ?_
  refine sd_aload_n dGS_init_0 rfl rfl ?_
  refine sd_oinit dGS_init_1 OGS (by decide) (by decide) ?_
  refine sd_aload_n dGS_init_4 rfl rfl ?_
  refine sd_bipush (v := nI 32) dGS_init_5 (by decide) ?_
  refine sd_newa 3 32 "SequentDesk$Goal" dGS_init_7 rfl (by decide) rfl CGS_9.1 (by decide) (by decide) (by decide) ?_
  rw [← bi_P0 (A := G.1.2) (o := o) (tg := 3) (N := 32) (g := fun q => 436 + 3 * q)]
  refine sd_putF 3 2 (.array (.object "SequentDesk$Goal")) dGS_init_10 FGS_11 rfl rfl rfl rfl (by rw [sd_up_n (by omega), sd_up_s]) (Nat.le_of_ble_eq_true rfl) (by omega) ?_
  refine sd_eq rfl rfl rfl (bi_na (b := 432) (x := 433) (by omega) rfl) rfl rfl rfl ?_
  refine sd_aload_n dGS_init_13 rfl rfl ?_
  refine sd_bipush (v := nI 30) dGS_init_14 (by decide) ?_
  refine sd_newi 30 dGS_init_16 rfl (by decide) (by decide) (by decide) ?_
  refine sd_eq rfl rfl rfl (bi_new2 (b := 432) (t := 433) (x := 434) (by omega) (by omega) (c := .inr (.inl 30)) rfl (by simp only [fx_cell]; rw [zD_n (by omega)])) rfl rfl rfl ?_
  refine sd_putF 3 4 (.array .int) dGS_init_18 FGS_17 rfl rfl rfl rfl (by rw [sd_up_n (by omega), sd_up_s]) (Nat.le_of_ble_eq_true rfl) (by omega) ?_
  refine sd_eq rfl rfl rfl (bi_pp (by omega)) rfl rfl rfl ?_
  refine sd_aload_n dGS_init_21 rfl rfl ?_
  refine sd_bipush (v := nI 30) dGS_init_22 (by decide) ?_
  refine sd_newi 30 dGS_init_24 rfl (by decide) (by decide) (by decide) ?_
  refine sd_eq rfl rfl rfl (bi_new2 (b := 432) (t := 433) (x := 435) (by omega) (by omega) (c := .inr (.inl 30)) rfl (by simp only [fx_cell]; rw [zD_n (by omega)])) rfl rfl rfl ?_
  refine sd_putF 3 6 (.array .int) dGS_init_26 FGS_21 rfl rfl rfl rfl (by rw [sd_up_n (by omega), sd_up_s]) (Nat.le_of_ble_eq_true rfl) (by omega) ?_
  refine sd_eq rfl rfl rfl (bi_pp (by omega)) rfl rfl rfl ?_
  refine sd_aload_n dGS_init_29 rfl rfl ?_
  refine sd_aload_n dGS_init_30 rfl rfl ?_
  refine sd_putF 3 0 (.object "SequentDesk$Terms") dGS_init_31 FGS_24 rfl rfl rfl rfl (by rw [sd_up_n (by omega), sd_up_s]) (Nat.le_of_ble_eq_true rfl) (by omega) ?_
  refine sd_eq rfl rfl rfl (bi_pp (by omega)) rfl rfl rfl ?_
  refine sd_aload_n dGS_init_34 rfl rfl ?_
  refine sd_aload_n dGS_init_35 rfl rfl ?_
  refine sd_putF 3 1 (.object "SequentDesk$Rules") dGS_init_36 FGS_28 rfl rfl rfl rfl (by rw [sd_up_n (by omega), sd_up_s]) (Nat.le_of_ble_eq_true rfl) (by omega) ?_
  refine sd_eq rfl rfl rfl (bi_pp (by omega)) rfl rfl rfl ?_
  refine sd_iconst (v := nI 0) dGS_init_39 (by decide) ?_
  refine sd_istore_n dGS_init_40 rfl (by decide) ?_
  refine lp_GS (F := F) (h := h) hB ?_ 32 0 rfl
  refine sd_vret dGS_init_69 rfl (by decide) (by decide) ⟨rfl, ?_, rfl⟩
  rw [sd_upc (by omega), bi_put (t := 433) (E := bi_P G.1.2 o 3 32 (fun q => 436 + 3 * q) 32) (c := .inr (.inr (3, 32, fun g => 436 + 3 * g))) (by omega) (by omega) rfl rfl]
  exact bi_end (b := 432) (x := 532) (by omega) rfl rfl
theorem dDK_init_0 : decode prog_1_method_1_code 0 = .ok (.aload_n 0, 1) := by decide +kernel
theorem dDK_init_1 : decode prog_1_method_1_code 1 = .ok (.invokespecial 1, 3) := by decide +kernel
theorem dDK_init_4 : decode prog_1_method_1_code 4 = .ok (.aload_n 0, 1) := by decide +kernel
theorem dDK_init_5 : decode prog_1_method_1_code 5 = .ok (.new 7, 3) := by decide +kernel
theorem dDK_init_8 : decode prog_1_method_1_code 8 = .ok (.dup, 1) := by decide +kernel
theorem dDK_init_9 : decode prog_1_method_1_code 9 = .ok (.invokespecial 9, 3) := by decide +kernel
theorem dDK_init_12 : decode prog_1_method_1_code 12 = .ok (.putfield 10, 3) := by decide +kernel
theorem dDK_init_15 : decode prog_1_method_1_code 15 = .ok (.aload_n 0, 1) := by decide +kernel
theorem dDK_init_16 : decode prog_1_method_1_code 16 = .ok (.new 16, 3) := by decide +kernel
theorem dDK_init_19 : decode prog_1_method_1_code 19 = .ok (.dup, 1) := by decide +kernel
theorem dDK_init_20 : decode prog_1_method_1_code 20 = .ok (.invokespecial 18, 3) := by decide +kernel
theorem dDK_init_23 : decode prog_1_method_1_code 23 = .ok (.putfield 19, 3) := by decide +kernel
theorem dDK_init_26 : decode prog_1_method_1_code 26 = .ok (.aload_n 0, 1) := by decide +kernel
theorem dDK_init_27 : decode prog_1_method_1_code 27 = .ok (.new 23, 3) := by decide +kernel
theorem dDK_init_30 : decode prog_1_method_1_code 30 = .ok (.dup, 1) := by decide +kernel
theorem dDK_init_31 : decode prog_1_method_1_code 31 = .ok (.invokespecial 25, 3) := by decide +kernel
theorem dDK_init_34 : decode prog_1_method_1_code 34 = .ok (.putfield 26, 3) := by decide +kernel
theorem dDK_init_37 : decode prog_1_method_1_code 37 = .ok (.aload_n 0, 1) := by decide +kernel
theorem dDK_init_38 : decode prog_1_method_1_code 38 = .ok (.new 30, 3) := by decide +kernel
theorem dDK_init_41 : decode prog_1_method_1_code 41 = .ok (.dup, 1) := by decide +kernel
theorem dDK_init_42 : decode prog_1_method_1_code 42 = .ok (.aload_n 0, 1) := by decide +kernel
theorem dDK_init_43 : decode prog_1_method_1_code 43 = .ok (.getfield 10, 3) := by decide +kernel
theorem dDK_init_46 : decode prog_1_method_1_code 46 = .ok (.invokespecial 32, 3) := by decide +kernel
theorem dDK_init_49 : decode prog_1_method_1_code 49 = .ok (.putfield 35, 3) := by decide +kernel
theorem dDK_init_52 : decode prog_1_method_1_code 52 = .ok (.aload_n 0, 1) := by decide +kernel
theorem dDK_init_53 : decode prog_1_method_1_code 53 = .ok (.new 39, 3) := by decide +kernel
theorem dDK_init_56 : decode prog_1_method_1_code 56 = .ok (.dup, 1) := by decide +kernel
theorem dDK_init_57 : decode prog_1_method_1_code 57 = .ok (.aload_n 0, 1) := by decide +kernel
theorem dDK_init_58 : decode prog_1_method_1_code 58 = .ok (.getfield 10, 3) := by decide +kernel
theorem dDK_init_61 : decode prog_1_method_1_code 61 = .ok (.aload_n 0, 1) := by decide +kernel
theorem dDK_init_62 : decode prog_1_method_1_code 62 = .ok (.getfield 35, 3) := by decide +kernel
theorem dDK_init_65 : decode prog_1_method_1_code 65 = .ok (.invokespecial 41, 3) := by decide +kernel
theorem dDK_init_68 : decode prog_1_method_1_code 68 = .ok (.putfield 44, 3) := by decide +kernel
theorem dDK_init_71 : decode prog_1_method_1_code 71 = .ok (.return_, 1) := by decide +kernel
theorem c_DK_init {G : sd_G} {o : Nat} {h : sd_H} (hB : G.2.1 ≤ o) (hc : h (o + 0) = some (.inr (0, fr_DK))) : sd_Ct G mDK_init 4 531 9046 [.ref (o + 0)] h (o + (0 + 1)) (sd_is none (pf G.1.2 dk_S o (zD 2 (F5_ 8)) h 0 532) (o + 532)) := by
  refine sd_Ct_of (by decide) (Nat.le_of_ble_eq_true rfl) ?_
  refine sd_eq rfl rfl rfl (bi_0 (A := G.1.2) (S := dk_S) (D := zD 2 (F5_ 8)) hc) rfl rfl rfl ?_
  refine sd_aload_n dDK_init_0 rfl rfl ?_
  refine sd_oinit dDK_init_1 ODK (by decide) (by decide) ?_
  refine sd_aload_n dDK_init_4 rfl rfl ?_
  refine sd_newo 8 sR_TS dDK_init_5 rfl CDK_7 fr_TS_ok (by decide) (by decide) ?_
  refine sd_dup dDK_init_8 rfl ?_
  refine bi_call [] 1 296 0 (.object "SequentDesk$Terms") dDK_init_9 dDK_init_12 kDK_9 ⟨rfl, rfl⟩ mTS_init_i (fun h1 hh => c_TS_init hB hh) FDK_10 rfl rfl rfl rfl (by omega) (by omega) (Nat.le_of_ble_eq_true rfl) hB (by decide) (by decide) (by decide) rfl ?_
  refine sd_aload_n dDK_init_15 rfl rfl ?_
  refine sd_newo 1 sR_DR dDK_init_16 rfl CDK_16 fr_DR_ok (by decide) (by decide) ?_
  refine sd_dup dDK_init_19 rfl ?_
  refine bi_call [] 296 299 1 (.object "SequentDesk$Draft") dDK_init_20 dDK_init_23 kDK_18 ⟨rfl, rfl⟩ mDR_init_i (fun h1 hh => c_DR_init hB hh) FDK_19 rfl rfl rfl rfl (by omega) (by omega) (Nat.le_of_ble_eq_true rfl) hB (by decide) (by decide) (by decide) rfl ?_
  refine sd_aload_n dDK_init_26 rfl rfl ?_
  refine sd_newo 4 sR_IN dDK_init_27 rfl CDK_23 fr_IN_ok (by decide) (by decide) ?_
  refine sd_dup dDK_init_30 rfl ?_
  refine bi_call [] 299 307 2 (.object "SequentDesk$Inference") dDK_init_31 dDK_init_34 kDK_25 ⟨rfl, rfl⟩ mIN_init_i (fun h1 hh => c_IN_init hB hh) FDK_26 rfl rfl rfl rfl (by omega) (by omega) (Nat.le_of_ble_eq_true rfl) hB (by decide) (by decide) (by decide) rfl ?_
  refine sd_aload_n dDK_init_37 rfl rfl ?_
  refine sd_newo 5 sR_RU dDK_init_38 rfl CDK_30 fr_RU_ok (by decide) (by decide) ?_
  refine sd_dup dDK_init_41 rfl ?_
  refine sd_aload_n dDK_init_42 rfl rfl ?_
  refine sd_getf 0 0 dDK_init_43 fDK_10 (by rw [sd_up_n (by omega), sd_up_s]) rfl ?_
  refine bi_call [.ref (o + 1)] 307 432 3 (.object "SequentDesk$Rules") dDK_init_46 dDK_init_49 kDK_32 ⟨rfl, rfl⟩ mRU_init_i (fun h1 hh => c_RU_init hB hh) FDK_35 rfl rfl rfl rfl (by omega) (by omega) (Nat.le_of_ble_eq_true rfl) hB (by decide) (by decide) (by decide) rfl ?_
  refine sd_aload_n dDK_init_52 rfl rfl ?_
  refine sd_newo 3 sR_GS dDK_init_53 rfl CDK_39 fr_GS_ok (by decide) (by decide) ?_
  refine sd_dup dDK_init_56 rfl ?_
  refine sd_aload_n dDK_init_57 rfl rfl ?_
  refine sd_getf 0 0 dDK_init_58 fDK_10 (by rw [sd_up_n (by omega), sd_up_s]) rfl ?_
  refine sd_aload_n dDK_init_61 rfl rfl ?_
  refine sd_getf 0 3 dDK_init_62 fDK_35 (by rw [sd_up_n (by omega), sd_up_s]) rfl ?_
  refine bi_call [.ref (o + 1), .ref (o + 307)] 432 532 4 (.object "SequentDesk$Goals") dDK_init_65 dDK_init_68 kDK_41 ⟨rfl, rfl⟩ mGS_init_i (fun h1 hh => c_GS_init hB hh) FDK_44 rfl rfl rfl rfl (by omega) (by omega) (Nat.le_of_ble_eq_true rfl) hB (by decide) (by decide) (by decide) rfl ?_
  exact sd_vret dDK_init_71 rfl (by decide) (by decide) ⟨rfl, bi_end (b := 0) (x := 532) (by omega) rfl rfl, rfl⟩
