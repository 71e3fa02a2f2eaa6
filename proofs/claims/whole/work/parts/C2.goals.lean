/-! ===== the class's Goals: isThere, fits ===== -/
theorem dGS_isThere_0 : decode prog_4_method_6_code 0 = .ok (.iload_n 1, 1) := by decide +kernel
theorem dGS_isThere_1 : decode prog_4_method_6_code 1 = .ok (.tableswitch (76) (0) (8) #[51, 51, 53, 51, 62, 51, 53, 51, 67], 51) := by decide +kernel
theorem dGS_isThere_52 : decode prog_4_method_6_code 52 = .ok (.iconst 1, 1) := by decide +kernel
theorem dGS_isThere_53 : decode prog_4_method_6_code 53 = .ok (.ireturn, 1) := by decide +kernel
theorem dGS_isThere_54 : decode prog_4_method_6_code 54 = .ok (.aload_n 0, 1) := by decide +kernel
theorem dGS_isThere_55 : decode prog_4_method_6_code 55 = .ok (.getfield 24, 3) := by decide +kernel
theorem dGS_isThere_58 : decode prog_4_method_6_code 58 = .ok (.iload_n 2, 1) := by decide +kernel
theorem dGS_isThere_59 : decode prog_4_method_6_code 59 = .ok (.invokevirtual 93, 3) := by decide +kernel
theorem dGS_isThere_62 : decode prog_4_method_6_code 62 = .ok (.ireturn, 1) := by decide +kernel
theorem dGS_isThere_63 : decode prog_4_method_6_code 63 = .ok (.iload_n 2, 1) := by decide +kernel
theorem dGS_isThere_64 : decode prog_4_method_6_code 64 = .ok (.invokestatic 96, 3) := by decide +kernel
theorem dGS_isThere_67 : decode prog_4_method_6_code 67 = .ok (.ireturn, 1) := by decide +kernel
theorem dGS_isThere_68 : decode prog_4_method_6_code 68 = .ok (.aload_n 0, 1) := by decide +kernel
theorem dGS_isThere_69 : decode prog_4_method_6_code 69 = .ok (.getfield 28, 3) := by decide +kernel
theorem dGS_isThere_72 : decode prog_4_method_6_code 72 = .ok (.iload_n 2, 1) := by decide +kernel
theorem dGS_isThere_73 : decode prog_4_method_6_code 73 = .ok (.invokevirtual 99, 3) := by decide +kernel
theorem dGS_isThere_76 : decode prog_4_method_6_code 76 = .ok (.ireturn, 1) := by decide +kernel
theorem dGS_isThere_77 : decode prog_4_method_6_code 77 = .ok (.iconst 0, 1) := by decide +kernel
theorem dGS_isThere_78 : decode prog_4_method_6_code 78 = .ok (.ireturn, 1) := by decide +kernel
theorem c_GS_isThere {G : sd_G} {o : Nat} {D : fx_D} {h0 : sd_H} {nx v k a : Nat} {y : Int32} (hk : k < 9) (hv2 : v < 2) (hv : v = 1 ↔ (k = 0 ∨ k = 1 ∨ k = 3 ∨ k = 5 ∨ k = 7)) (h2 : k ≠ 2) (h6 : k ≠ 6) (h4 : k ≠ 4) (h8 : k ≠ 8) : sd_Ct G mGS_isThere 1 0 0 [.ref (o + 432), .int (nI k), .int y] (fx_h G.1.2 dk_S o D h0) nx (sd_is (some (.int (nI 1))) (fx_h G.1.2 dk_S o D h0) nx) := by
  refine sd_Ct_of (by decide) (Nat.le_of_ble_eq_true rfl) ?_
  rcases (show k = 0 ∨ k = 1 ∨ k = 3 ∨ k = 5 ∨ k = 7 by omega) with rfl | rfl | rfl | rfl | rfl
  · skip
    refine sd_iload_n dGS_isThere_0 rfl rfl ?_
    refine sd_tableIn (off := 51) 52 dGS_isThere_1 (by decide) (by decide) (by decide) (by decide) ?_
    refine sd_iconst (v := nI 1) dGS_isThere_52 (by decide) ?_
    exact sd_zret dGS_isThere_53 rfl (Or.inr rfl) (Nat.le_refl _) (Nat.le_refl _) ⟨rfl, rfl, rfl⟩
  · skip
    refine sd_iload_n dGS_isThere_0 rfl rfl ?_
    refine sd_tableIn (off := 51) 52 dGS_isThere_1 (by decide) (by decide) (by decide) (by decide) ?_
    refine sd_iconst (v := nI 1) dGS_isThere_52 (by decide) ?_
    exact sd_zret dGS_isThere_53 rfl (Or.inr rfl) (Nat.le_refl _) (Nat.le_refl _) ⟨rfl, rfl, rfl⟩
  · skip
    refine sd_iload_n dGS_isThere_0 rfl rfl ?_
    refine sd_tableIn (off := 51) 52 dGS_isThere_1 (by decide) (by decide) (by decide) (by decide) ?_
    refine sd_iconst (v := nI 1) dGS_isThere_52 (by decide) ?_
    exact sd_zret dGS_isThere_53 rfl (Or.inr rfl) (Nat.le_refl _) (Nat.le_refl _) ⟨rfl, rfl, rfl⟩
  · skip
    refine sd_iload_n dGS_isThere_0 rfl rfl ?_
    refine sd_tableIn (off := 51) 52 dGS_isThere_1 (by decide) (by decide) (by decide) (by decide) ?_
    refine sd_iconst (v := nI 1) dGS_isThere_52 (by decide) ?_
    exact sd_zret dGS_isThere_53 rfl (Or.inr rfl) (Nat.le_refl _) (Nat.le_refl _) ⟨rfl, rfl, rfl⟩
  · skip
    refine sd_iload_n dGS_isThere_0 rfl rfl ?_
    refine sd_tableIn (off := 51) 52 dGS_isThere_1 (by decide) (by decide) (by decide) (by decide) ?_
    refine sd_iconst (v := nI 1) dGS_isThere_52 (by decide) ?_
    exact sd_zret dGS_isThere_53 rfl (Or.inr rfl) (Nat.le_refl _) (Nat.le_refl _) ⟨rfl, rfl, rfl⟩
theorem c_GS_there2 {G : sd_G} {o : Nat} {D : fx_D} {h0 : sd_H} {nx n b : Nat} {y : Int32} (hn : n ≤ 100) (hl : D.2.1 1 2 = nI n) (hb2 : b < 2) (hb : b = 1 ↔ nn_lt y n) : sd_Ct G mGS_isThere 1 0 0 [.ref (o + 432), .int (nI 2), .int y] (fx_h G.1.2 dk_S o D h0) nx (sd_is (some (.int (nI b))) (fx_h G.1.2 dk_S o D h0) nx) := by
  refine sd_Ct_of (by decide) (Nat.le_of_ble_eq_true rfl) ?_
  refine sd_iload_n dGS_isThere_0 rfl rfl ?_
  refine sd_tableIn (off := 53) 54 dGS_isThere_1 (by decide) (by decide) (by decide) (by decide) ?_
  refine sd_aload_n dGS_isThere_54 rfl rfl ?_
  refine fx_getr 3 0 (1) dGS_isThere_55 fGS_24 rfl rfl ?_
  refine sd_iload_n dGS_isThere_58 rfl rfl ?_
  refine fx_cV 8 sR_TS [.int (y)] [] dGS_isThere_59 kGS_93 rfl rfl mTS_has_v (c_TS_has hn hl hb2 hb) (by decide) (Nat.le_refl _) (Nat.le_refl _) (Nat.le_of_ble_eq_true rfl) rfl ?_
  exact sd_zret dGS_isThere_62 rfl (nn_01 hb2) (Nat.le_refl _) (Nat.le_refl _) ⟨rfl, rfl, rfl⟩
theorem c_GS_there6 {G : sd_G} {o : Nat} {D : fx_D} {h0 : sd_H} {nx n b : Nat} {y : Int32} (hn : n ≤ 100) (hl : D.2.1 1 2 = nI n) (hb2 : b < 2) (hb : b = 1 ↔ nn_lt y n) : sd_Ct G mGS_isThere 1 0 0 [.ref (o + 432), .int (nI 6), .int y] (fx_h G.1.2 dk_S o D h0) nx (sd_is (some (.int (nI b))) (fx_h G.1.2 dk_S o D h0) nx) := by
  refine sd_Ct_of (by decide) (Nat.le_of_ble_eq_true rfl) ?_
  refine sd_iload_n dGS_isThere_0 rfl rfl ?_
  refine sd_tableIn (off := 53) 54 dGS_isThere_1 (by decide) (by decide) (by decide) (by decide) ?_
  refine sd_aload_n dGS_isThere_54 rfl rfl ?_
  refine fx_getr 3 0 (1) dGS_isThere_55 fGS_24 rfl rfl ?_
  refine sd_iload_n dGS_isThere_58 rfl rfl ?_
  refine fx_cV 8 sR_TS [.int (y)] [] dGS_isThere_59 kGS_93 rfl rfl mTS_has_v (c_TS_has hn hl hb2 hb) (by decide) (Nat.le_refl _) (Nat.le_refl _) (Nat.le_of_ble_eq_true rfl) rfl ?_
  exact sd_zret dGS_isThere_62 rfl (nn_01 hb2) (Nat.le_refl _) (Nat.le_refl _) ⟨rfl, rfl, rfl⟩
theorem c_GS_there4 {G : sd_G} {o : Nat} {D : fx_D} {h0 : sd_H} {nx n b : Nat} {y : Int32}  (hb2 : b < 2) (hb : b = 1 ↔ nn_lt y 8) : sd_Ct G mGS_isThere 1 0 0 [.ref (o + 432), .int (nI 4), .int y] (fx_h G.1.2 dk_S o D h0) nx (sd_is (some (.int (nI b))) (fx_h G.1.2 dk_S o D h0) nx) := by
  refine sd_Ct_of (by decide) (Nat.le_of_ble_eq_true rfl) ?_
  refine sd_iload_n dGS_isThere_0 rfl rfl ?_
  refine sd_tableIn (off := 62) 63 dGS_isThere_1 (by decide) (by decide) (by decide) (by decide) ?_
  refine sd_iload_n dGS_isThere_63 rfl rfl ?_
  refine sd_cS [.int (y)] [] dGS_isThere_64 kGS_96 mDK_isName_s (c_DK_isName hb2 hb) (by decide) (Nat.le_refl _) (Nat.le_refl _) (Nat.le_of_ble_eq_true rfl) rfl ?_
  exact sd_zret dGS_isThere_67 rfl (nn_01 hb2) (Nat.le_refl _) (Nat.le_refl _) ⟨rfl, rfl, rfl⟩
theorem c_GS_there8 {G : sd_G} {o : Nat} {D : fx_D} {h0 : sd_H} {nx n b : Nat} {y : Int32} (hn : n ≤ 100) (hl : D.2.1 307 2 = nI n) (hb2 : b < 2) (hb : b = 1 ↔ nn_lt y n) : sd_Ct G mGS_isThere 1 0 0 [.ref (o + 432), .int (nI 8), .int y] (fx_h G.1.2 dk_S o D h0) nx (sd_is (some (.int (nI b))) (fx_h G.1.2 dk_S o D h0) nx) := by
  refine sd_Ct_of (by decide) (Nat.le_of_ble_eq_true rfl) ?_
  refine sd_iload_n dGS_isThere_0 rfl rfl ?_
  refine sd_tableIn (off := 67) 68 dGS_isThere_1 (by decide) (by decide) (by decide) (by decide) ?_
  refine sd_aload_n dGS_isThere_68 rfl rfl ?_
  refine fx_getr 3 1 (307) dGS_isThere_69 fGS_28 rfl rfl ?_
  refine sd_iload_n dGS_isThere_72 rfl rfl ?_
  refine fx_cV 5 sR_RU [.int (y)] [] dGS_isThere_73 kGS_99 rfl rfl mRU_has_v (c_RU_has hn hl hb2 hb) (by decide) (Nat.le_refl _) (Nat.le_refl _) (Nat.le_of_ble_eq_true rfl) rfl ?_
  exact sd_zret dGS_isThere_76 rfl (nn_01 hb2) (Nat.le_refl _) (Nat.le_refl _) ⟨rfl, rfl, rfl⟩
theorem c_GS_there9 {G : sd_G} {o : Nat} {D : fx_D} {h0 : sd_H} {nx : Nat} {x y : Int32} (hx : ¬ nn_lt x 9) : sd_Ct G mGS_isThere 1 0 0 [.ref (o + 432), .int x, .int y] (fx_h G.1.2 dk_S o D h0) nx (sd_is (some (.int (nI 0))) (fx_h G.1.2 dk_S o D h0) nx) := by
  refine sd_Ct_of (by decide) (Nat.le_of_ble_eq_true rfl) ?_
  refine sd_iload_n dGS_isThere_0 rfl rfl ?_
  refine sd_tableOut 77 dGS_isThere_1 (nn_tab hx) (by decide) ?_
  refine sd_iconst (v := nI 0) dGS_isThere_77 (by decide) ?_
  exact sd_zret dGS_isThere_78 rfl (Or.inl rfl) (Nat.le_refl _) (Nat.le_refl _) ⟨rfl, rfl, rfl⟩
theorem c_GS_thereT {G : sd_G} {o : Nat} {D : fx_D} {h0 : sd_H} {nx k a : Nat} {S : st_S} {x y : Int32} (hW : dk_W S (st_T S) D) (ht : tc_there S x y k a) : sd_Ct G mGS_isThere 1 0 0 [.ref (o + 432), .int x, .int y] (fx_h G.1.2 dk_S o D h0) nx (sd_is (some (.int (nI 1))) (fx_h G.1.2 dk_S o D h0) nx) := by
  have m1 := hW.2.1.1
  have m2 := hW.2.1.2.1
  have n1 := hW.2.2.1.1
  have n2 := hW.2.2.1.2.1
  obtain ⟨rfl, hh⟩ := ht
  rcases hh with ⟨hk, -⟩ | ⟨rfl | rfl, rfl, ha⟩ | ⟨rfl, rfl, ha⟩ | ⟨rfl, rfl, ha⟩
  · exact c_GS_isThere (v := 1) (a := 0) (by omega) (by omega) (by simp only [true_iff]; exact hk) (by omega) (by omega) (by omega) (by omega)
  · exact c_GS_there2 (by omega) m2 (by omega) (by simp only [true_iff]; exact ⟨a, ha, rfl⟩)
  · exact c_GS_there6 (by omega) m2 (by omega) (by simp only [true_iff]; exact ⟨a, ha, rfl⟩)
  · exact c_GS_there4 (n := 0) (by omega) (by simp only [true_iff]; exact ⟨a, ha, rfl⟩)
  · exact c_GS_there8 (by omega) n2 (by omega) (by simp only [true_iff]; exact ⟨a, ha, rfl⟩)
theorem c_GS_thereF {G : sd_G} {o : Nat} {D : fx_D} {h0 : sd_H} {nx : Nat} {S : st_S} {x y : Int32} (hW : dk_W S (st_T S) D) (ht : ¬ ∃ k a, tc_there S x y k a) : sd_Ct G mGS_isThere 1 0 0 [.ref (o + 432), .int x, .int y] (fx_h G.1.2 dk_S o D h0) nx (sd_is (some (.int (nI 0))) (fx_h G.1.2 dk_S o D h0) nx) := by
  have m1 := hW.2.1.1
  have m2 := hW.2.1.2.1
  have n1 := hW.2.2.1.1
  have n2 := hW.2.2.1.2.1
  have ff : ∀ {P : Prop}, (P → False) → ((0 : Nat) = 1 ↔ P) := fun h => ⟨fun e => absurd e (by decide), fun p => (h p).elim⟩
  by_cases hx : nn_lt x 9
  · obtain ⟨k, hk, rfl⟩ := hx
    match k, hk with
    | 0, _ => exact absurd ⟨0, 0, rfl, Or.inl ⟨by omega, rfl⟩⟩ ht
    | 1, _ => exact absurd ⟨1, 0, rfl, Or.inl ⟨by omega, rfl⟩⟩ ht
    | 2, _ => exact c_GS_there2 (by omega) m2 (by omega) (ff fun ⟨a, q1, q2⟩ => ht ⟨2, a, rfl, Or.inr (Or.inl ⟨Or.inl rfl, q2, q1⟩)⟩)
    | 3, _ => exact absurd ⟨3, 0, rfl, Or.inl ⟨by omega, rfl⟩⟩ ht
    | 4, _ => exact c_GS_there4 (n := 0) (by omega) (ff fun ⟨a, q1, q2⟩ => ht ⟨4, a, rfl, Or.inr (Or.inr (Or.inl ⟨rfl, q2, q1⟩))⟩)
    | 5, _ => exact absurd ⟨5, 0, rfl, Or.inl ⟨by omega, rfl⟩⟩ ht
    | 6, _ => exact c_GS_there6 (by omega) m2 (by omega) (ff fun ⟨a, q1, q2⟩ => ht ⟨6, a, rfl, Or.inr (Or.inl ⟨Or.inr rfl, q2, q1⟩)⟩)
    | 7, _ => exact absurd ⟨7, 0, rfl, Or.inl ⟨by omega, rfl⟩⟩ ht
    | 8, _ => exact c_GS_there8 (by omega) n2 (by omega) (ff fun ⟨a, q1, q2⟩ => ht ⟨8, a, rfl, Or.inr (Or.inr (Or.inr ⟨rfl, q2, q1⟩))⟩)
    | k + 9, hk => omega
  · exact c_GS_there9 hx
theorem dGS_canSplit_0 : decode prog_4_method_8_code 0 = .ok (.aload_n 0, 1) := by decide +kernel
theorem dGS_canSplit_1 : decode prog_4_method_8_code 1 = .ok (.invokevirtual 113, 3) := by decide +kernel
theorem dGS_canSplit_4 : decode prog_4_method_8_code 4 = .ok (.istore_n 1, 1) := by decide +kernel
theorem dGS_canSplit_5 : decode prog_4_method_8_code 5 = .ok (.aload_n 0, 1) := by decide +kernel
theorem dGS_canSplit_6 : decode prog_4_method_8_code 6 = .ok (.getfield 153, 3) := by decide +kernel
theorem dGS_canSplit_9 : decode prog_4_method_8_code 9 = .ok (.iconst 1, 1) := by decide +kernel
theorem dGS_canSplit_10 : decode prog_4_method_8_code 10 = .ok (.iaload, 1) := by decide +kernel
theorem dGS_canSplit_11 : decode prog_4_method_8_code 11 = .ok (.bipush (8), 2) := by decide +kernel
theorem dGS_canSplit_13 : decode prog_4_method_8_code 13 = .ok (.if_icmp .ne (35), 3) := by decide +kernel
theorem dGS_canSplit_16 : decode prog_4_method_8_code 16 = .ok (.aload_n 0, 1) := by decide +kernel
theorem dGS_canSplit_17 : decode prog_4_method_8_code 17 = .ok (.getfield 153, 3) := by decide +kernel
theorem dGS_canSplit_20 : decode prog_4_method_8_code 20 = .ok (.iload_n 1, 1) := by decide +kernel
theorem dGS_canSplit_21 : decode prog_4_method_8_code 21 = .ok (.iaload, 1) := by decide +kernel
theorem dGS_canSplit_22 : decode prog_4_method_8_code 22 = .ok (.bipush (8), 2) := by decide +kernel
theorem dGS_canSplit_24 : decode prog_4_method_8_code 24 = .ok (.if_icmp .ne (24), 3) := by decide +kernel
theorem dGS_canSplit_27 : decode prog_4_method_8_code 27 = .ok (.aload_n 0, 1) := by decide +kernel
theorem dGS_canSplit_28 : decode prog_4_method_8_code 28 = .ok (.getfield 124, 3) := by decide +kernel
theorem dGS_canSplit_31 : decode prog_4_method_8_code 31 = .ok (.iconst 2, 1) := by decide +kernel
theorem dGS_canSplit_32 : decode prog_4_method_8_code 32 = .ok (.iaload, 1) := by decide +kernel
theorem dGS_canSplit_33 : decode prog_4_method_8_code 33 = .ok (.aload_n 0, 1) := by decide +kernel
theorem dGS_canSplit_34 : decode prog_4_method_8_code 34 = .ok (.getfield 124, 3) := by decide +kernel
theorem dGS_canSplit_37 : decode prog_4_method_8_code 37 = .ok (.iload_n 1, 1) := by decide +kernel
theorem dGS_canSplit_38 : decode prog_4_method_8_code 38 = .ok (.iconst 1, 1) := by decide +kernel
theorem dGS_canSplit_39 : decode prog_4_method_8_code 39 = .ok (.iadd, 1) := by decide +kernel
theorem dGS_canSplit_40 : decode prog_4_method_8_code 40 = .ok (.iaload, 1) := by decide +kernel
theorem dGS_canSplit_41 : decode prog_4_method_8_code 41 = .ok (.if_icmp .ne (7), 3) := by decide +kernel
theorem dGS_canSplit_44 : decode prog_4_method_8_code 44 = .ok (.iconst 1, 1) := by decide +kernel
theorem dGS_canSplit_45 : decode prog_4_method_8_code 45 = .ok (.goto (4), 3) := by decide +kernel
theorem dGS_canSplit_48 : decode prog_4_method_8_code 48 = .ok (.iconst 0, 1) := by decide +kernel
theorem dGS_canSplit_49 : decode prog_4_method_8_code 49 = .ok (.ireturn, 1) := by decide +kernel
theorem c_GS_canSplit {G : sd_G} {o : Nat} {D : fx_D} {h0 : sd_H} {nx r b : Nat} {l : tl_T} (hr : r < 73) (hl : tm_row D r l) (sl : tm_set D r l) (wl : tl_wf l) (h9 : (tl_at l 0).1 = 9) (hb2 : b < 2) (hb : b = 1 ↔ (tl_at l 1).1 = 8 ∧ (tl_at l (tl_end l 1)).1 = 8 ∧ (tl_at l 2).2 = (tl_at l (tl_end l 1 + 1)).2) : sd_Ct G mGS_canSplit 1 0 0 [.ref (o + tmo r)] (fx_h G.1.2 dk_S o D h0) nx (sd_is (some (.int (nI b))) (fx_h G.1.2 dk_S o D h0) nx) := by
  refine sd_Ct_of (by decide) (Nat.le_of_ble_eq_true rfl) ?_
  obtain ⟨t1, t2, t3⟩ := wl.two (by rw [h9]; rfl)
  have l24 := wl.2.2
  obtain ⟨x1, -, x3, -⟩ := hl.2.2 1 _ (tl_at_some t1)
  obtain ⟨y1, -, y3, -⟩ := hl.2.2 _ _ (tl_at_some t2)
  by_cases k1 : (tl_at l 1).1 = 8
  · by_cases k2 : (tl_at l (tl_end l 1)).1 = 8
    · obtain ⟨u1, -⟩ := tl_two_at (tl_ok_drop l 1 1 wl.1 wl.2.1 t1) t1 (by rw [k1]; rfl)
      obtain ⟨u2, -⟩ := tl_two_at (tl_ok_drop l 1 _ wl.1 wl.2.1 t2) t2 (by rw [k2]; rfl)
      obtain ⟨-, z2, -, z4⟩ := hl.2.2 2 _ (tl_at_some u1)
      obtain ⟨-, w2, -, w4⟩ := hl.2.2 _ _ (tl_at_some u2)
      refine sd_aload_n dGS_canSplit_0 rfl rfl ?_
      refine fx_cV 7 sR_TM [] [] dGS_canSplit_1 kGS_113 rfl (dk_tm (by omega)) mTM_right_v (c_TM_right hr sl t1) (by decide) (Nat.le_refl _) (Nat.le_refl _) (Nat.le_of_ble_eq_true rfl) rfl ?_
      refine sd_istore_n dGS_canSplit_4 rfl (by decide) ?_
      refine sd_aload_n dGS_canSplit_5 rfl rfl ?_
      refine fx_getr 7 0 (tmo (r) + 1) dGS_canSplit_6 fGS_153 (dk_tm (by omega)) rfl ?_
      refine sd_iconst (v := nI 1) dGS_canSplit_9 (by decide) ?_
      refine fx_ialdv (v := (nI ((tl_at l 1).1))) (1) dGS_canSplit_10 (dk_tm1 (by omega)) rfl (by omega) (by decide) (x1) ?_
      refine sd_bipush (v := nI 8) dGS_canSplit_11 (by decide) ?_
      refine nn_icmp_ne 48 dGS_canSplit_13 (by decide) (by omega) (by omega) (fun c13 => ?_) (fun c13 => ?_)
      ·
        refine sd_iconst (v := nI 0) dGS_canSplit_48 (by decide) ?_
        exact sd_zret dGS_canSplit_49 rfl (nn_01 (by omega)) (Nat.le_refl _) (Nat.le_refl _) ⟨by rw [show b = (0) by omega], rfl, rfl⟩
      ·
        refine sd_aload_n dGS_canSplit_16 rfl rfl ?_
        refine fx_getr 7 0 (tmo (r) + 1) dGS_canSplit_17 fGS_153 (dk_tm (by omega)) rfl ?_
        refine sd_iload_n dGS_canSplit_20 rfl rfl ?_
        refine fx_ialdv (v := (nI ((tl_at l (tl_end l 1)).1))) (tl_end l 1) dGS_canSplit_21 (dk_tm1 (by omega)) rfl (by omega) (by decide) (y1) ?_
        refine sd_bipush (v := nI 8) dGS_canSplit_22 (by decide) ?_
        refine nn_icmp_ne 48 dGS_canSplit_24 (by decide) (by omega) (by omega) (fun c24 => ?_) (fun c24 => ?_)
        ·
          refine sd_iconst (v := nI 0) dGS_canSplit_48 (by decide) ?_
          exact sd_zret dGS_canSplit_49 rfl (nn_01 (by omega)) (Nat.le_refl _) (Nat.le_refl _) ⟨by rw [show b = (0) by omega], rfl, rfl⟩
        ·
          refine sd_aload_n dGS_canSplit_27 rfl rfl ?_
          refine fx_getr 7 1 (tmo (r) + 2) dGS_canSplit_28 fGS_124 (dk_tm (by omega)) rfl ?_
          refine sd_iconst (v := nI 2) dGS_canSplit_31 (by decide) ?_
          refine fx_ialdv (v := (nI ((tl_at l 2).2))) (2) dGS_canSplit_32 (dk_tm2 (by omega)) rfl (by omega) (by decide) (z2) ?_
          refine sd_aload_n dGS_canSplit_33 rfl rfl ?_
          refine fx_getr 7 1 (tmo (r) + 2) dGS_canSplit_34 fGS_124 (dk_tm (by omega)) rfl ?_
          refine sd_iload_n dGS_canSplit_37 rfl rfl ?_
          refine sd_iconst (v := nI 1) dGS_canSplit_38 (by decide) ?_
          refine nn_iadd dGS_canSplit_39 ?_
          refine fx_ialdv (v := (nI ((tl_at l (tl_end l 1 + 1)).2))) ((tl_end l 1) + 1) dGS_canSplit_40 (dk_tm2 (by omega)) rfl (by omega) (by decide) (w2) ?_
          refine nn_icmp_ne 48 dGS_canSplit_41 (by decide) (by omega) (by omega) (fun c41 => ?_) (fun c41 => ?_)
          ·
            refine sd_iconst (v := nI 0) dGS_canSplit_48 (by decide) ?_
            exact sd_zret dGS_canSplit_49 rfl (nn_01 (by omega)) (Nat.le_refl _) (Nat.le_refl _) ⟨by rw [show b = (0) by omega], rfl, rfl⟩
          ·
            refine sd_iconst (v := nI 1) dGS_canSplit_44 (by decide) ?_
            refine sd_goto 49 dGS_canSplit_45 (by decide) ?_
            exact sd_zret dGS_canSplit_49 rfl (nn_01 (by omega)) (Nat.le_refl _) (Nat.le_refl _) ⟨by rw [show b = (1) by omega], rfl, rfl⟩
    · skip
      refine sd_aload_n dGS_canSplit_0 rfl rfl ?_
      refine fx_cV 7 sR_TM [] [] dGS_canSplit_1 kGS_113 rfl (dk_tm (by omega)) mTM_right_v (c_TM_right hr sl t1) (by decide) (Nat.le_refl _) (Nat.le_refl _) (Nat.le_of_ble_eq_true rfl) rfl ?_
      refine sd_istore_n dGS_canSplit_4 rfl (by decide) ?_
      refine sd_aload_n dGS_canSplit_5 rfl rfl ?_
      refine fx_getr 7 0 (tmo (r) + 1) dGS_canSplit_6 fGS_153 (dk_tm (by omega)) rfl ?_
      refine sd_iconst (v := nI 1) dGS_canSplit_9 (by decide) ?_
      refine fx_ialdv (v := (nI ((tl_at l 1).1))) (1) dGS_canSplit_10 (dk_tm1 (by omega)) rfl (by omega) (by decide) (x1) ?_
      refine sd_bipush (v := nI 8) dGS_canSplit_11 (by decide) ?_
      refine nn_icmp_ne 48 dGS_canSplit_13 (by decide) (by omega) (by omega) (fun c13 => ?_) (fun c13 => ?_)
      ·
        refine sd_iconst (v := nI 0) dGS_canSplit_48 (by decide) ?_
        exact sd_zret dGS_canSplit_49 rfl (nn_01 (by omega)) (Nat.le_refl _) (Nat.le_refl _) ⟨by rw [show b = (0) by omega], rfl, rfl⟩
      ·
        refine sd_aload_n dGS_canSplit_16 rfl rfl ?_
        refine fx_getr 7 0 (tmo (r) + 1) dGS_canSplit_17 fGS_153 (dk_tm (by omega)) rfl ?_
        refine sd_iload_n dGS_canSplit_20 rfl rfl ?_
        refine fx_ialdv (v := (nI ((tl_at l (tl_end l 1)).1))) (tl_end l 1) dGS_canSplit_21 (dk_tm1 (by omega)) rfl (by omega) (by decide) (y1) ?_
        refine sd_bipush (v := nI 8) dGS_canSplit_22 (by decide) ?_
        refine nn_icmp_ne 48 dGS_canSplit_24 (by decide) (by omega) (by omega) (fun c24 => ?_) (fun c24 => ?_)
        ·
          refine sd_iconst (v := nI 0) dGS_canSplit_48 (by decide) ?_
          exact sd_zret dGS_canSplit_49 rfl (nn_01 (by omega)) (Nat.le_refl _) (Nat.le_refl _) ⟨by rw [show b = (0) by omega], rfl, rfl⟩
        ·
          exact absurd c24 k2
  · skip
    refine sd_aload_n dGS_canSplit_0 rfl rfl ?_
    refine fx_cV 7 sR_TM [] [] dGS_canSplit_1 kGS_113 rfl (dk_tm (by omega)) mTM_right_v (c_TM_right hr sl t1) (by decide) (Nat.le_refl _) (Nat.le_refl _) (Nat.le_of_ble_eq_true rfl) rfl ?_
    refine sd_istore_n dGS_canSplit_4 rfl (by decide) ?_
    refine sd_aload_n dGS_canSplit_5 rfl rfl ?_
    refine fx_getr 7 0 (tmo (r) + 1) dGS_canSplit_6 fGS_153 (dk_tm (by omega)) rfl ?_
    refine sd_iconst (v := nI 1) dGS_canSplit_9 (by decide) ?_
    refine fx_ialdv (v := (nI ((tl_at l 1).1))) (1) dGS_canSplit_10 (dk_tm1 (by omega)) rfl (by omega) (by decide) (x1) ?_
    refine sd_bipush (v := nI 8) dGS_canSplit_11 (by decide) ?_
    refine nn_icmp_ne 48 dGS_canSplit_13 (by decide) (by omega) (by omega) (fun c13 => ?_) (fun c13 => ?_)
    ·
      refine sd_iconst (v := nI 0) dGS_canSplit_48 (by decide) ?_
      exact sd_zret dGS_canSplit_49 rfl (nn_01 (by omega)) (Nat.le_refl _) (Nat.le_refl _) ⟨by rw [show b = (0) by omega], rfl, rfl⟩
    ·
      exact absurd c13 k1
theorem dGS_isExact_0 : decode prog_4_method_11_code 0 = .ok (.aload_n 0, 1) := by decide +kernel
theorem dGS_isExact_1 : decode prog_4_method_11_code 1 = .ok (.getfield 105, 3) := by decide +kernel
theorem dGS_isExact_4 : decode prog_4_method_11_code 4 = .ok (.aload_n 1, 1) := by decide +kernel
theorem dGS_isExact_5 : decode prog_4_method_11_code 5 = .ok (.getfield 105, 3) := by decide +kernel
theorem dGS_isExact_8 : decode prog_4_method_11_code 8 = .ok (.if_icmp .ne (15), 3) := by decide +kernel
theorem dGS_isExact_11 : decode prog_4_method_11_code 11 = .ok (.aload_n 1, 1) := by decide +kernel
theorem dGS_isExact_12 : decode prog_4_method_11_code 12 = .ok (.aload_n 0, 1) := by decide +kernel
theorem dGS_isExact_13 : decode prog_4_method_11_code 13 = .ok (.invokevirtual 190, 3) := by decide +kernel
theorem dGS_isExact_16 : decode prog_4_method_11_code 16 = .ok (.ifCond .eq (7), 3) := by decide +kernel
theorem dGS_isExact_19 : decode prog_4_method_11_code 19 = .ok (.iconst 1, 1) := by decide +kernel
theorem dGS_isExact_20 : decode prog_4_method_11_code 20 = .ok (.goto (4), 3) := by decide +kernel
theorem dGS_isExact_23 : decode prog_4_method_11_code 23 = .ok (.iconst 0, 1) := by decide +kernel
theorem dGS_isExact_24 : decode prog_4_method_11_code 24 = .ok (.ireturn, 1) := by decide +kernel
theorem c_GS_isExact {G : sd_G} {o : Nat} {D : fx_D} {h0 : sd_H} {nx s u p q b : Nat} {L M : List Nat} (hso_s : dk_so s) (hso_u : dk_so u) (hL : so_r D s L) (hM : so_r D u M) (hp : D.2.1 s 2 = nI p) (hq : D.2.1 u 2 = nI q) (hp2 : p < 2 ^ 31) (hq2 : q < 2 ^ 31) (hb2 : b < 2) (hb : b = 1 ↔ p = q ∧ ∀ t ∈ L, t ∈ M) : sd_Ct G mGS_isExact 2 0 0 [.ref (o + s), .ref (o + u)] (fx_h G.1.2 dk_S o D h0) nx (sd_is (some (.int (nI b))) (fx_h G.1.2 dk_S o D h0) nx) := by
  refine sd_Ct_of (by decide) (Nat.le_of_ble_eq_true rfl) ?_
  by_cases hpq : p = q
  · have cA := c_ST_assumesThoseOf (G := G) (o := o) (h0 := h0) (nx := nx) (b := b) hso_u hso_s hM hL hb2 (hb.trans ⟨fun z => z.2, fun z => ⟨hpq, z⟩⟩)
    refine sd_aload_n dGS_isExact_0 rfl rfl ?_
    refine fx_getiv (v := (nI (p))) 6 2 dGS_isExact_1 fGS_105 hso_s.1 rfl (hp) ?_
    refine sd_aload_n dGS_isExact_4 rfl rfl ?_
    refine fx_getiv (v := (nI (q))) 6 2 dGS_isExact_5 fGS_105 hso_u.1 rfl (hq) ?_
    refine nn_icmp_ne 23 dGS_isExact_8 (by decide) (by omega) (by omega) (fun c8 => ?_) (fun c8 => ?_)
    ·
      exact absurd hpq c8
    ·
      refine sd_aload_n dGS_isExact_11 rfl rfl ?_
      refine sd_aload_n dGS_isExact_12 rfl rfl ?_
      refine fx_cV 6 sR_ST [.ref (o + (s))] [] dGS_isExact_13 kGS_190 rfl hso_u.1 mST_assumesThoseOf_v (cA) (by decide) (Nat.le_refl _) (Nat.le_refl _) (Nat.le_of_ble_eq_true rfl) rfl ?_
      refine nn_if_eq 23 dGS_isExact_16 (by decide) (by omega) (fun c16 => ?_) (fun c16 => ?_)
      ·
        refine sd_iconst (v := nI 0) dGS_isExact_23 (by decide) ?_
        exact sd_zret dGS_isExact_24 rfl (nn_01 (by omega)) (Nat.le_refl _) (Nat.le_refl _) ⟨by rw [show b = (0) by omega], rfl, rfl⟩
      ·
        refine sd_iconst (v := nI 1) dGS_isExact_19 (by decide) ?_
        refine sd_goto 24 dGS_isExact_20 (by decide) ?_
        exact sd_zret dGS_isExact_24 rfl (nn_01 (by omega)) (Nat.le_refl _) (Nat.le_refl _) ⟨by rw [show b = (1) by omega], rfl, rfl⟩
  · obtain rfl : b = 0 := by
      have : ¬ b = 1 := fun z => hpq (hb.mp z).1
      omega
    refine sd_aload_n dGS_isExact_0 rfl rfl ?_
    refine fx_getiv (v := (nI (p))) 6 2 dGS_isExact_1 fGS_105 hso_s.1 rfl (hp) ?_
    refine sd_aload_n dGS_isExact_4 rfl rfl ?_
    refine fx_getiv (v := (nI (q))) 6 2 dGS_isExact_5 fGS_105 hso_u.1 rfl (hq) ?_
    refine nn_icmp_ne 23 dGS_isExact_8 (by decide) (by omega) (by omega) (fun c8 => ?_) (fun c8 => ?_)
    ·
      refine sd_iconst (v := nI 0) dGS_isExact_23 (by decide) ?_
      exact sd_zret dGS_isExact_24 rfl (Or.inl rfl) (Nat.le_refl _) (Nat.le_refl _) ⟨rfl, rfl, rfl⟩
    ·
      exact absurd c8 hpq
theorem dGS_canName_0 : decode prog_4_method_9_code 0 = .ok (.aload_n 1, 1) := by decide +kernel
theorem dGS_canName_1 : decode prog_4_method_9_code 1 = .ok (.getfield 153, 3) := by decide +kernel
theorem dGS_canName_4 : decode prog_4_method_9_code 4 = .ok (.iconst 1, 1) := by decide +kernel
theorem dGS_canName_5 : decode prog_4_method_9_code 5 = .ok (.iaload, 1) := by decide +kernel
theorem dGS_canName_6 : decode prog_4_method_9_code 6 = .ok (.bipush (10), 2) := by decide +kernel
theorem dGS_canName_8 : decode prog_4_method_9_code 8 = .ok (.if_icmp .ne (17), 3) := by decide +kernel
theorem dGS_canName_11 : decode prog_4_method_9_code 11 = .ok (.aload_n 1, 1) := by decide +kernel
theorem dGS_canName_12 : decode prog_4_method_9_code 12 = .ok (.getfield 153, 3) := by decide +kernel
theorem dGS_canName_15 : decode prog_4_method_9_code 15 = .ok (.aload_n 1, 1) := by decide +kernel
theorem dGS_canName_16 : decode prog_4_method_9_code 16 = .ok (.invokevirtual 113, 3) := by decide +kernel
theorem dGS_canName_19 : decode prog_4_method_9_code 19 = .ok (.iaload, 1) := by decide +kernel
theorem dGS_canName_20 : decode prog_4_method_9_code 20 = .ok (.bipush (10), 2) := by decide +kernel
theorem dGS_canName_22 : decode prog_4_method_9_code 22 = .ok (.if_icmp .eq (5), 3) := by decide +kernel
theorem dGS_canName_25 : decode prog_4_method_9_code 25 = .ok (.iconst 0, 1) := by decide +kernel
theorem dGS_canName_26 : decode prog_4_method_9_code 26 = .ok (.ireturn, 1) := by decide +kernel
theorem dGS_canName_27 : decode prog_4_method_9_code 27 = .ok (.aload_n 0, 1) := by decide +kernel
theorem dGS_canName_28 : decode prog_4_method_9_code 28 = .ok (.getfield 24, 3) := by decide +kernel
theorem dGS_canName_31 : decode prog_4_method_9_code 31 = .ok (.getfield 156, 3) := by decide +kernel
theorem dGS_canName_34 : decode prog_4_method_9_code 34 = .ok (.iload_n 2, 1) := by decide +kernel
theorem dGS_canName_35 : decode prog_4_method_9_code 35 = .ok (.iaload, 1) := by decide +kernel
theorem dGS_canName_36 : decode prog_4_method_9_code 36 = .ok (.aload_n 1, 1) := by decide +kernel
theorem dGS_canName_37 : decode prog_4_method_9_code 37 = .ok (.getfield 124, 3) := by decide +kernel
theorem dGS_canName_40 : decode prog_4_method_9_code 40 = .ok (.iconst 1, 1) := by decide +kernel
theorem dGS_canName_41 : decode prog_4_method_9_code 41 = .ok (.iaload, 1) := by decide +kernel
theorem dGS_canName_42 : decode prog_4_method_9_code 42 = .ok (.invokestatic 159, 3) := by decide +kernel
theorem dGS_canName_45 : decode prog_4_method_9_code 45 = .ok (.if_icmp .eq (5), 3) := by decide +kernel
theorem dGS_canName_48 : decode prog_4_method_9_code 48 = .ok (.iconst 0, 1) := by decide +kernel
theorem dGS_canName_49 : decode prog_4_method_9_code 49 = .ok (.ireturn, 1) := by decide +kernel
theorem dGS_canName_50 : decode prog_4_method_9_code 50 = .ok (.aload_n 1, 1) := by decide +kernel
theorem dGS_canName_51 : decode prog_4_method_9_code 51 = .ok (.iload_n 2, 1) := by decide +kernel
theorem dGS_canName_52 : decode prog_4_method_9_code 52 = .ok (.invokevirtual 165, 3) := by decide +kernel
theorem dGS_canName_55 : decode prog_4_method_9_code 55 = .ok (.ifCond .ne (19), 3) := by decide +kernel
theorem dGS_canName_58 : decode prog_4_method_9_code 58 = .ok (.aload_n 0, 1) := by decide +kernel
theorem dGS_canName_59 : decode prog_4_method_9_code 59 = .ok (.getfield 24, 3) := by decide +kernel
theorem dGS_canName_62 : decode prog_4_method_9_code 62 = .ok (.iload_n 2, 1) := by decide +kernel
theorem dGS_canName_63 : decode prog_4_method_9_code 63 = .ok (.aload_n 3, 1) := by decide +kernel
theorem dGS_canName_64 : decode prog_4_method_9_code 64 = .ok (.invokevirtual 168, 3) := by decide +kernel
theorem dGS_canName_67 : decode prog_4_method_9_code 67 = .ok (.ifCond .ne (7), 3) := by decide +kernel
theorem dGS_canName_70 : decode prog_4_method_9_code 70 = .ok (.iconst 1, 1) := by decide +kernel
theorem dGS_canName_71 : decode prog_4_method_9_code 71 = .ok (.goto (4), 3) := by decide +kernel
theorem dGS_canName_74 : decode prog_4_method_9_code 74 = .ok (.iconst 0, 1) := by decide +kernel
theorem dGS_canName_75 : decode prog_4_method_9_code 75 = .ok (.ireturn, 1) := by decide +kernel
theorem c_GS_canName {G : sd_G} {o : Nat} {D : fx_D} {h0 : sd_H} {nx r v b s t : Nat} {l : tl_T} {T : List tl_T} {L : List Nat} (hr : r < 73) (hl : tm_row D r l) (sl : tm_set D r l) (wl : tl_wf l) (h9 : (tl_at l 0).1 = 9) (hok : ∀ x ∈ l, ty_ok x.2 ∧ (x.1 = 10 → ty_isF x.2 = true)) (hv : v < 8) (hn : D.1 2 v = nI t) (ht : t < 2 ^ 25) (hso_s : dk_so s) (hT : ts_T D T) (hL : so_r D s L) (hLT : ∀ t ∈ L, t < T.length) (hb2 : b < 2) (hb : b = 1 ↔ (tl_at l 1).1 = 10 ∧ (tl_at l (tl_end l 1)).1 = 10 ∧ ty_from (tl_at l 1).2 = t ∧ ¬ tl_nm l v = true ∧ ¬ ∃ t ∈ L, tl_nm (T.getD t []) v = true) : sd_Ct G mGS_canName 3 0 0 [.ref (o + 432), .ref (o + tmo r), .int (nI v), .ref (o + s)] (fx_h G.1.2 dk_S o D h0) nx (sd_is (some (.int (nI b))) (fx_h G.1.2 dk_S o D h0) nx) := by
  refine sd_Ct_of (by decide) (Nat.le_of_ble_eq_true rfl) ?_
  obtain ⟨t1, t2, t3⟩ := wl.two (by rw [h9]; rfl)
  have l24 := wl.2.2
  have e1 := tl_at_some t1
  obtain ⟨x1, x2, x3, x4⟩ := hl.2.2 1 _ e1
  obtain ⟨y1, -, y3, -⟩ := hl.2.2 _ _ (tl_at_some t2)
  have ok := hok _ (List.mem_of_getElem? e1)
  by_cases k1 : (tl_at l 1).1 = 10
  · obtain ⟨rr, er⟩ := ty_fun_rem ok.1 (ok.2 k1)
    have flt := ty_from_lt ok.1.1 (by have := ok.1.2.1; omega)
    by_cases k2 : (tl_at l (tl_end l 1)).1 = 10
    · obtain ⟨u, u1, u2⟩ := bo_b (tl_nm l v)
      have cN := c_TM_hasName (G := G) (o := o) (h0 := h0) (nx := nx) (b := u) hr hl hv u1 u2
      by_cases k4 : ∃ t ∈ L, tl_nm (T.getD t []) v = true
      · have cH := c_TS_inHypotheses (G := G) (o := o) (h0 := h0) (nx := nx) (b := 1) hso_s hT hL hLT hv (by omega) (by simp only [true_iff]; exact k4)
        have hb0 : b = 0 := by
          have : ¬ b = 1 := fun z => (hb.mp z).2.2.2.2 k4
          omega
        refine sd_aload_n dGS_canName_0 rfl rfl ?_
        refine fx_getr 7 0 (tmo (r) + 1) dGS_canName_1 fGS_153 (dk_tm (by omega)) rfl ?_
        refine sd_iconst (v := nI 1) dGS_canName_4 (by decide) ?_
        refine fx_ialdv (v := (nI ((tl_at l 1).1))) (1) dGS_canName_5 (dk_tm1 (by omega)) rfl (by omega) (by decide) (x1) ?_
        refine sd_bipush (v := nI 10) dGS_canName_6 (by decide) ?_
        refine nn_icmp_ne 25 dGS_canName_8 (by decide) (by omega) (by omega) (fun c8 => ?_) (fun c8 => ?_)
        ·
          refine sd_iconst (v := nI 0) dGS_canName_25 (by decide) ?_
          exact sd_zret dGS_canName_26 rfl (Or.inl rfl) (Nat.le_refl _) (Nat.le_refl _) ⟨by rw [hb0], rfl, rfl⟩
        ·
          refine sd_aload_n dGS_canName_11 rfl rfl ?_
          refine fx_getr 7 0 (tmo (r) + 1) dGS_canName_12 fGS_153 (dk_tm (by omega)) rfl ?_
          refine sd_aload_n dGS_canName_15 rfl rfl ?_
          refine fx_cV 7 sR_TM [] [.ref (o + (tmo (r) + 1))] dGS_canName_16 kGS_113 rfl (dk_tm (by omega)) mTM_right_v (c_TM_right hr sl t1) (by decide) (Nat.le_refl _) (Nat.le_refl _) (Nat.le_of_ble_eq_true rfl) rfl ?_
          refine fx_ialdv (v := (nI ((tl_at l (tl_end l 1)).1))) (tl_end l 1) dGS_canName_19 (dk_tm1 (by omega)) rfl (by omega) (by decide) (y1) ?_
          refine sd_bipush (v := nI 10) dGS_canName_20 (by decide) ?_
          refine nn_icmp_eq 27 dGS_canName_22 (by decide) (by omega) (by omega) (fun c22 => ?_) (fun c22 => ?_)
          ·
            refine sd_aload_n dGS_canName_27 rfl rfl ?_
            refine fx_getr 3 0 (1) dGS_canName_28 fGS_24 rfl rfl ?_
            refine fx_getr 8 0 (2) dGS_canName_31 fGS_156 rfl rfl ?_
            refine sd_iload_n dGS_canName_34 rfl rfl ?_
            refine fx_ialdv (v := (nI (t))) (v) dGS_canName_35 rfl rfl (by omega) (by decide) (hn) ?_
            refine sd_aload_n dGS_canName_36 rfl rfl ?_
            refine fx_getr 7 1 (tmo (r) + 2) dGS_canName_37 fGS_124 (dk_tm (by omega)) rfl ?_
            refine sd_iconst (v := nI 1) dGS_canName_40 (by decide) ?_
            refine fx_ialdv (v := (nI ((tl_at l 1).2))) (1) dGS_canName_41 (dk_tm2 (by omega)) rfl (by omega) (by decide) (x2) ?_
            refine sd_cS [.int (nI ((tl_at l 1).2))] [.int (nI (t))] dGS_canName_42 kGS_159 mTY_from_s (c_TY_from ok.1.2.1 (by omega) er) (by decide) (Nat.le_refl _) (Nat.le_refl _) (Nat.le_of_ble_eq_true rfl) rfl ?_
            refine nn_icmp_eq 50 dGS_canName_45 (by decide) (by omega) (by omega) (fun c45 => ?_) (fun c45 => ?_)
            ·
              refine sd_aload_n dGS_canName_50 rfl rfl ?_
              refine sd_iload_n dGS_canName_51 rfl rfl ?_
              refine fx_cV 7 sR_TM [.int (nI (v))] [] dGS_canName_52 kGS_165 rfl (dk_tm (by omega)) mTM_hasName_v (cN) (by decide) (Nat.le_refl _) (Nat.le_refl _) (Nat.le_of_ble_eq_true rfl) rfl ?_
              refine nn_if_ne 74 dGS_canName_55 (by decide) (by omega) (fun c55 => ?_) (fun c55 => ?_)
              ·
                refine sd_iconst (v := nI 0) dGS_canName_74 (by decide) ?_
                exact sd_zret dGS_canName_75 rfl (Or.inl rfl) (Nat.le_refl _) (Nat.le_refl _) ⟨by rw [hb0], rfl, rfl⟩
              ·
                refine sd_aload_n dGS_canName_58 rfl rfl ?_
                refine fx_getr 3 0 (1) dGS_canName_59 fGS_24 rfl rfl ?_
                refine sd_iload_n dGS_canName_62 rfl rfl ?_
                refine sd_aload_n dGS_canName_63 rfl rfl ?_
                refine fx_cV 8 sR_TS [.int (nI (v)), .ref (o + (s))] [] dGS_canName_64 kGS_168 rfl rfl mTS_inHypotheses_v (cH) (by decide) (Nat.le_refl _) (Nat.le_refl _) (Nat.le_of_ble_eq_true rfl) rfl ?_
                refine nn_if_ne 74 dGS_canName_67 (by decide) (by decide) (fun _ => ?_) (fun c => absurd c (by decide))
                refine sd_iconst (v := nI 0) dGS_canName_74 (by decide) ?_
                exact sd_zret dGS_canName_75 rfl (Or.inl rfl) (Nat.le_refl _) (Nat.le_refl _) ⟨by rw [hb0], rfl, rfl⟩
            ·
              refine sd_iconst (v := nI 0) dGS_canName_48 (by decide) ?_
              exact sd_zret dGS_canName_49 rfl (Or.inl rfl) (Nat.le_refl _) (Nat.le_refl _) ⟨by rw [hb0], rfl, rfl⟩
          ·
            refine sd_iconst (v := nI 0) dGS_canName_25 (by decide) ?_
            exact sd_zret dGS_canName_26 rfl (Or.inl rfl) (Nat.le_refl _) (Nat.le_refl _) ⟨by rw [hb0], rfl, rfl⟩
      · have cH := c_TS_inHypotheses (G := G) (o := o) (h0 := h0) (nx := nx) (b := 0) hso_s hT hL hLT hv (by omega) ⟨fun e => absurd e (by decide), fun e => absurd e k4⟩
        have hb' : b = 1 ↔ ty_from (tl_at l 1).2 = t ∧ ¬ u = 1 := hb.trans ⟨fun z => ⟨z.2.2.1, fun e => z.2.2.2.1 (u2.mp e)⟩, fun z => ⟨k1, k2, z.1, fun e => z.2 (u2.mpr e), k4⟩⟩
        refine sd_aload_n dGS_canName_0 rfl rfl ?_
        refine fx_getr 7 0 (tmo (r) + 1) dGS_canName_1 fGS_153 (dk_tm (by omega)) rfl ?_
        refine sd_iconst (v := nI 1) dGS_canName_4 (by decide) ?_
        refine fx_ialdv (v := (nI ((tl_at l 1).1))) (1) dGS_canName_5 (dk_tm1 (by omega)) rfl (by omega) (by decide) (x1) ?_
        refine sd_bipush (v := nI 10) dGS_canName_6 (by decide) ?_
        refine nn_icmp_ne 25 dGS_canName_8 (by decide) (by omega) (by omega) (fun c8 => ?_) (fun c8 => ?_)
        ·
          exact absurd k1 c8
        ·
          refine sd_aload_n dGS_canName_11 rfl rfl ?_
          refine fx_getr 7 0 (tmo (r) + 1) dGS_canName_12 fGS_153 (dk_tm (by omega)) rfl ?_
          refine sd_aload_n dGS_canName_15 rfl rfl ?_
          refine fx_cV 7 sR_TM [] [.ref (o + (tmo (r) + 1))] dGS_canName_16 kGS_113 rfl (dk_tm (by omega)) mTM_right_v (c_TM_right hr sl t1) (by decide) (Nat.le_refl _) (Nat.le_refl _) (Nat.le_of_ble_eq_true rfl) rfl ?_
          refine fx_ialdv (v := (nI ((tl_at l (tl_end l 1)).1))) (tl_end l 1) dGS_canName_19 (dk_tm1 (by omega)) rfl (by omega) (by decide) (y1) ?_
          refine sd_bipush (v := nI 10) dGS_canName_20 (by decide) ?_
          refine nn_icmp_eq 27 dGS_canName_22 (by decide) (by omega) (by omega) (fun c22 => ?_) (fun c22 => ?_)
          ·
            refine sd_aload_n dGS_canName_27 rfl rfl ?_
            refine fx_getr 3 0 (1) dGS_canName_28 fGS_24 rfl rfl ?_
            refine fx_getr 8 0 (2) dGS_canName_31 fGS_156 rfl rfl ?_
            refine sd_iload_n dGS_canName_34 rfl rfl ?_
            refine fx_ialdv (v := (nI (t))) (v) dGS_canName_35 rfl rfl (by omega) (by decide) (hn) ?_
            refine sd_aload_n dGS_canName_36 rfl rfl ?_
            refine fx_getr 7 1 (tmo (r) + 2) dGS_canName_37 fGS_124 (dk_tm (by omega)) rfl ?_
            refine sd_iconst (v := nI 1) dGS_canName_40 (by decide) ?_
            refine fx_ialdv (v := (nI ((tl_at l 1).2))) (1) dGS_canName_41 (dk_tm2 (by omega)) rfl (by omega) (by decide) (x2) ?_
            refine sd_cS [.int (nI ((tl_at l 1).2))] [.int (nI (t))] dGS_canName_42 kGS_159 mTY_from_s (c_TY_from ok.1.2.1 (by omega) er) (by decide) (Nat.le_refl _) (Nat.le_refl _) (Nat.le_of_ble_eq_true rfl) rfl ?_
            refine nn_icmp_eq 50 dGS_canName_45 (by decide) (by omega) (by omega) (fun c45 => ?_) (fun c45 => ?_)
            ·
              refine sd_aload_n dGS_canName_50 rfl rfl ?_
              refine sd_iload_n dGS_canName_51 rfl rfl ?_
              refine fx_cV 7 sR_TM [.int (nI (v))] [] dGS_canName_52 kGS_165 rfl (dk_tm (by omega)) mTM_hasName_v (cN) (by decide) (Nat.le_refl _) (Nat.le_refl _) (Nat.le_of_ble_eq_true rfl) rfl ?_
              refine nn_if_ne 74 dGS_canName_55 (by decide) (by omega) (fun c55 => ?_) (fun c55 => ?_)
              ·
                refine sd_iconst (v := nI 0) dGS_canName_74 (by decide) ?_
                exact sd_zret dGS_canName_75 rfl (nn_01 (by omega)) (Nat.le_refl _) (Nat.le_refl _) ⟨by rw [show b = (0) by omega], rfl, rfl⟩
              ·
                refine sd_aload_n dGS_canName_58 rfl rfl ?_
                refine fx_getr 3 0 (1) dGS_canName_59 fGS_24 rfl rfl ?_
                refine sd_iload_n dGS_canName_62 rfl rfl ?_
                refine sd_aload_n dGS_canName_63 rfl rfl ?_
                refine fx_cV 8 sR_TS [.int (nI (v)), .ref (o + (s))] [] dGS_canName_64 kGS_168 rfl rfl mTS_inHypotheses_v (cH) (by decide) (Nat.le_refl _) (Nat.le_refl _) (Nat.le_of_ble_eq_true rfl) rfl ?_
                refine nn_if_ne 74 dGS_canName_67 (by decide) (by decide) (fun c => absurd c (by decide)) (fun _ => ?_)
                refine sd_iconst (v := nI 1) dGS_canName_70 (by decide) ?_
                refine sd_goto 75 dGS_canName_71 (by decide) ?_
                exact sd_zret dGS_canName_75 rfl (nn_01 (by omega)) (Nat.le_refl _) (Nat.le_refl _) ⟨by rw [show b = (1) by omega], rfl, rfl⟩
            ·
              refine sd_iconst (v := nI 0) dGS_canName_48 (by decide) ?_
              exact sd_zret dGS_canName_49 rfl (nn_01 (by omega)) (Nat.le_refl _) (Nat.le_refl _) ⟨by rw [show b = (0) by omega], rfl, rfl⟩
          ·
            exact absurd k2 c22
    · have hb0 : b = 0 := by
        have : ¬ b = 1 := fun z => k2 (hb.mp z).2.1
        omega
      refine sd_aload_n dGS_canName_0 rfl rfl ?_
      refine fx_getr 7 0 (tmo (r) + 1) dGS_canName_1 fGS_153 (dk_tm (by omega)) rfl ?_
      refine sd_iconst (v := nI 1) dGS_canName_4 (by decide) ?_
      refine fx_ialdv (v := (nI ((tl_at l 1).1))) (1) dGS_canName_5 (dk_tm1 (by omega)) rfl (by omega) (by decide) (x1) ?_
      refine sd_bipush (v := nI 10) dGS_canName_6 (by decide) ?_
      refine nn_icmp_ne 25 dGS_canName_8 (by decide) (by omega) (by omega) (fun c8 => ?_) (fun c8 => ?_)
      ·
        refine sd_iconst (v := nI 0) dGS_canName_25 (by decide) ?_
        exact sd_zret dGS_canName_26 rfl (Or.inl rfl) (Nat.le_refl _) (Nat.le_refl _) ⟨by rw [hb0], rfl, rfl⟩
      ·
        refine sd_aload_n dGS_canName_11 rfl rfl ?_
        refine fx_getr 7 0 (tmo (r) + 1) dGS_canName_12 fGS_153 (dk_tm (by omega)) rfl ?_
        refine sd_aload_n dGS_canName_15 rfl rfl ?_
        refine fx_cV 7 sR_TM [] [.ref (o + (tmo (r) + 1))] dGS_canName_16 kGS_113 rfl (dk_tm (by omega)) mTM_right_v (c_TM_right hr sl t1) (by decide) (Nat.le_refl _) (Nat.le_refl _) (Nat.le_of_ble_eq_true rfl) rfl ?_
        refine fx_ialdv (v := (nI ((tl_at l (tl_end l 1)).1))) (tl_end l 1) dGS_canName_19 (dk_tm1 (by omega)) rfl (by omega) (by decide) (y1) ?_
        refine sd_bipush (v := nI 10) dGS_canName_20 (by decide) ?_
        refine nn_icmp_eq 27 dGS_canName_22 (by decide) (by omega) (by omega) (fun c22 => ?_) (fun c22 => ?_)
        ·
          exact absurd c22 k2
        ·
          refine sd_iconst (v := nI 0) dGS_canName_25 (by decide) ?_
          exact sd_zret dGS_canName_26 rfl (Or.inl rfl) (Nat.le_refl _) (Nat.le_refl _) ⟨by rw [hb0], rfl, rfl⟩
  · have hb0 : b = 0 := by
      have : ¬ b = 1 := fun z => k1 (hb.mp z).1
      omega
    refine sd_aload_n dGS_canName_0 rfl rfl ?_
    refine fx_getr 7 0 (tmo (r) + 1) dGS_canName_1 fGS_153 (dk_tm (by omega)) rfl ?_
    refine sd_iconst (v := nI 1) dGS_canName_4 (by decide) ?_
    refine fx_ialdv (v := (nI ((tl_at l 1).1))) (1) dGS_canName_5 (dk_tm1 (by omega)) rfl (by omega) (by decide) (x1) ?_
    refine sd_bipush (v := nI 10) dGS_canName_6 (by decide) ?_
    refine nn_icmp_ne 25 dGS_canName_8 (by decide) (by omega) (by omega) (fun c8 => ?_) (fun c8 => ?_)
    ·
      refine sd_iconst (v := nI 0) dGS_canName_25 (by decide) ?_
      exact sd_zret dGS_canName_26 rfl (Or.inl rfl) (Nat.le_refl _) (Nat.le_refl _) ⟨by rw [hb0], rfl, rfl⟩
    ·
      exact absurd c8 k1
theorem dGS_isReduced_0 : decode prog_4_method_10_code 0 = .ok (.aload_n 0, 1) := by decide +kernel
theorem dGS_isReduced_1 : decode prog_4_method_10_code 1 = .ok (.getfield 24, 3) := by decide +kernel
theorem dGS_isReduced_4 : decode prog_4_method_10_code 4 = .ok (.invokevirtual 172, 3) := by decide +kernel
theorem dGS_isReduced_7 : decode prog_4_method_10_code 7 = .ok (.astore_n 2, 1) := by decide +kernel
theorem dGS_isReduced_8 : decode prog_4_method_10_code 8 = .ok (.aload_n 2, 1) := by decide +kernel
theorem dGS_isReduced_9 : decode prog_4_method_10_code 9 = .ok (.aload_n 1, 1) := by decide +kernel
theorem dGS_isReduced_10 : decode prog_4_method_10_code 10 = .ok (.iconst 3, 1) := by decide +kernel
theorem dGS_isReduced_11 : decode prog_4_method_10_code 11 = .ok (.aload_n 1, 1) := by decide +kernel
theorem dGS_isReduced_12 : decode prog_4_method_10_code 12 = .ok (.aload_n 1, 1) := by decide +kernel
theorem dGS_isReduced_13 : decode prog_4_method_10_code 13 = .ok (.getfield 176, 3) := by decide +kernel
theorem dGS_isReduced_16 : decode prog_4_method_10_code 16 = .ok (.iconst 2, 1) := by decide +kernel
theorem dGS_isReduced_17 : decode prog_4_method_10_code 17 = .ok (.iaload, 1) := by decide +kernel
theorem dGS_isReduced_18 : decode prog_4_method_10_code 18 = .ok (.invokevirtual 179, 3) := by decide +kernel
theorem dGS_isReduced_21 : decode prog_4_method_10_code 21 = .ok (.aload_n 2, 1) := by decide +kernel
theorem dGS_isReduced_22 : decode prog_4_method_10_code 22 = .ok (.getfield 183, 3) := by decide +kernel
theorem dGS_isReduced_25 : decode prog_4_method_10_code 25 = .ok (.ifCond .eq (5), 3) := by decide +kernel
theorem dGS_isReduced_28 : decode prog_4_method_10_code 28 = .ok (.iconst 0, 1) := by decide +kernel
theorem dGS_isReduced_29 : decode prog_4_method_10_code 29 = .ok (.ireturn, 1) := by decide +kernel
theorem dGS_isReduced_30 : decode prog_4_method_10_code 30 = .ok (.aload_n 2, 1) := by decide +kernel
theorem dGS_isReduced_31 : decode prog_4_method_10_code 31 = .ok (.invokevirtual 187, 3) := by decide +kernel
theorem dGS_isReduced_34 : decode prog_4_method_10_code 34 = .ok (.aload_n 2, 1) := by decide +kernel
theorem dGS_isReduced_35 : decode prog_4_method_10_code 35 = .ok (.iconst 0, 1) := by decide +kernel
theorem dGS_isReduced_36 : decode prog_4_method_10_code 36 = .ok (.aload_n 1, 1) := by decide +kernel
theorem dGS_isReduced_37 : decode prog_4_method_10_code 37 = .ok (.aload_n 1, 1) := by decide +kernel
theorem dGS_isReduced_38 : decode prog_4_method_10_code 38 = .ok (.invokevirtual 113, 3) := by decide +kernel
theorem dGS_isReduced_41 : decode prog_4_method_10_code 41 = .ok (.invokestatic 117, 3) := by decide +kernel
theorem dGS_isReduced_44 : decode prog_4_method_10_code 44 = .ok (.ireturn, 1) := by decide +kernel
theorem c_GS_isReduced {G : sd_G} {o : Nat} {D : fx_D} {h0 : sd_H} {nx r n b : Nat} {l : tl_T} (hB : G.2.1 ≤ o) (hn : n ≤ 71) (hm : D.2.1 1 2 = nI n) (hr : r < 73) (hrn : r ≠ n + 1) (hl : tm_row D r l) (sl : tm_set D r l) (wl : tl_wf l) (h9 : (tl_at l 0).1 = 9) (hbt : tl_isB l 1 = true) (hb2 : b < 2) (hb : b = 1 ↔ tl_part l (tl_end l 1) = tl_beta l 1) : sd_Ct G mGS_isReduced 2 0 0 [.ref (o + 432), .ref (o + tmo r)] (fx_h G.1.2 dk_S o D h0) nx (fx_is G.1.2 dk_S o h0 nx (some (.int (nI b))) (tm_f (n + 1) D)) := by
  refine sd_Ct_of (by decide) (Nat.le_of_ble_eq_true rfl) ?_
  have hb' := tl_isB_iff.mp hbt
  obtain ⟨t1, t2, -⟩ := wl.two (by rw [h9]; rfl)
  obtain ⟨u1, u2, -⟩ := tl_two_at (tl_ok_drop l 1 1 wl.1 wl.2.1 t1) t1 (by rw [hb'.1]; rfl)
  obtain ⟨t3, t4⟩ := (tl_end_ar (tl_ok_drop _ 1 2 wl.1 wl.2.1 u1) u1).2.1 (by rw [hb'.2]; rfl)
  have e : tl_sub (tl_of l 3 (.inl (tl_part l (tl_end l 2)))) l 3 (tl_end l 3 - 3) = tl_beta l 1 := by
    show _ = tl_sub (tl_of l 3 _) l 3 (tl_end l 2 - 3)
    rw [t4]
  have cp := cp_beta wl t1 hbt
  have ple : (tl_part l (tl_end l 1)).length ≤ 24 := (tl_part_wf wl t2).2.2
  by_cases h24 : (tl_beta l 1).length ≤ 24
  · have hpos : 0 < (tl_beta l 1).length := by
      obtain ⟨x, r, e⟩ := tl_cp_pos cp
      rw [e]
      simp
    have hok : ∀ j, j < (tl_beta l 1).length → tl_ok 1 ((tl_beta l 1).drop j) := fun j hj => tl_ok_drop _ 1 j cp.1 cp.2 hj
    refine sd_aload_n dGS_isReduced_0 rfl rfl ?_
    refine fx_getr 3 0 (1) dGS_isReduced_1 fGS_24 rfl rfl ?_
    refine fx_cP 8 sR_TS [] [] dGS_isReduced_4 kGS_172 rfl rfl mTS_fresh_v (c_TS_fresh hB hn hm) (by decide) (Nat.le_refl _) (Nat.le_refl _) (Nat.le_of_ble_eq_true rfl) rfl (fun D1 h1 => ?_)
    refine sd_astore_n dGS_isReduced_7 rfl (by decide) ?_
    refine sd_aload_n dGS_isReduced_8 rfl rfl ?_
    refine sd_aload_n dGS_isReduced_9 rfl rfl ?_
    refine sd_iconst (v := nI 3) dGS_isReduced_10 (by decide) ?_
    refine sd_aload_n dGS_isReduced_11 rfl rfl ?_
    refine sd_aload_n dGS_isReduced_12 rfl rfl ?_
    refine fx_getr 7 2 (tmo (r) + 3) dGS_isReduced_13 fGS_176 (dk_tm (by omega)) rfl ?_
    refine sd_iconst (v := nI 2) dGS_isReduced_16 (by decide) ?_
    refine fx_ialdv (v := (nI (tl_end l 2))) (2) dGS_isReduced_17 (dk_tm3 (by omega)) rfl (by omega) (by decide) ((tm_set_f h1.2 hrn sl) 2 u1) ?_
    refine fx_cP 7 sR_TM [.ref (o + (tmo (r))), .int (nI (3)), .ref (o + (tmo (r))), .int (nI (tl_end l 2))] [] dGS_isReduced_18 kGS_179 rfl (dk_tm (by omega)) mTM_addFilled_v (c_TM_addFilled (i := 3) (j := tl_end l 2) hB (by omega) hr hr hrn hrn h1.1 (tm_row_f h1.2 hrn hl) (tm_set_f h1.2 hrn sl) t3 (tm_row_f h1.2 hrn hl) (tm_set_f h1.2 hrn sl) u2) (by decide) (Nat.le_refl _) (Nat.le_refl _) (Nat.le_of_ble_eq_true rfl) rfl (fun D2 h2 => ?_)
    have hw : tw D2 (n + 1) (tl_beta l 1) := by have z := h2.1; rw [e] at z; exact z
    have hrow := tw_row hw h24
    have hf2 := h1.2.tr h2.2
    have hbg : D2.2.1 (tmo (n + 1)) 4 = nI 0 := by
      rcases hw with ⟨-, -, q⟩ | ⟨q, -⟩
      · exact q
      · omega
    refine sd_aload_n dGS_isReduced_21 rfl rfl ?_
    refine fx_getiv (v := (nI (0))) 7 4 dGS_isReduced_22 fGS_183 (dk_tm (by omega)) rfl (hbg) ?_
    refine nn_if_eq 30 dGS_isReduced_25 (by decide) (by decide) (fun _ => ?_) (fun c => absurd c (by decide))
    refine sd_aload_n dGS_isReduced_30 rfl rfl ?_
    refine fx_cP 7 sR_TM [] [] dGS_isReduced_31 kGS_187 rfl (dk_tm (by omega)) mTM_settle_v (c_TM_settle hB (by omega) hrow hok) (by decide) (Nat.le_refl _) (Nat.le_refl _) (Nat.le_of_ble_eq_true rfl) rfl (fun D3 h3 => ?_)
    have hf3 : tm_f (n + 1) D D3 := hf2.tr (tm_f_s h3.2.1 h3.2.2)
    have hrow3 := tm_row_s h3.2.1 h3.2.2 hrow
    refine sd_aload_n dGS_isReduced_34 rfl rfl ?_
    refine sd_iconst (v := nI 0) dGS_isReduced_35 (by decide) ?_
    refine sd_aload_n dGS_isReduced_36 rfl rfl ?_
    refine sd_aload_n dGS_isReduced_37 rfl rfl ?_
    refine fx_cV 7 sR_TM [] [.ref (o + (tmo (r))), .int (nI (0)), .ref (o + (tmo ((n + 1))))] dGS_isReduced_38 kGS_113 rfl (dk_tm (by omega)) mTM_right_v (c_TM_right hr (tm_set_f hf3 hrn sl) t1) (by decide) (Nat.le_refl _) (Nat.le_refl _) (Nat.le_of_ble_eq_true rfl) rfl ?_
    refine sd_cS [.ref (o + (tmo ((n + 1)))), .int (nI (0)), .ref (o + (tmo (r))), .int (nI (tl_end l 1))] [] dGS_isReduced_41 kGS_117 mTM_alike_s (c_TM_alike (i := 0) (b := b) (by omega) hr hrow3 (tm_row_f hf3 hrn hl) h3.1 (tm_set_f hf3 hrn sl) hpos t2 hb2 (by rw [tl_cp_part cp]; exact hb.trans eq_comm)) (by decide) (Nat.le_refl _) (Nat.le_refl _) (Nat.le_of_ble_eq_true rfl) rfl ?_
    exact sd_zret dGS_isReduced_44 rfl (nn_01 (by omega)) (Nat.le_refl _) (Nat.le_refl _) ⟨rfl, rfl, _, rfl, hf3⟩
  · have hb0 : b = 0 := by
      have : ¬ b = 1 := fun z => h24 (by rw [← hb.mp z]; exact ple)
      omega
    refine sd_aload_n dGS_isReduced_0 rfl rfl ?_
    refine fx_getr 3 0 (1) dGS_isReduced_1 fGS_24 rfl rfl ?_
    refine fx_cP 8 sR_TS [] [] dGS_isReduced_4 kGS_172 rfl rfl mTS_fresh_v (c_TS_fresh hB hn hm) (by decide) (Nat.le_refl _) (Nat.le_refl _) (Nat.le_of_ble_eq_true rfl) rfl (fun D1 h1 => ?_)
    refine sd_astore_n dGS_isReduced_7 rfl (by decide) ?_
    refine sd_aload_n dGS_isReduced_8 rfl rfl ?_
    refine sd_aload_n dGS_isReduced_9 rfl rfl ?_
    refine sd_iconst (v := nI 3) dGS_isReduced_10 (by decide) ?_
    refine sd_aload_n dGS_isReduced_11 rfl rfl ?_
    refine sd_aload_n dGS_isReduced_12 rfl rfl ?_
    refine fx_getr 7 2 (tmo (r) + 3) dGS_isReduced_13 fGS_176 (dk_tm (by omega)) rfl ?_
    refine sd_iconst (v := nI 2) dGS_isReduced_16 (by decide) ?_
    refine fx_ialdv (v := (nI (tl_end l 2))) (2) dGS_isReduced_17 (dk_tm3 (by omega)) rfl (by omega) (by decide) ((tm_set_f h1.2 hrn sl) 2 u1) ?_
    refine fx_cP 7 sR_TM [.ref (o + (tmo (r))), .int (nI (3)), .ref (o + (tmo (r))), .int (nI (tl_end l 2))] [] dGS_isReduced_18 kGS_179 rfl (dk_tm (by omega)) mTM_addFilled_v (c_TM_addFilled (i := 3) (j := tl_end l 2) hB (by omega) hr hr hrn hrn h1.1 (tm_row_f h1.2 hrn hl) (tm_set_f h1.2 hrn sl) t3 (tm_row_f h1.2 hrn hl) (tm_set_f h1.2 hrn sl) u2) (by decide) (Nat.le_refl _) (Nat.le_refl _) (Nat.le_of_ble_eq_true rfl) rfl (fun D2 h2 => ?_)
    have hw : tw D2 (n + 1) (tl_beta l 1) := by have z := h2.1; rw [e] at z; exact z
    refine sd_aload_n dGS_isReduced_21 rfl rfl ?_
    refine fx_getiv (v := (nI (1))) 7 4 dGS_isReduced_22 fGS_183 (dk_tm (by omega)) rfl ((tw_big hw (by omega))) ?_
    refine nn_if_eq 30 dGS_isReduced_25 (by decide) (by decide) (fun c => absurd c (by decide)) (fun _ => ?_)
    refine sd_iconst (v := nI 0) dGS_isReduced_28 (by decide) ?_
    exact sd_zret dGS_isReduced_29 rfl (Or.inl rfl) (Nat.le_refl _) (Nat.le_refl _) ⟨by rw [hb0], rfl, _, rfl, h1.2.tr h2.2⟩
