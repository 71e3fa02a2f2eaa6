/-! ===== the law: its loop, its start ===== -/
theorem la_31 (x : Int32) : ∃ n, n < 32 ∧ x &&& 31 = nI n := by
  refine ⟨(x.toBitVec &&& 31#32).toNat, ?_, ?_⟩
  · rw [BitVec.toNat_and]
    exact Nat.lt_of_le_of_lt Nat.and_le_right (by decide)
  · apply nn_inj
    rw [Int32.toBitVec_and, nn_tb, BitVec.ofNat_toNat, BitVec.setWidth_eq]
    rfl
theorem la_big : ∀ n, n < 32 → 16 < n → (16 : Int) < (nI n).toInt := by decide
theorem la_step {G : sd_G} {o nx k n i : Nat} {Q : sd_Q} {S : st_S} {D Dm : fx_D} (hB : G.2.1 ≤ o) (hL : G.2.2.2.2.1 ≤ 2560) (hi : i + 5 ≤ G.2.2.2.2.1) (hk : k ≤ 600000) (hn : n ≤ 7302250) (hR : dk_R S D) (hM : mo_R S Dm) (hI : st_inv S) (kk : la_K G o nx k n i Q) : sd_W G mLA 40 600000 7302250 Q 26 [(3, .int (nI i)), (2, .ref (o + 532 + 0)), (1, .ref (o + 0)), (0, .ref G.2.2.2.1)] [] (fx_h G.1.2 dk_S o D (fx_h G.1.2 mo_S (o + 532) Dm (fun _ => none))) nx k n := by
  refine sd_aload_n (M := mLA) dLA_26 rfl rfl ?_
  refine sd_iload_n (M := mLA) dLA_27 rfl rfl ?_
  refine sd_sld (M := mLA) dLA_28 (vp_in_nI (by omega) (by omega)) ?_
  refine sd_bipush (M := mLA) (v := 31) dLA_29 (by decide) ?_
  refine sd_iand (M := mLA) dLA_31 ?_
  obtain ⟨t, ht, e⟩ := la_31 (G.2.2.2.2.2 (nI i).toNatClampNeg)
  rw [e]
  clear e
  match t, ht with
  | 0, _ => exact sd_tableIn (M := mLA) (off := 84) 116 dLA_32 (by decide) (by decide) (by decide) (by decide) (la_function hB hL hi hk hn hR hM hI kk)
  | 1, _ => exact sd_tableIn (M := mLA) (off := 117) 149 dLA_32 (by decide) (by decide) (by decide) (by decide) (la_declare hB hL hi hk hn hR hM hI kk)
  | 2, _ => exact sd_tableIn (M := mLA) (off := 150) 182 dLA_32 (by decide) (by decide) (by decide) (by decide) (la_token hB hL hi hk hn hR hM hI kk)
  | 3, _ => exact sd_tableIn (M := mLA) (off := 173) 205 dLA_32 (by decide) (by decide) (by decide) (by decide) (la_clear hB hL hi hk hn hR hM hI kk)
  | 4, _ => exact sd_tableIn (M := mLA) (off := 186) 218 dLA_32 (by decide) (by decide) (by decide) (by decide) (la_read hB hL hi hk hn hR hM hI kk)
  | 5, _ => exact sd_tableIn (M := mLA) (off := 199) 231 dLA_32 (by decide) (by decide) (by decide) (by decide) (la_term hB hL hi hk hn hR hM hI kk)
  | 6, _ => exact sd_tableIn (M := mLA) (off := 232) 264 dLA_32 (by decide) (by decide) (by decide) (by decide) (la_symbol hB hL hi hk hn hR hM hI kk)
  | 7, _ => exact sd_tableIn (M := mLA) (off := 275) 307 dLA_32 (by decide) (by decide) (by decide) (by decide) (la_rule hB hL hi hk hn hR hM hI kk)
  | 8, _ => exact sd_tableIn (M := mLA) (off := 328) 360 dLA_32 (by decide) (by decide) (by decide) (by decide) (la_theorem hB hL hi hk hn hR hM hI kk)
  | 9, _ => exact sd_tableIn (M := mLA) (off := 361) 393 dLA_32 (by decide) (by decide) (by decide) (by decide) (la_hypothesis hB hL hi hk hn hR hM hI kk)
  | 10, _ => exact sd_tableIn (M := mLA) (off := 394) 426 dLA_32 (by decide) (by decide) (by decide) (by decide) (la_goal hB hL hi hk hn hR hM hI kk)
  | 11, _ => exact sd_tableIn (M := mLA) (off := 417) 449 dLA_32 (by decide) (by decide) (by decide) (by decide) (la_tactic hB hL hi hk hn hR hM hI kk)
  | 12, _ => exact sd_tableIn (M := mLA) (off := 450) 482 dLA_32 (by decide) (by decide) (by decide) (by decide) (la_undo hB hL hi hk hn hR hM hI kk)
  | 13, _ => exact sd_tableIn (M := mLA) (off := 463) 495 dLA_32 (by decide) (by decide) (by decide) (by decide) (la_repeat hB hL hi hk hn hR hM hI kk)
  | 14, _ => exact sd_tableIn (M := mLA) (off := 486) 518 dLA_32 (by decide) (by decide) (by decide) (by decide) (la_open hB hL hi hk hn hR hM hI kk)
  | 15, _ => exact sd_tableIn (M := mLA) (off := 519) 551 dLA_32 (by decide) (by decide) (by decide) (by decide) (la_close hB hL hi hk hn hR hM hI kk)
  | 16, _ => exact sd_tableIn (M := mLA) (off := 532) 564 dLA_32 (by decide) (by decide) (by decide) (by decide) (la_count hB hL hi hk hn hR hM hI kk)
  | t + 17, ht => exact sd_tableOut (M := mLA) 587 dLA_32 (Or.inr (la_big _ ht (by omega))) (by decide) (kk S D Dm hR hM hI)
theorem la_loop {G : sd_G} {o nx k n : Nat} {Q : sd_Q} (hB : G.2.1 ≤ o) (hL : G.2.2.2.2.1 ≤ 2560) (hk : k ≤ 600000) (hn : n ≤ 7302250) (hQ : ∀ h', Q (some (.int 1)) h' nx) : ∀ (m i : Nat) (S : st_S) (D Dm : fx_D), G.2.2.2.2.1 ≤ i + 5 * m → i ≤ 2565 → dk_R S D → mo_R S Dm → st_inv S → sd_W G mLA 40 600000 7302250 Q 18 [(3, .int (nI i)), (2, .ref (o + 532 + 0)), (1, .ref (o + 0)), (0, .ref G.2.2.2.1)] [] (fx_h G.1.2 dk_S o D (fx_h G.1.2 mo_S (o + 532) Dm (fun _ => none))) nx k n
  | m, i, S, D, Dm, hm, hi, hR, hM, hI => by
    refine sd_iload_n (M := mLA) dLA_18 rfl rfl ?_
    refine sd_aload_n (M := mLA) dLA_19 rfl rfl ?_
    refine sd_slen (M := mLA) dLA_20 ?_
    refine sd_iconst (M := mLA) (v := nI 5) dLA_21 (by decide) ?_
    refine sd_isub (M := mLA) dLA_22 ?_
    refine sd_icmp_gt (M := mLA) 593 dLA_23 (by decide) (fun _ => ?_) (fun w => ?_)
    · refine sd_iconst (M := mLA) (v := 1) dLA_593 (by decide) ?_
      exact sd_zret (M := mLA) dLA_594 rfl (Or.inr rfl) hk hn (hQ _)
    · rw [Int32.lt_iff_toInt_lt, pk_sub_toInt (by omega) (by omega), nI_toInt (by omega)] at w
      have h5 : i + 5 ≤ G.2.2.2.2.1 := by omega
      refine la_step hB hL h5 hk hn hR hM hI ?_
      intro S' D' Dm' hR' hM' hI'
      refine nn_iinc (M := mLA) 5 dLA_587 rfl (by decide) ?_
      refine sd_goto (M := mLA) 18 dLA_590 (by decide) ?_
      match m, hm with
      | 0, hm => exact absurd hm (by omega)
      | m + 1, hm => exact la_loop hB hL hk hn hQ m (i + 5) S' D' Dm' (by omega) (by omega) hR' hM' hI'
theorem la_start {G : sd_G} {o : Nat} {Q : sd_Q} (hB : G.2.1 ≤ o) (hL : G.2.2.2.2.1 ≤ 2560) (hQ : ∀ h', Q (some (.int 1)) h' (o + 532 + 30)) : sd_W G mLA 40 600000 7302250 Q 0 [(0, .ref G.2.2.2.1)] [] (fun _ => none) o 0 0 := by
  refine sd_newo (M := mLA) 0 sR_DK dLA_0 rfl CLA_7 fr_DK_ok (by decide) (by decide) ?_
  refine sd_dup (M := mLA) dLA_3 rfl ?_
  refine sd_callI (M := mLA) [] [.ref (o + 0)] dLA_4 kLA_9 ⟨rfl, rfl⟩ mDK_init_i (c_DK_init hB sd_up_s) (by decide) (by decide) (by decide) (Nat.le_of_ble_eq_true rfl) rfl ?_
  intro r h' nx' hq
  obtain ⟨rfl, rfl, rfl⟩ := hq
  refine sd_eq (h' := fx_h G.1.2 dk_S o (zD 2 (F5_ 8)) (fun _ => none)) rfl rfl rfl (pf_fx (by decide) (fun _ _ => Or.inr rfl) (fun _ hx => dk_out hx)) rfl rfl rfl ?_
  refine sd_astore_n (M := mLA) dLA_7 rfl (by decide) ?_
  refine sd_newo (M := mLA) 10 sR_MO dLA_8 rfl CLA_10 fr_MO_ok (by decide) (by decide) ?_
  refine sd_dup (M := mLA) dLA_11 rfl ?_
  refine sd_callI (M := mLA) [] [.ref (o + 532 + 0)] dLA_12 kLA_12 ⟨rfl, rfl⟩ mMO_init_i (c_MO_init (o := o + 532) (by omega) sd_up_s) (by decide) (by decide) (by decide) (Nat.le_of_ble_eq_true rfl) rfl ?_
  intro r h' nx' hq
  obtain ⟨rfl, rfl, rfl⟩ := hq
  refine sd_eq (h' := (fx_h G.1.2 dk_S o (zD 2 (F5_ 8)) (fx_h G.1.2 mo_S (o + 532) (zD 4 (F5_ 8)) (fun _ => none)))) rfl rfl rfl ((pf_fx (by decide) (fun _ hx => Or.inl (mo_got hx)) (fun _ hx => mo_out hx)).trans la_sw.symm) rfl rfl rfl ?_
  refine sd_astore_n (M := mLA) dLA_15 rfl (by decide) ?_
  refine sd_iconst (M := mLA) (v := nI 0) dLA_16 (by decide) ?_
  refine sd_istore_n (M := mLA) dLA_17 rfl (by decide) ?_
  exact la_loop hB hL (by decide) (by decide) hQ 512 0 st_0 _ _ (by omega) (by decide) dk_R0 mo_R0 inv_0
