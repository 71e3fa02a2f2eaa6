/-! ===== Long.bitCount; the desk's theorem ===== -/
theorem bc_and {x y m n : Nat} (hx : x < 256) (hm : m < 256) : (x + 256 * y) &&& (m + 256 * n) = (x &&& m) + 256 * (y &&& n) := by
  have h1 : ((x + 256 * y) &&& (m + 256 * n)) % 2 ^ 8 = x &&& m := by
    rw [Nat.and_mod_two_pow]
    rw [show (x + 256 * y) % 2 ^ 8 = x by omega, show (m + 256 * n) % 2 ^ 8 = m by omega]
  have h2 : ((x + 256 * y) &&& (m + 256 * n)) / 2 ^ 8 = y &&& n := by
    rw [Nat.and_div_two_pow]
    rw [show (x + 256 * y) / 2 ^ 8 = y by omega, show (m + 256 * n) / 2 ^ 8 = n by omega]
  omega
def bc_M1 : Nat → Nat
  | 0 => 0
  | n + 1 => 85 + 256 * bc_M1 n
def bc_M2 : Nat → Nat
  | 0 => 0
  | n + 1 => 51 + 256 * bc_M2 n
def bc_M4 : Nat → Nat
  | 0 => 0
  | n + 1 => 15 + 256 * bc_M4 n
theorem bc_b1 : ∀ b, b < 128 → ∀ r, r < 2 → (b + 128 * r) &&& 85 = b &&& 85 := by decide +kernel
theorem bc_b2 : ∀ b, b < 64 → ∀ r, r < 4 → (b + 64 * r) &&& 51 = b &&& 51 := by decide +kernel
theorem bc_b1le : ∀ b, b < 256 → (b / 2) &&& 85 ≤ b := by decide +kernel
theorem bc_F1 (n : Nat) {b q : Nat} (hb : b < 256) : ((b + 256 * q) / 2) &&& bc_M1 (n + 1) = ((b / 2) &&& 85) + 256 * ((q / 2) &&& bc_M1 n) := by
  rw [bc_M1, show (b + 256 * q) / 2 = (b / 2 + 128 * (q % 2)) + 256 * (q / 2) by omega, bc_and (by omega) (by omega), bc_b1 _ (by omega) _ (by omega)]
theorem bc_F2 (n : Nat) {c q : Nat} (hc : c < 256) : ((c + 256 * q) &&& bc_M2 (n + 1)) + (((c + 256 * q) / 4) &&& bc_M2 (n + 1)) = ((c &&& 51) + ((c / 4) &&& 51)) + 256 * ((q &&& bc_M2 n) + ((q / 4) &&& bc_M2 n)) := by
  rw [bc_M2, bc_and hc (by omega), show (c + 256 * q) / 4 = (c / 4 + 64 * (q % 4)) + 256 * (q / 4) by omega, bc_and (by omega) (by omega), bc_b2 _ (by omega) _ (by omega)]
  omega
theorem bc_F3 (n : Nat) {d q : Nat} (hd : d ≤ 68) (hq : q % 16 ≤ 4) : ((d + 256 * q) + (d + 256 * q) / 16) &&& bc_M4 (n + 1) = ((d + d / 16) % 16) + 256 * ((q + q / 16) &&& bc_M4 n) := by
  rw [bc_M4, show (d + 256 * q) + (d + 256 * q) / 16 = (d + d / 16 + 16 * (q % 16)) + 256 * (q + q / 16) by omega, bc_and (by omega) (by omega)]
  rw [show (15 : Nat) = 2 ^ 4 - 1 from rfl, Nat.and_two_pow_sub_one_eq_mod]
  omega
def bc_g1 (b : Nat) : Nat := b - ((b / 2) &&& 85)
def bc_g2 (c : Nat) : Nat := (c &&& 51) + ((c / 4) &&& 51)
theorem bc_gok : ∀ b, b < 256 → bc_g1 b < 256 ∧ bc_g2 (bc_g1 b) ≤ 68 ∧ bc_g2 (bc_g1 b) % 16 ≤ 4 ∧ (bc_g2 (bc_g1 b) + bc_g2 (bc_g1 b) / 16) % 16 = ((List.range 8).filter (fun k => b.testBit k)).length ∧ (bc_g2 (bc_g1 b) + bc_g2 (bc_g1 b) / 16) % 16 ≤ 8 := by decide +kernel
def bc_P8 (b : Nat) : Nat := ((List.range 8).filter (fun k => b.testBit k)).length
theorem bc_pop (s : Nat) : ((List.range 40).filter (fun k => s.testBit k)).length = bc_P8 (s % 256) + bc_P8 (s / 2 ^ 8 % 256) + bc_P8 (s / 2 ^ 16 % 256) + bc_P8 (s / 2 ^ 24 % 256) + bc_P8 (s / 2 ^ 32 % 256) := by
  have e : List.range 40 = List.range 8 ++ (List.range 8).map (8 + ·) ++ (List.range 8).map (16 + ·) ++ (List.range 8).map (24 + ·) ++ (List.range 8).map (32 + ·) := by decide
  have t : ∀ j, ((List.range 8).filter (fun k => s.testBit (j + k))).length = bc_P8 (s / 2 ^ j % 256) := fun j => by
    unfold bc_P8
    congr 1
    refine List.filter_congr (fun k hk => ?_)
    have hk' := List.mem_range.mp hk
    rw [show (256 : Nat) = 2 ^ 8 from rfl, Nat.testBit_mod_two_pow, Nat.testBit_div_two_pow, Nat.add_comm k j]
    simp [hk']
  have t0 := t 0
  simp only [Nat.zero_add, Nat.pow_zero, Nat.div_one] at t0
  rw [e]
  simp only [List.filter_append, List.length_append, List.filter_map, List.length_map]
  rw [t0]
  have f : ∀ j, ((List.range 8).filter ((fun k => s.testBit k) ∘ (fun x => j + x))).length = bc_P8 (s / 2 ^ j % 256) := fun j => t j
  rw [f 8, f 16, f 24, f 32]
theorem lI_us {s : Nat} (hs : s < 2 ^ 64) : ∀ k : Nat, k < 64 → ((lI s).toUInt64 >>> ((nI k).toInt64.toUInt64 &&& Int64.toUInt64 63)).toInt64 = lI (s / 2 ^ k) := by
  have e : ∀ k, k < 64 → ((nI k).toInt64.toUInt64 &&& Int64.toUInt64 63).toBitVec % (64 : BitVec 64) = BitVec.ofNat 64 k := by decide +kernel
  intro k hk
  refine Int64.toBitVec_inj.mp ?_
  show ((lI s).toUInt64 >>> _).toBitVec = _
  rw [UInt64.toBitVec_shiftRight, e k hk]
  refine BitVec.eq_of_toNat_eq ?_
  show ((BitVec.ofNat 64 s) >>> (BitVec.ofNat 64 k)).toNat = (BitVec.ofNat 64 (s / 2 ^ k)).toNat
  rw [BitVec.ushiftRight_eq', BitVec.toNat_ushiftRight, BitVec.toNat_ofNat, BitVec.toNat_ofNat, BitVec.toNat_ofNat, Nat.mod_eq_of_lt hs, Nat.mod_eq_of_lt (show k < 2 ^ 64 by omega), Nat.shiftRight_eq_div_pow, Nat.mod_eq_of_lt]
  exact Nat.lt_of_le_of_lt (Nat.div_le_self _ _) hs
theorem lI_and (a b : Nat) (ha : a < 2 ^ 64) (hb : b < 2 ^ 64) : lI a &&& lI b = lI (a &&& b) := by
  refine Int64.toBitVec_inj.mp ?_
  show BitVec.ofNat 64 a &&& BitVec.ofNat 64 b = BitVec.ofNat 64 (a &&& b)
  refine BitVec.eq_of_toNat_eq ?_
  rw [BitVec.toNat_and, BitVec.toNat_ofNat, BitVec.toNat_ofNat, BitVec.toNat_ofNat, Nat.mod_eq_of_lt ha, Nat.mod_eq_of_lt hb, Nat.mod_eq_of_lt (Nat.lt_of_le_of_lt Nat.and_le_left ha)]
theorem lI_add (a b : Nat) : lI a + lI b = lI (a + b) := by
  refine Int64.toBitVec_inj.mp ?_
  show BitVec.ofNat 64 a + BitVec.ofNat 64 b = BitVec.ofNat 64 (a + b)
  rw [BitVec.ofNat_add]
theorem lI_sub {a b : Nat} (h : b ≤ a) : lI a - lI b = lI (a - b) := by
  have e : lI (a - b) + lI b = lI a := by rw [lI_add, Nat.sub_add_cancel h]
  rw [← e]
  exact Int64.add_sub_cancel _ _
theorem lI_32 (a : Nat) : (lI a).toInt32 = nI a := by
  refine Int32.toBitVec_inj.mp ?_
  show (BitVec.ofNat 64 a).signExtend 32 = BitVec.ofNat 32 a
  rw [BitVec.signExtend_eq_setWidth_of_le _ (by omega)]
  refine BitVec.eq_of_toNat_eq ?_
  rw [BitVec.toNat_setWidth, BitVec.toNat_ofNat, BitVec.toNat_ofNat]
  exact Nat.mod_mod_of_dvd a (by decide)
theorem nI_127 (a : Nat) : nI a &&& nI 127 = nI (a % 128) := by
  refine Int32.toBitVec_inj.mp ?_
  show BitVec.ofNat 32 a &&& BitVec.ofNat 32 127 = BitVec.ofNat 32 (a % 128)
  refine BitVec.eq_of_toNat_eq ?_
  rw [BitVec.toNat_and, BitVec.toNat_ofNat, BitVec.toNat_ofNat, BitVec.toNat_ofNat]
  rw [show 127 % 2 ^ 32 = 2 ^ 7 - 1 from rfl, Nat.and_two_pow_sub_one_eq_mod]
  omega
def bc_s1 (s : Nat) : Nat := s - ((s / 2 ^ 1) &&& bc_M1 8)
def bc_s2 (s : Nat) : Nat := (bc_s1 s &&& bc_M2 8) + ((bc_s1 s / 2 ^ 2) &&& bc_M2 8)
def bc_s3 (s : Nat) : Nat := (bc_s2 s + bc_s2 s / 2 ^ 4) &&& bc_M4 8
def bc_s4 (s : Nat) : Nat := bc_s3 s + bc_s3 s / 2 ^ 8
def bc_s5 (s : Nat) : Nat := bc_s4 s + bc_s4 s / 2 ^ 16
def bc_s6 (s : Nat) : Nat := bc_s5 s + bc_s5 s / 2 ^ 32
theorem bc_0 (n : Nat) : (0 / 2) &&& bc_M1 n = 0 := by simp
theorem bc_le (s : Nat) (hs : s < 2 ^ 40) : ((s / 2 ^ 1) &&& bc_M1 8) ≤ s := Nat.le_trans Nat.and_le_left (by omega)
theorem bc_all (s : Nat) (hs : s < 2 ^ 40) : bc_s6 s % 128 = ((List.range 40).filter (fun k => s.testBit k)).length ∧ bc_s1 s < 2 ^ 40 ∧ bc_s2 s < 2 ^ 40 ∧ bc_s3 s < 2 ^ 40 ∧ bc_s4 s < 2 ^ 40 ∧ bc_s5 s < 2 ^ 40 := by
  obtain ⟨b0, h0⟩ : ∃ b, b = s % 256 := ⟨_, rfl⟩
  obtain ⟨b1, h1⟩ : ∃ b, b = s / 2 ^ 8 % 256 := ⟨_, rfl⟩
  obtain ⟨b2, h2⟩ : ∃ b, b = s / 2 ^ 16 % 256 := ⟨_, rfl⟩
  obtain ⟨b3, h3⟩ : ∃ b, b = s / 2 ^ 24 % 256 := ⟨_, rfl⟩
  obtain ⟨b4, h4⟩ : ∃ b, b = s / 2 ^ 32 % 256 := ⟨_, rfl⟩
  have e : s = b0 + 256 * (b1 + 256 * (b2 + 256 * (b3 + 256 * (b4 + 256 * 0)))) := by omega
  rw [bc_pop, ← h0, ← h1, ← h2, ← h3, ← h4]
  have l0 : b0 < 256 := by omega
  have l1 : b1 < 256 := by omega
  have l2 : b2 < 256 := by omega
  have l3 : b3 < 256 := by omega
  have l4 : b4 < 256 := by omega
  clear h0 h1 h2 h3 h4
  obtain ⟨u0, v0, w0, x0, y0⟩ := bc_gok b0 l0
  obtain ⟨u1, v1, w1, x1, y1⟩ := bc_gok b1 l1
  obtain ⟨u2, v2, w2, x2, y2⟩ := bc_gok b2 l2
  obtain ⟨u3, v3, w3, x3, y3⟩ := bc_gok b3 l3
  obtain ⟨u4, v4, w4, x4, y4⟩ := bc_gok b4 l4
  have z0 := bc_b1le b0 l0
  have z1 := bc_b1le b1 l1
  have z2 := bc_b1le b2 l2
  have z3 := bc_b1le b3 l3
  have z4 := bc_b1le b4 l4
  have s1 : bc_s1 s = bc_g1 b0 + 256 * (bc_g1 b1 + 256 * (bc_g1 b2 + 256 * (bc_g1 b3 + 256 * (bc_g1 b4 + 256 * 0)))) := by
    unfold bc_s1
    rw [Nat.pow_one, e, bc_F1 7 l0, bc_F1 6 l1, bc_F1 5 l2, bc_F1 4 l3, bc_F1 3 l4, bc_0]
    unfold bc_g1
    omega
  have s2 : bc_s2 s = bc_g2 (bc_g1 b0) + 256 * (bc_g2 (bc_g1 b1) + 256 * (bc_g2 (bc_g1 b2) + 256 * (bc_g2 (bc_g1 b3) + 256 * (bc_g2 (bc_g1 b4) + 256 * 0)))) := by
    unfold bc_s2
    rw [s1, show (2 : Nat) ^ 2 = 4 from rfl, bc_F2 7 u0, bc_F2 6 u1, bc_F2 5 u2, bc_F2 4 u3, bc_F2 3 u4]
    simp [bc_g2]
  have s3 : bc_s3 s = bc_P8 b0 + 256 * (bc_P8 b1 + 256 * (bc_P8 b2 + 256 * (bc_P8 b3 + 256 * (bc_P8 b4 + 256 * 0)))) := by
    unfold bc_s3
    rw [s2, show (2 : Nat) ^ 4 = 16 from rfl, bc_F3 7 v0 (by omega), bc_F3 6 v1 (by omega), bc_F3 5 v2 (by omega), bc_F3 4 v3 (by omega), bc_F3 3 v4 (by omega), x0, x1, x2, x3, x4]
    simp [bc_P8]
  rw [x0] at y0
  rw [x1] at y1
  rw [x2] at y2
  rw [x3] at y3
  rw [x4] at y4
  have y0' : bc_P8 b0 ≤ 8 := y0
  have y1' : bc_P8 b1 ≤ 8 := y1
  have y2' : bc_P8 b2 ≤ 8 := y2
  have y3' : bc_P8 b3 ≤ 8 := y3
  have y4' : bc_P8 b4 ≤ 8 := y4
  have s4 : bc_s4 s = (bc_P8 b0 + bc_P8 b1) + 256 * (bc_P8 b1 + bc_P8 b2) + 65536 * (bc_P8 b2 + bc_P8 b3) + 16777216 * (bc_P8 b3 + bc_P8 b4) + 4294967296 * bc_P8 b4 := by
    unfold bc_s4
    rw [s3]
    omega
  have s5 : bc_s5 s = (bc_P8 b0 + bc_P8 b1 + bc_P8 b2 + bc_P8 b3) + 256 * (bc_P8 b1 + bc_P8 b2 + bc_P8 b3 + bc_P8 b4) + 65536 * (bc_P8 b2 + bc_P8 b3 + bc_P8 b4) + 16777216 * (bc_P8 b3 + bc_P8 b4) + 4294967296 * bc_P8 b4 := by
    unfold bc_s5
    rw [s4]
    omega
  refine ⟨?_, by omega, by omega, by omega, by omega, by omega⟩
  have d6 : bc_s5 s / 2 ^ 32 = bc_P8 b4 := by
    rw [s5]
    clear s1 s2 s3 s4 s5 e
    omega
  unfold bc_s6
  rw [d6, s5]
  generalize bc_P8 b0 = p0 at *
  generalize bc_P8 b1 = p1 at *
  generalize bc_P8 b2 = p2 at *
  generalize bc_P8 b3 = p3 at *
  generalize bc_P8 b4 = p4 at *
  clear s1 s2 s3 s4 s5 d6 e
  omega
theorem dLO_bitCount_0 : decode prog_14_method_50_code 0 = .ok (.lload_n 0, 1) := by decide +kernel
theorem dLO_bitCount_1 : decode prog_14_method_50_code 1 = .ok (.lload_n 0, 1) := by decide +kernel
theorem dLO_bitCount_2 : decode prog_14_method_50_code 2 = .ok (.iconst 1, 1) := by decide +kernel
theorem dLO_bitCount_3 : decode prog_14_method_50_code 3 = .ok (.lushr, 1) := by decide +kernel
theorem dLO_bitCount_4 : decode prog_14_method_50_code 4 = .ok (.ldc2_w 314, 3) := by decide +kernel
theorem dLO_bitCount_7 : decode prog_14_method_50_code 7 = .ok (.land, 1) := by decide +kernel
theorem dLO_bitCount_8 : decode prog_14_method_50_code 8 = .ok (.lsub, 1) := by decide +kernel
theorem dLO_bitCount_9 : decode prog_14_method_50_code 9 = .ok (.lstore_n 0, 1) := by decide +kernel
theorem dLO_bitCount_10 : decode prog_14_method_50_code 10 = .ok (.lload_n 0, 1) := by decide +kernel
theorem dLO_bitCount_11 : decode prog_14_method_50_code 11 = .ok (.ldc2_w 316, 3) := by decide +kernel
theorem dLO_bitCount_14 : decode prog_14_method_50_code 14 = .ok (.land, 1) := by decide +kernel
theorem dLO_bitCount_15 : decode prog_14_method_50_code 15 = .ok (.lload_n 0, 1) := by decide +kernel
theorem dLO_bitCount_16 : decode prog_14_method_50_code 16 = .ok (.iconst 2, 1) := by decide +kernel
theorem dLO_bitCount_17 : decode prog_14_method_50_code 17 = .ok (.lushr, 1) := by decide +kernel
theorem dLO_bitCount_18 : decode prog_14_method_50_code 18 = .ok (.ldc2_w 316, 3) := by decide +kernel
theorem dLO_bitCount_21 : decode prog_14_method_50_code 21 = .ok (.land, 1) := by decide +kernel
theorem dLO_bitCount_22 : decode prog_14_method_50_code 22 = .ok (.ladd, 1) := by decide +kernel
theorem dLO_bitCount_23 : decode prog_14_method_50_code 23 = .ok (.lstore_n 0, 1) := by decide +kernel
theorem dLO_bitCount_24 : decode prog_14_method_50_code 24 = .ok (.lload_n 0, 1) := by decide +kernel
theorem dLO_bitCount_25 : decode prog_14_method_50_code 25 = .ok (.lload_n 0, 1) := by decide +kernel
theorem dLO_bitCount_26 : decode prog_14_method_50_code 26 = .ok (.iconst 4, 1) := by decide +kernel
theorem dLO_bitCount_27 : decode prog_14_method_50_code 27 = .ok (.lushr, 1) := by decide +kernel
theorem dLO_bitCount_28 : decode prog_14_method_50_code 28 = .ok (.ladd, 1) := by decide +kernel
theorem dLO_bitCount_29 : decode prog_14_method_50_code 29 = .ok (.ldc2_w 318, 3) := by decide +kernel
theorem dLO_bitCount_32 : decode prog_14_method_50_code 32 = .ok (.land, 1) := by decide +kernel
theorem dLO_bitCount_33 : decode prog_14_method_50_code 33 = .ok (.lstore_n 0, 1) := by decide +kernel
theorem dLO_bitCount_34 : decode prog_14_method_50_code 34 = .ok (.lload_n 0, 1) := by decide +kernel
theorem dLO_bitCount_35 : decode prog_14_method_50_code 35 = .ok (.lload_n 0, 1) := by decide +kernel
theorem dLO_bitCount_36 : decode prog_14_method_50_code 36 = .ok (.bipush (8), 2) := by decide +kernel
theorem dLO_bitCount_38 : decode prog_14_method_50_code 38 = .ok (.lushr, 1) := by decide +kernel
theorem dLO_bitCount_39 : decode prog_14_method_50_code 39 = .ok (.ladd, 1) := by decide +kernel
theorem dLO_bitCount_40 : decode prog_14_method_50_code 40 = .ok (.lstore_n 0, 1) := by decide +kernel
theorem dLO_bitCount_41 : decode prog_14_method_50_code 41 = .ok (.lload_n 0, 1) := by decide +kernel
theorem dLO_bitCount_42 : decode prog_14_method_50_code 42 = .ok (.lload_n 0, 1) := by decide +kernel
theorem dLO_bitCount_43 : decode prog_14_method_50_code 43 = .ok (.bipush (16), 2) := by decide +kernel
theorem dLO_bitCount_45 : decode prog_14_method_50_code 45 = .ok (.lushr, 1) := by decide +kernel
theorem dLO_bitCount_46 : decode prog_14_method_50_code 46 = .ok (.ladd, 1) := by decide +kernel
theorem dLO_bitCount_47 : decode prog_14_method_50_code 47 = .ok (.lstore_n 0, 1) := by decide +kernel
theorem dLO_bitCount_48 : decode prog_14_method_50_code 48 = .ok (.lload_n 0, 1) := by decide +kernel
theorem dLO_bitCount_49 : decode prog_14_method_50_code 49 = .ok (.lload_n 0, 1) := by decide +kernel
theorem dLO_bitCount_50 : decode prog_14_method_50_code 50 = .ok (.bipush (32), 2) := by decide +kernel
theorem dLO_bitCount_52 : decode prog_14_method_50_code 52 = .ok (.lushr, 1) := by decide +kernel
theorem dLO_bitCount_53 : decode prog_14_method_50_code 53 = .ok (.ladd, 1) := by decide +kernel
theorem dLO_bitCount_54 : decode prog_14_method_50_code 54 = .ok (.lstore_n 0, 1) := by decide +kernel
theorem dLO_bitCount_55 : decode prog_14_method_50_code 55 = .ok (.lload_n 0, 1) := by decide +kernel
theorem dLO_bitCount_56 : decode prog_14_method_50_code 56 = .ok (.l2i, 1) := by decide +kernel
theorem dLO_bitCount_57 : decode prog_14_method_50_code 57 = .ok (.bipush (127), 2) := by decide +kernel
theorem dLO_bitCount_59 : decode prog_14_method_50_code 59 = .ok (.iand, 1) := by decide +kernel
theorem dLO_bitCount_60 : decode prog_14_method_50_code 60 = .ok (.ireturn, 1) := by decide +kernel
theorem c_LO_bitCount {G : sd_G} {h : sd_H} {nx s v : Nat} (hs : s < 2 ^ 40) (hv : v = ((List.range 40).filter (fun k => s.testBit k)).length) : sd_Ct G mLO_bitCount 0 0 0 [.long (lI s)] h nx (sd_is (some (.int (nI v))) h nx) := by
  refine sd_Ct_ofF (by decide +kernel) (Nat.le_of_ble_eq_true rfl) ?_
  obtain ⟨p, q1, q2, q3, q4, q5⟩ := bc_all s hs
  rw [← p] at hv
  have k1 : (6148914691236517205 : Int64) = lI (bc_M1 8) := by decide +kernel
  have k2 : (3689348814741910323 : Int64) = lI (bc_M2 8) := by decide +kernel
  have k4 : (1085102592571150095 : Int64) = lI (bc_M4 8) := by decide +kernel
  have m1 : bc_M1 8 < 2 ^ 64 := by decide +kernel
  have m2 : bc_M2 8 < 2 ^ 64 := by decide +kernel
  have m4 : bc_M4 8 < 2 ^ 64 := by decide +kernel
  have hle := bc_le s hs
  refine sd_lload_n dLO_bitCount_0 rfl rfl ?_
  refine sd_lload_n dLO_bitCount_1 rfl rfl ?_
  refine sd_iconst (v := nI 1) dLO_bitCount_2 (by decide) ?_
  refine sd_lushr (v := lI (s / 2 ^ 1)) dLO_bitCount_3 (lI_us (by omega) 1 (by decide)) ?_
  refine sd_ldc2 (v := 6148914691236517205) dLO_bitCount_4 (sd_memT (sd_in3 (List.mem_of_getElem? (i := 151) rfl)) rfl) ?_
  refine sd_land dLO_bitCount_7 ?_
  rw [show ((lI (s / 2 ^ 1)) &&& (6148914691236517205)) = (lI ((s / 2 ^ 1) &&& bc_M1 8)) from (by rw [k1, lI_and _ _ (by omega) m1])]
  refine sd_lsub dLO_bitCount_8 ?_
  rw [show ((lI s) - (lI ((s / 2 ^ 1) &&& bc_M1 8))) = (lI (bc_s1 s)) from lI_sub hle]
  refine sd_lstore_n dLO_bitCount_9 rfl (by decide) ?_
  refine sd_lload_n dLO_bitCount_10 rfl rfl ?_
  refine sd_ldc2 (v := 3689348814741910323) dLO_bitCount_11 (sd_memT (sd_in3 (List.mem_of_getElem? (i := 152) rfl)) rfl) ?_
  refine sd_land dLO_bitCount_14 ?_
  rw [show ((lI (bc_s1 s)) &&& (3689348814741910323)) = (lI (bc_s1 s &&& bc_M2 8)) from (by rw [k2, lI_and _ _ (by omega) m2])]
  refine sd_lload_n dLO_bitCount_15 rfl rfl ?_
  refine sd_iconst (v := nI 2) dLO_bitCount_16 (by decide) ?_
  refine sd_lushr (v := lI (bc_s1 s / 2 ^ 2)) dLO_bitCount_17 (lI_us (by omega) 2 (by decide)) ?_
  refine sd_ldc2 (v := 3689348814741910323) dLO_bitCount_18 (sd_memT (sd_in3 (List.mem_of_getElem? (i := 152) rfl)) rfl) ?_
  refine sd_land dLO_bitCount_21 ?_
  rw [show ((lI (bc_s1 s / 2 ^ 2)) &&& (3689348814741910323)) = (lI ((bc_s1 s / 2 ^ 2) &&& bc_M2 8)) from (by rw [k2, lI_and _ _ (by omega) m2])]
  refine sd_ladd dLO_bitCount_22 ?_
  rw [show ((lI (bc_s1 s &&& bc_M2 8)) + (lI ((bc_s1 s / 2 ^ 2) &&& bc_M2 8))) = (lI (bc_s2 s)) from lI_add _ _]
  refine sd_lstore_n dLO_bitCount_23 rfl (by decide) ?_
  refine sd_lload_n dLO_bitCount_24 rfl rfl ?_
  refine sd_lload_n dLO_bitCount_25 rfl rfl ?_
  refine sd_iconst (v := nI 4) dLO_bitCount_26 (by decide) ?_
  refine sd_lushr (v := lI (bc_s2 s / 2 ^ 4)) dLO_bitCount_27 (lI_us (by omega) 4 (by decide)) ?_
  refine sd_ladd dLO_bitCount_28 ?_
  rw [show ((lI (bc_s2 s)) + (lI (bc_s2 s / 2 ^ 4))) = (lI (bc_s2 s + bc_s2 s / 2 ^ 4)) from lI_add _ _]
  refine sd_ldc2 (v := 1085102592571150095) dLO_bitCount_29 (sd_memT (sd_in3 (List.mem_of_getElem? (i := 153) rfl)) rfl) ?_
  refine sd_land dLO_bitCount_32 ?_
  rw [show ((lI (bc_s2 s + bc_s2 s / 2 ^ 4)) &&& (1085102592571150095)) = (lI (bc_s3 s)) from (by rw [k4, lI_and _ _ (by omega) m4]; rfl)]
  refine sd_lstore_n dLO_bitCount_33 rfl (by decide) ?_
  refine sd_lload_n dLO_bitCount_34 rfl rfl ?_
  refine sd_lload_n dLO_bitCount_35 rfl rfl ?_
  refine sd_bipush (v := nI 8) dLO_bitCount_36 (by decide) ?_
  refine sd_lushr (v := lI (bc_s3 s / 2 ^ 8)) dLO_bitCount_38 (lI_us (by omega) 8 (by decide)) ?_
  refine sd_ladd dLO_bitCount_39 ?_
  rw [show ((lI (bc_s3 s)) + (lI (bc_s3 s / 2 ^ 8))) = (lI (bc_s4 s)) from lI_add _ _]
  refine sd_lstore_n dLO_bitCount_40 rfl (by decide) ?_
  refine sd_lload_n dLO_bitCount_41 rfl rfl ?_
  refine sd_lload_n dLO_bitCount_42 rfl rfl ?_
  refine sd_bipush (v := nI 16) dLO_bitCount_43 (by decide) ?_
  refine sd_lushr (v := lI (bc_s4 s / 2 ^ 16)) dLO_bitCount_45 (lI_us (by omega) 16 (by decide)) ?_
  refine sd_ladd dLO_bitCount_46 ?_
  rw [show ((lI (bc_s4 s)) + (lI (bc_s4 s / 2 ^ 16))) = (lI (bc_s5 s)) from lI_add _ _]
  refine sd_lstore_n dLO_bitCount_47 rfl (by decide) ?_
  refine sd_lload_n dLO_bitCount_48 rfl rfl ?_
  refine sd_lload_n dLO_bitCount_49 rfl rfl ?_
  refine sd_bipush (v := nI 32) dLO_bitCount_50 (by decide) ?_
  refine sd_lushr (v := lI (bc_s5 s / 2 ^ 32)) dLO_bitCount_52 (lI_us (by omega) 32 (by decide)) ?_
  refine sd_ladd dLO_bitCount_53 ?_
  rw [show ((lI (bc_s5 s)) + (lI (bc_s5 s / 2 ^ 32))) = (lI (bc_s6 s)) from lI_add _ _]
  refine sd_lstore_n dLO_bitCount_54 rfl (by decide) ?_
  refine sd_lload_n dLO_bitCount_55 rfl rfl ?_
  refine sd_l2i (v := (nI (bc_s6 s))) dLO_bitCount_56 (lI_32 _) ?_
  refine sd_bipush (v := nI 127) dLO_bitCount_57 (by decide) ?_
  refine sd_iand dLO_bitCount_59 ?_
  rw [show ((nI (bc_s6 s)) &&& (nI (127))) = (nI (bc_s6 s % 128)) from nI_127 _]
  exact sd_iret dLO_bitCount_60 rfl (Nat.le_refl _) (Nat.le_refl _) ⟨by rw [hv], rfl, rfl⟩
theorem rl_lt {S : st_S} {p : Nat} (hF : st_okF S) (hp : p < 40) : rs S p < 2 ^ 40 := by
  refine Nat.lt_pow_two_of_testBit _ (fun i hi => ?_)
  cases e : (rs S p).testBit i
  · rfl
  · have := rs_le hF (p + 1) p i (by omega) e
    omega
theorem dDK_theorem_0 : decode prog_1_method_10_code 0 = .ok (.aload_n 0, 1) := by decide +kernel
theorem dDK_theorem_1 : decode prog_1_method_10_code 1 = .ok (.getfield 35, 3) := by decide +kernel
theorem dDK_theorem_4 : decode prog_1_method_10_code 4 = .ok (.iload_n 1, 1) := by decide +kernel
theorem dDK_theorem_5 : decode prog_1_method_10_code 5 = .ok (.invokevirtual 127, 3) := by decide +kernel
theorem dDK_theorem_8 : decode prog_1_method_10_code 8 = .ok (.ifCond .ne (5), 3) := by decide +kernel
theorem dDK_theorem_11 : decode prog_1_method_10_code 11 = .ok (.iconst (-1), 1) := by decide +kernel
theorem dDK_theorem_12 : decode prog_1_method_10_code 12 = .ok (.ireturn, 1) := by decide +kernel
theorem dDK_theorem_13 : decode prog_1_method_10_code 13 = .ok (.aload_n 0, 1) := by decide +kernel
theorem dDK_theorem_14 : decode prog_1_method_10_code 14 = .ok (.getfield 35, 3) := by decide +kernel
theorem dDK_theorem_17 : decode prog_1_method_10_code 17 = .ok (.getfield 128, 3) := by decide +kernel
theorem dDK_theorem_20 : decode prog_1_method_10_code 20 = .ok (.iload_n 1, 1) := by decide +kernel
theorem dDK_theorem_21 : decode prog_1_method_10_code 21 = .ok (.aaload, 1) := by decide +kernel
theorem dDK_theorem_22 : decode prog_1_method_10_code 22 = .ok (.astore_n 3, 1) := by decide +kernel
theorem dDK_theorem_23 : decode prog_1_method_10_code 23 = .ok (.iload_n 2, 1) := by decide +kernel
theorem dDK_theorem_24 : decode prog_1_method_10_code 24 = .ok (.tableswitch (79) (0) (5) #[40, 48, 56, 61, 66, 71], 40) := by decide +kernel
theorem dDK_theorem_64 : decode prog_1_method_10_code 64 = .ok (.aload_n 3, 1) := by decide +kernel
theorem dDK_theorem_65 : decode prog_1_method_10_code 65 = .ok (.getfield 131, 3) := by decide +kernel
theorem dDK_theorem_68 : decode prog_1_method_10_code 68 = .ok (.getfield 137, 3) := by decide +kernel
theorem dDK_theorem_71 : decode prog_1_method_10_code 71 = .ok (.ireturn, 1) := by decide +kernel
theorem dDK_theorem_72 : decode prog_1_method_10_code 72 = .ok (.aload_n 3, 1) := by decide +kernel
theorem dDK_theorem_73 : decode prog_1_method_10_code 73 = .ok (.getfield 131, 3) := by decide +kernel
theorem dDK_theorem_76 : decode prog_1_method_10_code 76 = .ok (.getfield 142, 3) := by decide +kernel
theorem dDK_theorem_79 : decode prog_1_method_10_code 79 = .ok (.ireturn, 1) := by decide +kernel
theorem dDK_theorem_80 : decode prog_1_method_10_code 80 = .ok (.aload_n 3, 1) := by decide +kernel
theorem dDK_theorem_81 : decode prog_1_method_10_code 81 = .ok (.getfield 145, 3) := by decide +kernel
theorem dDK_theorem_84 : decode prog_1_method_10_code 84 = .ok (.ireturn, 1) := by decide +kernel
theorem dDK_theorem_85 : decode prog_1_method_10_code 85 = .ok (.aload_n 3, 1) := by decide +kernel
theorem dDK_theorem_86 : decode prog_1_method_10_code 86 = .ok (.getfield 148, 3) := by decide +kernel
theorem dDK_theorem_89 : decode prog_1_method_10_code 89 = .ok (.ireturn, 1) := by decide +kernel
theorem dDK_theorem_90 : decode prog_1_method_10_code 90 = .ok (.aload_n 3, 1) := by decide +kernel
theorem dDK_theorem_91 : decode prog_1_method_10_code 91 = .ok (.getfield 151, 3) := by decide +kernel
theorem dDK_theorem_94 : decode prog_1_method_10_code 94 = .ok (.ireturn, 1) := by decide +kernel
theorem dDK_theorem_95 : decode prog_1_method_10_code 95 = .ok (.aload_n 3, 1) := by decide +kernel
theorem dDK_theorem_96 : decode prog_1_method_10_code 96 = .ok (.getfield 154, 3) := by decide +kernel
theorem dDK_theorem_99 : decode prog_1_method_10_code 99 = .ok (.invokestatic 158, 3) := by decide +kernel
theorem dDK_theorem_102 : decode prog_1_method_10_code 102 = .ok (.ireturn, 1) := by decide +kernel
theorem dDK_theorem_103 : decode prog_1_method_10_code 103 = .ok (.iconst (-1), 1) := by decide +kernel
theorem dDK_theorem_104 : decode prog_1_method_10_code 104 = .ok (.ireturn, 1) := by decide +kernel
theorem c_DK_theorem {G : sd_G} {o : Nat} {D : fx_D} {h0 : sd_H} {nx : Nat} {S : st_S} {x y ans : Int32} (hR : dk_R S D) (hF : st_okF S) (hs : sp_theorem S x y ans) : sd_Ct G mDK_theorem 1 0 0 [.ref (o + 0), .int x, .int y] (fx_h G.1.2 dk_S o D h0) nx (sd_is (some (.int ans)) (fx_h G.1.2 dk_S o D h0) nx) := by
  refine sd_Ct_of (by decide) (Nat.le_of_ble_eq_true rfl) ?_
  have hT := hR.2.2.2.1
  have h40 := hT.1
  rcases hs with ⟨hno, rfl⟩ | ⟨p, w, h, rfl, rfl, hp, hw, rfl⟩
  · by_cases hx : nn_lt x (st_th S).length
    · have hy : ¬ nn_lt y 6 := fun q => hno ⟨hx, q⟩
      obtain ⟨p, hp, rfl⟩ := hx
      refine sd_aload_n dDK_theorem_0 rfl rfl ?_
      refine fx_getr 0 3 (307) dDK_theorem_1 fDK_35 rfl rfl ?_
      refine sd_iload_n dDK_theorem_4 rfl rfl ?_
      refine fx_cV 5 sR_RU [.int (nI (p))] [] dDK_theorem_5 kDK_127 rfl rfl mRU_has_v (c_RU_has (b := 1) (n := (st_th S).length) (by omega) hT.2.1 (by omega) (by simp only [true_iff]; exact ⟨p, hp, rfl⟩)) (by decide) (Nat.le_refl _) (Nat.le_refl _) (Nat.le_of_ble_eq_true rfl) rfl ?_
      refine nn_if_ne 13 dDK_theorem_8 (by decide) (by decide) (fun _ => ?_) (fun c => absurd c (by decide))
      refine sd_aload_n dDK_theorem_13 rfl rfl ?_
      refine fx_getr 0 3 (307) dDK_theorem_14 fDK_35 rfl rfl ?_
      refine fx_getr 5 1 (308) dDK_theorem_17 fDK_128 rfl rfl ?_
      refine sd_iload_n dDK_theorem_20 rfl rfl ?_
      refine fx_aald (p) dDK_theorem_21 rfl rfl rfl (by omega) (by decide) ?_
      refine sd_astore_n dDK_theorem_22 rfl (by decide) ?_
      refine sd_iload_n dDK_theorem_23 rfl rfl ?_
      refine sd_tableOut 103 dDK_theorem_24 (nn_tab hy) (by decide) ?_
      refine sd_iconst (v := (-1)) dDK_theorem_103 (by decide) ?_
      exact sd_iret dDK_theorem_104 rfl (Nat.le_refl _) (Nat.le_refl _) ⟨rfl, rfl, rfl⟩
    · skip
      refine sd_aload_n dDK_theorem_0 rfl rfl ?_
      refine fx_getr 0 3 (307) dDK_theorem_1 fDK_35 rfl rfl ?_
      refine sd_iload_n dDK_theorem_4 rfl rfl ?_
      refine fx_cV 5 sR_RU [.int (x)] [] dDK_theorem_5 kDK_127 rfl rfl mRU_has_v (c_RU_has (b := 0) (n := (st_th S).length) (by omega) hT.2.1 (by omega) ⟨fun e ↦ absurd e (by decide), fun e ↦ absurd e hx⟩) (by decide) (Nat.le_refl _) (Nat.le_refl _) (Nat.le_of_ble_eq_true rfl) rfl ?_
      refine nn_if_ne 13 dDK_theorem_8 (by decide) (by decide) (fun c => absurd c (by decide)) (fun _ => ?_)
      refine sd_iconst (v := (-1)) dDK_theorem_11 (by decide) ?_
      exact sd_iret dDK_theorem_12 rfl (Nat.le_refl _) (Nat.le_refl _) ⟨rfl, rfl, rfl⟩
  · have hpl := getE_lt hp
    obtain ⟨b1, b2, b3, b4, b5, b6⟩ := hT.2.2 p h hp
    rw [← rs_rl S p] at b6
    have hr := rl_lt hF (show p < 40 by omega)
    have hh := c_RU_has (G := G) (o := o) (h0 := h0) (nx := nx) (D := D) (b := 1) (n := (st_th S).length) (x := nI p) (by omega) hT.2.1 (by omega) (by simp only [true_iff]; exact ⟨p, hpl, rfl⟩)
    match w, hw with
    | 0, _ =>
      refine sd_aload_n dDK_theorem_0 rfl rfl ?_
      refine fx_getr 0 3 (307) dDK_theorem_1 fDK_35 rfl rfl ?_
      refine sd_iload_n dDK_theorem_4 rfl rfl ?_
      refine fx_cV 5 sR_RU [.int (nI (p))] [] dDK_theorem_5 kDK_127 rfl rfl mRU_has_v (hh) (by decide) (Nat.le_refl _) (Nat.le_refl _) (Nat.le_of_ble_eq_true rfl) rfl ?_
      refine nn_if_ne 13 dDK_theorem_8 (by decide) (by decide) (fun _ => ?_) (fun c => absurd c (by decide))
      refine sd_aload_n dDK_theorem_13 rfl rfl ?_
      refine fx_getr 0 3 (307) dDK_theorem_14 fDK_35 rfl rfl ?_
      refine fx_getr 5 1 (308) dDK_theorem_17 fDK_128 rfl rfl ?_
      refine sd_iload_n dDK_theorem_20 rfl rfl ?_
      refine fx_aald (p) dDK_theorem_21 rfl rfl rfl (by omega) (by decide) ?_
      refine sd_astore_n dDK_theorem_22 rfl (by decide) ?_
      refine sd_iload_n dDK_theorem_23 rfl rfl ?_
      refine sd_tableIn (off := 40) 64 dDK_theorem_24 (by decide) (by decide) (by decide) (by decide) ?_
      refine sd_aload_n dDK_theorem_64 rfl rfl ?_
      refine fx_getr 9 0 (309 + 3 * (p) + 1) dDK_theorem_65 fDK_131 (dk_th (by omega)) rfl ?_
      refine fx_getiv (v := (nI (h.1))) 6 2 dDK_theorem_68 fDK_137 (dk_ths (p := p) (by omega)).1 rfl (b2) ?_
      exact sd_iret dDK_theorem_71 rfl (Nat.le_refl _) (Nat.le_refl _) ⟨rfl, rfl, rfl⟩
    | 1, _ =>
      refine sd_aload_n dDK_theorem_0 rfl rfl ?_
      refine fx_getr 0 3 (307) dDK_theorem_1 fDK_35 rfl rfl ?_
      refine sd_iload_n dDK_theorem_4 rfl rfl ?_
      refine fx_cV 5 sR_RU [.int (nI (p))] [] dDK_theorem_5 kDK_127 rfl rfl mRU_has_v (hh) (by decide) (Nat.le_refl _) (Nat.le_refl _) (Nat.le_of_ble_eq_true rfl) rfl ?_
      refine nn_if_ne 13 dDK_theorem_8 (by decide) (by decide) (fun _ => ?_) (fun c => absurd c (by decide))
      refine sd_aload_n dDK_theorem_13 rfl rfl ?_
      refine fx_getr 0 3 (307) dDK_theorem_14 fDK_35 rfl rfl ?_
      refine fx_getr 5 1 (308) dDK_theorem_17 fDK_128 rfl rfl ?_
      refine sd_iload_n dDK_theorem_20 rfl rfl ?_
      refine fx_aald (p) dDK_theorem_21 rfl rfl rfl (by omega) (by decide) ?_
      refine sd_astore_n dDK_theorem_22 rfl (by decide) ?_
      refine sd_iload_n dDK_theorem_23 rfl rfl ?_
      refine sd_tableIn (off := 48) 72 dDK_theorem_24 (by decide) (by decide) (by decide) (by decide) ?_
      refine sd_aload_n dDK_theorem_72 rfl rfl ?_
      refine fx_getr 9 0 (309 + 3 * (p) + 1) dDK_theorem_73 fDK_131 (dk_th (by omega)) rfl ?_
      refine fx_getiv (v := (nI (h.2.1.length))) 6 1 dDK_theorem_76 fDK_142 (dk_ths (p := p) (by omega)).1 rfl (b1.2.1) ?_
      exact sd_iret dDK_theorem_79 rfl (Nat.le_refl _) (Nat.le_refl _) ⟨rfl, rfl, rfl⟩
    | 2, _ =>
      refine sd_aload_n dDK_theorem_0 rfl rfl ?_
      refine fx_getr 0 3 (307) dDK_theorem_1 fDK_35 rfl rfl ?_
      refine sd_iload_n dDK_theorem_4 rfl rfl ?_
      refine fx_cV 5 sR_RU [.int (nI (p))] [] dDK_theorem_5 kDK_127 rfl rfl mRU_has_v (hh) (by decide) (Nat.le_refl _) (Nat.le_refl _) (Nat.le_of_ble_eq_true rfl) rfl ?_
      refine nn_if_ne 13 dDK_theorem_8 (by decide) (by decide) (fun _ => ?_) (fun c => absurd c (by decide))
      refine sd_aload_n dDK_theorem_13 rfl rfl ?_
      refine fx_getr 0 3 (307) dDK_theorem_14 fDK_35 rfl rfl ?_
      refine fx_getr 5 1 (308) dDK_theorem_17 fDK_128 rfl rfl ?_
      refine sd_iload_n dDK_theorem_20 rfl rfl ?_
      refine fx_aald (p) dDK_theorem_21 rfl rfl rfl (by omega) (by decide) ?_
      refine sd_astore_n dDK_theorem_22 rfl (by decide) ?_
      refine sd_iload_n dDK_theorem_23 rfl rfl ?_
      refine sd_tableIn (off := 56) 80 dDK_theorem_24 (by decide) (by decide) (by decide) (by decide) ?_
      refine sd_aload_n dDK_theorem_80 rfl rfl ?_
      refine fx_getiv (v := (nI (h.2.2.1))) 9 1 dDK_theorem_81 fDK_145 (dk_th (by omega)) rfl (b3) ?_
      exact sd_iret dDK_theorem_84 rfl (Nat.le_refl _) (Nat.le_refl _) ⟨rfl, rfl, rfl⟩
    | 3, _ =>
      refine sd_aload_n dDK_theorem_0 rfl rfl ?_
      refine fx_getr 0 3 (307) dDK_theorem_1 fDK_35 rfl rfl ?_
      refine sd_iload_n dDK_theorem_4 rfl rfl ?_
      refine fx_cV 5 sR_RU [.int (nI (p))] [] dDK_theorem_5 kDK_127 rfl rfl mRU_has_v (hh) (by decide) (Nat.le_refl _) (Nat.le_refl _) (Nat.le_of_ble_eq_true rfl) rfl ?_
      refine nn_if_ne 13 dDK_theorem_8 (by decide) (by decide) (fun _ => ?_) (fun c => absurd c (by decide))
      refine sd_aload_n dDK_theorem_13 rfl rfl ?_
      refine fx_getr 0 3 (307) dDK_theorem_14 fDK_35 rfl rfl ?_
      refine fx_getr 5 1 (308) dDK_theorem_17 fDK_128 rfl rfl ?_
      refine sd_iload_n dDK_theorem_20 rfl rfl ?_
      refine fx_aald (p) dDK_theorem_21 rfl rfl rfl (by omega) (by decide) ?_
      refine sd_astore_n dDK_theorem_22 rfl (by decide) ?_
      refine sd_iload_n dDK_theorem_23 rfl rfl ?_
      refine sd_tableIn (off := 61) 85 dDK_theorem_24 (by decide) (by decide) (by decide) (by decide) ?_
      refine sd_aload_n dDK_theorem_85 rfl rfl ?_
      refine fx_getiv (v := (oi_I h.2.2.2.1)) 9 2 dDK_theorem_86 fDK_148 (dk_th (by omega)) rfl (b4) ?_
      exact sd_iret dDK_theorem_89 rfl (Nat.le_refl _) (Nat.le_refl _) ⟨rfl, rfl, rfl⟩
    | 4, _ =>
      refine sd_aload_n dDK_theorem_0 rfl rfl ?_
      refine fx_getr 0 3 (307) dDK_theorem_1 fDK_35 rfl rfl ?_
      refine sd_iload_n dDK_theorem_4 rfl rfl ?_
      refine fx_cV 5 sR_RU [.int (nI (p))] [] dDK_theorem_5 kDK_127 rfl rfl mRU_has_v (hh) (by decide) (Nat.le_refl _) (Nat.le_refl _) (Nat.le_of_ble_eq_true rfl) rfl ?_
      refine nn_if_ne 13 dDK_theorem_8 (by decide) (by decide) (fun _ => ?_) (fun c => absurd c (by decide))
      refine sd_aload_n dDK_theorem_13 rfl rfl ?_
      refine fx_getr 0 3 (307) dDK_theorem_14 fDK_35 rfl rfl ?_
      refine fx_getr 5 1 (308) dDK_theorem_17 fDK_128 rfl rfl ?_
      refine sd_iload_n dDK_theorem_20 rfl rfl ?_
      refine fx_aald (p) dDK_theorem_21 rfl rfl rfl (by omega) (by decide) ?_
      refine sd_astore_n dDK_theorem_22 rfl (by decide) ?_
      refine sd_iload_n dDK_theorem_23 rfl rfl ?_
      refine sd_tableIn (off := 66) 90 dDK_theorem_24 (by decide) (by decide) (by decide) (by decide) ?_
      refine sd_aload_n dDK_theorem_90 rfl rfl ?_
      refine fx_getiv (v := (oi_I h.2.2.2.2)) 9 3 dDK_theorem_91 fDK_151 (dk_th (by omega)) rfl (b5) ?_
      exact sd_iret dDK_theorem_94 rfl (Nat.le_refl _) (Nat.le_refl _) ⟨rfl, rfl, rfl⟩
    | 5, _ =>
      refine sd_aload_n dDK_theorem_0 rfl rfl ?_
      refine fx_getr 0 3 (307) dDK_theorem_1 fDK_35 rfl rfl ?_
      refine sd_iload_n dDK_theorem_4 rfl rfl ?_
      refine fx_cV 5 sR_RU [.int (nI (p))] [] dDK_theorem_5 kDK_127 rfl rfl mRU_has_v (hh) (by decide) (Nat.le_refl _) (Nat.le_refl _) (Nat.le_of_ble_eq_true rfl) rfl ?_
      refine nn_if_ne 13 dDK_theorem_8 (by decide) (by decide) (fun _ => ?_) (fun c => absurd c (by decide))
      refine sd_aload_n dDK_theorem_13 rfl rfl ?_
      refine fx_getr 0 3 (307) dDK_theorem_14 fDK_35 rfl rfl ?_
      refine fx_getr 5 1 (308) dDK_theorem_17 fDK_128 rfl rfl ?_
      refine sd_iload_n dDK_theorem_20 rfl rfl ?_
      refine fx_aald (p) dDK_theorem_21 rfl rfl rfl (by omega) (by decide) ?_
      refine sd_astore_n dDK_theorem_22 rfl (by decide) ?_
      refine sd_iload_n dDK_theorem_23 rfl rfl ?_
      refine sd_tableIn (off := 71) 95 dDK_theorem_24 (by decide) (by decide) (by decide) (by decide) ?_
      refine sd_aload_n dDK_theorem_95 rfl rfl ?_
      refine fx_getl 9 4 dDK_theorem_96 fDK_154 (dk_th (by omega)) rfl ?_
      refine sd_cS [.long ((D).2.2 (309 + 3 * (p)))] [] dDK_theorem_99 kDK_158 mLO_bitCount_s ((by rw [b6]; exact c_LO_bitCount hr rfl)) (by decide) (Nat.le_refl _) (Nat.le_refl _) (Nat.le_of_ble_eq_true rfl) rfl ?_
      exact sd_iret dDK_theorem_102 rfl (Nat.le_refl _) (Nat.le_refl _) ⟨rfl, rfl, rfl⟩
    | w + 6, hw => omega
