/-! ===== the model is made; what holds at the start ===== -/
theorem dMO_init_0 : decode prog_13_method_1_code 0 = .ok (.aload_n 0, 1) := by decide +kernel
theorem dMO_init_1 : decode prog_13_method_1_code 1 = .ok (.invokespecial 1, 3) := by decide +kernel
theorem dMO_init_4 : decode prog_13_method_1_code 4 = .ok (.aload_n 0, 1) := by decide +kernel
theorem dMO_init_5 : decode prog_13_method_1_code 5 = .ok (.sipush (1728), 3) := by decide +kernel
theorem dMO_init_8 : decode prog_13_method_1_code 8 = .ok (.newarray .int, 2) := by decide +kernel
theorem dMO_init_10 : decode prog_13_method_1_code 10 = .ok (.putfield 7, 3) := by decide +kernel
theorem dMO_init_13 : decode prog_13_method_1_code 13 = .ok (.aload_n 0, 1) := by decide +kernel
theorem dMO_init_14 : decode prog_13_method_1_code 14 = .ok (.sipush (1728), 3) := by decide +kernel
theorem dMO_init_17 : decode prog_13_method_1_code 17 = .ok (.newarray .int, 2) := by decide +kernel
theorem dMO_init_19 : decode prog_13_method_1_code 19 = .ok (.putfield 13, 3) := by decide +kernel
theorem dMO_init_22 : decode prog_13_method_1_code 22 = .ok (.aload_n 0, 1) := by decide +kernel
theorem dMO_init_23 : decode prog_13_method_1_code 23 = .ok (.bipush (72), 2) := by decide +kernel
theorem dMO_init_25 : decode prog_13_method_1_code 25 = .ok (.newarray .int, 2) := by decide +kernel
theorem dMO_init_27 : decode prog_13_method_1_code 27 = .ok (.putfield 16, 3) := by decide +kernel
theorem dMO_init_30 : decode prog_13_method_1_code 30 = .ok (.aload_n 0, 1) := by decide +kernel
theorem dMO_init_31 : decode prog_13_method_1_code 31 = .ok (.bipush (8), 2) := by decide +kernel
theorem dMO_init_33 : decode prog_13_method_1_code 33 = .ok (.newarray .int, 2) := by decide +kernel
theorem dMO_init_35 : decode prog_13_method_1_code 35 = .ok (.putfield 19, 3) := by decide +kernel
theorem dMO_init_38 : decode prog_13_method_1_code 38 = .ok (.aload_n 0, 1) := by decide +kernel
theorem dMO_init_39 : decode prog_13_method_1_code 39 = .ok (.bipush (24), 2) := by decide +kernel
theorem dMO_init_41 : decode prog_13_method_1_code 41 = .ok (.newarray .int, 2) := by decide +kernel
theorem dMO_init_43 : decode prog_13_method_1_code 43 = .ok (.putfield 22, 3) := by decide +kernel
theorem dMO_init_46 : decode prog_13_method_1_code 46 = .ok (.aload_n 0, 1) := by decide +kernel
theorem dMO_init_47 : decode prog_13_method_1_code 47 = .ok (.bipush (40), 2) := by decide +kernel
theorem dMO_init_49 : decode prog_13_method_1_code 49 = .ok (.newarray .int, 2) := by decide +kernel
theorem dMO_init_51 : decode prog_13_method_1_code 51 = .ok (.putfield 25, 3) := by decide +kernel
theorem dMO_init_54 : decode prog_13_method_1_code 54 = .ok (.aload_n 0, 1) := by decide +kernel
theorem dMO_init_55 : decode prog_13_method_1_code 55 = .ok (.bipush (40), 2) := by decide +kernel
theorem dMO_init_57 : decode prog_13_method_1_code 57 = .ok (.newarray .int, 2) := by decide +kernel
theorem dMO_init_59 : decode prog_13_method_1_code 59 = .ok (.putfield 28, 3) := by decide +kernel
theorem dMO_init_62 : decode prog_13_method_1_code 62 = .ok (.aload_n 0, 1) := by decide +kernel
theorem dMO_init_63 : decode prog_13_method_1_code 63 = .ok (.sipush (240), 3) := by decide +kernel
theorem dMO_init_66 : decode prog_13_method_1_code 66 = .ok (.newarray .int, 2) := by decide +kernel
theorem dMO_init_68 : decode prog_13_method_1_code 68 = .ok (.putfield 31, 3) := by decide +kernel
theorem dMO_init_71 : decode prog_13_method_1_code 71 = .ok (.aload_n 0, 1) := by decide +kernel
theorem dMO_init_72 : decode prog_13_method_1_code 72 = .ok (.bipush (40), 2) := by decide +kernel
theorem dMO_init_74 : decode prog_13_method_1_code 74 = .ok (.newarray .int, 2) := by decide +kernel
theorem dMO_init_76 : decode prog_13_method_1_code 76 = .ok (.putfield 34, 3) := by decide +kernel
theorem dMO_init_79 : decode prog_13_method_1_code 79 = .ok (.aload_n 0, 1) := by decide +kernel
theorem dMO_init_80 : decode prog_13_method_1_code 80 = .ok (.bipush (40), 2) := by decide +kernel
theorem dMO_init_82 : decode prog_13_method_1_code 82 = .ok (.newarray .int, 2) := by decide +kernel
theorem dMO_init_84 : decode prog_13_method_1_code 84 = .ok (.putfield 37, 3) := by decide +kernel
theorem dMO_init_87 : decode prog_13_method_1_code 87 = .ok (.aload_n 0, 1) := by decide +kernel
theorem dMO_init_88 : decode prog_13_method_1_code 88 = .ok (.bipush (40), 2) := by decide +kernel
theorem dMO_init_90 : decode prog_13_method_1_code 90 = .ok (.newarray .int, 2) := by decide +kernel
theorem dMO_init_92 : decode prog_13_method_1_code 92 = .ok (.putfield 40, 3) := by decide +kernel
theorem dMO_init_95 : decode prog_13_method_1_code 95 = .ok (.aload_n 0, 1) := by decide +kernel
theorem dMO_init_96 : decode prog_13_method_1_code 96 = .ok (.bipush (12), 2) := by decide +kernel
theorem dMO_init_98 : decode prog_13_method_1_code 98 = .ok (.newarray .int, 2) := by decide +kernel
theorem dMO_init_100 : decode prog_13_method_1_code 100 = .ok (.putfield 43, 3) := by decide +kernel
theorem dMO_init_103 : decode prog_13_method_1_code 103 = .ok (.aload_n 0, 1) := by decide +kernel
theorem dMO_init_104 : decode prog_13_method_1_code 104 = .ok (.bipush (30), 2) := by decide +kernel
theorem dMO_init_106 : decode prog_13_method_1_code 106 = .ok (.newarray .int, 2) := by decide +kernel
theorem dMO_init_108 : decode prog_13_method_1_code 108 = .ok (.putfield 46, 3) := by decide +kernel
theorem dMO_init_111 : decode prog_13_method_1_code 111 = .ok (.aload_n 0, 1) := by decide +kernel
theorem dMO_init_112 : decode prog_13_method_1_code 112 = .ok (.bipush (30), 2) := by decide +kernel
theorem dMO_init_114 : decode prog_13_method_1_code 114 = .ok (.newarray .int, 2) := by decide +kernel
theorem dMO_init_116 : decode prog_13_method_1_code 116 = .ok (.putfield 49, 3) := by decide +kernel
theorem dMO_init_119 : decode prog_13_method_1_code 119 = .ok (.aload_n 0, 1) := by decide +kernel
theorem dMO_init_120 : decode prog_13_method_1_code 120 = .ok (.sipush (180), 3) := by decide +kernel
theorem dMO_init_123 : decode prog_13_method_1_code 123 = .ok (.newarray .int, 2) := by decide +kernel
theorem dMO_init_125 : decode prog_13_method_1_code 125 = .ok (.putfield 52, 3) := by decide +kernel
theorem dMO_init_128 : decode prog_13_method_1_code 128 = .ok (.aload_n 0, 1) := by decide +kernel
theorem dMO_init_129 : decode prog_13_method_1_code 129 = .ok (.bipush (30), 2) := by decide +kernel
theorem dMO_init_131 : decode prog_13_method_1_code 131 = .ok (.newarray .int, 2) := by decide +kernel
theorem dMO_init_133 : decode prog_13_method_1_code 133 = .ok (.putfield 55, 3) := by decide +kernel
theorem dMO_init_136 : decode prog_13_method_1_code 136 = .ok (.aload_n 0, 1) := by decide +kernel
theorem dMO_init_137 : decode prog_13_method_1_code 137 = .ok (.bipush (30), 2) := by decide +kernel
theorem dMO_init_139 : decode prog_13_method_1_code 139 = .ok (.newarray .int, 2) := by decide +kernel
theorem dMO_init_141 : decode prog_13_method_1_code 141 = .ok (.putfield 58, 3) := by decide +kernel
theorem dMO_init_144 : decode prog_13_method_1_code 144 = .ok (.aload_n 0, 1) := by decide +kernel
theorem dMO_init_145 : decode prog_13_method_1_code 145 = .ok (.bipush (30), 2) := by decide +kernel
theorem dMO_init_147 : decode prog_13_method_1_code 147 = .ok (.newarray .int, 2) := by decide +kernel
theorem dMO_init_149 : decode prog_13_method_1_code 149 = .ok (.putfield 61, 3) := by decide +kernel
theorem dMO_init_152 : decode prog_13_method_1_code 152 = .ok (.aload_n 0, 1) := by decide +kernel
theorem dMO_init_153 : decode prog_13_method_1_code 153 = .ok (.bipush (30), 2) := by decide +kernel
theorem dMO_init_155 : decode prog_13_method_1_code 155 = .ok (.newarray .int, 2) := by decide +kernel
theorem dMO_init_157 : decode prog_13_method_1_code 157 = .ok (.putfield 64, 3) := by decide +kernel
theorem dMO_init_160 : decode prog_13_method_1_code 160 = .ok (.aload_n 0, 1) := by decide +kernel
theorem dMO_init_161 : decode prog_13_method_1_code 161 = .ok (.bipush (30), 2) := by decide +kernel
theorem dMO_init_163 : decode prog_13_method_1_code 163 = .ok (.newarray .int, 2) := by decide +kernel
theorem dMO_init_165 : decode prog_13_method_1_code 165 = .ok (.putfield 67, 3) := by decide +kernel
theorem dMO_init_168 : decode prog_13_method_1_code 168 = .ok (.aload_n 0, 1) := by decide +kernel
theorem dMO_init_169 : decode prog_13_method_1_code 169 = .ok (.bipush (30), 2) := by decide +kernel
theorem dMO_init_171 : decode prog_13_method_1_code 171 = .ok (.newarray .int, 2) := by decide +kernel
theorem dMO_init_173 : decode prog_13_method_1_code 173 = .ok (.putfield 70, 3) := by decide +kernel
theorem dMO_init_176 : decode prog_13_method_1_code 176 = .ok (.aload_n 0, 1) := by decide +kernel
theorem dMO_init_177 : decode prog_13_method_1_code 177 = .ok (.bipush (30), 2) := by decide +kernel
theorem dMO_init_179 : decode prog_13_method_1_code 179 = .ok (.newarray .int, 2) := by decide +kernel
theorem dMO_init_181 : decode prog_13_method_1_code 181 = .ok (.putfield 73, 3) := by decide +kernel
theorem dMO_init_184 : decode prog_13_method_1_code 184 = .ok (.aload_n 0, 1) := by decide +kernel
theorem dMO_init_185 : decode prog_13_method_1_code 185 = .ok (.sipush (194), 3) := by decide +kernel
theorem dMO_init_188 : decode prog_13_method_1_code 188 = .ok (.newarray .int, 2) := by decide +kernel
theorem dMO_init_190 : decode prog_13_method_1_code 190 = .ok (.putfield 76, 3) := by decide +kernel
theorem dMO_init_193 : decode prog_13_method_1_code 193 = .ok (.aload_n 0, 1) := by decide +kernel
theorem dMO_init_194 : decode prog_13_method_1_code 194 = .ok (.sipush (194), 3) := by decide +kernel
theorem dMO_init_197 : decode prog_13_method_1_code 197 = .ok (.newarray .int, 2) := by decide +kernel
theorem dMO_init_199 : decode prog_13_method_1_code 199 = .ok (.putfield 79, 3) := by decide +kernel
theorem dMO_init_202 : decode prog_13_method_1_code 202 = .ok (.aload_n 0, 1) := by decide +kernel
theorem dMO_init_203 : decode prog_13_method_1_code 203 = .ok (.sipush (194), 3) := by decide +kernel
theorem dMO_init_206 : decode prog_13_method_1_code 206 = .ok (.newarray .int, 2) := by decide +kernel
theorem dMO_init_208 : decode prog_13_method_1_code 208 = .ok (.putfield 82, 3) := by decide +kernel
theorem dMO_init_211 : decode prog_13_method_1_code 211 = .ok (.aload_n 0, 1) := by decide +kernel
theorem dMO_init_212 : decode prog_13_method_1_code 212 = .ok (.sipush (194), 3) := by decide +kernel
theorem dMO_init_215 : decode prog_13_method_1_code 215 = .ok (.newarray .int, 2) := by decide +kernel
theorem dMO_init_217 : decode prog_13_method_1_code 217 = .ok (.putfield 85, 3) := by decide +kernel
theorem dMO_init_220 : decode prog_13_method_1_code 220 = .ok (.aload_n 0, 1) := by decide +kernel
theorem dMO_init_221 : decode prog_13_method_1_code 221 = .ok (.sipush (194), 3) := by decide +kernel
theorem dMO_init_224 : decode prog_13_method_1_code 224 = .ok (.newarray .int, 2) := by decide +kernel
theorem dMO_init_226 : decode prog_13_method_1_code 226 = .ok (.putfield 88, 3) := by decide +kernel
theorem dMO_init_229 : decode prog_13_method_1_code 229 = .ok (.aload_n 0, 1) := by decide +kernel
theorem dMO_init_230 : decode prog_13_method_1_code 230 = .ok (.sipush (194), 3) := by decide +kernel
theorem dMO_init_233 : decode prog_13_method_1_code 233 = .ok (.newarray .int, 2) := by decide +kernel
theorem dMO_init_235 : decode prog_13_method_1_code 235 = .ok (.putfield 91, 3) := by decide +kernel
theorem dMO_init_238 : decode prog_13_method_1_code 238 = .ok (.aload_n 0, 1) := by decide +kernel
theorem dMO_init_239 : decode prog_13_method_1_code 239 = .ok (.sipush (400), 3) := by decide +kernel
theorem dMO_init_242 : decode prog_13_method_1_code 242 = .ok (.newarray .int, 2) := by decide +kernel
theorem dMO_init_244 : decode prog_13_method_1_code 244 = .ok (.putfield 94, 3) := by decide +kernel
theorem dMO_init_247 : decode prog_13_method_1_code 247 = .ok (.iconst 0, 1) := by decide +kernel
theorem dMO_init_248 : decode prog_13_method_1_code 248 = .ok (.istore_n 1, 1) := by decide +kernel
theorem dMO_init_249 : decode prog_13_method_1_code 249 = .ok (.iload_n 1, 1) := by decide +kernel
theorem dMO_init_250 : decode prog_13_method_1_code 250 = .ok (.bipush (8), 2) := by decide +kernel
theorem dMO_init_252 : decode prog_13_method_1_code 252 = .ok (.if_icmp .ge (16), 3) := by decide +kernel
theorem dMO_init_255 : decode prog_13_method_1_code 255 = .ok (.aload_n 0, 1) := by decide +kernel
theorem dMO_init_256 : decode prog_13_method_1_code 256 = .ok (.getfield 19, 3) := by decide +kernel
theorem dMO_init_259 : decode prog_13_method_1_code 259 = .ok (.iload_n 1, 1) := by decide +kernel
theorem dMO_init_260 : decode prog_13_method_1_code 260 = .ok (.iconst 5, 1) := by decide +kernel
theorem dMO_init_261 : decode prog_13_method_1_code 261 = .ok (.iastore, 1) := by decide +kernel
theorem dMO_init_262 : decode prog_13_method_1_code 262 = .ok (.iinc 1 (1), 3) := by decide +kernel
theorem dMO_init_265 : decode prog_13_method_1_code 265 = .ok (.goto (-16), 3) := by decide +kernel
theorem dMO_init_268 : decode prog_13_method_1_code 268 = .ok (.return_, 1) := by decide +kernel
theorem lp_MN {G : sd_G} {o : Nat} {h : sd_H} {Q : sd_Q} {fs : List Value} {nx : Nat} (hB : G.2.1 ≤ o) (hf : fs[3]? = some (.ref (o + 4))) (kk : sd_W G mMO_init 1 29 6026 Q 268 [(1, .int (nI 8)), (0, .ref (o + 0))] [] (sd_up (pf G.1.2 mo_S o (zD 4 (F5_ (8))) h (0 + 1) 30) (o + 0) (.inr (10, fs))) nx 29 6026) : ∀ (m i : Nat), m + i = 8 → sd_W G mMO_init 1 29 6026 Q 249 [(1, .int (nI i)), (0, .ref (o + 0))] [] (sd_up (pf G.1.2 mo_S o (zD 4 (F5_ (i))) h (0 + 1) 30) (o + 0) (.inr (10, fs))) nx 29 6026
  | 0, i, e => by
    have e : i = 8 := by omega
    subst e
    refine sd_iload_n dMO_init_249 rfl rfl ?_
    refine sd_bipush (v := nI 8) dMO_init_250 (by decide) ?_
    refine nn_icmp_ge (a := 8) (b := 8) 268 dMO_init_252 rfl (by decide) (by decide) (fun _ => kk) (fun w => absurd w (by omega))
  | m + 1, i, e => by
    have hi : i < 8 := by omega
    refine sd_iload_n dMO_init_249 rfl rfl ?_
    refine sd_bipush (v := nI 8) dMO_init_250 (by decide) ?_
    refine nn_icmp_ge (a := i) (b := 8) 268 dMO_init_252 rfl (by omega) (by decide) (fun w => absurd w (by omega)) (fun _ => ?_)
    refine sd_aload_n dMO_init_255 rfl rfl ?_
    refine sd_getf 10 3 dMO_init_256 fMO_19 sd_up_s hf ?_
    refine sd_iload_n dMO_init_259 rfl rfl ?_
    refine sd_iconst (v := 5) dMO_init_260 (by decide) ?_
    refine sd_iast (N := 8) (f := F5_ i) dMO_init_261 (by rw [sd_up_n (by omega), pf_in (c := .inr (.inl 8)) (by omega) (by omega) rfl]; rfl) (nI_in hi (by decide)) (by omega) ?_
    rw [F5_1 (by omega), sd_upc (by omega), bi_ua (by omega) (by omega) rfl]
    refine nn_iinc 1 dMO_init_262 rfl (by decide) ?_
    refine sd_goto 249 dMO_init_265 rfl ?_
    exact lp_MN hB hf kk m (i + 1) (by omega)
theorem c_MO_init {G : sd_G} {o : Nat} {h : sd_H} (hB : G.2.1 ≤ o) (hc : h (o + 0) = some (.inr (10, fr_MO))) : sd_Ct G mMO_init 1 29 6026 [.ref (o + 0)] h (o + (0 + 1)) (sd_is none (pf G.1.2 mo_S o (zD 4 (F5_ 8)) h 0 30) (o + 30)) := by
  refine sd_Ct_of (by decide) (Nat.le_of_ble_eq_true rfl) ?_
  refine sd_eq rfl rfl rfl (bi_0 (A := G.1.2) (S := mo_S) (D := zD 4 (F5_ 0)) hc) rfl rfl rfl ?_
  refine sd_aload_n dMO_init_0 rfl rfl ?_
  refine sd_oinit dMO_init_1 OMO (by decide) (by decide) ?_
  refine sd_aload_n dMO_init_4 rfl rfl ?_
  refine sd_sipush (v := nI 1728) dMO_init_5 (by decide) ?_
  refine bi_arr 1 1728 0 dMO_init_8 dMO_init_10 FMO_7 rfl rfl (by omega) rfl (zD_n (by omega)) (by decide) (Nat.le_of_ble_eq_true rfl) hB (by omega) (by omega) ?_
  refine sd_eq (h' := sd_up (pf G.1.2 mo_S o (zD 4 (F5_ 0)) h (0 + 1) (1 + 1)) (o + 0) (.inr (10, [.ref (o + 1), .null, .null, .null, .null, .int 0, .int 0, .int 0, .null, .null, .null, .null, .null, .null, .int 0, .null, .int 0, .null, .null, .null, .null, .null, .null, .null, .null, .null, .null, .int 0, .int 0, .int 0, .null, .null, .null, .null, .null, .null, .null, .int 0]))) rfl rfl rfl rfl rfl rfl rfl ?_
  refine sd_aload_n dMO_init_13 rfl rfl ?_
  refine sd_sipush (v := nI 1728) dMO_init_14 (by decide) ?_
  refine bi_arr 2 1728 1 dMO_init_17 dMO_init_19 FMO_13 rfl rfl (by omega) rfl (zD_n (by omega)) (by decide) (Nat.le_of_ble_eq_true rfl) hB (by omega) (by omega) ?_
  refine sd_eq (h' := sd_up (pf G.1.2 mo_S o (zD 4 (F5_ 0)) h (0 + 1) (2 + 1)) (o + 0) (.inr (10, [.ref (o + 1), .ref (o + 2), .null, .null, .null, .int 0, .int 0, .int 0, .null, .null, .null, .null, .null, .null, .int 0, .null, .int 0, .null, .null, .null, .null, .null, .null, .null, .null, .null, .null, .int 0, .int 0, .int 0, .null, .null, .null, .null, .null, .null, .null, .int 0]))) rfl rfl rfl rfl rfl rfl rfl ?_
  refine sd_aload_n dMO_init_22 rfl rfl ?_
  refine sd_bipush (v := nI 72) dMO_init_23 (by decide) ?_
  refine bi_arr 3 72 2 dMO_init_25 dMO_init_27 FMO_16 rfl rfl (by omega) rfl (zD_n (by omega)) (by decide) (Nat.le_of_ble_eq_true rfl) hB (by omega) (by omega) ?_
  refine sd_eq (h' := sd_up (pf G.1.2 mo_S o (zD 4 (F5_ 0)) h (0 + 1) (3 + 1)) (o + 0) (.inr (10, [.ref (o + 1), .ref (o + 2), .ref (o + 3), .null, .null, .int 0, .int 0, .int 0, .null, .null, .null, .null, .null, .null, .int 0, .null, .int 0, .null, .null, .null, .null, .null, .null, .null, .null, .null, .null, .int 0, .int 0, .int 0, .null, .null, .null, .null, .null, .null, .null, .int 0]))) rfl rfl rfl rfl rfl rfl rfl ?_
  refine sd_aload_n dMO_init_30 rfl rfl ?_
  refine sd_bipush (v := nI 8) dMO_init_31 (by decide) ?_
  refine bi_arr 4 8 3 dMO_init_33 dMO_init_35 FMO_19 rfl rfl (by omega) rfl (by rw [zD_s]; exact F5_0) (by decide) (Nat.le_of_ble_eq_true rfl) hB (by omega) (by omega) ?_
  refine sd_eq (h' := sd_up (pf G.1.2 mo_S o (zD 4 (F5_ 0)) h (0 + 1) (4 + 1)) (o + 0) (.inr (10, [.ref (o + 1), .ref (o + 2), .ref (o + 3), .ref (o + 4), .null, .int 0, .int 0, .int 0, .null, .null, .null, .null, .null, .null, .int 0, .null, .int 0, .null, .null, .null, .null, .null, .null, .null, .null, .null, .null, .int 0, .int 0, .int 0, .null, .null, .null, .null, .null, .null, .null, .int 0]))) rfl rfl rfl rfl rfl rfl rfl ?_
  refine sd_aload_n dMO_init_38 rfl rfl ?_
  refine sd_bipush (v := nI 24) dMO_init_39 (by decide) ?_
  refine bi_arr 5 24 4 dMO_init_41 dMO_init_43 FMO_22 rfl rfl (by omega) rfl (zD_n (by omega)) (by decide) (Nat.le_of_ble_eq_true rfl) hB (by omega) (by omega) ?_
  refine sd_eq (h' := sd_up (pf G.1.2 mo_S o (zD 4 (F5_ 0)) h (0 + 1) (5 + 1)) (o + 0) (.inr (10, [.ref (o + 1), .ref (o + 2), .ref (o + 3), .ref (o + 4), .ref (o + 5), .int 0, .int 0, .int 0, .null, .null, .null, .null, .null, .null, .int 0, .null, .int 0, .null, .null, .null, .null, .null, .null, .null, .null, .null, .null, .int 0, .int 0, .int 0, .null, .null, .null, .null, .null, .null, .null, .int 0]))) rfl rfl rfl rfl rfl rfl rfl ?_
  refine sd_aload_n dMO_init_46 rfl rfl ?_
  refine sd_bipush (v := nI 40) dMO_init_47 (by decide) ?_
  refine bi_arr 6 40 8 dMO_init_49 dMO_init_51 FMO_25 rfl rfl (by omega) rfl (zD_n (by omega)) (by decide) (Nat.le_of_ble_eq_true rfl) hB (by omega) (by omega) ?_
  refine sd_eq (h' := sd_up (pf G.1.2 mo_S o (zD 4 (F5_ 0)) h (0 + 1) (6 + 1)) (o + 0) (.inr (10, [.ref (o + 1), .ref (o + 2), .ref (o + 3), .ref (o + 4), .ref (o + 5), .int 0, .int 0, .int 0, .ref (o + 6), .null, .null, .null, .null, .null, .int 0, .null, .int 0, .null, .null, .null, .null, .null, .null, .null, .null, .null, .null, .int 0, .int 0, .int 0, .null, .null, .null, .null, .null, .null, .null, .int 0]))) rfl rfl rfl rfl rfl rfl rfl ?_
  refine sd_aload_n dMO_init_54 rfl rfl ?_
  refine sd_bipush (v := nI 40) dMO_init_55 (by decide) ?_
  refine bi_arr 7 40 9 dMO_init_57 dMO_init_59 FMO_28 rfl rfl (by omega) rfl (zD_n (by omega)) (by decide) (Nat.le_of_ble_eq_true rfl) hB (by omega) (by omega) ?_
  refine sd_eq (h' := sd_up (pf G.1.2 mo_S o (zD 4 (F5_ 0)) h (0 + 1) (7 + 1)) (o + 0) (.inr (10, [.ref (o + 1), .ref (o + 2), .ref (o + 3), .ref (o + 4), .ref (o + 5), .int 0, .int 0, .int 0, .ref (o + 6), .ref (o + 7), .null, .null, .null, .null, .int 0, .null, .int 0, .null, .null, .null, .null, .null, .null, .null, .null, .null, .null, .int 0, .int 0, .int 0, .null, .null, .null, .null, .null, .null, .null, .int 0]))) rfl rfl rfl rfl rfl rfl rfl ?_
  refine sd_aload_n dMO_init_62 rfl rfl ?_
  refine sd_sipush (v := nI 240) dMO_init_63 (by decide) ?_
  refine bi_arr 8 240 10 dMO_init_66 dMO_init_68 FMO_31 rfl rfl (by omega) rfl (zD_n (by omega)) (by decide) (Nat.le_of_ble_eq_true rfl) hB (by omega) (by omega) ?_
  refine sd_eq (h' := sd_up (pf G.1.2 mo_S o (zD 4 (F5_ 0)) h (0 + 1) (8 + 1)) (o + 0) (.inr (10, [.ref (o + 1), .ref (o + 2), .ref (o + 3), .ref (o + 4), .ref (o + 5), .int 0, .int 0, .int 0, .ref (o + 6), .ref (o + 7), .ref (o + 8), .null, .null, .null, .int 0, .null, .int 0, .null, .null, .null, .null, .null, .null, .null, .null, .null, .null, .int 0, .int 0, .int 0, .null, .null, .null, .null, .null, .null, .null, .int 0]))) rfl rfl rfl rfl rfl rfl rfl ?_
  refine sd_aload_n dMO_init_71 rfl rfl ?_
  refine sd_bipush (v := nI 40) dMO_init_72 (by decide) ?_
  refine bi_arr 9 40 11 dMO_init_74 dMO_init_76 FMO_34 rfl rfl (by omega) rfl (zD_n (by omega)) (by decide) (Nat.le_of_ble_eq_true rfl) hB (by omega) (by omega) ?_
  refine sd_eq (h' := sd_up (pf G.1.2 mo_S o (zD 4 (F5_ 0)) h (0 + 1) (9 + 1)) (o + 0) (.inr (10, [.ref (o + 1), .ref (o + 2), .ref (o + 3), .ref (o + 4), .ref (o + 5), .int 0, .int 0, .int 0, .ref (o + 6), .ref (o + 7), .ref (o + 8), .ref (o + 9), .null, .null, .int 0, .null, .int 0, .null, .null, .null, .null, .null, .null, .null, .null, .null, .null, .int 0, .int 0, .int 0, .null, .null, .null, .null, .null, .null, .null, .int 0]))) rfl rfl rfl rfl rfl rfl rfl ?_
  refine sd_aload_n dMO_init_79 rfl rfl ?_
  refine sd_bipush (v := nI 40) dMO_init_80 (by decide) ?_
  refine bi_arr 10 40 12 dMO_init_82 dMO_init_84 FMO_37 rfl rfl (by omega) rfl (zD_n (by omega)) (by decide) (Nat.le_of_ble_eq_true rfl) hB (by omega) (by omega) ?_
  refine sd_eq (h' := sd_up (pf G.1.2 mo_S o (zD 4 (F5_ 0)) h (0 + 1) (10 + 1)) (o + 0) (.inr (10, [.ref (o + 1), .ref (o + 2), .ref (o + 3), .ref (o + 4), .ref (o + 5), .int 0, .int 0, .int 0, .ref (o + 6), .ref (o + 7), .ref (o + 8), .ref (o + 9), .ref (o + 10), .null, .int 0, .null, .int 0, .null, .null, .null, .null, .null, .null, .null, .null, .null, .null, .int 0, .int 0, .int 0, .null, .null, .null, .null, .null, .null, .null, .int 0]))) rfl rfl rfl rfl rfl rfl rfl ?_
  refine sd_aload_n dMO_init_87 rfl rfl ?_
  refine sd_bipush (v := nI 40) dMO_init_88 (by decide) ?_
  refine bi_arr 11 40 13 dMO_init_90 dMO_init_92 FMO_40 rfl rfl (by omega) rfl (zD_n (by omega)) (by decide) (Nat.le_of_ble_eq_true rfl) hB (by omega) (by omega) ?_
  refine sd_eq (h' := sd_up (pf G.1.2 mo_S o (zD 4 (F5_ 0)) h (0 + 1) (11 + 1)) (o + 0) (.inr (10, [.ref (o + 1), .ref (o + 2), .ref (o + 3), .ref (o + 4), .ref (o + 5), .int 0, .int 0, .int 0, .ref (o + 6), .ref (o + 7), .ref (o + 8), .ref (o + 9), .ref (o + 10), .ref (o + 11), .int 0, .null, .int 0, .null, .null, .null, .null, .null, .null, .null, .null, .null, .null, .int 0, .int 0, .int 0, .null, .null, .null, .null, .null, .null, .null, .int 0]))) rfl rfl rfl rfl rfl rfl rfl ?_
  refine sd_aload_n dMO_init_95 rfl rfl ?_
  refine sd_bipush (v := nI 12) dMO_init_96 (by decide) ?_
  refine bi_arr 12 12 15 dMO_init_98 dMO_init_100 FMO_43 rfl rfl (by omega) rfl (zD_n (by omega)) (by decide) (Nat.le_of_ble_eq_true rfl) hB (by omega) (by omega) ?_
  refine sd_eq (h' := sd_up (pf G.1.2 mo_S o (zD 4 (F5_ 0)) h (0 + 1) (12 + 1)) (o + 0) (.inr (10, [.ref (o + 1), .ref (o + 2), .ref (o + 3), .ref (o + 4), .ref (o + 5), .int 0, .int 0, .int 0, .ref (o + 6), .ref (o + 7), .ref (o + 8), .ref (o + 9), .ref (o + 10), .ref (o + 11), .int 0, .ref (o + 12), .int 0, .null, .null, .null, .null, .null, .null, .null, .null, .null, .null, .int 0, .int 0, .int 0, .null, .null, .null, .null, .null, .null, .null, .int 0]))) rfl rfl rfl rfl rfl rfl rfl ?_
  refine sd_aload_n dMO_init_103 rfl rfl ?_
  refine sd_bipush (v := nI 30) dMO_init_104 (by decide) ?_
  refine bi_arr 13 30 17 dMO_init_106 dMO_init_108 FMO_46 rfl rfl (by omega) rfl (zD_n (by omega)) (by decide) (Nat.le_of_ble_eq_true rfl) hB (by omega) (by omega) ?_
  refine sd_eq (h' := sd_up (pf G.1.2 mo_S o (zD 4 (F5_ 0)) h (0 + 1) (13 + 1)) (o + 0) (.inr (10, [.ref (o + 1), .ref (o + 2), .ref (o + 3), .ref (o + 4), .ref (o + 5), .int 0, .int 0, .int 0, .ref (o + 6), .ref (o + 7), .ref (o + 8), .ref (o + 9), .ref (o + 10), .ref (o + 11), .int 0, .ref (o + 12), .int 0, .ref (o + 13), .null, .null, .null, .null, .null, .null, .null, .null, .null, .int 0, .int 0, .int 0, .null, .null, .null, .null, .null, .null, .null, .int 0]))) rfl rfl rfl rfl rfl rfl rfl ?_
  refine sd_aload_n dMO_init_111 rfl rfl ?_
  refine sd_bipush (v := nI 30) dMO_init_112 (by decide) ?_
  refine bi_arr 14 30 18 dMO_init_114 dMO_init_116 FMO_49 rfl rfl (by omega) rfl (zD_n (by omega)) (by decide) (Nat.le_of_ble_eq_true rfl) hB (by omega) (by omega) ?_
  refine sd_eq (h' := sd_up (pf G.1.2 mo_S o (zD 4 (F5_ 0)) h (0 + 1) (14 + 1)) (o + 0) (.inr (10, [.ref (o + 1), .ref (o + 2), .ref (o + 3), .ref (o + 4), .ref (o + 5), .int 0, .int 0, .int 0, .ref (o + 6), .ref (o + 7), .ref (o + 8), .ref (o + 9), .ref (o + 10), .ref (o + 11), .int 0, .ref (o + 12), .int 0, .ref (o + 13), .ref (o + 14), .null, .null, .null, .null, .null, .null, .null, .null, .int 0, .int 0, .int 0, .null, .null, .null, .null, .null, .null, .null, .int 0]))) rfl rfl rfl rfl rfl rfl rfl ?_
  refine sd_aload_n dMO_init_119 rfl rfl ?_
  refine sd_sipush (v := nI 180) dMO_init_120 (by decide) ?_
  refine bi_arr 15 180 19 dMO_init_123 dMO_init_125 FMO_52 rfl rfl (by omega) rfl (zD_n (by omega)) (by decide) (Nat.le_of_ble_eq_true rfl) hB (by omega) (by omega) ?_
  refine sd_eq (h' := sd_up (pf G.1.2 mo_S o (zD 4 (F5_ 0)) h (0 + 1) (15 + 1)) (o + 0) (.inr (10, [.ref (o + 1), .ref (o + 2), .ref (o + 3), .ref (o + 4), .ref (o + 5), .int 0, .int 0, .int 0, .ref (o + 6), .ref (o + 7), .ref (o + 8), .ref (o + 9), .ref (o + 10), .ref (o + 11), .int 0, .ref (o + 12), .int 0, .ref (o + 13), .ref (o + 14), .ref (o + 15), .null, .null, .null, .null, .null, .null, .null, .int 0, .int 0, .int 0, .null, .null, .null, .null, .null, .null, .null, .int 0]))) rfl rfl rfl rfl rfl rfl rfl ?_
  refine sd_aload_n dMO_init_128 rfl rfl ?_
  refine sd_bipush (v := nI 30) dMO_init_129 (by decide) ?_
  refine bi_arr 16 30 20 dMO_init_131 dMO_init_133 FMO_55 rfl rfl (by omega) rfl (zD_n (by omega)) (by decide) (Nat.le_of_ble_eq_true rfl) hB (by omega) (by omega) ?_
  refine sd_eq (h' := sd_up (pf G.1.2 mo_S o (zD 4 (F5_ 0)) h (0 + 1) (16 + 1)) (o + 0) (.inr (10, [.ref (o + 1), .ref (o + 2), .ref (o + 3), .ref (o + 4), .ref (o + 5), .int 0, .int 0, .int 0, .ref (o + 6), .ref (o + 7), .ref (o + 8), .ref (o + 9), .ref (o + 10), .ref (o + 11), .int 0, .ref (o + 12), .int 0, .ref (o + 13), .ref (o + 14), .ref (o + 15), .ref (o + 16), .null, .null, .null, .null, .null, .null, .int 0, .int 0, .int 0, .null, .null, .null, .null, .null, .null, .null, .int 0]))) rfl rfl rfl rfl rfl rfl rfl ?_
  refine sd_aload_n dMO_init_136 rfl rfl ?_
  refine sd_bipush (v := nI 30) dMO_init_137 (by decide) ?_
  refine bi_arr 17 30 21 dMO_init_139 dMO_init_141 FMO_58 rfl rfl (by omega) rfl (zD_n (by omega)) (by decide) (Nat.le_of_ble_eq_true rfl) hB (by omega) (by omega) ?_
  refine sd_eq (h' := sd_up (pf G.1.2 mo_S o (zD 4 (F5_ 0)) h (0 + 1) (17 + 1)) (o + 0) (.inr (10, [.ref (o + 1), .ref (o + 2), .ref (o + 3), .ref (o + 4), .ref (o + 5), .int 0, .int 0, .int 0, .ref (o + 6), .ref (o + 7), .ref (o + 8), .ref (o + 9), .ref (o + 10), .ref (o + 11), .int 0, .ref (o + 12), .int 0, .ref (o + 13), .ref (o + 14), .ref (o + 15), .ref (o + 16), .ref (o + 17), .null, .null, .null, .null, .null, .int 0, .int 0, .int 0, .null, .null, .null, .null, .null, .null, .null, .int 0]))) rfl rfl rfl rfl rfl rfl rfl ?_
  refine sd_aload_n dMO_init_144 rfl rfl ?_
  refine sd_bipush (v := nI 30) dMO_init_145 (by decide) ?_
  refine bi_arr 18 30 22 dMO_init_147 dMO_init_149 FMO_61 rfl rfl (by omega) rfl (zD_n (by omega)) (by decide) (Nat.le_of_ble_eq_true rfl) hB (by omega) (by omega) ?_
  refine sd_eq (h' := sd_up (pf G.1.2 mo_S o (zD 4 (F5_ 0)) h (0 + 1) (18 + 1)) (o + 0) (.inr (10, [.ref (o + 1), .ref (o + 2), .ref (o + 3), .ref (o + 4), .ref (o + 5), .int 0, .int 0, .int 0, .ref (o + 6), .ref (o + 7), .ref (o + 8), .ref (o + 9), .ref (o + 10), .ref (o + 11), .int 0, .ref (o + 12), .int 0, .ref (o + 13), .ref (o + 14), .ref (o + 15), .ref (o + 16), .ref (o + 17), .ref (o + 18), .null, .null, .null, .null, .int 0, .int 0, .int 0, .null, .null, .null, .null, .null, .null, .null, .int 0]))) rfl rfl rfl rfl rfl rfl rfl ?_
  refine sd_aload_n dMO_init_152 rfl rfl ?_
  refine sd_bipush (v := nI 30) dMO_init_153 (by decide) ?_
  refine bi_arr 19 30 23 dMO_init_155 dMO_init_157 FMO_64 rfl rfl (by omega) rfl (zD_n (by omega)) (by decide) (Nat.le_of_ble_eq_true rfl) hB (by omega) (by omega) ?_
  refine sd_eq (h' := sd_up (pf G.1.2 mo_S o (zD 4 (F5_ 0)) h (0 + 1) (19 + 1)) (o + 0) (.inr (10, [.ref (o + 1), .ref (o + 2), .ref (o + 3), .ref (o + 4), .ref (o + 5), .int 0, .int 0, .int 0, .ref (o + 6), .ref (o + 7), .ref (o + 8), .ref (o + 9), .ref (o + 10), .ref (o + 11), .int 0, .ref (o + 12), .int 0, .ref (o + 13), .ref (o + 14), .ref (o + 15), .ref (o + 16), .ref (o + 17), .ref (o + 18), .ref (o + 19), .null, .null, .null, .int 0, .int 0, .int 0, .null, .null, .null, .null, .null, .null, .null, .int 0]))) rfl rfl rfl rfl rfl rfl rfl ?_
  refine sd_aload_n dMO_init_160 rfl rfl ?_
  refine sd_bipush (v := nI 30) dMO_init_161 (by decide) ?_
  refine bi_arr 20 30 24 dMO_init_163 dMO_init_165 FMO_67 rfl rfl (by omega) rfl (zD_n (by omega)) (by decide) (Nat.le_of_ble_eq_true rfl) hB (by omega) (by omega) ?_
  refine sd_eq (h' := sd_up (pf G.1.2 mo_S o (zD 4 (F5_ 0)) h (0 + 1) (20 + 1)) (o + 0) (.inr (10, [.ref (o + 1), .ref (o + 2), .ref (o + 3), .ref (o + 4), .ref (o + 5), .int 0, .int 0, .int 0, .ref (o + 6), .ref (o + 7), .ref (o + 8), .ref (o + 9), .ref (o + 10), .ref (o + 11), .int 0, .ref (o + 12), .int 0, .ref (o + 13), .ref (o + 14), .ref (o + 15), .ref (o + 16), .ref (o + 17), .ref (o + 18), .ref (o + 19), .ref (o + 20), .null, .null, .int 0, .int 0, .int 0, .null, .null, .null, .null, .null, .null, .null, .int 0]))) rfl rfl rfl rfl rfl rfl rfl ?_
  refine sd_aload_n dMO_init_168 rfl rfl ?_
  refine sd_bipush (v := nI 30) dMO_init_169 (by decide) ?_
  refine bi_arr 21 30 25 dMO_init_171 dMO_init_173 FMO_70 rfl rfl (by omega) rfl (zD_n (by omega)) (by decide) (Nat.le_of_ble_eq_true rfl) hB (by omega) (by omega) ?_
  refine sd_eq (h' := sd_up (pf G.1.2 mo_S o (zD 4 (F5_ 0)) h (0 + 1) (21 + 1)) (o + 0) (.inr (10, [.ref (o + 1), .ref (o + 2), .ref (o + 3), .ref (o + 4), .ref (o + 5), .int 0, .int 0, .int 0, .ref (o + 6), .ref (o + 7), .ref (o + 8), .ref (o + 9), .ref (o + 10), .ref (o + 11), .int 0, .ref (o + 12), .int 0, .ref (o + 13), .ref (o + 14), .ref (o + 15), .ref (o + 16), .ref (o + 17), .ref (o + 18), .ref (o + 19), .ref (o + 20), .ref (o + 21), .null, .int 0, .int 0, .int 0, .null, .null, .null, .null, .null, .null, .null, .int 0]))) rfl rfl rfl rfl rfl rfl rfl ?_
  refine sd_aload_n dMO_init_176 rfl rfl ?_
  refine sd_bipush (v := nI 30) dMO_init_177 (by decide) ?_
  refine bi_arr 22 30 26 dMO_init_179 dMO_init_181 FMO_73 rfl rfl (by omega) rfl (zD_n (by omega)) (by decide) (Nat.le_of_ble_eq_true rfl) hB (by omega) (by omega) ?_
  refine sd_eq (h' := sd_up (pf G.1.2 mo_S o (zD 4 (F5_ 0)) h (0 + 1) (22 + 1)) (o + 0) (.inr (10, [.ref (o + 1), .ref (o + 2), .ref (o + 3), .ref (o + 4), .ref (o + 5), .int 0, .int 0, .int 0, .ref (o + 6), .ref (o + 7), .ref (o + 8), .ref (o + 9), .ref (o + 10), .ref (o + 11), .int 0, .ref (o + 12), .int 0, .ref (o + 13), .ref (o + 14), .ref (o + 15), .ref (o + 16), .ref (o + 17), .ref (o + 18), .ref (o + 19), .ref (o + 20), .ref (o + 21), .ref (o + 22), .int 0, .int 0, .int 0, .null, .null, .null, .null, .null, .null, .null, .int 0]))) rfl rfl rfl rfl rfl rfl rfl ?_
  refine sd_aload_n dMO_init_184 rfl rfl ?_
  refine sd_sipush (v := nI 194) dMO_init_185 (by decide) ?_
  refine bi_arr 23 194 30 dMO_init_188 dMO_init_190 FMO_76 rfl rfl (by omega) rfl (zD_n (by omega)) (by decide) (Nat.le_of_ble_eq_true rfl) hB (by omega) (by omega) ?_
  refine sd_eq (h' := sd_up (pf G.1.2 mo_S o (zD 4 (F5_ 0)) h (0 + 1) (23 + 1)) (o + 0) (.inr (10, [.ref (o + 1), .ref (o + 2), .ref (o + 3), .ref (o + 4), .ref (o + 5), .int 0, .int 0, .int 0, .ref (o + 6), .ref (o + 7), .ref (o + 8), .ref (o + 9), .ref (o + 10), .ref (o + 11), .int 0, .ref (o + 12), .int 0, .ref (o + 13), .ref (o + 14), .ref (o + 15), .ref (o + 16), .ref (o + 17), .ref (o + 18), .ref (o + 19), .ref (o + 20), .ref (o + 21), .ref (o + 22), .int 0, .int 0, .int 0, .ref (o + 23), .null, .null, .null, .null, .null, .null, .int 0]))) rfl rfl rfl rfl rfl rfl rfl ?_
  refine sd_aload_n dMO_init_193 rfl rfl ?_
  refine sd_sipush (v := nI 194) dMO_init_194 (by decide) ?_
  refine bi_arr 24 194 31 dMO_init_197 dMO_init_199 FMO_79 rfl rfl (by omega) rfl (zD_n (by omega)) (by decide) (Nat.le_of_ble_eq_true rfl) hB (by omega) (by omega) ?_
  refine sd_eq (h' := sd_up (pf G.1.2 mo_S o (zD 4 (F5_ 0)) h (0 + 1) (24 + 1)) (o + 0) (.inr (10, [.ref (o + 1), .ref (o + 2), .ref (o + 3), .ref (o + 4), .ref (o + 5), .int 0, .int 0, .int 0, .ref (o + 6), .ref (o + 7), .ref (o + 8), .ref (o + 9), .ref (o + 10), .ref (o + 11), .int 0, .ref (o + 12), .int 0, .ref (o + 13), .ref (o + 14), .ref (o + 15), .ref (o + 16), .ref (o + 17), .ref (o + 18), .ref (o + 19), .ref (o + 20), .ref (o + 21), .ref (o + 22), .int 0, .int 0, .int 0, .ref (o + 23), .ref (o + 24), .null, .null, .null, .null, .null, .int 0]))) rfl rfl rfl rfl rfl rfl rfl ?_
  refine sd_aload_n dMO_init_202 rfl rfl ?_
  refine sd_sipush (v := nI 194) dMO_init_203 (by decide) ?_
  refine bi_arr 25 194 32 dMO_init_206 dMO_init_208 FMO_82 rfl rfl (by omega) rfl (zD_n (by omega)) (by decide) (Nat.le_of_ble_eq_true rfl) hB (by omega) (by omega) ?_
  refine sd_eq (h' := sd_up (pf G.1.2 mo_S o (zD 4 (F5_ 0)) h (0 + 1) (25 + 1)) (o + 0) (.inr (10, [.ref (o + 1), .ref (o + 2), .ref (o + 3), .ref (o + 4), .ref (o + 5), .int 0, .int 0, .int 0, .ref (o + 6), .ref (o + 7), .ref (o + 8), .ref (o + 9), .ref (o + 10), .ref (o + 11), .int 0, .ref (o + 12), .int 0, .ref (o + 13), .ref (o + 14), .ref (o + 15), .ref (o + 16), .ref (o + 17), .ref (o + 18), .ref (o + 19), .ref (o + 20), .ref (o + 21), .ref (o + 22), .int 0, .int 0, .int 0, .ref (o + 23), .ref (o + 24), .ref (o + 25), .null, .null, .null, .null, .int 0]))) rfl rfl rfl rfl rfl rfl rfl ?_
  refine sd_aload_n dMO_init_211 rfl rfl ?_
  refine sd_sipush (v := nI 194) dMO_init_212 (by decide) ?_
  refine bi_arr 26 194 33 dMO_init_215 dMO_init_217 FMO_85 rfl rfl (by omega) rfl (zD_n (by omega)) (by decide) (Nat.le_of_ble_eq_true rfl) hB (by omega) (by omega) ?_
  refine sd_eq (h' := sd_up (pf G.1.2 mo_S o (zD 4 (F5_ 0)) h (0 + 1) (26 + 1)) (o + 0) (.inr (10, [.ref (o + 1), .ref (o + 2), .ref (o + 3), .ref (o + 4), .ref (o + 5), .int 0, .int 0, .int 0, .ref (o + 6), .ref (o + 7), .ref (o + 8), .ref (o + 9), .ref (o + 10), .ref (o + 11), .int 0, .ref (o + 12), .int 0, .ref (o + 13), .ref (o + 14), .ref (o + 15), .ref (o + 16), .ref (o + 17), .ref (o + 18), .ref (o + 19), .ref (o + 20), .ref (o + 21), .ref (o + 22), .int 0, .int 0, .int 0, .ref (o + 23), .ref (o + 24), .ref (o + 25), .ref (o + 26), .null, .null, .null, .int 0]))) rfl rfl rfl rfl rfl rfl rfl ?_
  refine sd_aload_n dMO_init_220 rfl rfl ?_
  refine sd_sipush (v := nI 194) dMO_init_221 (by decide) ?_
  refine bi_arr 27 194 34 dMO_init_224 dMO_init_226 FMO_88 rfl rfl (by omega) rfl (zD_n (by omega)) (by decide) (Nat.le_of_ble_eq_true rfl) hB (by omega) (by omega) ?_
  refine sd_eq (h' := sd_up (pf G.1.2 mo_S o (zD 4 (F5_ 0)) h (0 + 1) (27 + 1)) (o + 0) (.inr (10, [.ref (o + 1), .ref (o + 2), .ref (o + 3), .ref (o + 4), .ref (o + 5), .int 0, .int 0, .int 0, .ref (o + 6), .ref (o + 7), .ref (o + 8), .ref (o + 9), .ref (o + 10), .ref (o + 11), .int 0, .ref (o + 12), .int 0, .ref (o + 13), .ref (o + 14), .ref (o + 15), .ref (o + 16), .ref (o + 17), .ref (o + 18), .ref (o + 19), .ref (o + 20), .ref (o + 21), .ref (o + 22), .int 0, .int 0, .int 0, .ref (o + 23), .ref (o + 24), .ref (o + 25), .ref (o + 26), .ref (o + 27), .null, .null, .int 0]))) rfl rfl rfl rfl rfl rfl rfl ?_
  refine sd_aload_n dMO_init_229 rfl rfl ?_
  refine sd_sipush (v := nI 194) dMO_init_230 (by decide) ?_
  refine bi_arr 28 194 35 dMO_init_233 dMO_init_235 FMO_91 rfl rfl (by omega) rfl (zD_n (by omega)) (by decide) (Nat.le_of_ble_eq_true rfl) hB (by omega) (by omega) ?_
  refine sd_eq (h' := sd_up (pf G.1.2 mo_S o (zD 4 (F5_ 0)) h (0 + 1) (28 + 1)) (o + 0) (.inr (10, [.ref (o + 1), .ref (o + 2), .ref (o + 3), .ref (o + 4), .ref (o + 5), .int 0, .int 0, .int 0, .ref (o + 6), .ref (o + 7), .ref (o + 8), .ref (o + 9), .ref (o + 10), .ref (o + 11), .int 0, .ref (o + 12), .int 0, .ref (o + 13), .ref (o + 14), .ref (o + 15), .ref (o + 16), .ref (o + 17), .ref (o + 18), .ref (o + 19), .ref (o + 20), .ref (o + 21), .ref (o + 22), .int 0, .int 0, .int 0, .ref (o + 23), .ref (o + 24), .ref (o + 25), .ref (o + 26), .ref (o + 27), .ref (o + 28), .null, .int 0]))) rfl rfl rfl rfl rfl rfl rfl ?_
  refine sd_aload_n dMO_init_238 rfl rfl ?_
  refine sd_sipush (v := nI 400) dMO_init_239 (by decide) ?_
  refine bi_arr 29 400 36 dMO_init_242 dMO_init_244 FMO_94 rfl rfl (by omega) rfl (zD_n (by omega)) (by decide) (Nat.le_of_ble_eq_true rfl) hB (by omega) (by omega) ?_
  refine sd_eq (h' := sd_up (pf G.1.2 mo_S o (zD 4 (F5_ 0)) h (0 + 1) (29 + 1)) (o + 0) (.inr (10, [.ref (o + 1), .ref (o + 2), .ref (o + 3), .ref (o + 4), .ref (o + 5), .int 0, .int 0, .int 0, .ref (o + 6), .ref (o + 7), .ref (o + 8), .ref (o + 9), .ref (o + 10), .ref (o + 11), .int 0, .ref (o + 12), .int 0, .ref (o + 13), .ref (o + 14), .ref (o + 15), .ref (o + 16), .ref (o + 17), .ref (o + 18), .ref (o + 19), .ref (o + 20), .ref (o + 21), .ref (o + 22), .int 0, .int 0, .int 0, .ref (o + 23), .ref (o + 24), .ref (o + 25), .ref (o + 26), .ref (o + 27), .ref (o + 28), .ref (o + 29), .int 0]))) rfl rfl rfl rfl rfl rfl rfl ?_
  refine sd_iconst (v := nI 0) dMO_init_247 (by decide) ?_
  refine sd_istore_n dMO_init_248 rfl (by decide) ?_
  refine lp_MN hB rfl ?_ 8 0 rfl
  exact sd_vret dMO_init_268 rfl (by decide) (by decide) ⟨rfl, bi_end (b := 0) (x := 30) (by omega) rfl rfl, rfl⟩
theorem pf_fx {A : Nat → ClassId} {S : fx_S} {o N : Nat} {D : fx_D} {h : sd_H} {E : va_E} (hN : 0 < N) (h1 : ∀ x, S x = none → N ≤ x ∨ h (o + x) = none) (h2 : ∀ x, N ≤ x → S x = none) : pf A S o D (sd_up h (o + 0) E) 0 N = fx_h A S o D h := by
  funext q
  unfold pf fx_h
  by_cases hq : q < o
  · rw [if_neg (by omega), if_pos hq, sd_up_n (by omega)]
  · rw [if_neg hq]
    obtain ⟨x, rfl⟩ : ∃ x, q = o + x := ⟨q - o, by omega⟩
    rw [Nat.add_sub_cancel_left]
    by_cases hx : x < N
    · rw [if_pos ⟨by omega, by omega⟩]
      cases e : S x with
      | some c => rfl
      | none =>
        rcases h1 x e with w | w
        · omega
        · exact w.symm
    · rw [if_neg (by omega), sd_up_n (by omega), h2 x (by omega)]
theorem fx_swap {A : Nat → ClassId} {S S' : fx_S} {o N : Nat} {D D' : fx_D} {h : sd_H} (hs : ∀ x, N ≤ x → S x = none) : fx_h A S o D (fx_h A S' (o + N) D' h) = fx_h A S' (o + N) D' (fx_h A S o D h) := by
  funext q
  by_cases h1 : q < o
  · have h2 : q < o + N := by omega
    simp only [fx_h, if_pos h1, if_pos h2]
  · by_cases h2 : q < o + N
    · simp only [fx_h, if_neg h1, if_pos h2]
    · simp only [fx_h, if_neg h1, if_neg h2, hs (q - o) (by omega)]
theorem dk_out {x : Nat} (h : 532 ≤ x) : dk_S x = none := by
  unfold dk_S
  rw [if_neg (by omega), if_neg (by omega), if_neg (by omega), if_neg (by omega), if_neg (by omega), if_neg (by omega), if_neg (by omega), if_neg (by omega), if_neg (by omega), if_neg (by omega), if_neg (by omega), if_neg (by omega), if_neg (by omega), if_neg (by omega), if_neg (by omega), if_neg (by omega), if_neg (by omega)]
theorem mo_out {x : Nat} (h : 30 ≤ x) : mo_S x = none := by
  unfold mo_S
  rw [if_neg (by omega), List.getElem?_eq_none (show mo_L.length ≤ x from h)]
  rfl
theorem mo_got {x : Nat} (h : mo_S x = none) : 30 ≤ x := by
  rcases Nat.lt_or_ge x 30 with w | w
  · exfalso
    unfold mo_S at h
    split at h
    · cases h
    · rw [List.getElem?_eq_getElem (show x < mo_L.length from w)] at h
      cases h
  · exact w
theorem ty_ok5 : ty_ok 5 := by
  refine ⟨by decide, by decide, ?_⟩
  decide
theorem F5_8 {v : Nat} (h : v < 8) : F5_ 8 v = nI 5 := by
  unfold F5_
  rw [if_pos h]
  rfl
theorem dk_R0 : dk_R st_0 (zD 2 (F5_ 8)) := by
  refine ⟨fun v hv => ⟨?_, ty_ok5⟩, ⟨Nat.zero_le _, Nat.zero_le _, rfl, fun t l e => ?_⟩, ⟨Nat.zero_le _, rfl, fun t l e => ?_⟩, ⟨Nat.zero_le _, rfl, fun t l e => ?_⟩, ⟨Nat.zero_le _, rfl, fun t l e => ?_⟩, ⟨Nat.zero_le _, rfl, fun t l e => ?_⟩, ⟨Nat.zero_le _, rfl, fun t l e => ?_⟩⟩
  · rw [zD_s]
    exact F5_8 hv
  all_goals (exfalso; simp [st_0, st_T, st_dr, st_th, st_gl, st_op, st_dn] at e)
theorem mo_R0 : mo_R st_0 (zD 4 (F5_ 8)) := by
  refine ⟨fun v hv => ⟨?_, ty_ok5⟩, ⟨Nat.zero_le _, rfl, fun t l e => ?_⟩, fun q _ _ => ⟨0, Nat.zero_le _, ?_⟩, ⟨Nat.zero_le _, rfl, fun t l e => ?_⟩, ⟨Nat.zero_le _, rfl, fun t l e => ?_⟩, ⟨Nat.zero_le _, rfl, fun t l e => ?_⟩, ⟨Nat.zero_le _, rfl, fun t l e => ?_⟩, ⟨Nat.zero_le _, rfl, fun t l e => ?_⟩⟩
  · rw [zD_s]
    exact F5_8 hv
  · exfalso; simp [st_0, st_T] at e
  · rw [zD_n (by omega)]
    rfl
  all_goals (exfalso; simp [st_0, st_T, st_dr, st_th, st_gl, st_op, st_dn] at e)
