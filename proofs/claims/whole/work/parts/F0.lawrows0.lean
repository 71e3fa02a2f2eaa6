/-! ===== the law, decoded ===== -/
theorem dLA_0 : decode code 0 = .ok (.new 7, 3) := by decide +kernel
theorem dLA_3 : decode code 3 = .ok (.dup, 1) := by decide +kernel
theorem dLA_4 : decode code 4 = .ok (.invokespecial 9, 3) := by decide +kernel
theorem dLA_7 : decode code 7 = .ok (.astore_n 1, 1) := by decide +kernel
theorem dLA_8 : decode code 8 = .ok (.new 10, 3) := by decide +kernel
theorem dLA_11 : decode code 11 = .ok (.dup, 1) := by decide +kernel
theorem dLA_12 : decode code 12 = .ok (.invokespecial 12, 3) := by decide +kernel
theorem dLA_15 : decode code 15 = .ok (.astore_n 2, 1) := by decide +kernel
theorem dLA_16 : decode code 16 = .ok (.iconst 0, 1) := by decide +kernel
theorem dLA_17 : decode code 17 = .ok (.istore_n 3, 1) := by decide +kernel
theorem dLA_18 : decode code 18 = .ok (.iload_n 3, 1) := by decide +kernel
theorem dLA_19 : decode code 19 = .ok (.aload_n 0, 1) := by decide +kernel
theorem dLA_20 : decode code 20 = .ok (.arraylength, 1) := by decide +kernel
theorem dLA_21 : decode code 21 = .ok (.iconst 5, 1) := by decide +kernel
theorem dLA_22 : decode code 22 = .ok (.isub, 1) := by decide +kernel
theorem dLA_23 : decode code 23 = .ok (.if_icmp .gt 570, 3) := by decide +kernel
theorem dLA_26 : decode code 26 = .ok (.aload_n 0, 1) := by decide +kernel
theorem dLA_27 : decode code 27 = .ok (.iload_n 3, 1) := by decide +kernel
theorem dLA_28 : decode code 28 = .ok (.iaload, 1) := by decide +kernel
theorem dLA_29 : decode code 29 = .ok (.bipush 31, 2) := by decide +kernel
theorem dLA_31 : decode code 31 = .ok (.iand, 1) := by decide +kernel
theorem dLA_32 : decode code 32 = .ok (.tableswitch 555 0 16 #[84, 117, 150, 173, 186, 199, 232, 275, 328, 361, 394, 417, 450, 463, 486, 519, 532], 84) := by decide +kernel
theorem dLA_116 : decode code 116 = .ok (.aload_n 1, 1) := by decide +kernel
theorem dLA_117 : decode code 117 = .ok (.aload_n 0, 1) := by decide +kernel
theorem dLA_118 : decode code 118 = .ok (.iload_n 3, 1) := by decide +kernel
theorem dLA_119 : decode code 119 = .ok (.iconst 1, 1) := by decide +kernel
theorem dLA_120 : decode code 120 = .ok (.iadd, 1) := by decide +kernel
theorem dLA_121 : decode code 121 = .ok (.iaload, 1) := by decide +kernel
theorem dLA_122 : decode code 122 = .ok (.aload_n 0, 1) := by decide +kernel
theorem dLA_123 : decode code 123 = .ok (.iload_n 3, 1) := by decide +kernel
theorem dLA_124 : decode code 124 = .ok (.iconst 2, 1) := by decide +kernel
theorem dLA_125 : decode code 125 = .ok (.iadd, 1) := by decide +kernel
theorem dLA_126 : decode code 126 = .ok (.iaload, 1) := by decide +kernel
theorem dLA_127 : decode code 127 = .ok (.invokevirtual 13, 3) := by decide +kernel
theorem dLA_130 : decode code 130 = .ok (.aload_n 2, 1) := by decide +kernel
theorem dLA_131 : decode code 131 = .ok (.aload_n 0, 1) := by decide +kernel
theorem dLA_132 : decode code 132 = .ok (.iload_n 3, 1) := by decide +kernel
theorem dLA_133 : decode code 133 = .ok (.iconst 1, 1) := by decide +kernel
theorem dLA_134 : decode code 134 = .ok (.iadd, 1) := by decide +kernel
theorem dLA_135 : decode code 135 = .ok (.iaload, 1) := by decide +kernel
theorem dLA_136 : decode code 136 = .ok (.aload_n 0, 1) := by decide +kernel
theorem dLA_137 : decode code 137 = .ok (.iload_n 3, 1) := by decide +kernel
theorem dLA_138 : decode code 138 = .ok (.iconst 2, 1) := by decide +kernel
theorem dLA_139 : decode code 139 = .ok (.iadd, 1) := by decide +kernel
theorem dLA_140 : decode code 140 = .ok (.iaload, 1) := by decide +kernel
theorem dLA_141 : decode code 141 = .ok (.invokevirtual 17, 3) := by decide +kernel
theorem dLA_144 : decode code 144 = .ok (.if_icmp .eq 443, 3) := by decide +kernel
theorem dLA_147 : decode code 147 = .ok (.iconst 0, 1) := by decide +kernel
theorem dLA_148 : decode code 148 = .ok (.ireturn, 1) := by decide +kernel
theorem dLA_149 : decode code 149 = .ok (.aload_n 1, 1) := by decide +kernel
theorem dLA_150 : decode code 150 = .ok (.aload_n 0, 1) := by decide +kernel
theorem dLA_151 : decode code 151 = .ok (.iload_n 3, 1) := by decide +kernel
theorem dLA_152 : decode code 152 = .ok (.iconst 1, 1) := by decide +kernel
theorem dLA_153 : decode code 153 = .ok (.iadd, 1) := by decide +kernel
theorem dLA_154 : decode code 154 = .ok (.iaload, 1) := by decide +kernel
theorem dLA_155 : decode code 155 = .ok (.aload_n 0, 1) := by decide +kernel
theorem dLA_156 : decode code 156 = .ok (.iload_n 3, 1) := by decide +kernel
theorem dLA_157 : decode code 157 = .ok (.iconst 2, 1) := by decide +kernel
theorem dLA_158 : decode code 158 = .ok (.iadd, 1) := by decide +kernel
theorem dLA_159 : decode code 159 = .ok (.iaload, 1) := by decide +kernel
