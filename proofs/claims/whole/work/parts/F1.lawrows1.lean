/-! ===== the law, decoded ===== -/
theorem dLA_160 : decode code 160 = .ok (.invokevirtual 18, 3) := by decide +kernel
theorem dLA_163 : decode code 163 = .ok (.aload_n 2, 1) := by decide +kernel
theorem dLA_164 : decode code 164 = .ok (.aload_n 0, 1) := by decide +kernel
theorem dLA_165 : decode code 165 = .ok (.iload_n 3, 1) := by decide +kernel
theorem dLA_166 : decode code 166 = .ok (.iconst 1, 1) := by decide +kernel
theorem dLA_167 : decode code 167 = .ok (.iadd, 1) := by decide +kernel
theorem dLA_168 : decode code 168 = .ok (.iaload, 1) := by decide +kernel
theorem dLA_169 : decode code 169 = .ok (.aload_n 0, 1) := by decide +kernel
theorem dLA_170 : decode code 170 = .ok (.iload_n 3, 1) := by decide +kernel
theorem dLA_171 : decode code 171 = .ok (.iconst 2, 1) := by decide +kernel
theorem dLA_172 : decode code 172 = .ok (.iadd, 1) := by decide +kernel
theorem dLA_173 : decode code 173 = .ok (.iaload, 1) := by decide +kernel
theorem dLA_174 : decode code 174 = .ok (.invokevirtual 21, 3) := by decide +kernel
theorem dLA_177 : decode code 177 = .ok (.if_icmp .eq 410, 3) := by decide +kernel
theorem dLA_180 : decode code 180 = .ok (.iconst 0, 1) := by decide +kernel
theorem dLA_181 : decode code 181 = .ok (.ireturn, 1) := by decide +kernel
theorem dLA_182 : decode code 182 = .ok (.aload_n 1, 1) := by decide +kernel
theorem dLA_183 : decode code 183 = .ok (.aload_n 0, 1) := by decide +kernel
theorem dLA_184 : decode code 184 = .ok (.iload_n 3, 1) := by decide +kernel
theorem dLA_185 : decode code 185 = .ok (.iconst 1, 1) := by decide +kernel
theorem dLA_186 : decode code 186 = .ok (.iadd, 1) := by decide +kernel
theorem dLA_187 : decode code 187 = .ok (.iaload, 1) := by decide +kernel
theorem dLA_188 : decode code 188 = .ok (.invokevirtual 22, 3) := by decide +kernel
theorem dLA_191 : decode code 191 = .ok (.aload_n 2, 1) := by decide +kernel
theorem dLA_192 : decode code 192 = .ok (.aload_n 0, 1) := by decide +kernel
theorem dLA_193 : decode code 193 = .ok (.iload_n 3, 1) := by decide +kernel
theorem dLA_194 : decode code 194 = .ok (.iconst 1, 1) := by decide +kernel
theorem dLA_195 : decode code 195 = .ok (.iadd, 1) := by decide +kernel
theorem dLA_196 : decode code 196 = .ok (.iaload, 1) := by decide +kernel
theorem dLA_197 : decode code 197 = .ok (.invokevirtual 26, 3) := by decide +kernel
theorem dLA_200 : decode code 200 = .ok (.if_icmp .eq 387, 3) := by decide +kernel
theorem dLA_203 : decode code 203 = .ok (.iconst 0, 1) := by decide +kernel
theorem dLA_204 : decode code 204 = .ok (.ireturn, 1) := by decide +kernel
theorem dLA_205 : decode code 205 = .ok (.aload_n 1, 1) := by decide +kernel
theorem dLA_206 : decode code 206 = .ok (.invokevirtual 27, 3) := by decide +kernel
theorem dLA_209 : decode code 209 = .ok (.aload_n 2, 1) := by decide +kernel
theorem dLA_210 : decode code 210 = .ok (.invokevirtual 31, 3) := by decide +kernel
theorem dLA_213 : decode code 213 = .ok (.if_icmp .eq 374, 3) := by decide +kernel
theorem dLA_216 : decode code 216 = .ok (.iconst 0, 1) := by decide +kernel
theorem dLA_217 : decode code 217 = .ok (.ireturn, 1) := by decide +kernel
theorem dLA_218 : decode code 218 = .ok (.aload_n 1, 1) := by decide +kernel
theorem dLA_219 : decode code 219 = .ok (.invokevirtual 32, 3) := by decide +kernel
theorem dLA_222 : decode code 222 = .ok (.aload_n 2, 1) := by decide +kernel
theorem dLA_223 : decode code 223 = .ok (.invokevirtual 35, 3) := by decide +kernel
theorem dLA_226 : decode code 226 = .ok (.if_icmp .eq 361, 3) := by decide +kernel
theorem dLA_229 : decode code 229 = .ok (.iconst 0, 1) := by decide +kernel
theorem dLA_230 : decode code 230 = .ok (.ireturn, 1) := by decide +kernel
theorem dLA_231 : decode code 231 = .ok (.aload_n 1, 1) := by decide +kernel
theorem dLA_232 : decode code 232 = .ok (.aload_n 0, 1) := by decide +kernel
theorem dLA_233 : decode code 233 = .ok (.iload_n 3, 1) := by decide +kernel
theorem dLA_234 : decode code 234 = .ok (.iconst 1, 1) := by decide +kernel
theorem dLA_235 : decode code 235 = .ok (.iadd, 1) := by decide +kernel
theorem dLA_236 : decode code 236 = .ok (.iaload, 1) := by decide +kernel
theorem dLA_237 : decode code 237 = .ok (.aload_n 0, 1) := by decide +kernel
theorem dLA_238 : decode code 238 = .ok (.iload_n 3, 1) := by decide +kernel
theorem dLA_239 : decode code 239 = .ok (.iconst 2, 1) := by decide +kernel
theorem dLA_240 : decode code 240 = .ok (.iadd, 1) := by decide +kernel
theorem dLA_241 : decode code 241 = .ok (.iaload, 1) := by decide +kernel
theorem dLA_242 : decode code 242 = .ok (.invokevirtual 36, 3) := by decide +kernel
theorem dLA_245 : decode code 245 = .ok (.aload_n 2, 1) := by decide +kernel
