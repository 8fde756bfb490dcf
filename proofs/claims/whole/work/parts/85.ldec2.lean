/-! Rows of the law. -/
theorem d_LW_law_174 : decode code 174 = .ok (.iconst 4, 1) := by decide +kernel
theorem d_LW_law_175 : decode code 175 = .ok (.iadd, 1) := by decide +kernel
theorem d_LW_law_176 : decode code 176 = .ok (.iaload, 1) := by decide +kernel
theorem d_LW_law_177 : decode code 177 = .ok (.invokevirtual 21, 3) := by decide +kernel
theorem d_LW_law_180 : decode code 180 = .ok (.aload_n 2, 1) := by decide +kernel
theorem d_LW_law_181 : decode code 181 = .ok (.aload_n 0, 1) := by decide +kernel
theorem d_LW_law_182 : decode code 182 = .ok (.iload_n 3, 1) := by decide +kernel
theorem d_LW_law_183 : decode code 183 = .ok (.iconst 1, 1) := by decide +kernel
theorem d_LW_law_184 : decode code 184 = .ok (.iadd, 1) := by decide +kernel
theorem d_LW_law_185 : decode code 185 = .ok (.iaload, 1) := by decide +kernel
theorem d_LW_law_186 : decode code 186 = .ok (.aload_n 0, 1) := by decide +kernel
theorem d_LW_law_187 : decode code 187 = .ok (.iload_n 3, 1) := by decide +kernel
theorem d_LW_law_188 : decode code 188 = .ok (.iconst 2, 1) := by decide +kernel
theorem d_LW_law_189 : decode code 189 = .ok (.iadd, 1) := by decide +kernel
theorem d_LW_law_190 : decode code 190 = .ok (.iaload, 1) := by decide +kernel
theorem d_LW_law_191 : decode code 191 = .ok (.aload_n 0, 1) := by decide +kernel
theorem d_LW_law_192 : decode code 192 = .ok (.iload_n 3, 1) := by decide +kernel
theorem d_LW_law_193 : decode code 193 = .ok (.iconst 3, 1) := by decide +kernel
theorem d_LW_law_194 : decode code 194 = .ok (.iadd, 1) := by decide +kernel
theorem d_LW_law_195 : decode code 195 = .ok (.iaload, 1) := by decide +kernel
theorem d_LW_law_196 : decode code 196 = .ok (.aload_n 0, 1) := by decide +kernel
theorem d_LW_law_197 : decode code 197 = .ok (.iload_n 3, 1) := by decide +kernel
theorem d_LW_law_198 : decode code 198 = .ok (.iconst 4, 1) := by decide +kernel
theorem d_LW_law_199 : decode code 199 = .ok (.iadd, 1) := by decide +kernel
theorem d_LW_law_200 : decode code 200 = .ok (.iaload, 1) := by decide +kernel
theorem d_LW_law_201 : decode code 201 = .ok (.invokevirtual 25, 3) := by decide +kernel
theorem d_LW_law_204 : decode code 204 = .ok (.if_icmp .eq 399, 3) := by decide +kernel
theorem d_LW_law_207 : decode code 207 = .ok (.iconst 0, 1) := by decide +kernel
theorem d_LW_law_208 : decode code 208 = .ok (.ireturn, 1) := by decide +kernel
theorem d_LW_law_209 : decode code 209 = .ok (.aload_n 1, 1) := by decide +kernel
theorem d_LW_law_210 : decode code 210 = .ok (.aload_n 0, 1) := by decide +kernel
theorem d_LW_law_211 : decode code 211 = .ok (.iload_n 3, 1) := by decide +kernel
theorem d_LW_law_212 : decode code 212 = .ok (.iconst 1, 1) := by decide +kernel
theorem d_LW_law_213 : decode code 213 = .ok (.iadd, 1) := by decide +kernel
theorem d_LW_law_214 : decode code 214 = .ok (.iaload, 1) := by decide +kernel
theorem d_LW_law_215 : decode code 215 = .ok (.invokevirtual 26, 3) := by decide +kernel
theorem d_LW_law_218 : decode code 218 = .ok (.aload_n 2, 1) := by decide +kernel
theorem d_LW_law_219 : decode code 219 = .ok (.aload_n 0, 1) := by decide +kernel
theorem d_LW_law_220 : decode code 220 = .ok (.iload_n 3, 1) := by decide +kernel
theorem d_LW_law_221 : decode code 221 = .ok (.iconst 1, 1) := by decide +kernel
theorem d_LW_law_222 : decode code 222 = .ok (.iadd, 1) := by decide +kernel
theorem d_LW_law_223 : decode code 223 = .ok (.iaload, 1) := by decide +kernel
theorem d_LW_law_224 : decode code 224 = .ok (.invokevirtual 30, 3) := by decide +kernel
theorem d_LW_law_227 : decode code 227 = .ok (.if_icmp .eq 376, 3) := by decide +kernel
theorem d_LW_law_230 : decode code 230 = .ok (.iconst 0, 1) := by decide +kernel
theorem d_LW_law_231 : decode code 231 = .ok (.ireturn, 1) := by decide +kernel
theorem d_LW_law_232 : decode code 232 = .ok (.aload_n 1, 1) := by decide +kernel
theorem d_LW_law_233 : decode code 233 = .ok (.aload_n 0, 1) := by decide +kernel
theorem d_LW_law_234 : decode code 234 = .ok (.iload_n 3, 1) := by decide +kernel
theorem d_LW_law_235 : decode code 235 = .ok (.iconst 1, 1) := by decide +kernel
theorem d_LW_law_236 : decode code 236 = .ok (.iadd, 1) := by decide +kernel
theorem d_LW_law_237 : decode code 237 = .ok (.iaload, 1) := by decide +kernel
theorem d_LW_law_238 : decode code 238 = .ok (.aload_n 0, 1) := by decide +kernel
theorem d_LW_law_239 : decode code 239 = .ok (.iload_n 3, 1) := by decide +kernel
theorem d_LW_law_240 : decode code 240 = .ok (.iconst 2, 1) := by decide +kernel
theorem d_LW_law_241 : decode code 241 = .ok (.iadd, 1) := by decide +kernel
theorem d_LW_law_242 : decode code 242 = .ok (.iaload, 1) := by decide +kernel
theorem d_LW_law_243 : decode code 243 = .ok (.invokevirtual 31, 3) := by decide +kernel
theorem d_LW_law_246 : decode code 246 = .ok (.aload_n 2, 1) := by decide +kernel
theorem d_LW_law_247 : decode code 247 = .ok (.aload_n 0, 1) := by decide +kernel
