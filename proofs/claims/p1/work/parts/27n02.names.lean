theorem d_law_147 : decode b_law 147 = .ok (.iadd, 1) := by decide +kernel
theorem d_law_148 : decode b_law 148 = .ok (.iaload, 1) := by decide +kernel
theorem d_law_149 : decode b_law 149 = .ok (.aload_n 0, 1) := by decide +kernel
theorem d_law_150 : decode b_law 150 = .ok (.iload 4, 2) := by decide +kernel
theorem d_law_152 : decode b_law 152 = .ok (.iconst 3, 1) := by decide +kernel
theorem d_law_153 : decode b_law 153 = .ok (.iadd, 1) := by decide +kernel
theorem d_law_154 : decode b_law 154 = .ok (.iaload, 1) := by decide +kernel
theorem d_law_155 : decode b_law 155 = .ok (.aload_n 0, 1) := by decide +kernel
theorem d_law_156 : decode b_law 156 = .ok (.iload 4, 2) := by decide +kernel
theorem d_law_158 : decode b_law 158 = .ok (.iconst 4, 1) := by decide +kernel
theorem d_law_159 : decode b_law 159 = .ok (.iadd, 1) := by decide +kernel
theorem d_law_160 : decode b_law 160 = .ok (.iaload, 1) := by decide +kernel
theorem d_law_161 : decode b_law 161 = .ok (.aload_n 0, 1) := by decide +kernel
theorem d_law_162 : decode b_law 162 = .ok (.iload 4, 2) := by decide +kernel
theorem d_law_164 : decode b_law 164 = .ok (.iconst 5, 1) := by decide +kernel
theorem d_law_165 : decode b_law 165 = .ok (.iadd, 1) := by decide +kernel
theorem d_law_166 : decode b_law 166 = .ok (.iaload, 1) := by decide +kernel
theorem d_law_167 : decode b_law 167 = .ok (.aload_n 3, 1) := by decide +kernel
theorem d_law_168 : decode b_law 168 = .ok (.invokestatic 88, 3) := by decide +kernel
theorem d_law_171 : decode b_law 171 = .ok (.istore 5, 2) := by decide +kernel
theorem d_law_173 : decode b_law 173 = .ok (.aload_n 2, 1) := by decide +kernel
theorem d_law_174 : decode b_law 174 = .ok (.aload_n 0, 1) := by decide +kernel
theorem d_law_175 : decode b_law 175 = .ok (.iload 4, 2) := by decide +kernel
theorem d_law_177 : decode b_law 177 = .ok (.iconst 1, 1) := by decide +kernel
theorem d_law_178 : decode b_law 178 = .ok (.iadd, 1) := by decide +kernel
theorem d_law_179 : decode b_law 179 = .ok (.iaload, 1) := by decide +kernel
theorem d_law_180 : decode b_law 180 = .ok (.aload_n 0, 1) := by decide +kernel
theorem d_law_181 : decode b_law 181 = .ok (.iload 4, 2) := by decide +kernel
theorem d_law_183 : decode b_law 183 = .ok (.iconst 2, 1) := by decide +kernel
theorem d_law_184 : decode b_law 184 = .ok (.iadd, 1) := by decide +kernel
theorem d_law_185 : decode b_law 185 = .ok (.iaload, 1) := by decide +kernel
theorem d_law_186 : decode b_law 186 = .ok (.aload_n 0, 1) := by decide +kernel
theorem d_law_187 : decode b_law 187 = .ok (.iload 4, 2) := by decide +kernel
theorem d_law_189 : decode b_law 189 = .ok (.iconst 3, 1) := by decide +kernel
theorem d_law_190 : decode b_law 190 = .ok (.iadd, 1) := by decide +kernel
theorem d_law_191 : decode b_law 191 = .ok (.iaload, 1) := by decide +kernel
theorem d_law_192 : decode b_law 192 = .ok (.aload_n 0, 1) := by decide +kernel
theorem d_law_193 : decode b_law 193 = .ok (.iload 4, 2) := by decide +kernel
theorem d_law_195 : decode b_law 195 = .ok (.iconst 4, 1) := by decide +kernel
theorem d_law_196 : decode b_law 196 = .ok (.iadd, 1) := by decide +kernel
theorem d_law_197 : decode b_law 197 = .ok (.iaload, 1) := by decide +kernel
theorem d_law_198 : decode b_law 198 = .ok (.aload_n 0, 1) := by decide +kernel
theorem d_law_199 : decode b_law 199 = .ok (.iload 4, 2) := by decide +kernel
theorem d_law_201 : decode b_law 201 = .ok (.iconst 5, 1) := by decide +kernel
theorem d_law_202 : decode b_law 202 = .ok (.iadd, 1) := by decide +kernel
theorem d_law_203 : decode b_law 203 = .ok (.iaload, 1) := by decide +kernel
theorem d_law_204 : decode b_law 204 = .ok (.invokevirtual 93, 3) := by decide +kernel
theorem d_law_207 : decode b_law 207 = .ok (.istore 6, 2) := by decide +kernel
theorem d_law_209 : decode b_law 209 = .ok (.aload_n 2, 1) := by decide +kernel
theorem d_law_210 : decode b_law 210 = .ok (.invokevirtual 94, 3) := by decide +kernel
theorem d_law_213 : decode b_law 213 = .ok (.iload 5, 2) := by decide +kernel
theorem d_law_215 : decode b_law 215 = .ok (.if_icmp .eq 5, 3) := by decide +kernel
theorem d_law_220 : decode b_law 220 = .ok (.iload 5, 2) := by decide +kernel
theorem d_law_222 : decode b_law 222 = .ok (.ifCond .ne 15, 3) := by decide +kernel
theorem d_law_225 : decode b_law 225 = .ok (.aload_n 3, 1) := by decide +kernel
theorem d_law_226 : decode b_law 226 = .ok (.iconst 0, 1) := by decide +kernel
theorem d_law_227 : decode b_law 227 = .ok (.laload, 1) := by decide +kernel
theorem d_law_228 : decode b_law 228 = .ok (.iload 6, 2) := by decide +kernel
theorem d_law_230 : decode b_law 230 = .ok (.i2l, 1) := by decide +kernel
theorem d_law_231 : decode b_law 231 = .ok (.lcmp, 1) := by decide +kernel
