theorem db_dL_law_0 : decode cL_law 0 = .ok (.new 7, 3) ∧ decode cL_law 3 = .ok (.dup, 1) ∧ decode cL_law 4 = .ok (.invokespecial 9, 3) ∧ decode cL_law 7 = .ok (.astore_n 1, 1) ∧ decode cL_law 8 = .ok (.new 10, 3) ∧ decode cL_law 11 = .ok (.dup, 1) ∧ decode cL_law 12 = .ok (.invokespecial 12, 3) ∧ decode cL_law 15 = .ok (.astore_n 2, 1) := by decide +kernel
theorem dL_law_0 : decode cL_law 0 = .ok (.new 7, 3) := db_dL_law_0.1
theorem dL_law_3 : decode cL_law 3 = .ok (.dup, 1) := db_dL_law_0.2.1
theorem dL_law_4 : decode cL_law 4 = .ok (.invokespecial 9, 3) := db_dL_law_0.2.2.1
theorem dL_law_7 : decode cL_law 7 = .ok (.astore_n 1, 1) := db_dL_law_0.2.2.2.1
theorem dL_law_8 : decode cL_law 8 = .ok (.new 10, 3) := db_dL_law_0.2.2.2.2.1
theorem dL_law_11 : decode cL_law 11 = .ok (.dup, 1) := db_dL_law_0.2.2.2.2.2.1
theorem dL_law_12 : decode cL_law 12 = .ok (.invokespecial 12, 3) := db_dL_law_0.2.2.2.2.2.2.1
theorem dL_law_15 : decode cL_law 15 = .ok (.astore_n 2, 1) := db_dL_law_0.2.2.2.2.2.2.2
theorem db_dL_law_16 : decode cL_law 16 = .ok (.iconst 0, 1) ∧ decode cL_law 17 = .ok (.istore_n 3, 1) ∧ decode cL_law 18 = .ok (.iload_n 3, 1) ∧ decode cL_law 19 = .ok (.aload_n 0, 1) ∧ decode cL_law 20 = .ok (.arraylength, 1) ∧ decode cL_law 21 = .ok (.bipush 9, 2) ∧ decode cL_law 23 = .ok (.isub, 1) ∧ decode cL_law 24 = .ok (.if_icmp .gt 1057, 3) := by decide +kernel
theorem dL_law_16 : decode cL_law 16 = .ok (.iconst 0, 1) := db_dL_law_16.1
theorem dL_law_17 : decode cL_law 17 = .ok (.istore_n 3, 1) := db_dL_law_16.2.1
theorem dL_law_18 : decode cL_law 18 = .ok (.iload_n 3, 1) := db_dL_law_16.2.2.1
theorem dL_law_19 : decode cL_law 19 = .ok (.aload_n 0, 1) := db_dL_law_16.2.2.2.1
theorem dL_law_20 : decode cL_law 20 = .ok (.arraylength, 1) := db_dL_law_16.2.2.2.2.1
theorem dL_law_21 : decode cL_law 21 = .ok (.bipush 9, 2) := db_dL_law_16.2.2.2.2.2.1
theorem dL_law_23 : decode cL_law 23 = .ok (.isub, 1) := db_dL_law_16.2.2.2.2.2.2.1
theorem dL_law_24 : decode cL_law 24 = .ok (.if_icmp .gt 1057, 3) := db_dL_law_16.2.2.2.2.2.2.2
theorem db_dL_law_27 : decode cL_law 27 = .ok (.aload_n 0, 1) ∧ decode cL_law 28 = .ok (.iload_n 3, 1) ∧ decode cL_law 29 = .ok (.iaload, 1) ∧ decode cL_law 30 = .ok (.bipush 31, 2) ∧ decode cL_law 32 = .ok (.iand, 1) ∧ decode cL_law 33 = .ok (.tableswitch 1042 0 22 #[107, 160, 243, 286, 329, 362, 405, 438, 481, 524, 537, 550, 583, 596, 659, 712, 735, 758, 811, 834, 857, 956, 1019], 107) ∧ decode cL_law 140 = .ok (.aload_n 1, 1) ∧ decode cL_law 141 = .ok (.aload_n 0, 1) := by decide +kernel
theorem dL_law_27 : decode cL_law 27 = .ok (.aload_n 0, 1) := db_dL_law_27.1
theorem dL_law_28 : decode cL_law 28 = .ok (.iload_n 3, 1) := db_dL_law_27.2.1
theorem dL_law_29 : decode cL_law 29 = .ok (.iaload, 1) := db_dL_law_27.2.2.1
theorem dL_law_30 : decode cL_law 30 = .ok (.bipush 31, 2) := db_dL_law_27.2.2.2.1
theorem dL_law_32 : decode cL_law 32 = .ok (.iand, 1) := db_dL_law_27.2.2.2.2.1
theorem dL_law_33 : decode cL_law 33 = .ok (.tableswitch 1042 0 22 #[107, 160, 243, 286, 329, 362, 405, 438, 481, 524, 537, 550, 583, 596, 659, 712, 735, 758, 811, 834, 857, 956, 1019], 107) := db_dL_law_27.2.2.2.2.2.1
theorem dL_law_140 : decode cL_law 140 = .ok (.aload_n 1, 1) := db_dL_law_27.2.2.2.2.2.2.1
theorem dL_law_141 : decode cL_law 141 = .ok (.aload_n 0, 1) := db_dL_law_27.2.2.2.2.2.2.2
theorem db_dL_law_142 : decode cL_law 142 = .ok (.iload_n 3, 1) ∧ decode cL_law 143 = .ok (.iconst 1, 1) ∧ decode cL_law 144 = .ok (.iadd, 1) ∧ decode cL_law 145 = .ok (.iaload, 1) ∧ decode cL_law 146 = .ok (.aload_n 0, 1) ∧ decode cL_law 147 = .ok (.iload_n 3, 1) ∧ decode cL_law 148 = .ok (.iconst 2, 1) ∧ decode cL_law 149 = .ok (.iadd, 1) := by decide +kernel
theorem dL_law_142 : decode cL_law 142 = .ok (.iload_n 3, 1) := db_dL_law_142.1
theorem dL_law_143 : decode cL_law 143 = .ok (.iconst 1, 1) := db_dL_law_142.2.1
theorem dL_law_144 : decode cL_law 144 = .ok (.iadd, 1) := db_dL_law_142.2.2.1
theorem dL_law_145 : decode cL_law 145 = .ok (.iaload, 1) := db_dL_law_142.2.2.2.1
theorem dL_law_146 : decode cL_law 146 = .ok (.aload_n 0, 1) := db_dL_law_142.2.2.2.2.1
theorem dL_law_147 : decode cL_law 147 = .ok (.iload_n 3, 1) := db_dL_law_142.2.2.2.2.2.1
theorem dL_law_148 : decode cL_law 148 = .ok (.iconst 2, 1) := db_dL_law_142.2.2.2.2.2.2.1
theorem dL_law_149 : decode cL_law 149 = .ok (.iadd, 1) := db_dL_law_142.2.2.2.2.2.2.2
theorem db_dL_law_150 : decode cL_law 150 = .ok (.iaload, 1) ∧ decode cL_law 151 = .ok (.aload_n 0, 1) ∧ decode cL_law 152 = .ok (.iload_n 3, 1) ∧ decode cL_law 153 = .ok (.iconst 3, 1) ∧ decode cL_law 154 = .ok (.iadd, 1) ∧ decode cL_law 155 = .ok (.iaload, 1) ∧ decode cL_law 156 = .ok (.aload_n 0, 1) ∧ decode cL_law 157 = .ok (.iload_n 3, 1) := by decide +kernel
theorem dL_law_150 : decode cL_law 150 = .ok (.iaload, 1) := db_dL_law_150.1
theorem dL_law_151 : decode cL_law 151 = .ok (.aload_n 0, 1) := db_dL_law_150.2.1
theorem dL_law_152 : decode cL_law 152 = .ok (.iload_n 3, 1) := db_dL_law_150.2.2.1
theorem dL_law_153 : decode cL_law 153 = .ok (.iconst 3, 1) := db_dL_law_150.2.2.2.1
theorem dL_law_154 : decode cL_law 154 = .ok (.iadd, 1) := db_dL_law_150.2.2.2.2.1
theorem dL_law_155 : decode cL_law 155 = .ok (.iaload, 1) := db_dL_law_150.2.2.2.2.2.1
theorem dL_law_156 : decode cL_law 156 = .ok (.aload_n 0, 1) := db_dL_law_150.2.2.2.2.2.2.1
theorem dL_law_157 : decode cL_law 157 = .ok (.iload_n 3, 1) := db_dL_law_150.2.2.2.2.2.2.2
theorem db_dL_law_158 : decode cL_law 158 = .ok (.iconst 4, 1) ∧ decode cL_law 159 = .ok (.iadd, 1) ∧ decode cL_law 160 = .ok (.iaload, 1) ∧ decode cL_law 161 = .ok (.invokevirtual 13, 3) ∧ decode cL_law 164 = .ok (.pop, 1) ∧ decode cL_law 165 = .ok (.aload_n 2, 1) ∧ decode cL_law 166 = .ok (.aload_n 0, 1) ∧ decode cL_law 167 = .ok (.iload_n 3, 1) := by decide +kernel
theorem dL_law_158 : decode cL_law 158 = .ok (.iconst 4, 1) := db_dL_law_158.1
theorem dL_law_159 : decode cL_law 159 = .ok (.iadd, 1) := db_dL_law_158.2.1
theorem dL_law_160 : decode cL_law 160 = .ok (.iaload, 1) := db_dL_law_158.2.2.1
theorem dL_law_161 : decode cL_law 161 = .ok (.invokevirtual 13, 3) := db_dL_law_158.2.2.2.1
theorem dL_law_164 : decode cL_law 164 = .ok (.pop, 1) := db_dL_law_158.2.2.2.2.1
theorem dL_law_165 : decode cL_law 165 = .ok (.aload_n 2, 1) := db_dL_law_158.2.2.2.2.2.1
theorem dL_law_166 : decode cL_law 166 = .ok (.aload_n 0, 1) := db_dL_law_158.2.2.2.2.2.2.1
theorem dL_law_167 : decode cL_law 167 = .ok (.iload_n 3, 1) := db_dL_law_158.2.2.2.2.2.2.2
theorem db_dL_law_168 : decode cL_law 168 = .ok (.iconst 1, 1) ∧ decode cL_law 169 = .ok (.iadd, 1) ∧ decode cL_law 170 = .ok (.iaload, 1) ∧ decode cL_law 171 = .ok (.aload_n 0, 1) ∧ decode cL_law 172 = .ok (.iload_n 3, 1) ∧ decode cL_law 173 = .ok (.iconst 2, 1) ∧ decode cL_law 174 = .ok (.iadd, 1) ∧ decode cL_law 175 = .ok (.iaload, 1) := by decide +kernel
theorem dL_law_168 : decode cL_law 168 = .ok (.iconst 1, 1) := db_dL_law_168.1
theorem dL_law_169 : decode cL_law 169 = .ok (.iadd, 1) := db_dL_law_168.2.1
theorem dL_law_170 : decode cL_law 170 = .ok (.iaload, 1) := db_dL_law_168.2.2.1
theorem dL_law_171 : decode cL_law 171 = .ok (.aload_n 0, 1) := db_dL_law_168.2.2.2.1
theorem dL_law_172 : decode cL_law 172 = .ok (.iload_n 3, 1) := db_dL_law_168.2.2.2.2.1
theorem dL_law_173 : decode cL_law 173 = .ok (.iconst 2, 1) := db_dL_law_168.2.2.2.2.2.1
theorem dL_law_174 : decode cL_law 174 = .ok (.iadd, 1) := db_dL_law_168.2.2.2.2.2.2.1
theorem dL_law_175 : decode cL_law 175 = .ok (.iaload, 1) := db_dL_law_168.2.2.2.2.2.2.2
theorem db_dL_law_176 : decode cL_law 176 = .ok (.aload_n 0, 1) ∧ decode cL_law 177 = .ok (.iload_n 3, 1) ∧ decode cL_law 178 = .ok (.iconst 3, 1) ∧ decode cL_law 179 = .ok (.iadd, 1) ∧ decode cL_law 180 = .ok (.iaload, 1) ∧ decode cL_law 181 = .ok (.aload_n 0, 1) ∧ decode cL_law 182 = .ok (.iload_n 3, 1) ∧ decode cL_law 183 = .ok (.iconst 4, 1) := by decide +kernel
theorem dL_law_176 : decode cL_law 176 = .ok (.aload_n 0, 1) := db_dL_law_176.1
theorem dL_law_177 : decode cL_law 177 = .ok (.iload_n 3, 1) := db_dL_law_176.2.1
theorem dL_law_178 : decode cL_law 178 = .ok (.iconst 3, 1) := db_dL_law_176.2.2.1
theorem dL_law_179 : decode cL_law 179 = .ok (.iadd, 1) := db_dL_law_176.2.2.2.1
theorem dL_law_180 : decode cL_law 180 = .ok (.iaload, 1) := db_dL_law_176.2.2.2.2.1
theorem dL_law_181 : decode cL_law 181 = .ok (.aload_n 0, 1) := db_dL_law_176.2.2.2.2.2.1
theorem dL_law_182 : decode cL_law 182 = .ok (.iload_n 3, 1) := db_dL_law_176.2.2.2.2.2.2.1
theorem dL_law_183 : decode cL_law 183 = .ok (.iconst 4, 1) := db_dL_law_176.2.2.2.2.2.2.2
theorem db_dL_law_184 : decode cL_law 184 = .ok (.iadd, 1) ∧ decode cL_law 185 = .ok (.iaload, 1) ∧ decode cL_law 186 = .ok (.invokevirtual 17, 3) ∧ decode cL_law 189 = .ok (.pop, 1) ∧ decode cL_law 190 = .ok (.goto 885, 3) ∧ decode cL_law 193 = .ok (.aload_n 1, 1) ∧ decode cL_law 194 = .ok (.aload_n 0, 1) ∧ decode cL_law 195 = .ok (.iload_n 3, 1) := by decide +kernel
theorem dL_law_184 : decode cL_law 184 = .ok (.iadd, 1) := db_dL_law_184.1
theorem dL_law_185 : decode cL_law 185 = .ok (.iaload, 1) := db_dL_law_184.2.1
theorem dL_law_186 : decode cL_law 186 = .ok (.invokevirtual 17, 3) := db_dL_law_184.2.2.1
theorem dL_law_189 : decode cL_law 189 = .ok (.pop, 1) := db_dL_law_184.2.2.2.1
theorem dL_law_190 : decode cL_law 190 = .ok (.goto 885, 3) := db_dL_law_184.2.2.2.2.1
theorem dL_law_193 : decode cL_law 193 = .ok (.aload_n 1, 1) := db_dL_law_184.2.2.2.2.2.1
theorem dL_law_194 : decode cL_law 194 = .ok (.aload_n 0, 1) := db_dL_law_184.2.2.2.2.2.2.1
theorem dL_law_195 : decode cL_law 195 = .ok (.iload_n 3, 1) := db_dL_law_184.2.2.2.2.2.2.2
theorem db_dL_law_196 : decode cL_law 196 = .ok (.iconst 1, 1) ∧ decode cL_law 197 = .ok (.iadd, 1) ∧ decode cL_law 198 = .ok (.iaload, 1) ∧ decode cL_law 199 = .ok (.aload_n 0, 1) ∧ decode cL_law 200 = .ok (.iload_n 3, 1) ∧ decode cL_law 201 = .ok (.iconst 2, 1) ∧ decode cL_law 202 = .ok (.iadd, 1) ∧ decode cL_law 203 = .ok (.iaload, 1) := by decide +kernel
theorem dL_law_196 : decode cL_law 196 = .ok (.iconst 1, 1) := db_dL_law_196.1
theorem dL_law_197 : decode cL_law 197 = .ok (.iadd, 1) := db_dL_law_196.2.1
theorem dL_law_198 : decode cL_law 198 = .ok (.iaload, 1) := db_dL_law_196.2.2.1
theorem dL_law_199 : decode cL_law 199 = .ok (.aload_n 0, 1) := db_dL_law_196.2.2.2.1
theorem dL_law_200 : decode cL_law 200 = .ok (.iload_n 3, 1) := db_dL_law_196.2.2.2.2.1
theorem dL_law_201 : decode cL_law 201 = .ok (.iconst 2, 1) := db_dL_law_196.2.2.2.2.2.1
theorem dL_law_202 : decode cL_law 202 = .ok (.iadd, 1) := db_dL_law_196.2.2.2.2.2.2.1
theorem dL_law_203 : decode cL_law 203 = .ok (.iaload, 1) := db_dL_law_196.2.2.2.2.2.2.2
theorem db_dL_law_204 : decode cL_law 204 = .ok (.aload_n 0, 1) ∧ decode cL_law 205 = .ok (.iload_n 3, 1) ∧ decode cL_law 206 = .ok (.iconst 3, 1) ∧ decode cL_law 207 = .ok (.iadd, 1) ∧ decode cL_law 208 = .ok (.iaload, 1) ∧ decode cL_law 209 = .ok (.aload_n 0, 1) ∧ decode cL_law 210 = .ok (.iload_n 3, 1) ∧ decode cL_law 211 = .ok (.iconst 4, 1) := by decide +kernel
theorem dL_law_204 : decode cL_law 204 = .ok (.aload_n 0, 1) := db_dL_law_204.1
theorem dL_law_205 : decode cL_law 205 = .ok (.iload_n 3, 1) := db_dL_law_204.2.1
theorem dL_law_206 : decode cL_law 206 = .ok (.iconst 3, 1) := db_dL_law_204.2.2.1
theorem dL_law_207 : decode cL_law 207 = .ok (.iadd, 1) := db_dL_law_204.2.2.2.1
theorem dL_law_208 : decode cL_law 208 = .ok (.iaload, 1) := db_dL_law_204.2.2.2.2.1
theorem dL_law_209 : decode cL_law 209 = .ok (.aload_n 0, 1) := db_dL_law_204.2.2.2.2.2.1
theorem dL_law_210 : decode cL_law 210 = .ok (.iload_n 3, 1) := db_dL_law_204.2.2.2.2.2.2.1
theorem dL_law_211 : decode cL_law 211 = .ok (.iconst 4, 1) := db_dL_law_204.2.2.2.2.2.2.2
theorem db_dL_law_212 : decode cL_law 212 = .ok (.iadd, 1) ∧ decode cL_law 213 = .ok (.iaload, 1) ∧ decode cL_law 214 = .ok (.i2l, 1) ∧ decode cL_law 215 = .ok (.bipush 32, 2) ∧ decode cL_law 217 = .ok (.lshl, 1) ∧ decode cL_law 218 = .ok (.aload_n 0, 1) ∧ decode cL_law 219 = .ok (.iload_n 3, 1) ∧ decode cL_law 220 = .ok (.iconst 5, 1) := by decide +kernel
theorem dL_law_212 : decode cL_law 212 = .ok (.iadd, 1) := db_dL_law_212.1
theorem dL_law_213 : decode cL_law 213 = .ok (.iaload, 1) := db_dL_law_212.2.1
theorem dL_law_214 : decode cL_law 214 = .ok (.i2l, 1) := db_dL_law_212.2.2.1
theorem dL_law_215 : decode cL_law 215 = .ok (.bipush 32, 2) := db_dL_law_212.2.2.2.1
theorem dL_law_217 : decode cL_law 217 = .ok (.lshl, 1) := db_dL_law_212.2.2.2.2.1
theorem dL_law_218 : decode cL_law 218 = .ok (.aload_n 0, 1) := db_dL_law_212.2.2.2.2.2.1
theorem dL_law_219 : decode cL_law 219 = .ok (.iload_n 3, 1) := db_dL_law_212.2.2.2.2.2.2.1
theorem dL_law_220 : decode cL_law 220 = .ok (.iconst 5, 1) := db_dL_law_212.2.2.2.2.2.2.2
theorem db_dL_law_221 : decode cL_law 221 = .ok (.iadd, 1) ∧ decode cL_law 222 = .ok (.iaload, 1) ∧ decode cL_law 223 = .ok (.i2l, 1) ∧ decode cL_law 224 = .ok (.ldc2_w 18, 3) ∧ decode cL_law 227 = .ok (.land, 1) ∧ decode cL_law 228 = .ok (.lor, 1) ∧ decode cL_law 229 = .ok (.invokevirtual 20, 3) ∧ decode cL_law 232 = .ok (.pop, 1) := by decide +kernel
theorem dL_law_221 : decode cL_law 221 = .ok (.iadd, 1) := db_dL_law_221.1
theorem dL_law_222 : decode cL_law 222 = .ok (.iaload, 1) := db_dL_law_221.2.1
theorem dL_law_223 : decode cL_law 223 = .ok (.i2l, 1) := db_dL_law_221.2.2.1
theorem dL_law_224 : decode cL_law 224 = .ok (.ldc2_w 18, 3) := db_dL_law_221.2.2.2.1
theorem dL_law_227 : decode cL_law 227 = .ok (.land, 1) := db_dL_law_221.2.2.2.2.1
theorem dL_law_228 : decode cL_law 228 = .ok (.lor, 1) := db_dL_law_221.2.2.2.2.2.1
theorem dL_law_229 : decode cL_law 229 = .ok (.invokevirtual 20, 3) := db_dL_law_221.2.2.2.2.2.2.1
theorem dL_law_232 : decode cL_law 232 = .ok (.pop, 1) := db_dL_law_221.2.2.2.2.2.2.2
theorem db_dL_law_233 : decode cL_law 233 = .ok (.aload_n 2, 1) ∧ decode cL_law 234 = .ok (.aload_n 0, 1) ∧ decode cL_law 235 = .ok (.iload_n 3, 1) ∧ decode cL_law 236 = .ok (.iconst 1, 1) ∧ decode cL_law 237 = .ok (.iadd, 1) ∧ decode cL_law 238 = .ok (.iaload, 1) ∧ decode cL_law 239 = .ok (.aload_n 0, 1) ∧ decode cL_law 240 = .ok (.iload_n 3, 1) := by decide +kernel
theorem dL_law_233 : decode cL_law 233 = .ok (.aload_n 2, 1) := db_dL_law_233.1
theorem dL_law_234 : decode cL_law 234 = .ok (.aload_n 0, 1) := db_dL_law_233.2.1
theorem dL_law_235 : decode cL_law 235 = .ok (.iload_n 3, 1) := db_dL_law_233.2.2.1
theorem dL_law_236 : decode cL_law 236 = .ok (.iconst 1, 1) := db_dL_law_233.2.2.2.1
theorem dL_law_237 : decode cL_law 237 = .ok (.iadd, 1) := db_dL_law_233.2.2.2.2.1
theorem dL_law_238 : decode cL_law 238 = .ok (.iaload, 1) := db_dL_law_233.2.2.2.2.2.1
theorem dL_law_239 : decode cL_law 239 = .ok (.aload_n 0, 1) := db_dL_law_233.2.2.2.2.2.2.1
theorem dL_law_240 : decode cL_law 240 = .ok (.iload_n 3, 1) := db_dL_law_233.2.2.2.2.2.2.2
theorem db_dL_law_241 : decode cL_law 241 = .ok (.iconst 2, 1) ∧ decode cL_law 242 = .ok (.iadd, 1) ∧ decode cL_law 243 = .ok (.iaload, 1) ∧ decode cL_law 244 = .ok (.aload_n 0, 1) ∧ decode cL_law 245 = .ok (.iload_n 3, 1) ∧ decode cL_law 246 = .ok (.iconst 3, 1) ∧ decode cL_law 247 = .ok (.iadd, 1) ∧ decode cL_law 248 = .ok (.iaload, 1) := by decide +kernel
theorem dL_law_241 : decode cL_law 241 = .ok (.iconst 2, 1) := db_dL_law_241.1
theorem dL_law_242 : decode cL_law 242 = .ok (.iadd, 1) := db_dL_law_241.2.1
theorem dL_law_243 : decode cL_law 243 = .ok (.iaload, 1) := db_dL_law_241.2.2.1
theorem dL_law_244 : decode cL_law 244 = .ok (.aload_n 0, 1) := db_dL_law_241.2.2.2.1
theorem dL_law_245 : decode cL_law 245 = .ok (.iload_n 3, 1) := db_dL_law_241.2.2.2.2.1
theorem dL_law_246 : decode cL_law 246 = .ok (.iconst 3, 1) := db_dL_law_241.2.2.2.2.2.1
theorem dL_law_247 : decode cL_law 247 = .ok (.iadd, 1) := db_dL_law_241.2.2.2.2.2.2.1
theorem dL_law_248 : decode cL_law 248 = .ok (.iaload, 1) := db_dL_law_241.2.2.2.2.2.2.2
theorem db_dL_law_249 : decode cL_law 249 = .ok (.aload_n 0, 1) ∧ decode cL_law 250 = .ok (.iload_n 3, 1) ∧ decode cL_law 251 = .ok (.iconst 4, 1) ∧ decode cL_law 252 = .ok (.iadd, 1) ∧ decode cL_law 253 = .ok (.iaload, 1) ∧ decode cL_law 254 = .ok (.i2l, 1) ∧ decode cL_law 255 = .ok (.bipush 32, 2) ∧ decode cL_law 257 = .ok (.lshl, 1) := by decide +kernel
theorem dL_law_249 : decode cL_law 249 = .ok (.aload_n 0, 1) := db_dL_law_249.1
theorem dL_law_250 : decode cL_law 250 = .ok (.iload_n 3, 1) := db_dL_law_249.2.1
theorem dL_law_251 : decode cL_law 251 = .ok (.iconst 4, 1) := db_dL_law_249.2.2.1
theorem dL_law_252 : decode cL_law 252 = .ok (.iadd, 1) := db_dL_law_249.2.2.2.1
theorem dL_law_253 : decode cL_law 253 = .ok (.iaload, 1) := db_dL_law_249.2.2.2.2.1
theorem dL_law_254 : decode cL_law 254 = .ok (.i2l, 1) := db_dL_law_249.2.2.2.2.2.1
theorem dL_law_255 : decode cL_law 255 = .ok (.bipush 32, 2) := db_dL_law_249.2.2.2.2.2.2.1
theorem dL_law_257 : decode cL_law 257 = .ok (.lshl, 1) := db_dL_law_249.2.2.2.2.2.2.2
theorem db_dL_law_258 : decode cL_law 258 = .ok (.aload_n 0, 1) ∧ decode cL_law 259 = .ok (.iload_n 3, 1) ∧ decode cL_law 260 = .ok (.iconst 5, 1) ∧ decode cL_law 261 = .ok (.iadd, 1) ∧ decode cL_law 262 = .ok (.iaload, 1) ∧ decode cL_law 263 = .ok (.i2l, 1) ∧ decode cL_law 264 = .ok (.ldc2_w 18, 3) ∧ decode cL_law 267 = .ok (.land, 1) := by decide +kernel
theorem dL_law_258 : decode cL_law 258 = .ok (.aload_n 0, 1) := db_dL_law_258.1
theorem dL_law_259 : decode cL_law 259 = .ok (.iload_n 3, 1) := db_dL_law_258.2.1
theorem dL_law_260 : decode cL_law 260 = .ok (.iconst 5, 1) := db_dL_law_258.2.2.1
theorem dL_law_261 : decode cL_law 261 = .ok (.iadd, 1) := db_dL_law_258.2.2.2.1
theorem dL_law_262 : decode cL_law 262 = .ok (.iaload, 1) := db_dL_law_258.2.2.2.2.1
theorem dL_law_263 : decode cL_law 263 = .ok (.i2l, 1) := db_dL_law_258.2.2.2.2.2.1
theorem dL_law_264 : decode cL_law 264 = .ok (.ldc2_w 18, 3) := db_dL_law_258.2.2.2.2.2.2.1
theorem dL_law_267 : decode cL_law 267 = .ok (.land, 1) := db_dL_law_258.2.2.2.2.2.2.2
theorem db_dL_law_268 : decode cL_law 268 = .ok (.lor, 1) ∧ decode cL_law 269 = .ok (.invokevirtual 24, 3) ∧ decode cL_law 272 = .ok (.pop, 1) ∧ decode cL_law 273 = .ok (.goto 802, 3) ∧ decode cL_law 276 = .ok (.aload_n 1, 1) ∧ decode cL_law 277 = .ok (.aload_n 0, 1) ∧ decode cL_law 278 = .ok (.iload_n 3, 1) ∧ decode cL_law 279 = .ok (.iconst 1, 1) := by decide +kernel
theorem dL_law_268 : decode cL_law 268 = .ok (.lor, 1) := db_dL_law_268.1
theorem dL_law_269 : decode cL_law 269 = .ok (.invokevirtual 24, 3) := db_dL_law_268.2.1
theorem dL_law_272 : decode cL_law 272 = .ok (.pop, 1) := db_dL_law_268.2.2.1
theorem dL_law_273 : decode cL_law 273 = .ok (.goto 802, 3) := db_dL_law_268.2.2.2.1
theorem dL_law_276 : decode cL_law 276 = .ok (.aload_n 1, 1) := db_dL_law_268.2.2.2.2.1
theorem dL_law_277 : decode cL_law 277 = .ok (.aload_n 0, 1) := db_dL_law_268.2.2.2.2.2.1
theorem dL_law_278 : decode cL_law 278 = .ok (.iload_n 3, 1) := db_dL_law_268.2.2.2.2.2.2.1
theorem dL_law_279 : decode cL_law 279 = .ok (.iconst 1, 1) := db_dL_law_268.2.2.2.2.2.2.2
theorem db_dL_law_280 : decode cL_law 280 = .ok (.iadd, 1) ∧ decode cL_law 281 = .ok (.iaload, 1) ∧ decode cL_law 282 = .ok (.aload_n 0, 1) ∧ decode cL_law 283 = .ok (.iload_n 3, 1) ∧ decode cL_law 284 = .ok (.iconst 2, 1) ∧ decode cL_law 285 = .ok (.iadd, 1) ∧ decode cL_law 286 = .ok (.iaload, 1) ∧ decode cL_law 287 = .ok (.aload_n 0, 1) := by decide +kernel
theorem dL_law_280 : decode cL_law 280 = .ok (.iadd, 1) := db_dL_law_280.1
theorem dL_law_281 : decode cL_law 281 = .ok (.iaload, 1) := db_dL_law_280.2.1
theorem dL_law_282 : decode cL_law 282 = .ok (.aload_n 0, 1) := db_dL_law_280.2.2.1
theorem dL_law_283 : decode cL_law 283 = .ok (.iload_n 3, 1) := db_dL_law_280.2.2.2.1
theorem dL_law_284 : decode cL_law 284 = .ok (.iconst 2, 1) := db_dL_law_280.2.2.2.2.1
theorem dL_law_285 : decode cL_law 285 = .ok (.iadd, 1) := db_dL_law_280.2.2.2.2.2.1
theorem dL_law_286 : decode cL_law 286 = .ok (.iaload, 1) := db_dL_law_280.2.2.2.2.2.2.1
theorem dL_law_287 : decode cL_law 287 = .ok (.aload_n 0, 1) := db_dL_law_280.2.2.2.2.2.2.2
theorem db_dL_law_288 : decode cL_law 288 = .ok (.iload_n 3, 1) ∧ decode cL_law 289 = .ok (.iconst 3, 1) ∧ decode cL_law 290 = .ok (.iadd, 1) ∧ decode cL_law 291 = .ok (.iaload, 1) ∧ decode cL_law 292 = .ok (.invokevirtual 25, 3) ∧ decode cL_law 295 = .ok (.pop, 1) ∧ decode cL_law 296 = .ok (.aload_n 2, 1) ∧ decode cL_law 297 = .ok (.aload_n 0, 1) := by decide +kernel
theorem dL_law_288 : decode cL_law 288 = .ok (.iload_n 3, 1) := db_dL_law_288.1
theorem dL_law_289 : decode cL_law 289 = .ok (.iconst 3, 1) := db_dL_law_288.2.1
theorem dL_law_290 : decode cL_law 290 = .ok (.iadd, 1) := db_dL_law_288.2.2.1
theorem dL_law_291 : decode cL_law 291 = .ok (.iaload, 1) := db_dL_law_288.2.2.2.1
theorem dL_law_292 : decode cL_law 292 = .ok (.invokevirtual 25, 3) := db_dL_law_288.2.2.2.2.1
theorem dL_law_295 : decode cL_law 295 = .ok (.pop, 1) := db_dL_law_288.2.2.2.2.2.1
theorem dL_law_296 : decode cL_law 296 = .ok (.aload_n 2, 1) := db_dL_law_288.2.2.2.2.2.2.1
theorem dL_law_297 : decode cL_law 297 = .ok (.aload_n 0, 1) := db_dL_law_288.2.2.2.2.2.2.2
theorem db_dL_law_298 : decode cL_law 298 = .ok (.iload_n 3, 1) ∧ decode cL_law 299 = .ok (.iconst 1, 1) ∧ decode cL_law 300 = .ok (.iadd, 1) ∧ decode cL_law 301 = .ok (.iaload, 1) ∧ decode cL_law 302 = .ok (.aload_n 0, 1) ∧ decode cL_law 303 = .ok (.iload_n 3, 1) ∧ decode cL_law 304 = .ok (.iconst 2, 1) ∧ decode cL_law 305 = .ok (.iadd, 1) := by decide +kernel
theorem dL_law_298 : decode cL_law 298 = .ok (.iload_n 3, 1) := db_dL_law_298.1
theorem dL_law_299 : decode cL_law 299 = .ok (.iconst 1, 1) := db_dL_law_298.2.1
theorem dL_law_300 : decode cL_law 300 = .ok (.iadd, 1) := db_dL_law_298.2.2.1
theorem dL_law_301 : decode cL_law 301 = .ok (.iaload, 1) := db_dL_law_298.2.2.2.1
theorem dL_law_302 : decode cL_law 302 = .ok (.aload_n 0, 1) := db_dL_law_298.2.2.2.2.1
theorem dL_law_303 : decode cL_law 303 = .ok (.iload_n 3, 1) := db_dL_law_298.2.2.2.2.2.1
theorem dL_law_304 : decode cL_law 304 = .ok (.iconst 2, 1) := db_dL_law_298.2.2.2.2.2.2.1
theorem dL_law_305 : decode cL_law 305 = .ok (.iadd, 1) := db_dL_law_298.2.2.2.2.2.2.2
theorem db_dL_law_306 : decode cL_law 306 = .ok (.iaload, 1) ∧ decode cL_law 307 = .ok (.aload_n 0, 1) ∧ decode cL_law 308 = .ok (.iload_n 3, 1) ∧ decode cL_law 309 = .ok (.iconst 3, 1) ∧ decode cL_law 310 = .ok (.iadd, 1) ∧ decode cL_law 311 = .ok (.iaload, 1) ∧ decode cL_law 312 = .ok (.invokevirtual 29, 3) ∧ decode cL_law 315 = .ok (.pop, 1) := by decide +kernel
theorem dL_law_306 : decode cL_law 306 = .ok (.iaload, 1) := db_dL_law_306.1
theorem dL_law_307 : decode cL_law 307 = .ok (.aload_n 0, 1) := db_dL_law_306.2.1
theorem dL_law_308 : decode cL_law 308 = .ok (.iload_n 3, 1) := db_dL_law_306.2.2.1
theorem dL_law_309 : decode cL_law 309 = .ok (.iconst 3, 1) := db_dL_law_306.2.2.2.1
theorem dL_law_310 : decode cL_law 310 = .ok (.iadd, 1) := db_dL_law_306.2.2.2.2.1
theorem dL_law_311 : decode cL_law 311 = .ok (.iaload, 1) := db_dL_law_306.2.2.2.2.2.1
theorem dL_law_312 : decode cL_law 312 = .ok (.invokevirtual 29, 3) := db_dL_law_306.2.2.2.2.2.2.1
theorem dL_law_315 : decode cL_law 315 = .ok (.pop, 1) := db_dL_law_306.2.2.2.2.2.2.2
theorem db_dL_law_316 : decode cL_law 316 = .ok (.goto 759, 3) ∧ decode cL_law 319 = .ok (.aload_n 1, 1) ∧ decode cL_law 320 = .ok (.aload_n 0, 1) ∧ decode cL_law 321 = .ok (.iload_n 3, 1) ∧ decode cL_law 322 = .ok (.iconst 1, 1) ∧ decode cL_law 323 = .ok (.iadd, 1) ∧ decode cL_law 324 = .ok (.iaload, 1) ∧ decode cL_law 325 = .ok (.aload_n 0, 1) := by decide +kernel
theorem dL_law_316 : decode cL_law 316 = .ok (.goto 759, 3) := db_dL_law_316.1
theorem dL_law_319 : decode cL_law 319 = .ok (.aload_n 1, 1) := db_dL_law_316.2.1
theorem dL_law_320 : decode cL_law 320 = .ok (.aload_n 0, 1) := db_dL_law_316.2.2.1
theorem dL_law_321 : decode cL_law 321 = .ok (.iload_n 3, 1) := db_dL_law_316.2.2.2.1
theorem dL_law_322 : decode cL_law 322 = .ok (.iconst 1, 1) := db_dL_law_316.2.2.2.2.1
theorem dL_law_323 : decode cL_law 323 = .ok (.iadd, 1) := db_dL_law_316.2.2.2.2.2.1
theorem dL_law_324 : decode cL_law 324 = .ok (.iaload, 1) := db_dL_law_316.2.2.2.2.2.2.1
theorem dL_law_325 : decode cL_law 325 = .ok (.aload_n 0, 1) := db_dL_law_316.2.2.2.2.2.2.2
theorem db_dL_law_326 : decode cL_law 326 = .ok (.iload_n 3, 1) ∧ decode cL_law 327 = .ok (.iconst 2, 1) ∧ decode cL_law 328 = .ok (.iadd, 1) ∧ decode cL_law 329 = .ok (.iaload, 1) ∧ decode cL_law 330 = .ok (.aload_n 0, 1) ∧ decode cL_law 331 = .ok (.iload_n 3, 1) ∧ decode cL_law 332 = .ok (.iconst 3, 1) ∧ decode cL_law 333 = .ok (.iadd, 1) := by decide +kernel
theorem dL_law_326 : decode cL_law 326 = .ok (.iload_n 3, 1) := db_dL_law_326.1
theorem dL_law_327 : decode cL_law 327 = .ok (.iconst 2, 1) := db_dL_law_326.2.1
theorem dL_law_328 : decode cL_law 328 = .ok (.iadd, 1) := db_dL_law_326.2.2.1
theorem dL_law_329 : decode cL_law 329 = .ok (.iaload, 1) := db_dL_law_326.2.2.2.1
theorem dL_law_330 : decode cL_law 330 = .ok (.aload_n 0, 1) := db_dL_law_326.2.2.2.2.1
theorem dL_law_331 : decode cL_law 331 = .ok (.iload_n 3, 1) := db_dL_law_326.2.2.2.2.2.1
theorem dL_law_332 : decode cL_law 332 = .ok (.iconst 3, 1) := db_dL_law_326.2.2.2.2.2.2.1
theorem dL_law_333 : decode cL_law 333 = .ok (.iadd, 1) := db_dL_law_326.2.2.2.2.2.2.2
theorem db_dL_law_334 : decode cL_law 334 = .ok (.iaload, 1) ∧ decode cL_law 335 = .ok (.invokevirtual 30, 3) ∧ decode cL_law 338 = .ok (.pop, 1) ∧ decode cL_law 339 = .ok (.aload_n 2, 1) ∧ decode cL_law 340 = .ok (.aload_n 0, 1) ∧ decode cL_law 341 = .ok (.iload_n 3, 1) ∧ decode cL_law 342 = .ok (.iconst 1, 1) ∧ decode cL_law 343 = .ok (.iadd, 1) := by decide +kernel
theorem dL_law_334 : decode cL_law 334 = .ok (.iaload, 1) := db_dL_law_334.1
theorem dL_law_335 : decode cL_law 335 = .ok (.invokevirtual 30, 3) := db_dL_law_334.2.1
theorem dL_law_338 : decode cL_law 338 = .ok (.pop, 1) := db_dL_law_334.2.2.1
theorem dL_law_339 : decode cL_law 339 = .ok (.aload_n 2, 1) := db_dL_law_334.2.2.2.1
theorem dL_law_340 : decode cL_law 340 = .ok (.aload_n 0, 1) := db_dL_law_334.2.2.2.2.1
theorem dL_law_341 : decode cL_law 341 = .ok (.iload_n 3, 1) := db_dL_law_334.2.2.2.2.2.1
theorem dL_law_342 : decode cL_law 342 = .ok (.iconst 1, 1) := db_dL_law_334.2.2.2.2.2.2.1
theorem dL_law_343 : decode cL_law 343 = .ok (.iadd, 1) := db_dL_law_334.2.2.2.2.2.2.2
theorem db_dL_law_344 : decode cL_law 344 = .ok (.iaload, 1) ∧ decode cL_law 345 = .ok (.aload_n 0, 1) ∧ decode cL_law 346 = .ok (.iload_n 3, 1) ∧ decode cL_law 347 = .ok (.iconst 2, 1) ∧ decode cL_law 348 = .ok (.iadd, 1) ∧ decode cL_law 349 = .ok (.iaload, 1) ∧ decode cL_law 350 = .ok (.aload_n 0, 1) ∧ decode cL_law 351 = .ok (.iload_n 3, 1) := by decide +kernel
theorem dL_law_344 : decode cL_law 344 = .ok (.iaload, 1) := db_dL_law_344.1
theorem dL_law_345 : decode cL_law 345 = .ok (.aload_n 0, 1) := db_dL_law_344.2.1
theorem dL_law_346 : decode cL_law 346 = .ok (.iload_n 3, 1) := db_dL_law_344.2.2.1
theorem dL_law_347 : decode cL_law 347 = .ok (.iconst 2, 1) := db_dL_law_344.2.2.2.1
theorem dL_law_348 : decode cL_law 348 = .ok (.iadd, 1) := db_dL_law_344.2.2.2.2.1
theorem dL_law_349 : decode cL_law 349 = .ok (.iaload, 1) := db_dL_law_344.2.2.2.2.2.1
theorem dL_law_350 : decode cL_law 350 = .ok (.aload_n 0, 1) := db_dL_law_344.2.2.2.2.2.2.1
theorem dL_law_351 : decode cL_law 351 = .ok (.iload_n 3, 1) := db_dL_law_344.2.2.2.2.2.2.2
theorem db_dL_law_352 : decode cL_law 352 = .ok (.iconst 3, 1) ∧ decode cL_law 353 = .ok (.iadd, 1) ∧ decode cL_law 354 = .ok (.iaload, 1) ∧ decode cL_law 355 = .ok (.invokevirtual 33, 3) ∧ decode cL_law 358 = .ok (.pop, 1) ∧ decode cL_law 359 = .ok (.goto 716, 3) ∧ decode cL_law 362 = .ok (.aload_n 1, 1) ∧ decode cL_law 363 = .ok (.aload_n 0, 1) := by decide +kernel
theorem dL_law_352 : decode cL_law 352 = .ok (.iconst 3, 1) := db_dL_law_352.1
theorem dL_law_353 : decode cL_law 353 = .ok (.iadd, 1) := db_dL_law_352.2.1
theorem dL_law_354 : decode cL_law 354 = .ok (.iaload, 1) := db_dL_law_352.2.2.1
theorem dL_law_355 : decode cL_law 355 = .ok (.invokevirtual 33, 3) := db_dL_law_352.2.2.2.1
theorem dL_law_358 : decode cL_law 358 = .ok (.pop, 1) := db_dL_law_352.2.2.2.2.1
theorem dL_law_359 : decode cL_law 359 = .ok (.goto 716, 3) := db_dL_law_352.2.2.2.2.2.1
theorem dL_law_362 : decode cL_law 362 = .ok (.aload_n 1, 1) := db_dL_law_352.2.2.2.2.2.2.1
theorem dL_law_363 : decode cL_law 363 = .ok (.aload_n 0, 1) := db_dL_law_352.2.2.2.2.2.2.2
theorem db_dL_law_364 : decode cL_law 364 = .ok (.iload_n 3, 1) ∧ decode cL_law 365 = .ok (.iconst 1, 1) ∧ decode cL_law 366 = .ok (.iadd, 1) ∧ decode cL_law 367 = .ok (.iaload, 1) ∧ decode cL_law 368 = .ok (.aload_n 0, 1) ∧ decode cL_law 369 = .ok (.iload_n 3, 1) ∧ decode cL_law 370 = .ok (.iconst 2, 1) ∧ decode cL_law 371 = .ok (.iadd, 1) := by decide +kernel
theorem dL_law_364 : decode cL_law 364 = .ok (.iload_n 3, 1) := db_dL_law_364.1
theorem dL_law_365 : decode cL_law 365 = .ok (.iconst 1, 1) := db_dL_law_364.2.1
theorem dL_law_366 : decode cL_law 366 = .ok (.iadd, 1) := db_dL_law_364.2.2.1
theorem dL_law_367 : decode cL_law 367 = .ok (.iaload, 1) := db_dL_law_364.2.2.2.1
theorem dL_law_368 : decode cL_law 368 = .ok (.aload_n 0, 1) := db_dL_law_364.2.2.2.2.1
theorem dL_law_369 : decode cL_law 369 = .ok (.iload_n 3, 1) := db_dL_law_364.2.2.2.2.2.1
theorem dL_law_370 : decode cL_law 370 = .ok (.iconst 2, 1) := db_dL_law_364.2.2.2.2.2.2.1
theorem dL_law_371 : decode cL_law 371 = .ok (.iadd, 1) := db_dL_law_364.2.2.2.2.2.2.2
theorem db_dL_law_372 : decode cL_law 372 = .ok (.iaload, 1) ∧ decode cL_law 373 = .ok (.invokevirtual 34, 3) ∧ decode cL_law 376 = .ok (.pop, 1) ∧ decode cL_law 377 = .ok (.aload_n 2, 1) ∧ decode cL_law 378 = .ok (.aload_n 0, 1) ∧ decode cL_law 379 = .ok (.iload_n 3, 1) ∧ decode cL_law 380 = .ok (.iconst 1, 1) ∧ decode cL_law 381 = .ok (.iadd, 1) := by decide +kernel
theorem dL_law_372 : decode cL_law 372 = .ok (.iaload, 1) := db_dL_law_372.1
theorem dL_law_373 : decode cL_law 373 = .ok (.invokevirtual 34, 3) := db_dL_law_372.2.1
theorem dL_law_376 : decode cL_law 376 = .ok (.pop, 1) := db_dL_law_372.2.2.1
theorem dL_law_377 : decode cL_law 377 = .ok (.aload_n 2, 1) := db_dL_law_372.2.2.2.1
theorem dL_law_378 : decode cL_law 378 = .ok (.aload_n 0, 1) := db_dL_law_372.2.2.2.2.1
theorem dL_law_379 : decode cL_law 379 = .ok (.iload_n 3, 1) := db_dL_law_372.2.2.2.2.2.1
theorem dL_law_380 : decode cL_law 380 = .ok (.iconst 1, 1) := db_dL_law_372.2.2.2.2.2.2.1
theorem dL_law_381 : decode cL_law 381 = .ok (.iadd, 1) := db_dL_law_372.2.2.2.2.2.2.2
theorem db_dL_law_382 : decode cL_law 382 = .ok (.iaload, 1) ∧ decode cL_law 383 = .ok (.aload_n 0, 1) ∧ decode cL_law 384 = .ok (.iload_n 3, 1) ∧ decode cL_law 385 = .ok (.iconst 2, 1) ∧ decode cL_law 386 = .ok (.iadd, 1) ∧ decode cL_law 387 = .ok (.iaload, 1) ∧ decode cL_law 388 = .ok (.invokevirtual 38, 3) ∧ decode cL_law 391 = .ok (.pop, 1) := by decide +kernel
theorem dL_law_382 : decode cL_law 382 = .ok (.iaload, 1) := db_dL_law_382.1
theorem dL_law_383 : decode cL_law 383 = .ok (.aload_n 0, 1) := db_dL_law_382.2.1
theorem dL_law_384 : decode cL_law 384 = .ok (.iload_n 3, 1) := db_dL_law_382.2.2.1
theorem dL_law_385 : decode cL_law 385 = .ok (.iconst 2, 1) := db_dL_law_382.2.2.2.1
theorem dL_law_386 : decode cL_law 386 = .ok (.iadd, 1) := db_dL_law_382.2.2.2.2.1
theorem dL_law_387 : decode cL_law 387 = .ok (.iaload, 1) := db_dL_law_382.2.2.2.2.2.1
theorem dL_law_388 : decode cL_law 388 = .ok (.invokevirtual 38, 3) := db_dL_law_382.2.2.2.2.2.2.1
theorem dL_law_391 : decode cL_law 391 = .ok (.pop, 1) := db_dL_law_382.2.2.2.2.2.2.2
theorem db_dL_law_392 : decode cL_law 392 = .ok (.goto 683, 3) ∧ decode cL_law 395 = .ok (.aload_n 1, 1) ∧ decode cL_law 396 = .ok (.aload_n 0, 1) ∧ decode cL_law 397 = .ok (.iload_n 3, 1) ∧ decode cL_law 398 = .ok (.iconst 1, 1) ∧ decode cL_law 399 = .ok (.iadd, 1) ∧ decode cL_law 400 = .ok (.iaload, 1) ∧ decode cL_law 401 = .ok (.aload_n 0, 1) := by decide +kernel
theorem dL_law_392 : decode cL_law 392 = .ok (.goto 683, 3) := db_dL_law_392.1
theorem dL_law_395 : decode cL_law 395 = .ok (.aload_n 1, 1) := db_dL_law_392.2.1
theorem dL_law_396 : decode cL_law 396 = .ok (.aload_n 0, 1) := db_dL_law_392.2.2.1
theorem dL_law_397 : decode cL_law 397 = .ok (.iload_n 3, 1) := db_dL_law_392.2.2.2.1
theorem dL_law_398 : decode cL_law 398 = .ok (.iconst 1, 1) := db_dL_law_392.2.2.2.2.1
theorem dL_law_399 : decode cL_law 399 = .ok (.iadd, 1) := db_dL_law_392.2.2.2.2.2.1
theorem dL_law_400 : decode cL_law 400 = .ok (.iaload, 1) := db_dL_law_392.2.2.2.2.2.2.1
theorem dL_law_401 : decode cL_law 401 = .ok (.aload_n 0, 1) := db_dL_law_392.2.2.2.2.2.2.2
theorem db_dL_law_402 : decode cL_law 402 = .ok (.iload_n 3, 1) ∧ decode cL_law 403 = .ok (.iconst 2, 1) ∧ decode cL_law 404 = .ok (.iadd, 1) ∧ decode cL_law 405 = .ok (.iaload, 1) ∧ decode cL_law 406 = .ok (.aload_n 0, 1) ∧ decode cL_law 407 = .ok (.iload_n 3, 1) ∧ decode cL_law 408 = .ok (.iconst 3, 1) ∧ decode cL_law 409 = .ok (.iadd, 1) := by decide +kernel
theorem dL_law_402 : decode cL_law 402 = .ok (.iload_n 3, 1) := db_dL_law_402.1
theorem dL_law_403 : decode cL_law 403 = .ok (.iconst 2, 1) := db_dL_law_402.2.1
theorem dL_law_404 : decode cL_law 404 = .ok (.iadd, 1) := db_dL_law_402.2.2.1
theorem dL_law_405 : decode cL_law 405 = .ok (.iaload, 1) := db_dL_law_402.2.2.2.1
theorem dL_law_406 : decode cL_law 406 = .ok (.aload_n 0, 1) := db_dL_law_402.2.2.2.2.1
theorem dL_law_407 : decode cL_law 407 = .ok (.iload_n 3, 1) := db_dL_law_402.2.2.2.2.2.1
theorem dL_law_408 : decode cL_law 408 = .ok (.iconst 3, 1) := db_dL_law_402.2.2.2.2.2.2.1
theorem dL_law_409 : decode cL_law 409 = .ok (.iadd, 1) := db_dL_law_402.2.2.2.2.2.2.2
theorem db_dL_law_410 : decode cL_law 410 = .ok (.iaload, 1) ∧ decode cL_law 411 = .ok (.invokevirtual 39, 3) ∧ decode cL_law 414 = .ok (.pop, 1) ∧ decode cL_law 415 = .ok (.aload_n 2, 1) ∧ decode cL_law 416 = .ok (.aload_n 0, 1) ∧ decode cL_law 417 = .ok (.iload_n 3, 1) ∧ decode cL_law 418 = .ok (.iconst 1, 1) ∧ decode cL_law 419 = .ok (.iadd, 1) := by decide +kernel
theorem dL_law_410 : decode cL_law 410 = .ok (.iaload, 1) := db_dL_law_410.1
theorem dL_law_411 : decode cL_law 411 = .ok (.invokevirtual 39, 3) := db_dL_law_410.2.1
theorem dL_law_414 : decode cL_law 414 = .ok (.pop, 1) := db_dL_law_410.2.2.1
theorem dL_law_415 : decode cL_law 415 = .ok (.aload_n 2, 1) := db_dL_law_410.2.2.2.1
theorem dL_law_416 : decode cL_law 416 = .ok (.aload_n 0, 1) := db_dL_law_410.2.2.2.2.1
theorem dL_law_417 : decode cL_law 417 = .ok (.iload_n 3, 1) := db_dL_law_410.2.2.2.2.2.1
theorem dL_law_418 : decode cL_law 418 = .ok (.iconst 1, 1) := db_dL_law_410.2.2.2.2.2.2.1
theorem dL_law_419 : decode cL_law 419 = .ok (.iadd, 1) := db_dL_law_410.2.2.2.2.2.2.2
theorem db_dL_law_420 : decode cL_law 420 = .ok (.iaload, 1) ∧ decode cL_law 421 = .ok (.aload_n 0, 1) ∧ decode cL_law 422 = .ok (.iload_n 3, 1) ∧ decode cL_law 423 = .ok (.iconst 2, 1) ∧ decode cL_law 424 = .ok (.iadd, 1) ∧ decode cL_law 425 = .ok (.iaload, 1) ∧ decode cL_law 426 = .ok (.aload_n 0, 1) ∧ decode cL_law 427 = .ok (.iload_n 3, 1) := by decide +kernel
theorem dL_law_420 : decode cL_law 420 = .ok (.iaload, 1) := db_dL_law_420.1
theorem dL_law_421 : decode cL_law 421 = .ok (.aload_n 0, 1) := db_dL_law_420.2.1
theorem dL_law_422 : decode cL_law 422 = .ok (.iload_n 3, 1) := db_dL_law_420.2.2.1
theorem dL_law_423 : decode cL_law 423 = .ok (.iconst 2, 1) := db_dL_law_420.2.2.2.1
theorem dL_law_424 : decode cL_law 424 = .ok (.iadd, 1) := db_dL_law_420.2.2.2.2.1
theorem dL_law_425 : decode cL_law 425 = .ok (.iaload, 1) := db_dL_law_420.2.2.2.2.2.1
theorem dL_law_426 : decode cL_law 426 = .ok (.aload_n 0, 1) := db_dL_law_420.2.2.2.2.2.2.1
theorem dL_law_427 : decode cL_law 427 = .ok (.iload_n 3, 1) := db_dL_law_420.2.2.2.2.2.2.2
theorem db_dL_law_428 : decode cL_law 428 = .ok (.iconst 3, 1) ∧ decode cL_law 429 = .ok (.iadd, 1) ∧ decode cL_law 430 = .ok (.iaload, 1) ∧ decode cL_law 431 = .ok (.invokevirtual 42, 3) ∧ decode cL_law 434 = .ok (.pop, 1) ∧ decode cL_law 435 = .ok (.goto 640, 3) ∧ decode cL_law 438 = .ok (.aload_n 1, 1) ∧ decode cL_law 439 = .ok (.aload_n 0, 1) := by decide +kernel
theorem dL_law_428 : decode cL_law 428 = .ok (.iconst 3, 1) := db_dL_law_428.1
theorem dL_law_429 : decode cL_law 429 = .ok (.iadd, 1) := db_dL_law_428.2.1
theorem dL_law_430 : decode cL_law 430 = .ok (.iaload, 1) := db_dL_law_428.2.2.1
theorem dL_law_431 : decode cL_law 431 = .ok (.invokevirtual 42, 3) := db_dL_law_428.2.2.2.1
theorem dL_law_434 : decode cL_law 434 = .ok (.pop, 1) := db_dL_law_428.2.2.2.2.1
theorem dL_law_435 : decode cL_law 435 = .ok (.goto 640, 3) := db_dL_law_428.2.2.2.2.2.1
theorem dL_law_438 : decode cL_law 438 = .ok (.aload_n 1, 1) := db_dL_law_428.2.2.2.2.2.2.1
theorem dL_law_439 : decode cL_law 439 = .ok (.aload_n 0, 1) := db_dL_law_428.2.2.2.2.2.2.2
theorem db_dL_law_440 : decode cL_law 440 = .ok (.iload_n 3, 1) ∧ decode cL_law 441 = .ok (.iconst 1, 1) ∧ decode cL_law 442 = .ok (.iadd, 1) ∧ decode cL_law 443 = .ok (.iaload, 1) ∧ decode cL_law 444 = .ok (.aload_n 0, 1) ∧ decode cL_law 445 = .ok (.iload_n 3, 1) ∧ decode cL_law 446 = .ok (.iconst 2, 1) ∧ decode cL_law 447 = .ok (.iadd, 1) := by decide +kernel
theorem dL_law_440 : decode cL_law 440 = .ok (.iload_n 3, 1) := db_dL_law_440.1
theorem dL_law_441 : decode cL_law 441 = .ok (.iconst 1, 1) := db_dL_law_440.2.1
theorem dL_law_442 : decode cL_law 442 = .ok (.iadd, 1) := db_dL_law_440.2.2.1
theorem dL_law_443 : decode cL_law 443 = .ok (.iaload, 1) := db_dL_law_440.2.2.2.1
theorem dL_law_444 : decode cL_law 444 = .ok (.aload_n 0, 1) := db_dL_law_440.2.2.2.2.1
theorem dL_law_445 : decode cL_law 445 = .ok (.iload_n 3, 1) := db_dL_law_440.2.2.2.2.2.1
theorem dL_law_446 : decode cL_law 446 = .ok (.iconst 2, 1) := db_dL_law_440.2.2.2.2.2.2.1
theorem dL_law_447 : decode cL_law 447 = .ok (.iadd, 1) := db_dL_law_440.2.2.2.2.2.2.2
theorem db_dL_law_448 : decode cL_law 448 = .ok (.iaload, 1) ∧ decode cL_law 449 = .ok (.invokevirtual 43, 3) ∧ decode cL_law 452 = .ok (.pop, 1) ∧ decode cL_law 453 = .ok (.aload_n 2, 1) ∧ decode cL_law 454 = .ok (.aload_n 0, 1) ∧ decode cL_law 455 = .ok (.iload_n 3, 1) ∧ decode cL_law 456 = .ok (.iconst 1, 1) ∧ decode cL_law 457 = .ok (.iadd, 1) := by decide +kernel
theorem dL_law_448 : decode cL_law 448 = .ok (.iaload, 1) := db_dL_law_448.1
theorem dL_law_449 : decode cL_law 449 = .ok (.invokevirtual 43, 3) := db_dL_law_448.2.1
theorem dL_law_452 : decode cL_law 452 = .ok (.pop, 1) := db_dL_law_448.2.2.1
theorem dL_law_453 : decode cL_law 453 = .ok (.aload_n 2, 1) := db_dL_law_448.2.2.2.1
theorem dL_law_454 : decode cL_law 454 = .ok (.aload_n 0, 1) := db_dL_law_448.2.2.2.2.1
theorem dL_law_455 : decode cL_law 455 = .ok (.iload_n 3, 1) := db_dL_law_448.2.2.2.2.2.1
theorem dL_law_456 : decode cL_law 456 = .ok (.iconst 1, 1) := db_dL_law_448.2.2.2.2.2.2.1
theorem dL_law_457 : decode cL_law 457 = .ok (.iadd, 1) := db_dL_law_448.2.2.2.2.2.2.2
theorem db_dL_law_458 : decode cL_law 458 = .ok (.iaload, 1) ∧ decode cL_law 459 = .ok (.aload_n 0, 1) ∧ decode cL_law 460 = .ok (.iload_n 3, 1) ∧ decode cL_law 461 = .ok (.iconst 2, 1) ∧ decode cL_law 462 = .ok (.iadd, 1) ∧ decode cL_law 463 = .ok (.iaload, 1) ∧ decode cL_law 464 = .ok (.invokevirtual 46, 3) ∧ decode cL_law 467 = .ok (.pop, 1) := by decide +kernel
theorem dL_law_458 : decode cL_law 458 = .ok (.iaload, 1) := db_dL_law_458.1
theorem dL_law_459 : decode cL_law 459 = .ok (.aload_n 0, 1) := db_dL_law_458.2.1
theorem dL_law_460 : decode cL_law 460 = .ok (.iload_n 3, 1) := db_dL_law_458.2.2.1
theorem dL_law_461 : decode cL_law 461 = .ok (.iconst 2, 1) := db_dL_law_458.2.2.2.1
theorem dL_law_462 : decode cL_law 462 = .ok (.iadd, 1) := db_dL_law_458.2.2.2.2.1
theorem dL_law_463 : decode cL_law 463 = .ok (.iaload, 1) := db_dL_law_458.2.2.2.2.2.1
theorem dL_law_464 : decode cL_law 464 = .ok (.invokevirtual 46, 3) := db_dL_law_458.2.2.2.2.2.2.1
theorem dL_law_467 : decode cL_law 467 = .ok (.pop, 1) := db_dL_law_458.2.2.2.2.2.2.2
theorem db_dL_law_468 : decode cL_law 468 = .ok (.goto 607, 3) ∧ decode cL_law 471 = .ok (.aload_n 1, 1) ∧ decode cL_law 472 = .ok (.aload_n 0, 1) ∧ decode cL_law 473 = .ok (.iload_n 3, 1) ∧ decode cL_law 474 = .ok (.iconst 1, 1) ∧ decode cL_law 475 = .ok (.iadd, 1) ∧ decode cL_law 476 = .ok (.iaload, 1) ∧ decode cL_law 477 = .ok (.aload_n 0, 1) := by decide +kernel
theorem dL_law_468 : decode cL_law 468 = .ok (.goto 607, 3) := db_dL_law_468.1
theorem dL_law_471 : decode cL_law 471 = .ok (.aload_n 1, 1) := db_dL_law_468.2.1
theorem dL_law_472 : decode cL_law 472 = .ok (.aload_n 0, 1) := db_dL_law_468.2.2.1
theorem dL_law_473 : decode cL_law 473 = .ok (.iload_n 3, 1) := db_dL_law_468.2.2.2.1
theorem dL_law_474 : decode cL_law 474 = .ok (.iconst 1, 1) := db_dL_law_468.2.2.2.2.1
theorem dL_law_475 : decode cL_law 475 = .ok (.iadd, 1) := db_dL_law_468.2.2.2.2.2.1
theorem dL_law_476 : decode cL_law 476 = .ok (.iaload, 1) := db_dL_law_468.2.2.2.2.2.2.1
theorem dL_law_477 : decode cL_law 477 = .ok (.aload_n 0, 1) := db_dL_law_468.2.2.2.2.2.2.2
theorem db_dL_law_478 : decode cL_law 478 = .ok (.iload_n 3, 1) ∧ decode cL_law 479 = .ok (.iconst 2, 1) ∧ decode cL_law 480 = .ok (.iadd, 1) ∧ decode cL_law 481 = .ok (.iaload, 1) ∧ decode cL_law 482 = .ok (.aload_n 0, 1) ∧ decode cL_law 483 = .ok (.iload_n 3, 1) ∧ decode cL_law 484 = .ok (.iconst 3, 1) ∧ decode cL_law 485 = .ok (.iadd, 1) := by decide +kernel
theorem dL_law_478 : decode cL_law 478 = .ok (.iload_n 3, 1) := db_dL_law_478.1
theorem dL_law_479 : decode cL_law 479 = .ok (.iconst 2, 1) := db_dL_law_478.2.1
theorem dL_law_480 : decode cL_law 480 = .ok (.iadd, 1) := db_dL_law_478.2.2.1
theorem dL_law_481 : decode cL_law 481 = .ok (.iaload, 1) := db_dL_law_478.2.2.2.1
theorem dL_law_482 : decode cL_law 482 = .ok (.aload_n 0, 1) := db_dL_law_478.2.2.2.2.1
theorem dL_law_483 : decode cL_law 483 = .ok (.iload_n 3, 1) := db_dL_law_478.2.2.2.2.2.1
theorem dL_law_484 : decode cL_law 484 = .ok (.iconst 3, 1) := db_dL_law_478.2.2.2.2.2.2.1
theorem dL_law_485 : decode cL_law 485 = .ok (.iadd, 1) := db_dL_law_478.2.2.2.2.2.2.2
theorem db_dL_law_486 : decode cL_law 486 = .ok (.iaload, 1) ∧ decode cL_law 487 = .ok (.invokevirtual 47, 3) ∧ decode cL_law 490 = .ok (.pop, 1) ∧ decode cL_law 491 = .ok (.aload_n 2, 1) ∧ decode cL_law 492 = .ok (.aload_n 0, 1) ∧ decode cL_law 493 = .ok (.iload_n 3, 1) ∧ decode cL_law 494 = .ok (.iconst 1, 1) ∧ decode cL_law 495 = .ok (.iadd, 1) := by decide +kernel
theorem dL_law_486 : decode cL_law 486 = .ok (.iaload, 1) := db_dL_law_486.1
theorem dL_law_487 : decode cL_law 487 = .ok (.invokevirtual 47, 3) := db_dL_law_486.2.1
theorem dL_law_490 : decode cL_law 490 = .ok (.pop, 1) := db_dL_law_486.2.2.1
theorem dL_law_491 : decode cL_law 491 = .ok (.aload_n 2, 1) := db_dL_law_486.2.2.2.1
theorem dL_law_492 : decode cL_law 492 = .ok (.aload_n 0, 1) := db_dL_law_486.2.2.2.2.1
theorem dL_law_493 : decode cL_law 493 = .ok (.iload_n 3, 1) := db_dL_law_486.2.2.2.2.2.1
theorem dL_law_494 : decode cL_law 494 = .ok (.iconst 1, 1) := db_dL_law_486.2.2.2.2.2.2.1
theorem dL_law_495 : decode cL_law 495 = .ok (.iadd, 1) := db_dL_law_486.2.2.2.2.2.2.2
theorem db_dL_law_496 : decode cL_law 496 = .ok (.iaload, 1) ∧ decode cL_law 497 = .ok (.aload_n 0, 1) ∧ decode cL_law 498 = .ok (.iload_n 3, 1) ∧ decode cL_law 499 = .ok (.iconst 2, 1) ∧ decode cL_law 500 = .ok (.iadd, 1) ∧ decode cL_law 501 = .ok (.iaload, 1) ∧ decode cL_law 502 = .ok (.aload_n 0, 1) ∧ decode cL_law 503 = .ok (.iload_n 3, 1) := by decide +kernel
theorem dL_law_496 : decode cL_law 496 = .ok (.iaload, 1) := db_dL_law_496.1
theorem dL_law_497 : decode cL_law 497 = .ok (.aload_n 0, 1) := db_dL_law_496.2.1
theorem dL_law_498 : decode cL_law 498 = .ok (.iload_n 3, 1) := db_dL_law_496.2.2.1
theorem dL_law_499 : decode cL_law 499 = .ok (.iconst 2, 1) := db_dL_law_496.2.2.2.1
theorem dL_law_500 : decode cL_law 500 = .ok (.iadd, 1) := db_dL_law_496.2.2.2.2.1
theorem dL_law_501 : decode cL_law 501 = .ok (.iaload, 1) := db_dL_law_496.2.2.2.2.2.1
theorem dL_law_502 : decode cL_law 502 = .ok (.aload_n 0, 1) := db_dL_law_496.2.2.2.2.2.2.1
theorem dL_law_503 : decode cL_law 503 = .ok (.iload_n 3, 1) := db_dL_law_496.2.2.2.2.2.2.2
theorem db_dL_law_504 : decode cL_law 504 = .ok (.iconst 3, 1) ∧ decode cL_law 505 = .ok (.iadd, 1) ∧ decode cL_law 506 = .ok (.iaload, 1) ∧ decode cL_law 507 = .ok (.invokevirtual 50, 3) ∧ decode cL_law 510 = .ok (.pop, 1) ∧ decode cL_law 511 = .ok (.goto 564, 3) ∧ decode cL_law 514 = .ok (.aload_n 1, 1) ∧ decode cL_law 515 = .ok (.aload_n 0, 1) := by decide +kernel
theorem dL_law_504 : decode cL_law 504 = .ok (.iconst 3, 1) := db_dL_law_504.1
theorem dL_law_505 : decode cL_law 505 = .ok (.iadd, 1) := db_dL_law_504.2.1
theorem dL_law_506 : decode cL_law 506 = .ok (.iaload, 1) := db_dL_law_504.2.2.1
theorem dL_law_507 : decode cL_law 507 = .ok (.invokevirtual 50, 3) := db_dL_law_504.2.2.2.1
theorem dL_law_510 : decode cL_law 510 = .ok (.pop, 1) := db_dL_law_504.2.2.2.2.1
theorem dL_law_511 : decode cL_law 511 = .ok (.goto 564, 3) := db_dL_law_504.2.2.2.2.2.1
theorem dL_law_514 : decode cL_law 514 = .ok (.aload_n 1, 1) := db_dL_law_504.2.2.2.2.2.2.1
theorem dL_law_515 : decode cL_law 515 = .ok (.aload_n 0, 1) := db_dL_law_504.2.2.2.2.2.2.2
theorem db_dL_law_516 : decode cL_law 516 = .ok (.iload_n 3, 1) ∧ decode cL_law 517 = .ok (.iconst 1, 1) ∧ decode cL_law 518 = .ok (.iadd, 1) ∧ decode cL_law 519 = .ok (.iaload, 1) ∧ decode cL_law 520 = .ok (.aload_n 0, 1) ∧ decode cL_law 521 = .ok (.iload_n 3, 1) ∧ decode cL_law 522 = .ok (.iconst 2, 1) ∧ decode cL_law 523 = .ok (.iadd, 1) := by decide +kernel
theorem dL_law_516 : decode cL_law 516 = .ok (.iload_n 3, 1) := db_dL_law_516.1
theorem dL_law_517 : decode cL_law 517 = .ok (.iconst 1, 1) := db_dL_law_516.2.1
theorem dL_law_518 : decode cL_law 518 = .ok (.iadd, 1) := db_dL_law_516.2.2.1
theorem dL_law_519 : decode cL_law 519 = .ok (.iaload, 1) := db_dL_law_516.2.2.2.1
theorem dL_law_520 : decode cL_law 520 = .ok (.aload_n 0, 1) := db_dL_law_516.2.2.2.2.1
theorem dL_law_521 : decode cL_law 521 = .ok (.iload_n 3, 1) := db_dL_law_516.2.2.2.2.2.1
theorem dL_law_522 : decode cL_law 522 = .ok (.iconst 2, 1) := db_dL_law_516.2.2.2.2.2.2.1
theorem dL_law_523 : decode cL_law 523 = .ok (.iadd, 1) := db_dL_law_516.2.2.2.2.2.2.2
theorem db_dL_law_524 : decode cL_law 524 = .ok (.iaload, 1) ∧ decode cL_law 525 = .ok (.aload_n 0, 1) ∧ decode cL_law 526 = .ok (.iload_n 3, 1) ∧ decode cL_law 527 = .ok (.iconst 3, 1) ∧ decode cL_law 528 = .ok (.iadd, 1) ∧ decode cL_law 529 = .ok (.iaload, 1) ∧ decode cL_law 530 = .ok (.invokevirtual 51, 3) ∧ decode cL_law 533 = .ok (.pop, 1) := by decide +kernel
theorem dL_law_524 : decode cL_law 524 = .ok (.iaload, 1) := db_dL_law_524.1
theorem dL_law_525 : decode cL_law 525 = .ok (.aload_n 0, 1) := db_dL_law_524.2.1
theorem dL_law_526 : decode cL_law 526 = .ok (.iload_n 3, 1) := db_dL_law_524.2.2.1
theorem dL_law_527 : decode cL_law 527 = .ok (.iconst 3, 1) := db_dL_law_524.2.2.2.1
theorem dL_law_528 : decode cL_law 528 = .ok (.iadd, 1) := db_dL_law_524.2.2.2.2.1
theorem dL_law_529 : decode cL_law 529 = .ok (.iaload, 1) := db_dL_law_524.2.2.2.2.2.1
theorem dL_law_530 : decode cL_law 530 = .ok (.invokevirtual 51, 3) := db_dL_law_524.2.2.2.2.2.2.1
theorem dL_law_533 : decode cL_law 533 = .ok (.pop, 1) := db_dL_law_524.2.2.2.2.2.2.2
theorem db_dL_law_534 : decode cL_law 534 = .ok (.aload_n 2, 1) ∧ decode cL_law 535 = .ok (.aload_n 0, 1) ∧ decode cL_law 536 = .ok (.iload_n 3, 1) ∧ decode cL_law 537 = .ok (.iconst 1, 1) ∧ decode cL_law 538 = .ok (.iadd, 1) ∧ decode cL_law 539 = .ok (.iaload, 1) ∧ decode cL_law 540 = .ok (.aload_n 0, 1) ∧ decode cL_law 541 = .ok (.iload_n 3, 1) := by decide +kernel
theorem dL_law_534 : decode cL_law 534 = .ok (.aload_n 2, 1) := db_dL_law_534.1
theorem dL_law_535 : decode cL_law 535 = .ok (.aload_n 0, 1) := db_dL_law_534.2.1
theorem dL_law_536 : decode cL_law 536 = .ok (.iload_n 3, 1) := db_dL_law_534.2.2.1
theorem dL_law_537 : decode cL_law 537 = .ok (.iconst 1, 1) := db_dL_law_534.2.2.2.1
theorem dL_law_538 : decode cL_law 538 = .ok (.iadd, 1) := db_dL_law_534.2.2.2.2.1
theorem dL_law_539 : decode cL_law 539 = .ok (.iaload, 1) := db_dL_law_534.2.2.2.2.2.1
theorem dL_law_540 : decode cL_law 540 = .ok (.aload_n 0, 1) := db_dL_law_534.2.2.2.2.2.2.1
theorem dL_law_541 : decode cL_law 541 = .ok (.iload_n 3, 1) := db_dL_law_534.2.2.2.2.2.2.2
theorem db_dL_law_542 : decode cL_law 542 = .ok (.iconst 2, 1) ∧ decode cL_law 543 = .ok (.iadd, 1) ∧ decode cL_law 544 = .ok (.iaload, 1) ∧ decode cL_law 545 = .ok (.aload_n 0, 1) ∧ decode cL_law 546 = .ok (.iload_n 3, 1) ∧ decode cL_law 547 = .ok (.iconst 3, 1) ∧ decode cL_law 548 = .ok (.iadd, 1) ∧ decode cL_law 549 = .ok (.iaload, 1) := by decide +kernel
theorem dL_law_542 : decode cL_law 542 = .ok (.iconst 2, 1) := db_dL_law_542.1
theorem dL_law_543 : decode cL_law 543 = .ok (.iadd, 1) := db_dL_law_542.2.1
theorem dL_law_544 : decode cL_law 544 = .ok (.iaload, 1) := db_dL_law_542.2.2.1
theorem dL_law_545 : decode cL_law 545 = .ok (.aload_n 0, 1) := db_dL_law_542.2.2.2.1
theorem dL_law_546 : decode cL_law 546 = .ok (.iload_n 3, 1) := db_dL_law_542.2.2.2.2.1
theorem dL_law_547 : decode cL_law 547 = .ok (.iconst 3, 1) := db_dL_law_542.2.2.2.2.2.1
theorem dL_law_548 : decode cL_law 548 = .ok (.iadd, 1) := db_dL_law_542.2.2.2.2.2.2.1
theorem dL_law_549 : decode cL_law 549 = .ok (.iaload, 1) := db_dL_law_542.2.2.2.2.2.2.2
theorem db_dL_law_550 : decode cL_law 550 = .ok (.invokevirtual 54, 3) ∧ decode cL_law 553 = .ok (.pop, 1) ∧ decode cL_law 554 = .ok (.goto 521, 3) ∧ decode cL_law 557 = .ok (.aload_n 1, 1) ∧ decode cL_law 558 = .ok (.invokevirtual 55, 3) ∧ decode cL_law 561 = .ok (.pop, 1) ∧ decode cL_law 562 = .ok (.aload_n 2, 1) ∧ decode cL_law 563 = .ok (.invokevirtual 59, 3) := by decide +kernel
theorem dL_law_550 : decode cL_law 550 = .ok (.invokevirtual 54, 3) := db_dL_law_550.1
theorem dL_law_553 : decode cL_law 553 = .ok (.pop, 1) := db_dL_law_550.2.1
theorem dL_law_554 : decode cL_law 554 = .ok (.goto 521, 3) := db_dL_law_550.2.2.1
theorem dL_law_557 : decode cL_law 557 = .ok (.aload_n 1, 1) := db_dL_law_550.2.2.2.1
theorem dL_law_558 : decode cL_law 558 = .ok (.invokevirtual 55, 3) := db_dL_law_550.2.2.2.2.1
theorem dL_law_561 : decode cL_law 561 = .ok (.pop, 1) := db_dL_law_550.2.2.2.2.2.1
theorem dL_law_562 : decode cL_law 562 = .ok (.aload_n 2, 1) := db_dL_law_550.2.2.2.2.2.2.1
theorem dL_law_563 : decode cL_law 563 = .ok (.invokevirtual 59, 3) := db_dL_law_550.2.2.2.2.2.2.2
theorem db_dL_law_566 : decode cL_law 566 = .ok (.pop, 1) ∧ decode cL_law 567 = .ok (.goto 508, 3) ∧ decode cL_law 570 = .ok (.aload_n 1, 1) ∧ decode cL_law 571 = .ok (.invokevirtual 60, 3) ∧ decode cL_law 574 = .ok (.pop, 1) ∧ decode cL_law 575 = .ok (.aload_n 2, 1) ∧ decode cL_law 576 = .ok (.invokevirtual 63, 3) ∧ decode cL_law 579 = .ok (.pop, 1) := by decide +kernel
theorem dL_law_566 : decode cL_law 566 = .ok (.pop, 1) := db_dL_law_566.1
theorem dL_law_567 : decode cL_law 567 = .ok (.goto 508, 3) := db_dL_law_566.2.1
theorem dL_law_570 : decode cL_law 570 = .ok (.aload_n 1, 1) := db_dL_law_566.2.2.1
theorem dL_law_571 : decode cL_law 571 = .ok (.invokevirtual 60, 3) := db_dL_law_566.2.2.2.1
theorem dL_law_574 : decode cL_law 574 = .ok (.pop, 1) := db_dL_law_566.2.2.2.2.1
theorem dL_law_575 : decode cL_law 575 = .ok (.aload_n 2, 1) := db_dL_law_566.2.2.2.2.2.1
theorem dL_law_576 : decode cL_law 576 = .ok (.invokevirtual 63, 3) := db_dL_law_566.2.2.2.2.2.2.1
theorem dL_law_579 : decode cL_law 579 = .ok (.pop, 1) := db_dL_law_566.2.2.2.2.2.2.2
theorem db_dL_law_580 : decode cL_law 580 = .ok (.goto 495, 3) ∧ decode cL_law 583 = .ok (.aload_n 1, 1) ∧ decode cL_law 584 = .ok (.aload_n 0, 1) ∧ decode cL_law 585 = .ok (.iload_n 3, 1) ∧ decode cL_law 586 = .ok (.iconst 1, 1) ∧ decode cL_law 587 = .ok (.iadd, 1) ∧ decode cL_law 588 = .ok (.iaload, 1) ∧ decode cL_law 589 = .ok (.aload_n 0, 1) := by decide +kernel
theorem dL_law_580 : decode cL_law 580 = .ok (.goto 495, 3) := db_dL_law_580.1
theorem dL_law_583 : decode cL_law 583 = .ok (.aload_n 1, 1) := db_dL_law_580.2.1
theorem dL_law_584 : decode cL_law 584 = .ok (.aload_n 0, 1) := db_dL_law_580.2.2.1
theorem dL_law_585 : decode cL_law 585 = .ok (.iload_n 3, 1) := db_dL_law_580.2.2.2.1
theorem dL_law_586 : decode cL_law 586 = .ok (.iconst 1, 1) := db_dL_law_580.2.2.2.2.1
theorem dL_law_587 : decode cL_law 587 = .ok (.iadd, 1) := db_dL_law_580.2.2.2.2.2.1
theorem dL_law_588 : decode cL_law 588 = .ok (.iaload, 1) := db_dL_law_580.2.2.2.2.2.2.1
theorem dL_law_589 : decode cL_law 589 = .ok (.aload_n 0, 1) := db_dL_law_580.2.2.2.2.2.2.2
theorem db_dL_law_590 : decode cL_law 590 = .ok (.iload_n 3, 1) ∧ decode cL_law 591 = .ok (.iconst 2, 1) ∧ decode cL_law 592 = .ok (.iadd, 1) ∧ decode cL_law 593 = .ok (.iaload, 1) ∧ decode cL_law 594 = .ok (.invokevirtual 64, 3) ∧ decode cL_law 597 = .ok (.pop, 1) ∧ decode cL_law 598 = .ok (.aload_n 2, 1) ∧ decode cL_law 599 = .ok (.aload_n 0, 1) := by decide +kernel
theorem dL_law_590 : decode cL_law 590 = .ok (.iload_n 3, 1) := db_dL_law_590.1
theorem dL_law_591 : decode cL_law 591 = .ok (.iconst 2, 1) := db_dL_law_590.2.1
theorem dL_law_592 : decode cL_law 592 = .ok (.iadd, 1) := db_dL_law_590.2.2.1
theorem dL_law_593 : decode cL_law 593 = .ok (.iaload, 1) := db_dL_law_590.2.2.2.1
theorem dL_law_594 : decode cL_law 594 = .ok (.invokevirtual 64, 3) := db_dL_law_590.2.2.2.2.1
theorem dL_law_597 : decode cL_law 597 = .ok (.pop, 1) := db_dL_law_590.2.2.2.2.2.1
theorem dL_law_598 : decode cL_law 598 = .ok (.aload_n 2, 1) := db_dL_law_590.2.2.2.2.2.2.1
theorem dL_law_599 : decode cL_law 599 = .ok (.aload_n 0, 1) := db_dL_law_590.2.2.2.2.2.2.2
theorem db_dL_law_600 : decode cL_law 600 = .ok (.iload_n 3, 1) ∧ decode cL_law 601 = .ok (.iconst 1, 1) ∧ decode cL_law 602 = .ok (.iadd, 1) ∧ decode cL_law 603 = .ok (.iaload, 1) ∧ decode cL_law 604 = .ok (.aload_n 0, 1) ∧ decode cL_law 605 = .ok (.iload_n 3, 1) ∧ decode cL_law 606 = .ok (.iconst 2, 1) ∧ decode cL_law 607 = .ok (.iadd, 1) := by decide +kernel
theorem dL_law_600 : decode cL_law 600 = .ok (.iload_n 3, 1) := db_dL_law_600.1
theorem dL_law_601 : decode cL_law 601 = .ok (.iconst 1, 1) := db_dL_law_600.2.1
theorem dL_law_602 : decode cL_law 602 = .ok (.iadd, 1) := db_dL_law_600.2.2.1
theorem dL_law_603 : decode cL_law 603 = .ok (.iaload, 1) := db_dL_law_600.2.2.2.1
theorem dL_law_604 : decode cL_law 604 = .ok (.aload_n 0, 1) := db_dL_law_600.2.2.2.2.1
theorem dL_law_605 : decode cL_law 605 = .ok (.iload_n 3, 1) := db_dL_law_600.2.2.2.2.2.1
theorem dL_law_606 : decode cL_law 606 = .ok (.iconst 2, 1) := db_dL_law_600.2.2.2.2.2.2.1
theorem dL_law_607 : decode cL_law 607 = .ok (.iadd, 1) := db_dL_law_600.2.2.2.2.2.2.2
theorem db_dL_law_608 : decode cL_law 608 = .ok (.iaload, 1) ∧ decode cL_law 609 = .ok (.invokevirtual 67, 3) ∧ decode cL_law 612 = .ok (.pop, 1) ∧ decode cL_law 613 = .ok (.goto 462, 3) ∧ decode cL_law 616 = .ok (.aload_n 1, 1) ∧ decode cL_law 617 = .ok (.invokevirtual 68, 3) ∧ decode cL_law 620 = .ok (.pop, 1) ∧ decode cL_law 621 = .ok (.aload_n 2, 1) := by decide +kernel
theorem dL_law_608 : decode cL_law 608 = .ok (.iaload, 1) := db_dL_law_608.1
theorem dL_law_609 : decode cL_law 609 = .ok (.invokevirtual 67, 3) := db_dL_law_608.2.1
theorem dL_law_612 : decode cL_law 612 = .ok (.pop, 1) := db_dL_law_608.2.2.1
theorem dL_law_613 : decode cL_law 613 = .ok (.goto 462, 3) := db_dL_law_608.2.2.2.1
theorem dL_law_616 : decode cL_law 616 = .ok (.aload_n 1, 1) := db_dL_law_608.2.2.2.2.1
theorem dL_law_617 : decode cL_law 617 = .ok (.invokevirtual 68, 3) := db_dL_law_608.2.2.2.2.2.1
theorem dL_law_620 : decode cL_law 620 = .ok (.pop, 1) := db_dL_law_608.2.2.2.2.2.2.1
theorem dL_law_621 : decode cL_law 621 = .ok (.aload_n 2, 1) := db_dL_law_608.2.2.2.2.2.2.2
theorem db_dL_law_622 : decode cL_law 622 = .ok (.invokevirtual 71, 3) ∧ decode cL_law 625 = .ok (.pop, 1) ∧ decode cL_law 626 = .ok (.goto 449, 3) ∧ decode cL_law 629 = .ok (.aload_n 1, 1) ∧ decode cL_law 630 = .ok (.aload_n 0, 1) ∧ decode cL_law 631 = .ok (.iload_n 3, 1) ∧ decode cL_law 632 = .ok (.iconst 1, 1) ∧ decode cL_law 633 = .ok (.iadd, 1) := by decide +kernel
theorem dL_law_622 : decode cL_law 622 = .ok (.invokevirtual 71, 3) := db_dL_law_622.1
theorem dL_law_625 : decode cL_law 625 = .ok (.pop, 1) := db_dL_law_622.2.1
theorem dL_law_626 : decode cL_law 626 = .ok (.goto 449, 3) := db_dL_law_622.2.2.1
theorem dL_law_629 : decode cL_law 629 = .ok (.aload_n 1, 1) := db_dL_law_622.2.2.2.1
theorem dL_law_630 : decode cL_law 630 = .ok (.aload_n 0, 1) := db_dL_law_622.2.2.2.2.1
theorem dL_law_631 : decode cL_law 631 = .ok (.iload_n 3, 1) := db_dL_law_622.2.2.2.2.2.1
theorem dL_law_632 : decode cL_law 632 = .ok (.iconst 1, 1) := db_dL_law_622.2.2.2.2.2.2.1
theorem dL_law_633 : decode cL_law 633 = .ok (.iadd, 1) := db_dL_law_622.2.2.2.2.2.2.2
theorem db_dL_law_634 : decode cL_law 634 = .ok (.iaload, 1) ∧ decode cL_law 635 = .ok (.aload_n 0, 1) ∧ decode cL_law 636 = .ok (.iload_n 3, 1) ∧ decode cL_law 637 = .ok (.iconst 2, 1) ∧ decode cL_law 638 = .ok (.iadd, 1) ∧ decode cL_law 639 = .ok (.iaload, 1) ∧ decode cL_law 640 = .ok (.aload_n 0, 1) ∧ decode cL_law 641 = .ok (.iload_n 3, 1) := by decide +kernel
theorem dL_law_634 : decode cL_law 634 = .ok (.iaload, 1) := db_dL_law_634.1
theorem dL_law_635 : decode cL_law 635 = .ok (.aload_n 0, 1) := db_dL_law_634.2.1
theorem dL_law_636 : decode cL_law 636 = .ok (.iload_n 3, 1) := db_dL_law_634.2.2.1
theorem dL_law_637 : decode cL_law 637 = .ok (.iconst 2, 1) := db_dL_law_634.2.2.2.1
theorem dL_law_638 : decode cL_law 638 = .ok (.iadd, 1) := db_dL_law_634.2.2.2.2.1
theorem dL_law_639 : decode cL_law 639 = .ok (.iaload, 1) := db_dL_law_634.2.2.2.2.2.1
theorem dL_law_640 : decode cL_law 640 = .ok (.aload_n 0, 1) := db_dL_law_634.2.2.2.2.2.2.1
theorem dL_law_641 : decode cL_law 641 = .ok (.iload_n 3, 1) := db_dL_law_634.2.2.2.2.2.2.2
theorem db_dL_law_642 : decode cL_law 642 = .ok (.iconst 3, 1) ∧ decode cL_law 643 = .ok (.iadd, 1) ∧ decode cL_law 644 = .ok (.iaload, 1) ∧ decode cL_law 645 = .ok (.aload_n 0, 1) ∧ decode cL_law 646 = .ok (.iload_n 3, 1) ∧ decode cL_law 647 = .ok (.iconst 4, 1) ∧ decode cL_law 648 = .ok (.iadd, 1) ∧ decode cL_law 649 = .ok (.iaload, 1) := by decide +kernel
theorem dL_law_642 : decode cL_law 642 = .ok (.iconst 3, 1) := db_dL_law_642.1
theorem dL_law_643 : decode cL_law 643 = .ok (.iadd, 1) := db_dL_law_642.2.1
theorem dL_law_644 : decode cL_law 644 = .ok (.iaload, 1) := db_dL_law_642.2.2.1
theorem dL_law_645 : decode cL_law 645 = .ok (.aload_n 0, 1) := db_dL_law_642.2.2.2.1
theorem dL_law_646 : decode cL_law 646 = .ok (.iload_n 3, 1) := db_dL_law_642.2.2.2.2.1
theorem dL_law_647 : decode cL_law 647 = .ok (.iconst 4, 1) := db_dL_law_642.2.2.2.2.2.1
theorem dL_law_648 : decode cL_law 648 = .ok (.iadd, 1) := db_dL_law_642.2.2.2.2.2.2.1
theorem dL_law_649 : decode cL_law 649 = .ok (.iaload, 1) := db_dL_law_642.2.2.2.2.2.2.2
theorem db_dL_law_650 : decode cL_law 650 = .ok (.aload_n 0, 1) ∧ decode cL_law 651 = .ok (.iload_n 3, 1) ∧ decode cL_law 652 = .ok (.iconst 5, 1) ∧ decode cL_law 653 = .ok (.iadd, 1) ∧ decode cL_law 654 = .ok (.iaload, 1) ∧ decode cL_law 655 = .ok (.invokevirtual 72, 3) ∧ decode cL_law 658 = .ok (.pop, 1) ∧ decode cL_law 659 = .ok (.aload_n 2, 1) := by decide +kernel
theorem dL_law_650 : decode cL_law 650 = .ok (.aload_n 0, 1) := db_dL_law_650.1
theorem dL_law_651 : decode cL_law 651 = .ok (.iload_n 3, 1) := db_dL_law_650.2.1
theorem dL_law_652 : decode cL_law 652 = .ok (.iconst 5, 1) := db_dL_law_650.2.2.1
theorem dL_law_653 : decode cL_law 653 = .ok (.iadd, 1) := db_dL_law_650.2.2.2.1
theorem dL_law_654 : decode cL_law 654 = .ok (.iaload, 1) := db_dL_law_650.2.2.2.2.1
theorem dL_law_655 : decode cL_law 655 = .ok (.invokevirtual 72, 3) := db_dL_law_650.2.2.2.2.2.1
theorem dL_law_658 : decode cL_law 658 = .ok (.pop, 1) := db_dL_law_650.2.2.2.2.2.2.1
theorem dL_law_659 : decode cL_law 659 = .ok (.aload_n 2, 1) := db_dL_law_650.2.2.2.2.2.2.2
theorem db_dL_law_660 : decode cL_law 660 = .ok (.aload_n 0, 1) ∧ decode cL_law 661 = .ok (.iload_n 3, 1) ∧ decode cL_law 662 = .ok (.iconst 1, 1) ∧ decode cL_law 663 = .ok (.iadd, 1) ∧ decode cL_law 664 = .ok (.iaload, 1) ∧ decode cL_law 665 = .ok (.aload_n 0, 1) ∧ decode cL_law 666 = .ok (.iload_n 3, 1) ∧ decode cL_law 667 = .ok (.iconst 2, 1) := by decide +kernel
theorem dL_law_660 : decode cL_law 660 = .ok (.aload_n 0, 1) := db_dL_law_660.1
theorem dL_law_661 : decode cL_law 661 = .ok (.iload_n 3, 1) := db_dL_law_660.2.1
theorem dL_law_662 : decode cL_law 662 = .ok (.iconst 1, 1) := db_dL_law_660.2.2.1
theorem dL_law_663 : decode cL_law 663 = .ok (.iadd, 1) := db_dL_law_660.2.2.2.1
theorem dL_law_664 : decode cL_law 664 = .ok (.iaload, 1) := db_dL_law_660.2.2.2.2.1
theorem dL_law_665 : decode cL_law 665 = .ok (.aload_n 0, 1) := db_dL_law_660.2.2.2.2.2.1
theorem dL_law_666 : decode cL_law 666 = .ok (.iload_n 3, 1) := db_dL_law_660.2.2.2.2.2.2.1
theorem dL_law_667 : decode cL_law 667 = .ok (.iconst 2, 1) := db_dL_law_660.2.2.2.2.2.2.2
theorem db_dL_law_668 : decode cL_law 668 = .ok (.iadd, 1) ∧ decode cL_law 669 = .ok (.iaload, 1) ∧ decode cL_law 670 = .ok (.aload_n 0, 1) ∧ decode cL_law 671 = .ok (.iload_n 3, 1) ∧ decode cL_law 672 = .ok (.iconst 3, 1) ∧ decode cL_law 673 = .ok (.iadd, 1) ∧ decode cL_law 674 = .ok (.iaload, 1) ∧ decode cL_law 675 = .ok (.aload_n 0, 1) := by decide +kernel
theorem dL_law_668 : decode cL_law 668 = .ok (.iadd, 1) := db_dL_law_668.1
theorem dL_law_669 : decode cL_law 669 = .ok (.iaload, 1) := db_dL_law_668.2.1
theorem dL_law_670 : decode cL_law 670 = .ok (.aload_n 0, 1) := db_dL_law_668.2.2.1
theorem dL_law_671 : decode cL_law 671 = .ok (.iload_n 3, 1) := db_dL_law_668.2.2.2.1
theorem dL_law_672 : decode cL_law 672 = .ok (.iconst 3, 1) := db_dL_law_668.2.2.2.2.1
theorem dL_law_673 : decode cL_law 673 = .ok (.iadd, 1) := db_dL_law_668.2.2.2.2.2.1
theorem dL_law_674 : decode cL_law 674 = .ok (.iaload, 1) := db_dL_law_668.2.2.2.2.2.2.1
theorem dL_law_675 : decode cL_law 675 = .ok (.aload_n 0, 1) := db_dL_law_668.2.2.2.2.2.2.2
theorem db_dL_law_676 : decode cL_law 676 = .ok (.iload_n 3, 1) ∧ decode cL_law 677 = .ok (.iconst 4, 1) ∧ decode cL_law 678 = .ok (.iadd, 1) ∧ decode cL_law 679 = .ok (.iaload, 1) ∧ decode cL_law 680 = .ok (.aload_n 0, 1) ∧ decode cL_law 681 = .ok (.iload_n 3, 1) ∧ decode cL_law 682 = .ok (.iconst 5, 1) ∧ decode cL_law 683 = .ok (.iadd, 1) := by decide +kernel
theorem dL_law_676 : decode cL_law 676 = .ok (.iload_n 3, 1) := db_dL_law_676.1
theorem dL_law_677 : decode cL_law 677 = .ok (.iconst 4, 1) := db_dL_law_676.2.1
theorem dL_law_678 : decode cL_law 678 = .ok (.iadd, 1) := db_dL_law_676.2.2.1
theorem dL_law_679 : decode cL_law 679 = .ok (.iaload, 1) := db_dL_law_676.2.2.2.1
theorem dL_law_680 : decode cL_law 680 = .ok (.aload_n 0, 1) := db_dL_law_676.2.2.2.2.1
theorem dL_law_681 : decode cL_law 681 = .ok (.iload_n 3, 1) := db_dL_law_676.2.2.2.2.2.1
theorem dL_law_682 : decode cL_law 682 = .ok (.iconst 5, 1) := db_dL_law_676.2.2.2.2.2.2.1
theorem dL_law_683 : decode cL_law 683 = .ok (.iadd, 1) := db_dL_law_676.2.2.2.2.2.2.2
theorem db_dL_law_684 : decode cL_law 684 = .ok (.iaload, 1) ∧ decode cL_law 685 = .ok (.invokevirtual 76, 3) ∧ decode cL_law 688 = .ok (.pop, 1) ∧ decode cL_law 689 = .ok (.goto 386, 3) ∧ decode cL_law 692 = .ok (.aload_n 1, 1) ∧ decode cL_law 693 = .ok (.aload_n 0, 1) ∧ decode cL_law 694 = .ok (.iload_n 3, 1) ∧ decode cL_law 695 = .ok (.iconst 1, 1) := by decide +kernel
theorem dL_law_684 : decode cL_law 684 = .ok (.iaload, 1) := db_dL_law_684.1
theorem dL_law_685 : decode cL_law 685 = .ok (.invokevirtual 76, 3) := db_dL_law_684.2.1
theorem dL_law_688 : decode cL_law 688 = .ok (.pop, 1) := db_dL_law_684.2.2.1
theorem dL_law_689 : decode cL_law 689 = .ok (.goto 386, 3) := db_dL_law_684.2.2.2.1
theorem dL_law_692 : decode cL_law 692 = .ok (.aload_n 1, 1) := db_dL_law_684.2.2.2.2.1
theorem dL_law_693 : decode cL_law 693 = .ok (.aload_n 0, 1) := db_dL_law_684.2.2.2.2.2.1
theorem dL_law_694 : decode cL_law 694 = .ok (.iload_n 3, 1) := db_dL_law_684.2.2.2.2.2.2.1
theorem dL_law_695 : decode cL_law 695 = .ok (.iconst 1, 1) := db_dL_law_684.2.2.2.2.2.2.2
theorem db_dL_law_696 : decode cL_law 696 = .ok (.iadd, 1) ∧ decode cL_law 697 = .ok (.iaload, 1) ∧ decode cL_law 698 = .ok (.aload_n 0, 1) ∧ decode cL_law 699 = .ok (.iload_n 3, 1) ∧ decode cL_law 700 = .ok (.iconst 2, 1) ∧ decode cL_law 701 = .ok (.iadd, 1) ∧ decode cL_law 702 = .ok (.iaload, 1) ∧ decode cL_law 703 = .ok (.aload_n 0, 1) := by decide +kernel
theorem dL_law_696 : decode cL_law 696 = .ok (.iadd, 1) := db_dL_law_696.1
theorem dL_law_697 : decode cL_law 697 = .ok (.iaload, 1) := db_dL_law_696.2.1
theorem dL_law_698 : decode cL_law 698 = .ok (.aload_n 0, 1) := db_dL_law_696.2.2.1
theorem dL_law_699 : decode cL_law 699 = .ok (.iload_n 3, 1) := db_dL_law_696.2.2.2.1
theorem dL_law_700 : decode cL_law 700 = .ok (.iconst 2, 1) := db_dL_law_696.2.2.2.2.1
theorem dL_law_701 : decode cL_law 701 = .ok (.iadd, 1) := db_dL_law_696.2.2.2.2.2.1
theorem dL_law_702 : decode cL_law 702 = .ok (.iaload, 1) := db_dL_law_696.2.2.2.2.2.2.1
theorem dL_law_703 : decode cL_law 703 = .ok (.aload_n 0, 1) := db_dL_law_696.2.2.2.2.2.2.2
theorem db_dL_law_704 : decode cL_law 704 = .ok (.iload_n 3, 1) ∧ decode cL_law 705 = .ok (.iconst 3, 1) ∧ decode cL_law 706 = .ok (.iadd, 1) ∧ decode cL_law 707 = .ok (.iaload, 1) ∧ decode cL_law 708 = .ok (.aload_n 0, 1) ∧ decode cL_law 709 = .ok (.iload_n 3, 1) ∧ decode cL_law 710 = .ok (.iconst 4, 1) ∧ decode cL_law 711 = .ok (.iadd, 1) := by decide +kernel
theorem dL_law_704 : decode cL_law 704 = .ok (.iload_n 3, 1) := db_dL_law_704.1
theorem dL_law_705 : decode cL_law 705 = .ok (.iconst 3, 1) := db_dL_law_704.2.1
theorem dL_law_706 : decode cL_law 706 = .ok (.iadd, 1) := db_dL_law_704.2.2.1
theorem dL_law_707 : decode cL_law 707 = .ok (.iaload, 1) := db_dL_law_704.2.2.2.1
theorem dL_law_708 : decode cL_law 708 = .ok (.aload_n 0, 1) := db_dL_law_704.2.2.2.2.1
theorem dL_law_709 : decode cL_law 709 = .ok (.iload_n 3, 1) := db_dL_law_704.2.2.2.2.2.1
theorem dL_law_710 : decode cL_law 710 = .ok (.iconst 4, 1) := db_dL_law_704.2.2.2.2.2.2.1
theorem dL_law_711 : decode cL_law 711 = .ok (.iadd, 1) := db_dL_law_704.2.2.2.2.2.2.2
theorem db_dL_law_712 : decode cL_law 712 = .ok (.iaload, 1) ∧ decode cL_law 713 = .ok (.invokevirtual 77, 3) ∧ decode cL_law 716 = .ok (.pop, 1) ∧ decode cL_law 717 = .ok (.aload_n 2, 1) ∧ decode cL_law 718 = .ok (.aload_n 0, 1) ∧ decode cL_law 719 = .ok (.iload_n 3, 1) ∧ decode cL_law 720 = .ok (.iconst 1, 1) ∧ decode cL_law 721 = .ok (.iadd, 1) := by decide +kernel
theorem dL_law_712 : decode cL_law 712 = .ok (.iaload, 1) := db_dL_law_712.1
theorem dL_law_713 : decode cL_law 713 = .ok (.invokevirtual 77, 3) := db_dL_law_712.2.1
theorem dL_law_716 : decode cL_law 716 = .ok (.pop, 1) := db_dL_law_712.2.2.1
theorem dL_law_717 : decode cL_law 717 = .ok (.aload_n 2, 1) := db_dL_law_712.2.2.2.1
theorem dL_law_718 : decode cL_law 718 = .ok (.aload_n 0, 1) := db_dL_law_712.2.2.2.2.1
theorem dL_law_719 : decode cL_law 719 = .ok (.iload_n 3, 1) := db_dL_law_712.2.2.2.2.2.1
theorem dL_law_720 : decode cL_law 720 = .ok (.iconst 1, 1) := db_dL_law_712.2.2.2.2.2.2.1
theorem dL_law_721 : decode cL_law 721 = .ok (.iadd, 1) := db_dL_law_712.2.2.2.2.2.2.2
theorem db_dL_law_722 : decode cL_law 722 = .ok (.iaload, 1) ∧ decode cL_law 723 = .ok (.aload_n 0, 1) ∧ decode cL_law 724 = .ok (.iload_n 3, 1) ∧ decode cL_law 725 = .ok (.iconst 2, 1) ∧ decode cL_law 726 = .ok (.iadd, 1) ∧ decode cL_law 727 = .ok (.iaload, 1) ∧ decode cL_law 728 = .ok (.aload_n 0, 1) ∧ decode cL_law 729 = .ok (.iload_n 3, 1) := by decide +kernel
theorem dL_law_722 : decode cL_law 722 = .ok (.iaload, 1) := db_dL_law_722.1
theorem dL_law_723 : decode cL_law 723 = .ok (.aload_n 0, 1) := db_dL_law_722.2.1
theorem dL_law_724 : decode cL_law 724 = .ok (.iload_n 3, 1) := db_dL_law_722.2.2.1
theorem dL_law_725 : decode cL_law 725 = .ok (.iconst 2, 1) := db_dL_law_722.2.2.2.1
theorem dL_law_726 : decode cL_law 726 = .ok (.iadd, 1) := db_dL_law_722.2.2.2.2.1
theorem dL_law_727 : decode cL_law 727 = .ok (.iaload, 1) := db_dL_law_722.2.2.2.2.2.1
theorem dL_law_728 : decode cL_law 728 = .ok (.aload_n 0, 1) := db_dL_law_722.2.2.2.2.2.2.1
theorem dL_law_729 : decode cL_law 729 = .ok (.iload_n 3, 1) := db_dL_law_722.2.2.2.2.2.2.2
theorem db_dL_law_730 : decode cL_law 730 = .ok (.iconst 3, 1) ∧ decode cL_law 731 = .ok (.iadd, 1) ∧ decode cL_law 732 = .ok (.iaload, 1) ∧ decode cL_law 733 = .ok (.aload_n 0, 1) ∧ decode cL_law 734 = .ok (.iload_n 3, 1) ∧ decode cL_law 735 = .ok (.iconst 4, 1) ∧ decode cL_law 736 = .ok (.iadd, 1) ∧ decode cL_law 737 = .ok (.iaload, 1) := by decide +kernel
theorem dL_law_730 : decode cL_law 730 = .ok (.iconst 3, 1) := db_dL_law_730.1
theorem dL_law_731 : decode cL_law 731 = .ok (.iadd, 1) := db_dL_law_730.2.1
theorem dL_law_732 : decode cL_law 732 = .ok (.iaload, 1) := db_dL_law_730.2.2.1
theorem dL_law_733 : decode cL_law 733 = .ok (.aload_n 0, 1) := db_dL_law_730.2.2.2.1
theorem dL_law_734 : decode cL_law 734 = .ok (.iload_n 3, 1) := db_dL_law_730.2.2.2.2.1
theorem dL_law_735 : decode cL_law 735 = .ok (.iconst 4, 1) := db_dL_law_730.2.2.2.2.2.1
theorem dL_law_736 : decode cL_law 736 = .ok (.iadd, 1) := db_dL_law_730.2.2.2.2.2.2.1
theorem dL_law_737 : decode cL_law 737 = .ok (.iaload, 1) := db_dL_law_730.2.2.2.2.2.2.2
theorem db_dL_law_738 : decode cL_law 738 = .ok (.invokevirtual 80, 3) ∧ decode cL_law 741 = .ok (.pop, 1) ∧ decode cL_law 742 = .ok (.goto 333, 3) ∧ decode cL_law 745 = .ok (.aload_n 1, 1) ∧ decode cL_law 746 = .ok (.aload_n 0, 1) ∧ decode cL_law 747 = .ok (.iload_n 3, 1) ∧ decode cL_law 748 = .ok (.iconst 1, 1) ∧ decode cL_law 749 = .ok (.iadd, 1) := by decide +kernel
theorem dL_law_738 : decode cL_law 738 = .ok (.invokevirtual 80, 3) := db_dL_law_738.1
theorem dL_law_741 : decode cL_law 741 = .ok (.pop, 1) := db_dL_law_738.2.1
theorem dL_law_742 : decode cL_law 742 = .ok (.goto 333, 3) := db_dL_law_738.2.2.1
theorem dL_law_745 : decode cL_law 745 = .ok (.aload_n 1, 1) := db_dL_law_738.2.2.2.1
theorem dL_law_746 : decode cL_law 746 = .ok (.aload_n 0, 1) := db_dL_law_738.2.2.2.2.1
theorem dL_law_747 : decode cL_law 747 = .ok (.iload_n 3, 1) := db_dL_law_738.2.2.2.2.2.1
theorem dL_law_748 : decode cL_law 748 = .ok (.iconst 1, 1) := db_dL_law_738.2.2.2.2.2.2.1
theorem dL_law_749 : decode cL_law 749 = .ok (.iadd, 1) := db_dL_law_738.2.2.2.2.2.2.2
theorem db_dL_law_750 : decode cL_law 750 = .ok (.iaload, 1) ∧ decode cL_law 751 = .ok (.invokevirtual 81, 3) ∧ decode cL_law 754 = .ok (.aload_n 2, 1) ∧ decode cL_law 755 = .ok (.aload_n 0, 1) ∧ decode cL_law 756 = .ok (.iload_n 3, 1) ∧ decode cL_law 757 = .ok (.iconst 1, 1) ∧ decode cL_law 758 = .ok (.iadd, 1) ∧ decode cL_law 759 = .ok (.iaload, 1) := by decide +kernel
theorem dL_law_750 : decode cL_law 750 = .ok (.iaload, 1) := db_dL_law_750.1
theorem dL_law_751 : decode cL_law 751 = .ok (.invokevirtual 81, 3) := db_dL_law_750.2.1
theorem dL_law_754 : decode cL_law 754 = .ok (.aload_n 2, 1) := db_dL_law_750.2.2.1
theorem dL_law_755 : decode cL_law 755 = .ok (.aload_n 0, 1) := db_dL_law_750.2.2.2.1
theorem dL_law_756 : decode cL_law 756 = .ok (.iload_n 3, 1) := db_dL_law_750.2.2.2.2.1
theorem dL_law_757 : decode cL_law 757 = .ok (.iconst 1, 1) := db_dL_law_750.2.2.2.2.2.1
theorem dL_law_758 : decode cL_law 758 = .ok (.iadd, 1) := db_dL_law_750.2.2.2.2.2.2.1
theorem dL_law_759 : decode cL_law 759 = .ok (.iaload, 1) := db_dL_law_750.2.2.2.2.2.2.2
theorem db_dL_law_760 : decode cL_law 760 = .ok (.invokevirtual 85, 3) ∧ decode cL_law 763 = .ok (.if_icmp .eq 312, 3) ∧ decode cL_law 766 = .ok (.iconst 0, 1) ∧ decode cL_law 767 = .ok (.ireturn, 1) ∧ decode cL_law 768 = .ok (.aload_n 1, 1) ∧ decode cL_law 769 = .ok (.aload_n 0, 1) ∧ decode cL_law 770 = .ok (.iload_n 3, 1) ∧ decode cL_law 771 = .ok (.iconst 1, 1) := by decide +kernel
theorem dL_law_760 : decode cL_law 760 = .ok (.invokevirtual 85, 3) := db_dL_law_760.1
theorem dL_law_763 : decode cL_law 763 = .ok (.if_icmp .eq 312, 3) := db_dL_law_760.2.1
theorem dL_law_766 : decode cL_law 766 = .ok (.iconst 0, 1) := db_dL_law_760.2.2.1
theorem dL_law_767 : decode cL_law 767 = .ok (.ireturn, 1) := db_dL_law_760.2.2.2.1
theorem dL_law_768 : decode cL_law 768 = .ok (.aload_n 1, 1) := db_dL_law_760.2.2.2.2.1
theorem dL_law_769 : decode cL_law 769 = .ok (.aload_n 0, 1) := db_dL_law_760.2.2.2.2.2.1
theorem dL_law_770 : decode cL_law 770 = .ok (.iload_n 3, 1) := db_dL_law_760.2.2.2.2.2.2.1
theorem dL_law_771 : decode cL_law 771 = .ok (.iconst 1, 1) := db_dL_law_760.2.2.2.2.2.2.2
theorem db_dL_law_772 : decode cL_law 772 = .ok (.iadd, 1) ∧ decode cL_law 773 = .ok (.iaload, 1) ∧ decode cL_law 774 = .ok (.invokevirtual 86, 3) ∧ decode cL_law 777 = .ok (.pop, 1) ∧ decode cL_law 778 = .ok (.aload_n 2, 1) ∧ decode cL_law 779 = .ok (.aload_n 0, 1) ∧ decode cL_law 780 = .ok (.iload_n 3, 1) ∧ decode cL_law 781 = .ok (.iconst 1, 1) := by decide +kernel
theorem dL_law_772 : decode cL_law 772 = .ok (.iadd, 1) := db_dL_law_772.1
theorem dL_law_773 : decode cL_law 773 = .ok (.iaload, 1) := db_dL_law_772.2.1
theorem dL_law_774 : decode cL_law 774 = .ok (.invokevirtual 86, 3) := db_dL_law_772.2.2.1
theorem dL_law_777 : decode cL_law 777 = .ok (.pop, 1) := db_dL_law_772.2.2.2.1
theorem dL_law_778 : decode cL_law 778 = .ok (.aload_n 2, 1) := db_dL_law_772.2.2.2.2.1
theorem dL_law_779 : decode cL_law 779 = .ok (.aload_n 0, 1) := db_dL_law_772.2.2.2.2.2.1
theorem dL_law_780 : decode cL_law 780 = .ok (.iload_n 3, 1) := db_dL_law_772.2.2.2.2.2.2.1
theorem dL_law_781 : decode cL_law 781 = .ok (.iconst 1, 1) := db_dL_law_772.2.2.2.2.2.2.2
theorem db_dL_law_782 : decode cL_law 782 = .ok (.iadd, 1) ∧ decode cL_law 783 = .ok (.iaload, 1) ∧ decode cL_law 784 = .ok (.invokevirtual 89, 3) ∧ decode cL_law 787 = .ok (.pop, 1) ∧ decode cL_law 788 = .ok (.goto 287, 3) ∧ decode cL_law 791 = .ok (.aload_n 1, 1) ∧ decode cL_law 792 = .ok (.aload_n 0, 1) ∧ decode cL_law 793 = .ok (.iload_n 3, 1) := by decide +kernel
theorem dL_law_782 : decode cL_law 782 = .ok (.iadd, 1) := db_dL_law_782.1
theorem dL_law_783 : decode cL_law 783 = .ok (.iaload, 1) := db_dL_law_782.2.1
theorem dL_law_784 : decode cL_law 784 = .ok (.invokevirtual 89, 3) := db_dL_law_782.2.2.1
theorem dL_law_787 : decode cL_law 787 = .ok (.pop, 1) := db_dL_law_782.2.2.2.1
theorem dL_law_788 : decode cL_law 788 = .ok (.goto 287, 3) := db_dL_law_782.2.2.2.2.1
theorem dL_law_791 : decode cL_law 791 = .ok (.aload_n 1, 1) := db_dL_law_782.2.2.2.2.2.1
theorem dL_law_792 : decode cL_law 792 = .ok (.aload_n 0, 1) := db_dL_law_782.2.2.2.2.2.2.1
theorem dL_law_793 : decode cL_law 793 = .ok (.iload_n 3, 1) := db_dL_law_782.2.2.2.2.2.2.2
theorem db_dL_law_794 : decode cL_law 794 = .ok (.iconst 1, 1) ∧ decode cL_law 795 = .ok (.iadd, 1) ∧ decode cL_law 796 = .ok (.iaload, 1) ∧ decode cL_law 797 = .ok (.aload_n 0, 1) ∧ decode cL_law 798 = .ok (.iload_n 3, 1) ∧ decode cL_law 799 = .ok (.iconst 2, 1) ∧ decode cL_law 800 = .ok (.iadd, 1) ∧ decode cL_law 801 = .ok (.iaload, 1) := by decide +kernel
theorem dL_law_794 : decode cL_law 794 = .ok (.iconst 1, 1) := db_dL_law_794.1
theorem dL_law_795 : decode cL_law 795 = .ok (.iadd, 1) := db_dL_law_794.2.1
theorem dL_law_796 : decode cL_law 796 = .ok (.iaload, 1) := db_dL_law_794.2.2.1
theorem dL_law_797 : decode cL_law 797 = .ok (.aload_n 0, 1) := db_dL_law_794.2.2.2.1
theorem dL_law_798 : decode cL_law 798 = .ok (.iload_n 3, 1) := db_dL_law_794.2.2.2.2.1
theorem dL_law_799 : decode cL_law 799 = .ok (.iconst 2, 1) := db_dL_law_794.2.2.2.2.2.1
theorem dL_law_800 : decode cL_law 800 = .ok (.iadd, 1) := db_dL_law_794.2.2.2.2.2.2.1
theorem dL_law_801 : decode cL_law 801 = .ok (.iaload, 1) := db_dL_law_794.2.2.2.2.2.2.2
theorem db_dL_law_802 : decode cL_law 802 = .ok (.aload_n 0, 1) ∧ decode cL_law 803 = .ok (.iload_n 3, 1) ∧ decode cL_law 804 = .ok (.iconst 3, 1) ∧ decode cL_law 805 = .ok (.iadd, 1) ∧ decode cL_law 806 = .ok (.iaload, 1) ∧ decode cL_law 807 = .ok (.aload_n 0, 1) ∧ decode cL_law 808 = .ok (.iload_n 3, 1) ∧ decode cL_law 809 = .ok (.iconst 4, 1) := by decide +kernel
theorem dL_law_802 : decode cL_law 802 = .ok (.aload_n 0, 1) := db_dL_law_802.1
theorem dL_law_803 : decode cL_law 803 = .ok (.iload_n 3, 1) := db_dL_law_802.2.1
theorem dL_law_804 : decode cL_law 804 = .ok (.iconst 3, 1) := db_dL_law_802.2.2.1
theorem dL_law_805 : decode cL_law 805 = .ok (.iadd, 1) := db_dL_law_802.2.2.2.1
theorem dL_law_806 : decode cL_law 806 = .ok (.iaload, 1) := db_dL_law_802.2.2.2.2.1
theorem dL_law_807 : decode cL_law 807 = .ok (.aload_n 0, 1) := db_dL_law_802.2.2.2.2.2.1
theorem dL_law_808 : decode cL_law 808 = .ok (.iload_n 3, 1) := db_dL_law_802.2.2.2.2.2.2.1
theorem dL_law_809 : decode cL_law 809 = .ok (.iconst 4, 1) := db_dL_law_802.2.2.2.2.2.2.2
theorem db_dL_law_810 : decode cL_law 810 = .ok (.iadd, 1) ∧ decode cL_law 811 = .ok (.iaload, 1) ∧ decode cL_law 812 = .ok (.invokevirtual 90, 3) ∧ decode cL_law 815 = .ok (.pop, 1) ∧ decode cL_law 816 = .ok (.aload_n 2, 1) ∧ decode cL_law 817 = .ok (.aload_n 0, 1) ∧ decode cL_law 818 = .ok (.iload_n 3, 1) ∧ decode cL_law 819 = .ok (.iconst 1, 1) := by decide +kernel
theorem dL_law_810 : decode cL_law 810 = .ok (.iadd, 1) := db_dL_law_810.1
theorem dL_law_811 : decode cL_law 811 = .ok (.iaload, 1) := db_dL_law_810.2.1
theorem dL_law_812 : decode cL_law 812 = .ok (.invokevirtual 90, 3) := db_dL_law_810.2.2.1
theorem dL_law_815 : decode cL_law 815 = .ok (.pop, 1) := db_dL_law_810.2.2.2.1
theorem dL_law_816 : decode cL_law 816 = .ok (.aload_n 2, 1) := db_dL_law_810.2.2.2.2.1
theorem dL_law_817 : decode cL_law 817 = .ok (.aload_n 0, 1) := db_dL_law_810.2.2.2.2.2.1
theorem dL_law_818 : decode cL_law 818 = .ok (.iload_n 3, 1) := db_dL_law_810.2.2.2.2.2.2.1
theorem dL_law_819 : decode cL_law 819 = .ok (.iconst 1, 1) := db_dL_law_810.2.2.2.2.2.2.2
theorem db_dL_law_820 : decode cL_law 820 = .ok (.iadd, 1) ∧ decode cL_law 821 = .ok (.iaload, 1) ∧ decode cL_law 822 = .ok (.aload_n 0, 1) ∧ decode cL_law 823 = .ok (.iload_n 3, 1) ∧ decode cL_law 824 = .ok (.iconst 2, 1) ∧ decode cL_law 825 = .ok (.iadd, 1) ∧ decode cL_law 826 = .ok (.iaload, 1) ∧ decode cL_law 827 = .ok (.aload_n 0, 1) := by decide +kernel
theorem dL_law_820 : decode cL_law 820 = .ok (.iadd, 1) := db_dL_law_820.1
theorem dL_law_821 : decode cL_law 821 = .ok (.iaload, 1) := db_dL_law_820.2.1
theorem dL_law_822 : decode cL_law 822 = .ok (.aload_n 0, 1) := db_dL_law_820.2.2.1
theorem dL_law_823 : decode cL_law 823 = .ok (.iload_n 3, 1) := db_dL_law_820.2.2.2.1
theorem dL_law_824 : decode cL_law 824 = .ok (.iconst 2, 1) := db_dL_law_820.2.2.2.2.1
theorem dL_law_825 : decode cL_law 825 = .ok (.iadd, 1) := db_dL_law_820.2.2.2.2.2.1
theorem dL_law_826 : decode cL_law 826 = .ok (.iaload, 1) := db_dL_law_820.2.2.2.2.2.2.1
theorem dL_law_827 : decode cL_law 827 = .ok (.aload_n 0, 1) := db_dL_law_820.2.2.2.2.2.2.2
theorem db_dL_law_828 : decode cL_law 828 = .ok (.iload_n 3, 1) ∧ decode cL_law 829 = .ok (.iconst 3, 1) ∧ decode cL_law 830 = .ok (.iadd, 1) ∧ decode cL_law 831 = .ok (.iaload, 1) ∧ decode cL_law 832 = .ok (.aload_n 0, 1) ∧ decode cL_law 833 = .ok (.iload_n 3, 1) ∧ decode cL_law 834 = .ok (.iconst 4, 1) ∧ decode cL_law 835 = .ok (.iadd, 1) := by decide +kernel
theorem dL_law_828 : decode cL_law 828 = .ok (.iload_n 3, 1) := db_dL_law_828.1
theorem dL_law_829 : decode cL_law 829 = .ok (.iconst 3, 1) := db_dL_law_828.2.1
theorem dL_law_830 : decode cL_law 830 = .ok (.iadd, 1) := db_dL_law_828.2.2.1
theorem dL_law_831 : decode cL_law 831 = .ok (.iaload, 1) := db_dL_law_828.2.2.2.1
theorem dL_law_832 : decode cL_law 832 = .ok (.aload_n 0, 1) := db_dL_law_828.2.2.2.2.1
theorem dL_law_833 : decode cL_law 833 = .ok (.iload_n 3, 1) := db_dL_law_828.2.2.2.2.2.1
theorem dL_law_834 : decode cL_law 834 = .ok (.iconst 4, 1) := db_dL_law_828.2.2.2.2.2.2.1
theorem dL_law_835 : decode cL_law 835 = .ok (.iadd, 1) := db_dL_law_828.2.2.2.2.2.2.2
theorem db_dL_law_836 : decode cL_law 836 = .ok (.iaload, 1) ∧ decode cL_law 837 = .ok (.invokevirtual 93, 3) ∧ decode cL_law 840 = .ok (.pop, 1) ∧ decode cL_law 841 = .ok (.goto 234, 3) ∧ decode cL_law 844 = .ok (.aload_n 1, 1) ∧ decode cL_law 845 = .ok (.aload_n 0, 1) ∧ decode cL_law 846 = .ok (.iload_n 3, 1) ∧ decode cL_law 847 = .ok (.iconst 1, 1) := by decide +kernel
theorem dL_law_836 : decode cL_law 836 = .ok (.iaload, 1) := db_dL_law_836.1
theorem dL_law_837 : decode cL_law 837 = .ok (.invokevirtual 93, 3) := db_dL_law_836.2.1
theorem dL_law_840 : decode cL_law 840 = .ok (.pop, 1) := db_dL_law_836.2.2.1
theorem dL_law_841 : decode cL_law 841 = .ok (.goto 234, 3) := db_dL_law_836.2.2.2.1
theorem dL_law_844 : decode cL_law 844 = .ok (.aload_n 1, 1) := db_dL_law_836.2.2.2.2.1
theorem dL_law_845 : decode cL_law 845 = .ok (.aload_n 0, 1) := db_dL_law_836.2.2.2.2.2.1
theorem dL_law_846 : decode cL_law 846 = .ok (.iload_n 3, 1) := db_dL_law_836.2.2.2.2.2.2.1
theorem dL_law_847 : decode cL_law 847 = .ok (.iconst 1, 1) := db_dL_law_836.2.2.2.2.2.2.2
theorem db_dL_law_848 : decode cL_law 848 = .ok (.iadd, 1) ∧ decode cL_law 849 = .ok (.iaload, 1) ∧ decode cL_law 850 = .ok (.invokevirtual 94, 3) ∧ decode cL_law 853 = .ok (.pop, 1) ∧ decode cL_law 854 = .ok (.aload_n 2, 1) ∧ decode cL_law 855 = .ok (.aload_n 0, 1) ∧ decode cL_law 856 = .ok (.iload_n 3, 1) ∧ decode cL_law 857 = .ok (.iconst 1, 1) := by decide +kernel
theorem dL_law_848 : decode cL_law 848 = .ok (.iadd, 1) := db_dL_law_848.1
theorem dL_law_849 : decode cL_law 849 = .ok (.iaload, 1) := db_dL_law_848.2.1
theorem dL_law_850 : decode cL_law 850 = .ok (.invokevirtual 94, 3) := db_dL_law_848.2.2.1
theorem dL_law_853 : decode cL_law 853 = .ok (.pop, 1) := db_dL_law_848.2.2.2.1
theorem dL_law_854 : decode cL_law 854 = .ok (.aload_n 2, 1) := db_dL_law_848.2.2.2.2.1
theorem dL_law_855 : decode cL_law 855 = .ok (.aload_n 0, 1) := db_dL_law_848.2.2.2.2.2.1
theorem dL_law_856 : decode cL_law 856 = .ok (.iload_n 3, 1) := db_dL_law_848.2.2.2.2.2.2.1
theorem dL_law_857 : decode cL_law 857 = .ok (.iconst 1, 1) := db_dL_law_848.2.2.2.2.2.2.2
theorem db_dL_law_858 : decode cL_law 858 = .ok (.iadd, 1) ∧ decode cL_law 859 = .ok (.iaload, 1) ∧ decode cL_law 860 = .ok (.invokevirtual 97, 3) ∧ decode cL_law 863 = .ok (.pop, 1) ∧ decode cL_law 864 = .ok (.goto 211, 3) ∧ decode cL_law 867 = .ok (.aload_n 1, 1) ∧ decode cL_law 868 = .ok (.aload_n 0, 1) ∧ decode cL_law 869 = .ok (.iload_n 3, 1) := by decide +kernel
theorem dL_law_858 : decode cL_law 858 = .ok (.iadd, 1) := db_dL_law_858.1
theorem dL_law_859 : decode cL_law 859 = .ok (.iaload, 1) := db_dL_law_858.2.1
theorem dL_law_860 : decode cL_law 860 = .ok (.invokevirtual 97, 3) := db_dL_law_858.2.2.1
theorem dL_law_863 : decode cL_law 863 = .ok (.pop, 1) := db_dL_law_858.2.2.2.1
theorem dL_law_864 : decode cL_law 864 = .ok (.goto 211, 3) := db_dL_law_858.2.2.2.2.1
theorem dL_law_867 : decode cL_law 867 = .ok (.aload_n 1, 1) := db_dL_law_858.2.2.2.2.2.1
theorem dL_law_868 : decode cL_law 868 = .ok (.aload_n 0, 1) := db_dL_law_858.2.2.2.2.2.2.1
theorem dL_law_869 : decode cL_law 869 = .ok (.iload_n 3, 1) := db_dL_law_858.2.2.2.2.2.2.2
theorem db_dL_law_870 : decode cL_law 870 = .ok (.iconst 1, 1) ∧ decode cL_law 871 = .ok (.iadd, 1) ∧ decode cL_law 872 = .ok (.iaload, 1) ∧ decode cL_law 873 = .ok (.invokevirtual 98, 3) ∧ decode cL_law 876 = .ok (.pop, 1) ∧ decode cL_law 877 = .ok (.aload_n 2, 1) ∧ decode cL_law 878 = .ok (.aload_n 0, 1) ∧ decode cL_law 879 = .ok (.iload_n 3, 1) := by decide +kernel
theorem dL_law_870 : decode cL_law 870 = .ok (.iconst 1, 1) := db_dL_law_870.1
theorem dL_law_871 : decode cL_law 871 = .ok (.iadd, 1) := db_dL_law_870.2.1
theorem dL_law_872 : decode cL_law 872 = .ok (.iaload, 1) := db_dL_law_870.2.2.1
theorem dL_law_873 : decode cL_law 873 = .ok (.invokevirtual 98, 3) := db_dL_law_870.2.2.2.1
theorem dL_law_876 : decode cL_law 876 = .ok (.pop, 1) := db_dL_law_870.2.2.2.2.1
theorem dL_law_877 : decode cL_law 877 = .ok (.aload_n 2, 1) := db_dL_law_870.2.2.2.2.2.1
theorem dL_law_878 : decode cL_law 878 = .ok (.aload_n 0, 1) := db_dL_law_870.2.2.2.2.2.2.1
theorem dL_law_879 : decode cL_law 879 = .ok (.iload_n 3, 1) := db_dL_law_870.2.2.2.2.2.2.2
theorem db_dL_law_880 : decode cL_law 880 = .ok (.iconst 1, 1) ∧ decode cL_law 881 = .ok (.iadd, 1) ∧ decode cL_law 882 = .ok (.iaload, 1) ∧ decode cL_law 883 = .ok (.invokevirtual 101, 3) ∧ decode cL_law 886 = .ok (.pop, 1) ∧ decode cL_law 887 = .ok (.goto 188, 3) ∧ decode cL_law 890 = .ok (.aload_n 1, 1) ∧ decode cL_law 891 = .ok (.aload_n 0, 1) := by decide +kernel
theorem dL_law_880 : decode cL_law 880 = .ok (.iconst 1, 1) := db_dL_law_880.1
theorem dL_law_881 : decode cL_law 881 = .ok (.iadd, 1) := db_dL_law_880.2.1
theorem dL_law_882 : decode cL_law 882 = .ok (.iaload, 1) := db_dL_law_880.2.2.1
theorem dL_law_883 : decode cL_law 883 = .ok (.invokevirtual 101, 3) := db_dL_law_880.2.2.2.1
theorem dL_law_886 : decode cL_law 886 = .ok (.pop, 1) := db_dL_law_880.2.2.2.2.1
theorem dL_law_887 : decode cL_law 887 = .ok (.goto 188, 3) := db_dL_law_880.2.2.2.2.2.1
theorem dL_law_890 : decode cL_law 890 = .ok (.aload_n 1, 1) := db_dL_law_880.2.2.2.2.2.2.1
theorem dL_law_891 : decode cL_law 891 = .ok (.aload_n 0, 1) := db_dL_law_880.2.2.2.2.2.2.2
theorem db_dL_law_892 : decode cL_law 892 = .ok (.iload_n 3, 1) ∧ decode cL_law 893 = .ok (.iconst 1, 1) ∧ decode cL_law 894 = .ok (.iadd, 1) ∧ decode cL_law 895 = .ok (.iaload, 1) ∧ decode cL_law 896 = .ok (.aload_n 0, 1) ∧ decode cL_law 897 = .ok (.iload_n 3, 1) ∧ decode cL_law 898 = .ok (.iconst 2, 1) ∧ decode cL_law 899 = .ok (.iadd, 1) := by decide +kernel
theorem dL_law_892 : decode cL_law 892 = .ok (.iload_n 3, 1) := db_dL_law_892.1
theorem dL_law_893 : decode cL_law 893 = .ok (.iconst 1, 1) := db_dL_law_892.2.1
theorem dL_law_894 : decode cL_law 894 = .ok (.iadd, 1) := db_dL_law_892.2.2.1
theorem dL_law_895 : decode cL_law 895 = .ok (.iaload, 1) := db_dL_law_892.2.2.2.1
theorem dL_law_896 : decode cL_law 896 = .ok (.aload_n 0, 1) := db_dL_law_892.2.2.2.2.1
theorem dL_law_897 : decode cL_law 897 = .ok (.iload_n 3, 1) := db_dL_law_892.2.2.2.2.2.1
theorem dL_law_898 : decode cL_law 898 = .ok (.iconst 2, 1) := db_dL_law_892.2.2.2.2.2.2.1
theorem dL_law_899 : decode cL_law 899 = .ok (.iadd, 1) := db_dL_law_892.2.2.2.2.2.2.2
theorem db_dL_law_900 : decode cL_law 900 = .ok (.iaload, 1) ∧ decode cL_law 901 = .ok (.aload_n 0, 1) ∧ decode cL_law 902 = .ok (.iload_n 3, 1) ∧ decode cL_law 903 = .ok (.iconst 3, 1) ∧ decode cL_law 904 = .ok (.iadd, 1) ∧ decode cL_law 905 = .ok (.iaload, 1) ∧ decode cL_law 906 = .ok (.aload_n 0, 1) ∧ decode cL_law 907 = .ok (.iload_n 3, 1) := by decide +kernel
theorem dL_law_900 : decode cL_law 900 = .ok (.iaload, 1) := db_dL_law_900.1
theorem dL_law_901 : decode cL_law 901 = .ok (.aload_n 0, 1) := db_dL_law_900.2.1
theorem dL_law_902 : decode cL_law 902 = .ok (.iload_n 3, 1) := db_dL_law_900.2.2.1
theorem dL_law_903 : decode cL_law 903 = .ok (.iconst 3, 1) := db_dL_law_900.2.2.2.1
theorem dL_law_904 : decode cL_law 904 = .ok (.iadd, 1) := db_dL_law_900.2.2.2.2.1
theorem dL_law_905 : decode cL_law 905 = .ok (.iaload, 1) := db_dL_law_900.2.2.2.2.2.1
theorem dL_law_906 : decode cL_law 906 = .ok (.aload_n 0, 1) := db_dL_law_900.2.2.2.2.2.2.1
theorem dL_law_907 : decode cL_law 907 = .ok (.iload_n 3, 1) := db_dL_law_900.2.2.2.2.2.2.2
theorem db_dL_law_908 : decode cL_law 908 = .ok (.iconst 4, 1) ∧ decode cL_law 909 = .ok (.iadd, 1) ∧ decode cL_law 910 = .ok (.iaload, 1) ∧ decode cL_law 911 = .ok (.aload_n 0, 1) ∧ decode cL_law 912 = .ok (.iload_n 3, 1) ∧ decode cL_law 913 = .ok (.iconst 5, 1) ∧ decode cL_law 914 = .ok (.iadd, 1) ∧ decode cL_law 915 = .ok (.iaload, 1) := by decide +kernel
theorem dL_law_908 : decode cL_law 908 = .ok (.iconst 4, 1) := db_dL_law_908.1
theorem dL_law_909 : decode cL_law 909 = .ok (.iadd, 1) := db_dL_law_908.2.1
theorem dL_law_910 : decode cL_law 910 = .ok (.iaload, 1) := db_dL_law_908.2.2.1
theorem dL_law_911 : decode cL_law 911 = .ok (.aload_n 0, 1) := db_dL_law_908.2.2.2.1
theorem dL_law_912 : decode cL_law 912 = .ok (.iload_n 3, 1) := db_dL_law_908.2.2.2.2.1
theorem dL_law_913 : decode cL_law 913 = .ok (.iconst 5, 1) := db_dL_law_908.2.2.2.2.2.1
theorem dL_law_914 : decode cL_law 914 = .ok (.iadd, 1) := db_dL_law_908.2.2.2.2.2.2.1
theorem dL_law_915 : decode cL_law 915 = .ok (.iaload, 1) := db_dL_law_908.2.2.2.2.2.2.2
theorem db_dL_law_916 : decode cL_law 916 = .ok (.aload_n 0, 1) ∧ decode cL_law 917 = .ok (.iload_n 3, 1) ∧ decode cL_law 918 = .ok (.bipush 6, 2) ∧ decode cL_law 920 = .ok (.iadd, 1) ∧ decode cL_law 921 = .ok (.iaload, 1) ∧ decode cL_law 922 = .ok (.aload_n 0, 1) ∧ decode cL_law 923 = .ok (.iload_n 3, 1) ∧ decode cL_law 924 = .ok (.bipush 7, 2) := by decide +kernel
theorem dL_law_916 : decode cL_law 916 = .ok (.aload_n 0, 1) := db_dL_law_916.1
theorem dL_law_917 : decode cL_law 917 = .ok (.iload_n 3, 1) := db_dL_law_916.2.1
theorem dL_law_918 : decode cL_law 918 = .ok (.bipush 6, 2) := db_dL_law_916.2.2.1
theorem dL_law_920 : decode cL_law 920 = .ok (.iadd, 1) := db_dL_law_916.2.2.2.1
theorem dL_law_921 : decode cL_law 921 = .ok (.iaload, 1) := db_dL_law_916.2.2.2.2.1
theorem dL_law_922 : decode cL_law 922 = .ok (.aload_n 0, 1) := db_dL_law_916.2.2.2.2.2.1
theorem dL_law_923 : decode cL_law 923 = .ok (.iload_n 3, 1) := db_dL_law_916.2.2.2.2.2.2.1
theorem dL_law_924 : decode cL_law 924 = .ok (.bipush 7, 2) := db_dL_law_916.2.2.2.2.2.2.2
theorem db_dL_law_926 : decode cL_law 926 = .ok (.iadd, 1) ∧ decode cL_law 927 = .ok (.iaload, 1) ∧ decode cL_law 928 = .ok (.aload_n 0, 1) ∧ decode cL_law 929 = .ok (.iload_n 3, 1) ∧ decode cL_law 930 = .ok (.bipush 8, 2) ∧ decode cL_law 932 = .ok (.iadd, 1) ∧ decode cL_law 933 = .ok (.iaload, 1) ∧ decode cL_law 934 = .ok (.invokevirtual 102, 3) := by decide +kernel
theorem dL_law_926 : decode cL_law 926 = .ok (.iadd, 1) := db_dL_law_926.1
theorem dL_law_927 : decode cL_law 927 = .ok (.iaload, 1) := db_dL_law_926.2.1
theorem dL_law_928 : decode cL_law 928 = .ok (.aload_n 0, 1) := db_dL_law_926.2.2.1
theorem dL_law_929 : decode cL_law 929 = .ok (.iload_n 3, 1) := db_dL_law_926.2.2.2.1
theorem dL_law_930 : decode cL_law 930 = .ok (.bipush 8, 2) := db_dL_law_926.2.2.2.2.1
theorem dL_law_932 : decode cL_law 932 = .ok (.iadd, 1) := db_dL_law_926.2.2.2.2.2.1
theorem dL_law_933 : decode cL_law 933 = .ok (.iaload, 1) := db_dL_law_926.2.2.2.2.2.2.1
theorem dL_law_934 : decode cL_law 934 = .ok (.invokevirtual 102, 3) := db_dL_law_926.2.2.2.2.2.2.2
theorem db_dL_law_937 : decode cL_law 937 = .ok (.pop, 1) ∧ decode cL_law 938 = .ok (.aload_n 2, 1) ∧ decode cL_law 939 = .ok (.aload_n 0, 1) ∧ decode cL_law 940 = .ok (.iload_n 3, 1) ∧ decode cL_law 941 = .ok (.iconst 1, 1) ∧ decode cL_law 942 = .ok (.iadd, 1) ∧ decode cL_law 943 = .ok (.iaload, 1) ∧ decode cL_law 944 = .ok (.aload_n 0, 1) := by decide +kernel
theorem dL_law_937 : decode cL_law 937 = .ok (.pop, 1) := db_dL_law_937.1
theorem dL_law_938 : decode cL_law 938 = .ok (.aload_n 2, 1) := db_dL_law_937.2.1
theorem dL_law_939 : decode cL_law 939 = .ok (.aload_n 0, 1) := db_dL_law_937.2.2.1
theorem dL_law_940 : decode cL_law 940 = .ok (.iload_n 3, 1) := db_dL_law_937.2.2.2.1
theorem dL_law_941 : decode cL_law 941 = .ok (.iconst 1, 1) := db_dL_law_937.2.2.2.2.1
theorem dL_law_942 : decode cL_law 942 = .ok (.iadd, 1) := db_dL_law_937.2.2.2.2.2.1
theorem dL_law_943 : decode cL_law 943 = .ok (.iaload, 1) := db_dL_law_937.2.2.2.2.2.2.1
theorem dL_law_944 : decode cL_law 944 = .ok (.aload_n 0, 1) := db_dL_law_937.2.2.2.2.2.2.2
theorem db_dL_law_945 : decode cL_law 945 = .ok (.iload_n 3, 1) ∧ decode cL_law 946 = .ok (.iconst 2, 1) ∧ decode cL_law 947 = .ok (.iadd, 1) ∧ decode cL_law 948 = .ok (.iaload, 1) ∧ decode cL_law 949 = .ok (.aload_n 0, 1) ∧ decode cL_law 950 = .ok (.iload_n 3, 1) ∧ decode cL_law 951 = .ok (.iconst 3, 1) ∧ decode cL_law 952 = .ok (.iadd, 1) := by decide +kernel
theorem dL_law_945 : decode cL_law 945 = .ok (.iload_n 3, 1) := db_dL_law_945.1
theorem dL_law_946 : decode cL_law 946 = .ok (.iconst 2, 1) := db_dL_law_945.2.1
theorem dL_law_947 : decode cL_law 947 = .ok (.iadd, 1) := db_dL_law_945.2.2.1
theorem dL_law_948 : decode cL_law 948 = .ok (.iaload, 1) := db_dL_law_945.2.2.2.1
theorem dL_law_949 : decode cL_law 949 = .ok (.aload_n 0, 1) := db_dL_law_945.2.2.2.2.1
theorem dL_law_950 : decode cL_law 950 = .ok (.iload_n 3, 1) := db_dL_law_945.2.2.2.2.2.1
theorem dL_law_951 : decode cL_law 951 = .ok (.iconst 3, 1) := db_dL_law_945.2.2.2.2.2.2.1
theorem dL_law_952 : decode cL_law 952 = .ok (.iadd, 1) := db_dL_law_945.2.2.2.2.2.2.2
theorem db_dL_law_953 : decode cL_law 953 = .ok (.iaload, 1) ∧ decode cL_law 954 = .ok (.aload_n 0, 1) ∧ decode cL_law 955 = .ok (.iload_n 3, 1) ∧ decode cL_law 956 = .ok (.iconst 4, 1) ∧ decode cL_law 957 = .ok (.iadd, 1) ∧ decode cL_law 958 = .ok (.iaload, 1) ∧ decode cL_law 959 = .ok (.aload_n 0, 1) ∧ decode cL_law 960 = .ok (.iload_n 3, 1) := by decide +kernel
theorem dL_law_953 : decode cL_law 953 = .ok (.iaload, 1) := db_dL_law_953.1
theorem dL_law_954 : decode cL_law 954 = .ok (.aload_n 0, 1) := db_dL_law_953.2.1
theorem dL_law_955 : decode cL_law 955 = .ok (.iload_n 3, 1) := db_dL_law_953.2.2.1
theorem dL_law_956 : decode cL_law 956 = .ok (.iconst 4, 1) := db_dL_law_953.2.2.2.1
theorem dL_law_957 : decode cL_law 957 = .ok (.iadd, 1) := db_dL_law_953.2.2.2.2.1
theorem dL_law_958 : decode cL_law 958 = .ok (.iaload, 1) := db_dL_law_953.2.2.2.2.2.1
theorem dL_law_959 : decode cL_law 959 = .ok (.aload_n 0, 1) := db_dL_law_953.2.2.2.2.2.2.1
theorem dL_law_960 : decode cL_law 960 = .ok (.iload_n 3, 1) := db_dL_law_953.2.2.2.2.2.2.2
theorem db_dL_law_961 : decode cL_law 961 = .ok (.iconst 5, 1) ∧ decode cL_law 962 = .ok (.iadd, 1) ∧ decode cL_law 963 = .ok (.iaload, 1) ∧ decode cL_law 964 = .ok (.aload_n 0, 1) ∧ decode cL_law 965 = .ok (.iload_n 3, 1) ∧ decode cL_law 966 = .ok (.bipush 6, 2) ∧ decode cL_law 968 = .ok (.iadd, 1) ∧ decode cL_law 969 = .ok (.iaload, 1) := by decide +kernel
theorem dL_law_961 : decode cL_law 961 = .ok (.iconst 5, 1) := db_dL_law_961.1
theorem dL_law_962 : decode cL_law 962 = .ok (.iadd, 1) := db_dL_law_961.2.1
theorem dL_law_963 : decode cL_law 963 = .ok (.iaload, 1) := db_dL_law_961.2.2.1
theorem dL_law_964 : decode cL_law 964 = .ok (.aload_n 0, 1) := db_dL_law_961.2.2.2.1
theorem dL_law_965 : decode cL_law 965 = .ok (.iload_n 3, 1) := db_dL_law_961.2.2.2.2.1
theorem dL_law_966 : decode cL_law 966 = .ok (.bipush 6, 2) := db_dL_law_961.2.2.2.2.2.1
theorem dL_law_968 : decode cL_law 968 = .ok (.iadd, 1) := db_dL_law_961.2.2.2.2.2.2.1
theorem dL_law_969 : decode cL_law 969 = .ok (.iaload, 1) := db_dL_law_961.2.2.2.2.2.2.2
theorem db_dL_law_970 : decode cL_law 970 = .ok (.aload_n 0, 1) ∧ decode cL_law 971 = .ok (.iload_n 3, 1) ∧ decode cL_law 972 = .ok (.bipush 7, 2) ∧ decode cL_law 974 = .ok (.iadd, 1) ∧ decode cL_law 975 = .ok (.iaload, 1) ∧ decode cL_law 976 = .ok (.aload_n 0, 1) ∧ decode cL_law 977 = .ok (.iload_n 3, 1) ∧ decode cL_law 978 = .ok (.bipush 8, 2) := by decide +kernel
theorem dL_law_970 : decode cL_law 970 = .ok (.aload_n 0, 1) := db_dL_law_970.1
theorem dL_law_971 : decode cL_law 971 = .ok (.iload_n 3, 1) := db_dL_law_970.2.1
theorem dL_law_972 : decode cL_law 972 = .ok (.bipush 7, 2) := db_dL_law_970.2.2.1
theorem dL_law_974 : decode cL_law 974 = .ok (.iadd, 1) := db_dL_law_970.2.2.2.1
theorem dL_law_975 : decode cL_law 975 = .ok (.iaload, 1) := db_dL_law_970.2.2.2.2.1
theorem dL_law_976 : decode cL_law 976 = .ok (.aload_n 0, 1) := db_dL_law_970.2.2.2.2.2.1
theorem dL_law_977 : decode cL_law 977 = .ok (.iload_n 3, 1) := db_dL_law_970.2.2.2.2.2.2.1
theorem dL_law_978 : decode cL_law 978 = .ok (.bipush 8, 2) := db_dL_law_970.2.2.2.2.2.2.2
theorem db_dL_law_980 : decode cL_law 980 = .ok (.iadd, 1) ∧ decode cL_law 981 = .ok (.iaload, 1) ∧ decode cL_law 982 = .ok (.invokevirtual 106, 3) ∧ decode cL_law 985 = .ok (.pop, 1) ∧ decode cL_law 986 = .ok (.goto 89, 3) ∧ decode cL_law 989 = .ok (.aload_n 1, 1) ∧ decode cL_law 990 = .ok (.aload_n 0, 1) ∧ decode cL_law 991 = .ok (.iload_n 3, 1) := by decide +kernel
theorem dL_law_980 : decode cL_law 980 = .ok (.iadd, 1) := db_dL_law_980.1
theorem dL_law_981 : decode cL_law 981 = .ok (.iaload, 1) := db_dL_law_980.2.1
theorem dL_law_982 : decode cL_law 982 = .ok (.invokevirtual 106, 3) := db_dL_law_980.2.2.1
theorem dL_law_985 : decode cL_law 985 = .ok (.pop, 1) := db_dL_law_980.2.2.2.1
theorem dL_law_986 : decode cL_law 986 = .ok (.goto 89, 3) := db_dL_law_980.2.2.2.2.1
theorem dL_law_989 : decode cL_law 989 = .ok (.aload_n 1, 1) := db_dL_law_980.2.2.2.2.2.1
theorem dL_law_990 : decode cL_law 990 = .ok (.aload_n 0, 1) := db_dL_law_980.2.2.2.2.2.2.1
theorem dL_law_991 : decode cL_law 991 = .ok (.iload_n 3, 1) := db_dL_law_980.2.2.2.2.2.2.2
theorem db_dL_law_992 : decode cL_law 992 = .ok (.iconst 1, 1) ∧ decode cL_law 993 = .ok (.iadd, 1) ∧ decode cL_law 994 = .ok (.iaload, 1) ∧ decode cL_law 995 = .ok (.aload_n 0, 1) ∧ decode cL_law 996 = .ok (.iload_n 3, 1) ∧ decode cL_law 997 = .ok (.iconst 2, 1) ∧ decode cL_law 998 = .ok (.iadd, 1) ∧ decode cL_law 999 = .ok (.iaload, 1) := by decide +kernel
theorem dL_law_992 : decode cL_law 992 = .ok (.iconst 1, 1) := db_dL_law_992.1
theorem dL_law_993 : decode cL_law 993 = .ok (.iadd, 1) := db_dL_law_992.2.1
theorem dL_law_994 : decode cL_law 994 = .ok (.iaload, 1) := db_dL_law_992.2.2.1
theorem dL_law_995 : decode cL_law 995 = .ok (.aload_n 0, 1) := db_dL_law_992.2.2.2.1
theorem dL_law_996 : decode cL_law 996 = .ok (.iload_n 3, 1) := db_dL_law_992.2.2.2.2.1
theorem dL_law_997 : decode cL_law 997 = .ok (.iconst 2, 1) := db_dL_law_992.2.2.2.2.2.1
theorem dL_law_998 : decode cL_law 998 = .ok (.iadd, 1) := db_dL_law_992.2.2.2.2.2.2.1
theorem dL_law_999 : decode cL_law 999 = .ok (.iaload, 1) := db_dL_law_992.2.2.2.2.2.2.2
theorem db_dL_law_1000 : decode cL_law 1000 = .ok (.aload_n 0, 1) ∧ decode cL_law 1001 = .ok (.iload_n 3, 1) ∧ decode cL_law 1002 = .ok (.iconst 3, 1) ∧ decode cL_law 1003 = .ok (.iadd, 1) ∧ decode cL_law 1004 = .ok (.iaload, 1) ∧ decode cL_law 1005 = .ok (.aload_n 0, 1) ∧ decode cL_law 1006 = .ok (.iload_n 3, 1) ∧ decode cL_law 1007 = .ok (.iconst 4, 1) := by decide +kernel
theorem dL_law_1000 : decode cL_law 1000 = .ok (.aload_n 0, 1) := db_dL_law_1000.1
theorem dL_law_1001 : decode cL_law 1001 = .ok (.iload_n 3, 1) := db_dL_law_1000.2.1
theorem dL_law_1002 : decode cL_law 1002 = .ok (.iconst 3, 1) := db_dL_law_1000.2.2.1
theorem dL_law_1003 : decode cL_law 1003 = .ok (.iadd, 1) := db_dL_law_1000.2.2.2.1
theorem dL_law_1004 : decode cL_law 1004 = .ok (.iaload, 1) := db_dL_law_1000.2.2.2.2.1
theorem dL_law_1005 : decode cL_law 1005 = .ok (.aload_n 0, 1) := db_dL_law_1000.2.2.2.2.2.1
theorem dL_law_1006 : decode cL_law 1006 = .ok (.iload_n 3, 1) := db_dL_law_1000.2.2.2.2.2.2.1
theorem dL_law_1007 : decode cL_law 1007 = .ok (.iconst 4, 1) := db_dL_law_1000.2.2.2.2.2.2.2
theorem db_dL_law_1008 : decode cL_law 1008 = .ok (.iadd, 1) ∧ decode cL_law 1009 = .ok (.iaload, 1) ∧ decode cL_law 1010 = .ok (.aload_n 0, 1) ∧ decode cL_law 1011 = .ok (.iload_n 3, 1) ∧ decode cL_law 1012 = .ok (.iconst 5, 1) ∧ decode cL_law 1013 = .ok (.iadd, 1) ∧ decode cL_law 1014 = .ok (.iaload, 1) ∧ decode cL_law 1015 = .ok (.invokevirtual 107, 3) := by decide +kernel
theorem dL_law_1008 : decode cL_law 1008 = .ok (.iadd, 1) := db_dL_law_1008.1
theorem dL_law_1009 : decode cL_law 1009 = .ok (.iaload, 1) := db_dL_law_1008.2.1
theorem dL_law_1010 : decode cL_law 1010 = .ok (.aload_n 0, 1) := db_dL_law_1008.2.2.1
theorem dL_law_1011 : decode cL_law 1011 = .ok (.iload_n 3, 1) := db_dL_law_1008.2.2.2.1
theorem dL_law_1012 : decode cL_law 1012 = .ok (.iconst 5, 1) := db_dL_law_1008.2.2.2.2.1
theorem dL_law_1013 : decode cL_law 1013 = .ok (.iadd, 1) := db_dL_law_1008.2.2.2.2.2.1
theorem dL_law_1014 : decode cL_law 1014 = .ok (.iaload, 1) := db_dL_law_1008.2.2.2.2.2.2.1
theorem dL_law_1015 : decode cL_law 1015 = .ok (.invokevirtual 107, 3) := db_dL_law_1008.2.2.2.2.2.2.2
theorem db_dL_law_1018 : decode cL_law 1018 = .ok (.pop, 1) ∧ decode cL_law 1019 = .ok (.aload_n 2, 1) ∧ decode cL_law 1020 = .ok (.aload_n 0, 1) ∧ decode cL_law 1021 = .ok (.iload_n 3, 1) ∧ decode cL_law 1022 = .ok (.iconst 1, 1) ∧ decode cL_law 1023 = .ok (.iadd, 1) ∧ decode cL_law 1024 = .ok (.iaload, 1) ∧ decode cL_law 1025 = .ok (.aload_n 0, 1) := by decide +kernel
theorem dL_law_1018 : decode cL_law 1018 = .ok (.pop, 1) := db_dL_law_1018.1
theorem dL_law_1019 : decode cL_law 1019 = .ok (.aload_n 2, 1) := db_dL_law_1018.2.1
theorem dL_law_1020 : decode cL_law 1020 = .ok (.aload_n 0, 1) := db_dL_law_1018.2.2.1
theorem dL_law_1021 : decode cL_law 1021 = .ok (.iload_n 3, 1) := db_dL_law_1018.2.2.2.1
theorem dL_law_1022 : decode cL_law 1022 = .ok (.iconst 1, 1) := db_dL_law_1018.2.2.2.2.1
theorem dL_law_1023 : decode cL_law 1023 = .ok (.iadd, 1) := db_dL_law_1018.2.2.2.2.2.1
theorem dL_law_1024 : decode cL_law 1024 = .ok (.iaload, 1) := db_dL_law_1018.2.2.2.2.2.2.1
theorem dL_law_1025 : decode cL_law 1025 = .ok (.aload_n 0, 1) := db_dL_law_1018.2.2.2.2.2.2.2
theorem db_dL_law_1026 : decode cL_law 1026 = .ok (.iload_n 3, 1) ∧ decode cL_law 1027 = .ok (.iconst 2, 1) ∧ decode cL_law 1028 = .ok (.iadd, 1) ∧ decode cL_law 1029 = .ok (.iaload, 1) ∧ decode cL_law 1030 = .ok (.aload_n 0, 1) ∧ decode cL_law 1031 = .ok (.iload_n 3, 1) ∧ decode cL_law 1032 = .ok (.iconst 3, 1) ∧ decode cL_law 1033 = .ok (.iadd, 1) := by decide +kernel
theorem dL_law_1026 : decode cL_law 1026 = .ok (.iload_n 3, 1) := db_dL_law_1026.1
theorem dL_law_1027 : decode cL_law 1027 = .ok (.iconst 2, 1) := db_dL_law_1026.2.1
theorem dL_law_1028 : decode cL_law 1028 = .ok (.iadd, 1) := db_dL_law_1026.2.2.1
theorem dL_law_1029 : decode cL_law 1029 = .ok (.iaload, 1) := db_dL_law_1026.2.2.2.1
theorem dL_law_1030 : decode cL_law 1030 = .ok (.aload_n 0, 1) := db_dL_law_1026.2.2.2.2.1
theorem dL_law_1031 : decode cL_law 1031 = .ok (.iload_n 3, 1) := db_dL_law_1026.2.2.2.2.2.1
theorem dL_law_1032 : decode cL_law 1032 = .ok (.iconst 3, 1) := db_dL_law_1026.2.2.2.2.2.2.1
theorem dL_law_1033 : decode cL_law 1033 = .ok (.iadd, 1) := db_dL_law_1026.2.2.2.2.2.2.2
theorem db_dL_law_1034 : decode cL_law 1034 = .ok (.iaload, 1) ∧ decode cL_law 1035 = .ok (.aload_n 0, 1) ∧ decode cL_law 1036 = .ok (.iload_n 3, 1) ∧ decode cL_law 1037 = .ok (.iconst 4, 1) ∧ decode cL_law 1038 = .ok (.iadd, 1) ∧ decode cL_law 1039 = .ok (.iaload, 1) ∧ decode cL_law 1040 = .ok (.aload_n 0, 1) ∧ decode cL_law 1041 = .ok (.iload_n 3, 1) := by decide +kernel
theorem dL_law_1034 : decode cL_law 1034 = .ok (.iaload, 1) := db_dL_law_1034.1
theorem dL_law_1035 : decode cL_law 1035 = .ok (.aload_n 0, 1) := db_dL_law_1034.2.1
theorem dL_law_1036 : decode cL_law 1036 = .ok (.iload_n 3, 1) := db_dL_law_1034.2.2.1
theorem dL_law_1037 : decode cL_law 1037 = .ok (.iconst 4, 1) := db_dL_law_1034.2.2.2.1
theorem dL_law_1038 : decode cL_law 1038 = .ok (.iadd, 1) := db_dL_law_1034.2.2.2.2.1
theorem dL_law_1039 : decode cL_law 1039 = .ok (.iaload, 1) := db_dL_law_1034.2.2.2.2.2.1
theorem dL_law_1040 : decode cL_law 1040 = .ok (.aload_n 0, 1) := db_dL_law_1034.2.2.2.2.2.2.1
theorem dL_law_1041 : decode cL_law 1041 = .ok (.iload_n 3, 1) := db_dL_law_1034.2.2.2.2.2.2.2
theorem db_dL_law_1042 : decode cL_law 1042 = .ok (.iconst 5, 1) ∧ decode cL_law 1043 = .ok (.iadd, 1) ∧ decode cL_law 1044 = .ok (.iaload, 1) ∧ decode cL_law 1045 = .ok (.invokevirtual 110, 3) ∧ decode cL_law 1048 = .ok (.pop, 1) ∧ decode cL_law 1049 = .ok (.goto 26, 3) ∧ decode cL_law 1052 = .ok (.aload_n 1, 1) ∧ decode cL_law 1053 = .ok (.aload_n 0, 1) := by decide +kernel
theorem dL_law_1042 : decode cL_law 1042 = .ok (.iconst 5, 1) := db_dL_law_1042.1
theorem dL_law_1043 : decode cL_law 1043 = .ok (.iadd, 1) := db_dL_law_1042.2.1
theorem dL_law_1044 : decode cL_law 1044 = .ok (.iaload, 1) := db_dL_law_1042.2.2.1
theorem dL_law_1045 : decode cL_law 1045 = .ok (.invokevirtual 110, 3) := db_dL_law_1042.2.2.2.1
theorem dL_law_1048 : decode cL_law 1048 = .ok (.pop, 1) := db_dL_law_1042.2.2.2.2.1
theorem dL_law_1049 : decode cL_law 1049 = .ok (.goto 26, 3) := db_dL_law_1042.2.2.2.2.2.1
theorem dL_law_1052 : decode cL_law 1052 = .ok (.aload_n 1, 1) := db_dL_law_1042.2.2.2.2.2.2.1
theorem dL_law_1053 : decode cL_law 1053 = .ok (.aload_n 0, 1) := db_dL_law_1042.2.2.2.2.2.2.2
theorem db_dL_law_1054 : decode cL_law 1054 = .ok (.iload_n 3, 1) ∧ decode cL_law 1055 = .ok (.iconst 1, 1) ∧ decode cL_law 1056 = .ok (.iadd, 1) ∧ decode cL_law 1057 = .ok (.iaload, 1) ∧ decode cL_law 1058 = .ok (.invokevirtual 111, 3) ∧ decode cL_law 1061 = .ok (.pop, 1) ∧ decode cL_law 1062 = .ok (.aload_n 2, 1) ∧ decode cL_law 1063 = .ok (.aload_n 0, 1) := by decide +kernel
theorem dL_law_1054 : decode cL_law 1054 = .ok (.iload_n 3, 1) := db_dL_law_1054.1
theorem dL_law_1055 : decode cL_law 1055 = .ok (.iconst 1, 1) := db_dL_law_1054.2.1
theorem dL_law_1056 : decode cL_law 1056 = .ok (.iadd, 1) := db_dL_law_1054.2.2.1
theorem dL_law_1057 : decode cL_law 1057 = .ok (.iaload, 1) := db_dL_law_1054.2.2.2.1
theorem dL_law_1058 : decode cL_law 1058 = .ok (.invokevirtual 111, 3) := db_dL_law_1054.2.2.2.2.1
theorem dL_law_1061 : decode cL_law 1061 = .ok (.pop, 1) := db_dL_law_1054.2.2.2.2.2.1
theorem dL_law_1062 : decode cL_law 1062 = .ok (.aload_n 2, 1) := db_dL_law_1054.2.2.2.2.2.2.1
theorem dL_law_1063 : decode cL_law 1063 = .ok (.aload_n 0, 1) := db_dL_law_1054.2.2.2.2.2.2.2
theorem db_dL_law_1064 : decode cL_law 1064 = .ok (.iload_n 3, 1) ∧ decode cL_law 1065 = .ok (.iconst 1, 1) ∧ decode cL_law 1066 = .ok (.iadd, 1) ∧ decode cL_law 1067 = .ok (.iaload, 1) ∧ decode cL_law 1068 = .ok (.invokevirtual 114, 3) ∧ decode cL_law 1071 = .ok (.pop, 1) ∧ decode cL_law 1072 = .ok (.goto 3, 3) ∧ decode cL_law 1075 = .ok (.iinc 3 9, 3) := by decide +kernel
theorem dL_law_1064 : decode cL_law 1064 = .ok (.iload_n 3, 1) := db_dL_law_1064.1
theorem dL_law_1065 : decode cL_law 1065 = .ok (.iconst 1, 1) := db_dL_law_1064.2.1
theorem dL_law_1066 : decode cL_law 1066 = .ok (.iadd, 1) := db_dL_law_1064.2.2.1
theorem dL_law_1067 : decode cL_law 1067 = .ok (.iaload, 1) := db_dL_law_1064.2.2.2.1
theorem dL_law_1068 : decode cL_law 1068 = .ok (.invokevirtual 114, 3) := db_dL_law_1064.2.2.2.2.1
theorem dL_law_1071 : decode cL_law 1071 = .ok (.pop, 1) := db_dL_law_1064.2.2.2.2.2.1
theorem dL_law_1072 : decode cL_law 1072 = .ok (.goto 3, 3) := db_dL_law_1064.2.2.2.2.2.2.1
theorem dL_law_1075 : decode cL_law 1075 = .ok (.iinc 3 9, 3) := db_dL_law_1064.2.2.2.2.2.2.2
theorem db_dL_law_1078 : decode cL_law 1078 = .ok (.goto (-1060), 3) ∧ decode cL_law 1081 = .ok (.iconst 1, 1) ∧ decode cL_law 1082 = .ok (.ireturn, 1) := by decide +kernel
theorem dL_law_1078 : decode cL_law 1078 = .ok (.goto (-1060), 3) := db_dL_law_1078.1
theorem dL_law_1081 : decode cL_law 1081 = .ok (.iconst 1, 1) := db_dL_law_1078.2.1
theorem dL_law_1082 : decode cL_law 1082 = .ok (.ireturn, 1) := db_dL_law_1078.2.2
