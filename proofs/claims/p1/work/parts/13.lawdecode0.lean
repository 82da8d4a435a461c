theorem d_L_law_0 : decode code 0 = .ok (.new 8, 3) := by decide +kernel
theorem d_L_law_3 : decode code 3 = .ok (.dup, 1) := by decide +kernel
theorem d_L_law_4 : decode code 4 = .ok (.invokespecial 75, 3) := by decide +kernel
theorem d_L_law_7 : decode code 7 = .ok (.astore_n 1, 1) := by decide +kernel
theorem d_L_law_8 : decode code 8 = .ok (.new 76, 3) := by decide +kernel
theorem d_L_law_11 : decode code 11 = .ok (.dup, 1) := by decide +kernel
theorem d_L_law_12 : decode code 12 = .ok (.invokespecial 78, 3) := by decide +kernel
theorem d_L_law_15 : decode code 15 = .ok (.astore_n 2, 1) := by decide +kernel
theorem d_L_law_16 : decode code 16 = .ok (.iconst 1, 1) := by decide +kernel
theorem d_L_law_17 : decode code 17 = .ok (.newarray .long, 2) := by decide +kernel
theorem d_L_law_19 : decode code 19 = .ok (.astore_n 3, 1) := by decide +kernel
theorem d_L_law_20 : decode code 20 = .ok (.iconst 0, 1) := by decide +kernel
theorem d_L_law_21 : decode code 21 = .ok (.istore 4, 2) := by decide +kernel
theorem d_L_law_23 : decode code 23 = .ok (.iload 4, 2) := by decide +kernel
theorem d_L_law_25 : decode code 25 = .ok (.aload_n 0, 1) := by decide +kernel
theorem d_L_law_26 : decode code 26 = .ok (.arraylength, 1) := by decide +kernel
theorem d_L_law_27 : decode code 27 = .ok (.bipush 6, 2) := by decide +kernel
theorem d_L_law_29 : decode code 29 = .ok (.isub, 1) := by decide +kernel
theorem d_L_law_30 : decode code 30 = .ok (.if_icmp .gt 1308, 3) := by decide +kernel
theorem d_L_law_33 : decode code 33 = .ok (.aload_n 0, 1) := by decide +kernel
theorem d_L_law_34 : decode code 34 = .ok (.iload 4, 2) := by decide +kernel
theorem d_L_law_36 : decode code 36 = .ok (.iaload, 1) := by decide +kernel
theorem d_L_law_37 : decode code 37 = .ok (.bipush 31, 2) := by decide +kernel
theorem d_L_law_39 : decode code 39 = .ok (.iand, 1) := by decide +kernel
theorem d_L_law_40 : decode code 40 = .ok (.tableswitch 1292 0 18 #[92, 203, 266, 310, 378, 446, 502, 546, 621, 684, 752, 832, 912, 1011, 1067, 1159, 1203, 1266, 1279], 92) := by decide +kernel
theorem d_L_law_132 : decode code 132 = .ok (.aload_n 1, 1) := by decide +kernel
theorem d_L_law_133 : decode code 133 = .ok (.aload_n 0, 1) := by decide +kernel
theorem d_L_law_134 : decode code 134 = .ok (.iload 4, 2) := by decide +kernel
theorem d_L_law_136 : decode code 136 = .ok (.iconst 1, 1) := by decide +kernel
theorem d_L_law_137 : decode code 137 = .ok (.iadd, 1) := by decide +kernel
theorem d_L_law_138 : decode code 138 = .ok (.iaload, 1) := by decide +kernel
theorem d_L_law_139 : decode code 139 = .ok (.aload_n 0, 1) := by decide +kernel
theorem d_L_law_140 : decode code 140 = .ok (.iload 4, 2) := by decide +kernel
theorem d_L_law_142 : decode code 142 = .ok (.iconst 2, 1) := by decide +kernel
theorem d_L_law_143 : decode code 143 = .ok (.iadd, 1) := by decide +kernel
theorem d_L_law_144 : decode code 144 = .ok (.iaload, 1) := by decide +kernel
theorem d_L_law_145 : decode code 145 = .ok (.aload_n 0, 1) := by decide +kernel
theorem d_L_law_146 : decode code 146 = .ok (.iload 4, 2) := by decide +kernel
theorem d_L_law_148 : decode code 148 = .ok (.iconst 3, 1) := by decide +kernel
theorem d_L_law_149 : decode code 149 = .ok (.iadd, 1) := by decide +kernel
theorem d_L_law_150 : decode code 150 = .ok (.iaload, 1) := by decide +kernel
theorem d_L_law_151 : decode code 151 = .ok (.aload_n 0, 1) := by decide +kernel
theorem d_L_law_152 : decode code 152 = .ok (.iload 4, 2) := by decide +kernel
theorem d_L_law_154 : decode code 154 = .ok (.iconst 4, 1) := by decide +kernel
theorem d_L_law_155 : decode code 155 = .ok (.iadd, 1) := by decide +kernel
theorem d_L_law_156 : decode code 156 = .ok (.iaload, 1) := by decide +kernel
theorem d_L_law_157 : decode code 157 = .ok (.aload_n 0, 1) := by decide +kernel
theorem d_L_law_158 : decode code 158 = .ok (.iload 4, 2) := by decide +kernel
theorem d_L_law_160 : decode code 160 = .ok (.iconst 5, 1) := by decide +kernel
theorem d_L_law_161 : decode code 161 = .ok (.iadd, 1) := by decide +kernel
theorem d_L_law_162 : decode code 162 = .ok (.iaload, 1) := by decide +kernel
theorem d_L_law_163 : decode code 163 = .ok (.aload_n 3, 1) := by decide +kernel
theorem d_L_law_164 : decode code 164 = .ok (.invokestatic 79, 3) := by decide +kernel
theorem d_L_law_167 : decode code 167 = .ok (.istore 5, 2) := by decide +kernel
theorem d_L_law_169 : decode code 169 = .ok (.aload_n 2, 1) := by decide +kernel
theorem d_L_law_170 : decode code 170 = .ok (.aload_n 0, 1) := by decide +kernel
theorem d_L_law_171 : decode code 171 = .ok (.iload 4, 2) := by decide +kernel
theorem d_L_law_173 : decode code 173 = .ok (.iconst 1, 1) := by decide +kernel
theorem d_L_law_174 : decode code 174 = .ok (.iadd, 1) := by decide +kernel
theorem d_L_law_175 : decode code 175 = .ok (.iaload, 1) := by decide +kernel
theorem d_L_law_176 : decode code 176 = .ok (.aload_n 0, 1) := by decide +kernel
theorem d_L_law_177 : decode code 177 = .ok (.iload 4, 2) := by decide +kernel
theorem d_L_law_179 : decode code 179 = .ok (.iconst 2, 1) := by decide +kernel
theorem d_L_law_180 : decode code 180 = .ok (.iadd, 1) := by decide +kernel
theorem d_L_law_181 : decode code 181 = .ok (.iaload, 1) := by decide +kernel
theorem d_L_law_182 : decode code 182 = .ok (.aload_n 0, 1) := by decide +kernel
theorem d_L_law_183 : decode code 183 = .ok (.iload 4, 2) := by decide +kernel
theorem d_L_law_185 : decode code 185 = .ok (.iconst 3, 1) := by decide +kernel
theorem d_L_law_186 : decode code 186 = .ok (.iadd, 1) := by decide +kernel
theorem d_L_law_187 : decode code 187 = .ok (.iaload, 1) := by decide +kernel
theorem d_L_law_188 : decode code 188 = .ok (.aload_n 0, 1) := by decide +kernel
theorem d_L_law_189 : decode code 189 = .ok (.iload 4, 2) := by decide +kernel
theorem d_L_law_191 : decode code 191 = .ok (.iconst 4, 1) := by decide +kernel
theorem d_L_law_192 : decode code 192 = .ok (.iadd, 1) := by decide +kernel
theorem d_L_law_193 : decode code 193 = .ok (.iaload, 1) := by decide +kernel
theorem d_L_law_194 : decode code 194 = .ok (.aload_n 0, 1) := by decide +kernel
theorem d_L_law_195 : decode code 195 = .ok (.iload 4, 2) := by decide +kernel
theorem d_L_law_197 : decode code 197 = .ok (.iconst 5, 1) := by decide +kernel
theorem d_L_law_198 : decode code 198 = .ok (.iadd, 1) := by decide +kernel
theorem d_L_law_199 : decode code 199 = .ok (.iaload, 1) := by decide +kernel
theorem d_L_law_200 : decode code 200 = .ok (.invokevirtual 84, 3) := by decide +kernel
theorem d_L_law_203 : decode code 203 = .ok (.istore 6, 2) := by decide +kernel
theorem d_L_law_205 : decode code 205 = .ok (.aload_n 2, 1) := by decide +kernel
theorem d_L_law_206 : decode code 206 = .ok (.invokevirtual 85, 3) := by decide +kernel
theorem d_L_law_209 : decode code 209 = .ok (.iload 5, 2) := by decide +kernel
theorem d_L_law_211 : decode code 211 = .ok (.if_icmp .eq 5, 3) := by decide +kernel
theorem d_L_law_216 : decode code 216 = .ok (.iload 5, 2) := by decide +kernel
theorem d_L_law_218 : decode code 218 = .ok (.ifCond .ne 22, 3) := by decide +kernel
theorem d_L_law_221 : decode code 221 = .ok (.aload_n 3, 1) := by decide +kernel
theorem d_L_law_222 : decode code 222 = .ok (.iconst 0, 1) := by decide +kernel
theorem d_L_law_223 : decode code 223 = .ok (.laload, 1) := by decide +kernel
theorem d_L_law_224 : decode code 224 = .ok (.iload 6, 2) := by decide +kernel
theorem d_L_law_226 : decode code 226 = .ok (.ifCond .eq 7, 3) := by decide +kernel
theorem d_L_law_229 : decode code 229 = .ok (.lconst 1, 1) := by decide +kernel
theorem d_L_law_230 : decode code 230 = .ok (.goto 4, 3) := by decide +kernel
theorem d_L_law_234 : decode code 234 = .ok (.lcmp, 1) := by decide +kernel
theorem d_L_law_235 : decode code 235 = .ok (.ifCond .eq 5, 3) := by decide +kernel
theorem d_L_law_240 : decode code 240 = .ok (.goto 1092, 3) := by decide +kernel
theorem d_L_law_243 : decode code 243 = .ok (.aload_n 1, 1) := by decide +kernel
theorem d_L_law_244 : decode code 244 = .ok (.aload_n 0, 1) := by decide +kernel
theorem d_L_law_245 : decode code 245 = .ok (.iload 4, 2) := by decide +kernel
theorem d_L_law_247 : decode code 247 = .ok (.iconst 1, 1) := by decide +kernel
theorem d_L_law_248 : decode code 248 = .ok (.iadd, 1) := by decide +kernel
theorem d_L_law_249 : decode code 249 = .ok (.iaload, 1) := by decide +kernel
theorem d_L_law_250 : decode code 250 = .ok (.aload_n 3, 1) := by decide +kernel
theorem d_L_law_251 : decode code 251 = .ok (.invokestatic 88, 3) := by decide +kernel
theorem d_L_law_254 : decode code 254 = .ok (.istore 5, 2) := by decide +kernel
theorem d_L_law_256 : decode code 256 = .ok (.aload_n 2, 1) := by decide +kernel
theorem d_L_law_257 : decode code 257 = .ok (.aload_n 0, 1) := by decide +kernel
theorem d_L_law_258 : decode code 258 = .ok (.iload 4, 2) := by decide +kernel
theorem d_L_law_260 : decode code 260 = .ok (.iconst 1, 1) := by decide +kernel
theorem d_L_law_261 : decode code 261 = .ok (.iadd, 1) := by decide +kernel
theorem d_L_law_262 : decode code 262 = .ok (.iaload, 1) := by decide +kernel
theorem d_L_law_263 : decode code 263 = .ok (.invokevirtual 91, 3) := by decide +kernel
theorem d_L_law_266 : decode code 266 = .ok (.istore 6, 2) := by decide +kernel
theorem d_L_law_268 : decode code 268 = .ok (.aload_n 2, 1) := by decide +kernel
theorem d_L_law_269 : decode code 269 = .ok (.invokevirtual 85, 3) := by decide +kernel
theorem d_L_law_272 : decode code 272 = .ok (.iload 5, 2) := by decide +kernel
theorem d_L_law_274 : decode code 274 = .ok (.if_icmp .eq 5, 3) := by decide +kernel
theorem d_L_law_279 : decode code 279 = .ok (.iload 5, 2) := by decide +kernel
theorem d_L_law_281 : decode code 281 = .ok (.ifCond .ne 22, 3) := by decide +kernel
theorem d_L_law_284 : decode code 284 = .ok (.aload_n 3, 1) := by decide +kernel
theorem d_L_law_285 : decode code 285 = .ok (.iconst 0, 1) := by decide +kernel
theorem d_L_law_286 : decode code 286 = .ok (.laload, 1) := by decide +kernel
theorem d_L_law_287 : decode code 287 = .ok (.iload 6, 2) := by decide +kernel
theorem d_L_law_289 : decode code 289 = .ok (.ifCond .eq 7, 3) := by decide +kernel
theorem d_L_law_292 : decode code 292 = .ok (.lconst 1, 1) := by decide +kernel
theorem d_L_law_293 : decode code 293 = .ok (.goto 4, 3) := by decide +kernel
theorem d_L_law_296 : decode code 296 = .ok (.lconst 0, 1) := by decide +kernel
theorem d_L_law_297 : decode code 297 = .ok (.lcmp, 1) := by decide +kernel
theorem d_L_law_298 : decode code 298 = .ok (.ifCond .eq 5, 3) := by decide +kernel
theorem d_L_law_303 : decode code 303 = .ok (.goto 1029, 3) := by decide +kernel
theorem d_L_law_306 : decode code 306 = .ok (.aload_n 1, 1) := by decide +kernel
theorem d_L_law_307 : decode code 307 = .ok (.aload_n 3, 1) := by decide +kernel
theorem d_L_law_308 : decode code 308 = .ok (.invokestatic 92, 3) := by decide +kernel
theorem d_L_law_311 : decode code 311 = .ok (.istore 5, 2) := by decide +kernel
theorem d_L_law_313 : decode code 313 = .ok (.aload_n 2, 1) := by decide +kernel
theorem d_L_law_314 : decode code 314 = .ok (.invokevirtual 95, 3) := by decide +kernel
theorem d_L_law_317 : decode code 317 = .ok (.istore 6, 2) := by decide +kernel
theorem d_L_law_319 : decode code 319 = .ok (.aload_n 2, 1) := by decide +kernel
theorem d_L_law_320 : decode code 320 = .ok (.invokevirtual 85, 3) := by decide +kernel
theorem d_L_law_323 : decode code 323 = .ok (.iload 5, 2) := by decide +kernel
theorem d_L_law_325 : decode code 325 = .ok (.if_icmp .eq 5, 3) := by decide +kernel
theorem d_L_law_330 : decode code 330 = .ok (.iload 5, 2) := by decide +kernel
theorem d_L_law_332 : decode code 332 = .ok (.ifCond .ne 15, 3) := by decide +kernel
theorem d_L_law_335 : decode code 335 = .ok (.aload_n 3, 1) := by decide +kernel
theorem d_L_law_336 : decode code 336 = .ok (.iconst 0, 1) := by decide +kernel
theorem d_L_law_337 : decode code 337 = .ok (.laload, 1) := by decide +kernel
theorem d_L_law_338 : decode code 338 = .ok (.iload 6, 2) := by decide +kernel
theorem d_L_law_340 : decode code 340 = .ok (.i2l, 1) := by decide +kernel
