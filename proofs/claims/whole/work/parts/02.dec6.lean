theorem d_L_cell_0 : decode b_L_cell 0 = .ok (.iload_n 1, 1) := by decide +kernel
theorem d_L_cell_1 : decode b_L_cell 1 = .ok (.aload_n 0, 1) := by decide +kernel
theorem d_L_cell_2 : decode b_L_cell 2 = .ok (.arraylength, 1) := by decide +kernel
theorem d_L_cell_3 : decode b_L_cell 3 = .ok (.if_icmp .ge 9, 3) := by decide +kernel
theorem d_L_cell_6 : decode b_L_cell 6 = .ok (.aload_n 0, 1) := by decide +kernel
theorem d_L_cell_7 : decode b_L_cell 7 = .ok (.iload_n 1, 1) := by decide +kernel
theorem d_L_cell_8 : decode b_L_cell 8 = .ok (.iaload, 1) := by decide +kernel
theorem d_L_cell_9 : decode b_L_cell 9 = .ok (.goto 4, 3) := by decide +kernel
theorem d_L_cell_12 : decode b_L_cell 12 = .ok (.iconst 0, 1) := by decide +kernel
theorem d_L_cell_13 : decode b_L_cell 13 = .ok (.ireturn, 1) := by decide +kernel
theorem d_L_law_0 : decode b_L_law 0 = .ok (.new 7, 3) := by decide +kernel
theorem d_L_law_3 : decode b_L_law 3 = .ok (.dup, 1) := by decide +kernel
theorem d_L_law_4 : decode b_L_law 4 = .ok (.aload_n 0, 1) := by decide +kernel
theorem d_L_law_5 : decode b_L_law 5 = .ok (.iconst 0, 1) := by decide +kernel
theorem d_L_law_6 : decode b_L_law 6 = .ok (.invokestatic 9, 3) := by decide +kernel
theorem d_L_law_9 : decode b_L_law 9 = .ok (.invokespecial 15, 3) := by decide +kernel
theorem d_L_law_12 : decode b_L_law 12 = .ok (.astore_n 1, 1) := by decide +kernel
theorem d_L_law_13 : decode b_L_law 13 = .ok (.new 18, 3) := by decide +kernel
theorem d_L_law_16 : decode b_L_law 16 = .ok (.dup, 1) := by decide +kernel
theorem d_L_law_17 : decode b_L_law 17 = .ok (.aload_n 0, 1) := by decide +kernel
theorem d_L_law_18 : decode b_L_law 18 = .ok (.iconst 0, 1) := by decide +kernel
theorem d_L_law_19 : decode b_L_law 19 = .ok (.invokestatic 9, 3) := by decide +kernel
theorem d_L_law_22 : decode b_L_law 22 = .ok (.invokespecial 20, 3) := by decide +kernel
theorem d_L_law_25 : decode b_L_law 25 = .ok (.astore_n 2, 1) := by decide +kernel
theorem d_L_law_26 : decode b_L_law 26 = .ok (.iconst 1, 1) := by decide +kernel
theorem d_L_law_27 : decode b_L_law 27 = .ok (.istore_n 3, 1) := by decide +kernel
theorem d_L_law_28 : decode b_L_law 28 = .ok (.iload_n 3, 1) := by decide +kernel
theorem d_L_law_29 : decode b_L_law 29 = .ok (.aload_n 0, 1) := by decide +kernel
theorem d_L_law_30 : decode b_L_law 30 = .ok (.arraylength, 1) := by decide +kernel
theorem d_L_law_31 : decode b_L_law 31 = .ok (.iconst 4, 1) := by decide +kernel
theorem d_L_law_32 : decode b_L_law 32 = .ok (.isub, 1) := by decide +kernel
theorem d_L_law_33 : decode b_L_law 33 = .ok (.if_icmp .gt 622, 3) := by decide +kernel
theorem d_L_law_36 : decode b_L_law 36 = .ok (.aload_n 0, 1) := by decide +kernel
theorem d_L_law_37 : decode b_L_law 37 = .ok (.iload_n 3, 1) := by decide +kernel
theorem d_L_law_38 : decode b_L_law 38 = .ok (.iaload, 1) := by decide +kernel
theorem d_L_law_39 : decode b_L_law 39 = .ok (.bipush 15, 2) := by decide +kernel
theorem d_L_law_41 : decode b_L_law 41 = .ok (.iand, 1) := by decide +kernel
theorem d_L_law_42 : decode b_L_law 42 = .ok (.tableswitch 607 0 14 #[74, 109, 142, 165, 178, 237, 274, 297, 330, 373, 416, 449, 492, 541, 574], 74) := by decide +kernel
theorem d_L_law_116 : decode b_L_law 116 = .ok (.aload_n 1, 1) := by decide +kernel
theorem d_L_law_117 : decode b_L_law 117 = .ok (.aload_n 0, 1) := by decide +kernel
theorem d_L_law_118 : decode b_L_law 118 = .ok (.iload_n 3, 1) := by decide +kernel
theorem d_L_law_119 : decode b_L_law 119 = .ok (.iconst 1, 1) := by decide +kernel
theorem d_L_law_120 : decode b_L_law 120 = .ok (.iadd, 1) := by decide +kernel
theorem d_L_law_121 : decode b_L_law 121 = .ok (.iaload, 1) := by decide +kernel
theorem d_L_law_122 : decode b_L_law 122 = .ok (.aload_n 0, 1) := by decide +kernel
theorem d_L_law_123 : decode b_L_law 123 = .ok (.iload_n 3, 1) := by decide +kernel
theorem d_L_law_124 : decode b_L_law 124 = .ok (.iconst 2, 1) := by decide +kernel
theorem d_L_law_125 : decode b_L_law 125 = .ok (.iadd, 1) := by decide +kernel
theorem d_L_law_126 : decode b_L_law 126 = .ok (.iaload, 1) := by decide +kernel
theorem d_L_law_127 : decode b_L_law 127 = .ok (.i2c, 1) := by decide +kernel
theorem d_L_law_128 : decode b_L_law 128 = .ok (.invokevirtual 21, 3) := by decide +kernel
theorem d_L_law_131 : decode b_L_law 131 = .ok (.aload_n 2, 1) := by decide +kernel
theorem d_L_law_132 : decode b_L_law 132 = .ok (.aload_n 0, 1) := by decide +kernel
theorem d_L_law_133 : decode b_L_law 133 = .ok (.iload_n 3, 1) := by decide +kernel
theorem d_L_law_134 : decode b_L_law 134 = .ok (.iconst 1, 1) := by decide +kernel
theorem d_L_law_135 : decode b_L_law 135 = .ok (.iadd, 1) := by decide +kernel
theorem d_L_law_136 : decode b_L_law 136 = .ok (.iaload, 1) := by decide +kernel
theorem d_L_law_137 : decode b_L_law 137 = .ok (.aload_n 0, 1) := by decide +kernel
theorem d_L_law_138 : decode b_L_law 138 = .ok (.iload_n 3, 1) := by decide +kernel
theorem d_L_law_139 : decode b_L_law 139 = .ok (.iconst 2, 1) := by decide +kernel
theorem d_L_law_140 : decode b_L_law 140 = .ok (.iadd, 1) := by decide +kernel
theorem d_L_law_141 : decode b_L_law 141 = .ok (.iaload, 1) := by decide +kernel
theorem d_L_law_142 : decode b_L_law 142 = .ok (.i2c, 1) := by decide +kernel
theorem d_L_law_143 : decode b_L_law 143 = .ok (.invokevirtual 25, 3) := by decide +kernel
theorem d_L_law_146 : decode b_L_law 146 = .ok (.if_icmp .eq 503, 3) := by decide +kernel
theorem d_L_law_149 : decode b_L_law 149 = .ok (.iconst 0, 1) := by decide +kernel
theorem d_L_law_150 : decode b_L_law 150 = .ok (.ireturn, 1) := by decide +kernel
theorem d_L_law_151 : decode b_L_law 151 = .ok (.aload_n 1, 1) := by decide +kernel
theorem d_L_law_152 : decode b_L_law 152 = .ok (.aload_n 0, 1) := by decide +kernel
theorem d_L_law_153 : decode b_L_law 153 = .ok (.iload_n 3, 1) := by decide +kernel
theorem d_L_law_154 : decode b_L_law 154 = .ok (.iconst 1, 1) := by decide +kernel
theorem d_L_law_155 : decode b_L_law 155 = .ok (.iadd, 1) := by decide +kernel
theorem d_L_law_156 : decode b_L_law 156 = .ok (.iaload, 1) := by decide +kernel
theorem d_L_law_157 : decode b_L_law 157 = .ok (.aload_n 0, 1) := by decide +kernel
theorem d_L_law_158 : decode b_L_law 158 = .ok (.iload_n 3, 1) := by decide +kernel
theorem d_L_law_159 : decode b_L_law 159 = .ok (.iconst 2, 1) := by decide +kernel
theorem d_L_law_160 : decode b_L_law 160 = .ok (.iadd, 1) := by decide +kernel
theorem d_L_law_161 : decode b_L_law 161 = .ok (.iaload, 1) := by decide +kernel
theorem d_L_law_162 : decode b_L_law 162 = .ok (.invokevirtual 26, 3) := by decide +kernel
theorem d_L_law_165 : decode b_L_law 165 = .ok (.aload_n 2, 1) := by decide +kernel
theorem d_L_law_166 : decode b_L_law 166 = .ok (.aload_n 0, 1) := by decide +kernel
theorem d_L_law_167 : decode b_L_law 167 = .ok (.iload_n 3, 1) := by decide +kernel
theorem d_L_law_168 : decode b_L_law 168 = .ok (.iconst 1, 1) := by decide +kernel
theorem d_L_law_169 : decode b_L_law 169 = .ok (.iadd, 1) := by decide +kernel
theorem d_L_law_170 : decode b_L_law 170 = .ok (.iaload, 1) := by decide +kernel
theorem d_L_law_171 : decode b_L_law 171 = .ok (.aload_n 0, 1) := by decide +kernel
theorem d_L_law_172 : decode b_L_law 172 = .ok (.iload_n 3, 1) := by decide +kernel
theorem d_L_law_173 : decode b_L_law 173 = .ok (.iconst 2, 1) := by decide +kernel
theorem d_L_law_174 : decode b_L_law 174 = .ok (.iadd, 1) := by decide +kernel
theorem d_L_law_175 : decode b_L_law 175 = .ok (.iaload, 1) := by decide +kernel
theorem d_L_law_176 : decode b_L_law 176 = .ok (.invokevirtual 30, 3) := by decide +kernel
theorem d_L_law_179 : decode b_L_law 179 = .ok (.if_icmp .eq 470, 3) := by decide +kernel
theorem d_L_law_182 : decode b_L_law 182 = .ok (.iconst 0, 1) := by decide +kernel
theorem d_L_law_183 : decode b_L_law 183 = .ok (.ireturn, 1) := by decide +kernel
theorem d_L_law_184 : decode b_L_law 184 = .ok (.aload_n 1, 1) := by decide +kernel
theorem d_L_law_185 : decode b_L_law 185 = .ok (.aload_n 0, 1) := by decide +kernel
theorem d_L_law_186 : decode b_L_law 186 = .ok (.iload_n 3, 1) := by decide +kernel
theorem d_L_law_187 : decode b_L_law 187 = .ok (.iconst 1, 1) := by decide +kernel
theorem d_L_law_188 : decode b_L_law 188 = .ok (.iadd, 1) := by decide +kernel
theorem d_L_law_189 : decode b_L_law 189 = .ok (.iaload, 1) := by decide +kernel
theorem d_L_law_190 : decode b_L_law 190 = .ok (.invokevirtual 31, 3) := by decide +kernel
theorem d_L_law_193 : decode b_L_law 193 = .ok (.aload_n 2, 1) := by decide +kernel
theorem d_L_law_194 : decode b_L_law 194 = .ok (.aload_n 0, 1) := by decide +kernel
theorem d_L_law_195 : decode b_L_law 195 = .ok (.iload_n 3, 1) := by decide +kernel
theorem d_L_law_196 : decode b_L_law 196 = .ok (.iconst 1, 1) := by decide +kernel
theorem d_L_law_197 : decode b_L_law 197 = .ok (.iadd, 1) := by decide +kernel
theorem d_L_law_198 : decode b_L_law 198 = .ok (.iaload, 1) := by decide +kernel
theorem d_L_law_199 : decode b_L_law 199 = .ok (.invokevirtual 35, 3) := by decide +kernel
theorem d_L_law_202 : decode b_L_law 202 = .ok (.if_icmp .eq 447, 3) := by decide +kernel
theorem d_L_law_205 : decode b_L_law 205 = .ok (.iconst 0, 1) := by decide +kernel
theorem d_L_law_206 : decode b_L_law 206 = .ok (.ireturn, 1) := by decide +kernel
theorem d_L_law_207 : decode b_L_law 207 = .ok (.aload_n 1, 1) := by decide +kernel
theorem d_L_law_208 : decode b_L_law 208 = .ok (.invokevirtual 36, 3) := by decide +kernel
theorem d_L_law_211 : decode b_L_law 211 = .ok (.aload_n 2, 1) := by decide +kernel
theorem d_L_law_212 : decode b_L_law 212 = .ok (.invokevirtual 40, 3) := by decide +kernel
theorem d_L_law_215 : decode b_L_law 215 = .ok (.if_icmp .eq 434, 3) := by decide +kernel
theorem d_L_law_218 : decode b_L_law 218 = .ok (.iconst 0, 1) := by decide +kernel
theorem d_L_law_219 : decode b_L_law 219 = .ok (.ireturn, 1) := by decide +kernel
theorem d_L_law_220 : decode b_L_law 220 = .ok (.aload_n 1, 1) := by decide +kernel
theorem d_L_law_221 : decode b_L_law 221 = .ok (.aload_n 0, 1) := by decide +kernel
theorem d_L_law_222 : decode b_L_law 222 = .ok (.iload_n 3, 1) := by decide +kernel
theorem d_L_law_223 : decode b_L_law 223 = .ok (.iconst 1, 1) := by decide +kernel
theorem d_L_law_224 : decode b_L_law 224 = .ok (.iadd, 1) := by decide +kernel
theorem d_L_law_225 : decode b_L_law 225 = .ok (.iaload, 1) := by decide +kernel
theorem d_L_law_226 : decode b_L_law 226 = .ok (.aload_n 0, 1) := by decide +kernel
theorem d_L_law_227 : decode b_L_law 227 = .ok (.iload_n 3, 1) := by decide +kernel
theorem d_L_law_228 : decode b_L_law 228 = .ok (.iconst 2, 1) := by decide +kernel
theorem d_L_law_229 : decode b_L_law 229 = .ok (.iadd, 1) := by decide +kernel
theorem d_L_law_230 : decode b_L_law 230 = .ok (.iaload, 1) := by decide +kernel
theorem d_L_law_231 : decode b_L_law 231 = .ok (.aload_n 0, 1) := by decide +kernel
theorem d_L_law_232 : decode b_L_law 232 = .ok (.iload_n 3, 1) := by decide +kernel
theorem d_L_law_233 : decode b_L_law 233 = .ok (.iconst 3, 1) := by decide +kernel
theorem d_L_law_234 : decode b_L_law 234 = .ok (.iadd, 1) := by decide +kernel
theorem d_L_law_235 : decode b_L_law 235 = .ok (.iaload, 1) := by decide +kernel
theorem d_L_law_236 : decode b_L_law 236 = .ok (.ifCond .eq 7, 3) := by decide +kernel
theorem d_L_law_239 : decode b_L_law 239 = .ok (.iconst 1, 1) := by decide +kernel
theorem d_L_law_240 : decode b_L_law 240 = .ok (.goto 4, 3) := by decide +kernel
theorem d_L_law_243 : decode b_L_law 243 = .ok (.iconst 0, 1) := by decide +kernel
theorem d_L_law_244 : decode b_L_law 244 = .ok (.invokevirtual 41, 3) := by decide +kernel
theorem d_L_law_247 : decode b_L_law 247 = .ok (.aload_n 2, 1) := by decide +kernel
theorem d_L_law_248 : decode b_L_law 248 = .ok (.aload_n 0, 1) := by decide +kernel
theorem d_L_law_249 : decode b_L_law 249 = .ok (.iload_n 3, 1) := by decide +kernel
theorem d_L_law_250 : decode b_L_law 250 = .ok (.iconst 1, 1) := by decide +kernel
theorem d_L_law_251 : decode b_L_law 251 = .ok (.iadd, 1) := by decide +kernel
theorem d_L_law_252 : decode b_L_law 252 = .ok (.iaload, 1) := by decide +kernel
theorem d_L_law_253 : decode b_L_law 253 = .ok (.aload_n 0, 1) := by decide +kernel
theorem d_L_law_254 : decode b_L_law 254 = .ok (.iload_n 3, 1) := by decide +kernel
theorem d_L_law_255 : decode b_L_law 255 = .ok (.iconst 2, 1) := by decide +kernel
theorem d_L_law_256 : decode b_L_law 256 = .ok (.iadd, 1) := by decide +kernel
theorem d_L_law_257 : decode b_L_law 257 = .ok (.iaload, 1) := by decide +kernel
theorem d_L_law_258 : decode b_L_law 258 = .ok (.aload_n 0, 1) := by decide +kernel
theorem d_L_law_259 : decode b_L_law 259 = .ok (.iload_n 3, 1) := by decide +kernel
theorem d_L_law_260 : decode b_L_law 260 = .ok (.iconst 3, 1) := by decide +kernel
theorem d_L_law_261 : decode b_L_law 261 = .ok (.iadd, 1) := by decide +kernel
theorem d_L_law_262 : decode b_L_law 262 = .ok (.iaload, 1) := by decide +kernel
theorem d_L_law_263 : decode b_L_law 263 = .ok (.ifCond .eq 7, 3) := by decide +kernel
theorem d_L_law_266 : decode b_L_law 266 = .ok (.iconst 1, 1) := by decide +kernel
theorem d_L_law_267 : decode b_L_law 267 = .ok (.goto 4, 3) := by decide +kernel
theorem d_L_law_270 : decode b_L_law 270 = .ok (.iconst 0, 1) := by decide +kernel
theorem d_L_law_271 : decode b_L_law 271 = .ok (.invokevirtual 45, 3) := by decide +kernel
theorem d_L_law_274 : decode b_L_law 274 = .ok (.if_icmp .eq 375, 3) := by decide +kernel
theorem d_L_law_277 : decode b_L_law 277 = .ok (.iconst 0, 1) := by decide +kernel
theorem d_L_law_278 : decode b_L_law 278 = .ok (.ireturn, 1) := by decide +kernel
theorem d_L_law_279 : decode b_L_law 279 = .ok (.aload_n 1, 1) := by decide +kernel
theorem d_L_law_280 : decode b_L_law 280 = .ok (.aload_n 0, 1) := by decide +kernel
theorem d_L_law_281 : decode b_L_law 281 = .ok (.iload_n 3, 1) := by decide +kernel
theorem d_L_law_282 : decode b_L_law 282 = .ok (.iconst 1, 1) := by decide +kernel
theorem d_L_law_283 : decode b_L_law 283 = .ok (.iadd, 1) := by decide +kernel
theorem d_L_law_284 : decode b_L_law 284 = .ok (.iaload, 1) := by decide +kernel
theorem d_L_law_285 : decode b_L_law 285 = .ok (.ifCond .eq 7, 3) := by decide +kernel
theorem d_L_law_288 : decode b_L_law 288 = .ok (.iconst 1, 1) := by decide +kernel
theorem d_L_law_289 : decode b_L_law 289 = .ok (.goto 4, 3) := by decide +kernel
theorem d_L_law_292 : decode b_L_law 292 = .ok (.iconst 0, 1) := by decide +kernel
theorem d_L_law_293 : decode b_L_law 293 = .ok (.invokevirtual 46, 3) := by decide +kernel
theorem d_L_law_296 : decode b_L_law 296 = .ok (.aload_n 2, 1) := by decide +kernel
theorem d_L_law_297 : decode b_L_law 297 = .ok (.aload_n 0, 1) := by decide +kernel
theorem d_L_law_298 : decode b_L_law 298 = .ok (.iload_n 3, 1) := by decide +kernel
theorem d_L_law_299 : decode b_L_law 299 = .ok (.iconst 1, 1) := by decide +kernel
theorem d_L_law_300 : decode b_L_law 300 = .ok (.iadd, 1) := by decide +kernel
theorem d_L_law_301 : decode b_L_law 301 = .ok (.iaload, 1) := by decide +kernel
theorem d_L_law_302 : decode b_L_law 302 = .ok (.ifCond .eq 7, 3) := by decide +kernel
theorem d_L_law_305 : decode b_L_law 305 = .ok (.iconst 1, 1) := by decide +kernel
theorem d_L_law_306 : decode b_L_law 306 = .ok (.goto 4, 3) := by decide +kernel
theorem d_L_law_309 : decode b_L_law 309 = .ok (.iconst 0, 1) := by decide +kernel
theorem d_L_law_310 : decode b_L_law 310 = .ok (.invokevirtual 50, 3) := by decide +kernel
theorem d_L_law_313 : decode b_L_law 313 = .ok (.goto 336, 3) := by decide +kernel
theorem d_L_law_316 : decode b_L_law 316 = .ok (.aload_n 1, 1) := by decide +kernel
theorem d_L_law_317 : decode b_L_law 317 = .ok (.aload_n 0, 1) := by decide +kernel
theorem d_L_law_318 : decode b_L_law 318 = .ok (.iload_n 3, 1) := by decide +kernel
theorem d_L_law_319 : decode b_L_law 319 = .ok (.iconst 1, 1) := by decide +kernel
theorem d_L_law_320 : decode b_L_law 320 = .ok (.iadd, 1) := by decide +kernel
theorem d_L_law_321 : decode b_L_law 321 = .ok (.iaload, 1) := by decide +kernel
theorem d_L_law_322 : decode b_L_law 322 = .ok (.invokevirtual 51, 3) := by decide +kernel
theorem d_L_law_325 : decode b_L_law 325 = .ok (.aload_n 2, 1) := by decide +kernel
theorem d_L_law_326 : decode b_L_law 326 = .ok (.aload_n 0, 1) := by decide +kernel
theorem d_L_law_327 : decode b_L_law 327 = .ok (.iload_n 3, 1) := by decide +kernel
theorem d_L_law_328 : decode b_L_law 328 = .ok (.iconst 1, 1) := by decide +kernel
theorem d_L_law_329 : decode b_L_law 329 = .ok (.iadd, 1) := by decide +kernel
theorem d_L_law_330 : decode b_L_law 330 = .ok (.iaload, 1) := by decide +kernel
theorem d_L_law_331 : decode b_L_law 331 = .ok (.invokevirtual 54, 3) := by decide +kernel
theorem d_L_law_334 : decode b_L_law 334 = .ok (.if_icmp .eq 315, 3) := by decide +kernel
theorem d_L_law_337 : decode b_L_law 337 = .ok (.iconst 0, 1) := by decide +kernel
theorem d_L_law_338 : decode b_L_law 338 = .ok (.ireturn, 1) := by decide +kernel
theorem d_L_law_339 : decode b_L_law 339 = .ok (.aload_n 1, 1) := by decide +kernel
theorem d_L_law_340 : decode b_L_law 340 = .ok (.aload_n 0, 1) := by decide +kernel
theorem d_L_law_341 : decode b_L_law 341 = .ok (.iload_n 3, 1) := by decide +kernel
theorem d_L_law_342 : decode b_L_law 342 = .ok (.iconst 1, 1) := by decide +kernel
theorem d_L_law_343 : decode b_L_law 343 = .ok (.iadd, 1) := by decide +kernel
theorem d_L_law_344 : decode b_L_law 344 = .ok (.iaload, 1) := by decide +kernel
theorem d_L_law_345 : decode b_L_law 345 = .ok (.aload_n 0, 1) := by decide +kernel
theorem d_L_law_346 : decode b_L_law 346 = .ok (.iload_n 3, 1) := by decide +kernel
theorem d_L_law_347 : decode b_L_law 347 = .ok (.iconst 2, 1) := by decide +kernel
theorem d_L_law_348 : decode b_L_law 348 = .ok (.iadd, 1) := by decide +kernel
theorem d_L_law_349 : decode b_L_law 349 = .ok (.iaload, 1) := by decide +kernel
theorem d_L_law_350 : decode b_L_law 350 = .ok (.invokevirtual 55, 3) := by decide +kernel
theorem d_L_law_353 : decode b_L_law 353 = .ok (.aload_n 2, 1) := by decide +kernel
theorem d_L_law_354 : decode b_L_law 354 = .ok (.aload_n 0, 1) := by decide +kernel
theorem d_L_law_355 : decode b_L_law 355 = .ok (.iload_n 3, 1) := by decide +kernel
theorem d_L_law_356 : decode b_L_law 356 = .ok (.iconst 1, 1) := by decide +kernel
theorem d_L_law_357 : decode b_L_law 357 = .ok (.iadd, 1) := by decide +kernel
theorem d_L_law_358 : decode b_L_law 358 = .ok (.iaload, 1) := by decide +kernel
theorem d_L_law_359 : decode b_L_law 359 = .ok (.aload_n 0, 1) := by decide +kernel
theorem d_L_law_360 : decode b_L_law 360 = .ok (.iload_n 3, 1) := by decide +kernel
theorem d_L_law_361 : decode b_L_law 361 = .ok (.iconst 2, 1) := by decide +kernel
theorem d_L_law_362 : decode b_L_law 362 = .ok (.iadd, 1) := by decide +kernel
theorem d_L_law_363 : decode b_L_law 363 = .ok (.iaload, 1) := by decide +kernel
theorem d_L_law_364 : decode b_L_law 364 = .ok (.invokevirtual 59, 3) := by decide +kernel
theorem d_L_law_367 : decode b_L_law 367 = .ok (.if_icmp .eq 282, 3) := by decide +kernel
theorem d_L_law_370 : decode b_L_law 370 = .ok (.iconst 0, 1) := by decide +kernel
theorem d_L_law_371 : decode b_L_law 371 = .ok (.ireturn, 1) := by decide +kernel
theorem d_L_law_372 : decode b_L_law 372 = .ok (.aload_n 1, 1) := by decide +kernel
theorem d_L_law_373 : decode b_L_law 373 = .ok (.aload_n 0, 1) := by decide +kernel
theorem d_L_law_374 : decode b_L_law 374 = .ok (.iload_n 3, 1) := by decide +kernel
theorem d_L_law_375 : decode b_L_law 375 = .ok (.iconst 1, 1) := by decide +kernel
theorem d_L_law_376 : decode b_L_law 376 = .ok (.iadd, 1) := by decide +kernel
theorem d_L_law_377 : decode b_L_law 377 = .ok (.iaload, 1) := by decide +kernel
theorem d_L_law_378 : decode b_L_law 378 = .ok (.aload_n 0, 1) := by decide +kernel
theorem d_L_law_379 : decode b_L_law 379 = .ok (.iload_n 3, 1) := by decide +kernel
theorem d_L_law_380 : decode b_L_law 380 = .ok (.iconst 2, 1) := by decide +kernel
theorem d_L_law_381 : decode b_L_law 381 = .ok (.iadd, 1) := by decide +kernel
theorem d_L_law_382 : decode b_L_law 382 = .ok (.iaload, 1) := by decide +kernel
theorem d_L_law_383 : decode b_L_law 383 = .ok (.aload_n 0, 1) := by decide +kernel
theorem d_L_law_384 : decode b_L_law 384 = .ok (.iload_n 3, 1) := by decide +kernel
theorem d_L_law_385 : decode b_L_law 385 = .ok (.iconst 3, 1) := by decide +kernel
theorem d_L_law_386 : decode b_L_law 386 = .ok (.iadd, 1) := by decide +kernel
theorem d_L_law_387 : decode b_L_law 387 = .ok (.iaload, 1) := by decide +kernel
theorem d_L_law_388 : decode b_L_law 388 = .ok (.invokevirtual 60, 3) := by decide +kernel
theorem d_L_law_391 : decode b_L_law 391 = .ok (.aload_n 2, 1) := by decide +kernel
theorem d_L_law_392 : decode b_L_law 392 = .ok (.aload_n 0, 1) := by decide +kernel
theorem d_L_law_393 : decode b_L_law 393 = .ok (.iload_n 3, 1) := by decide +kernel
theorem d_L_law_394 : decode b_L_law 394 = .ok (.iconst 1, 1) := by decide +kernel
theorem d_L_law_395 : decode b_L_law 395 = .ok (.iadd, 1) := by decide +kernel
theorem d_L_law_396 : decode b_L_law 396 = .ok (.iaload, 1) := by decide +kernel
theorem d_L_law_397 : decode b_L_law 397 = .ok (.aload_n 0, 1) := by decide +kernel
theorem d_L_law_398 : decode b_L_law 398 = .ok (.iload_n 3, 1) := by decide +kernel
theorem d_L_law_399 : decode b_L_law 399 = .ok (.iconst 2, 1) := by decide +kernel
theorem d_L_law_400 : decode b_L_law 400 = .ok (.iadd, 1) := by decide +kernel
theorem d_L_law_401 : decode b_L_law 401 = .ok (.iaload, 1) := by decide +kernel
theorem d_L_law_402 : decode b_L_law 402 = .ok (.aload_n 0, 1) := by decide +kernel
theorem d_L_law_403 : decode b_L_law 403 = .ok (.iload_n 3, 1) := by decide +kernel
theorem d_L_law_404 : decode b_L_law 404 = .ok (.iconst 3, 1) := by decide +kernel
theorem d_L_law_405 : decode b_L_law 405 = .ok (.iadd, 1) := by decide +kernel
theorem d_L_law_406 : decode b_L_law 406 = .ok (.iaload, 1) := by decide +kernel
theorem d_L_law_407 : decode b_L_law 407 = .ok (.invokevirtual 64, 3) := by decide +kernel
theorem d_L_law_410 : decode b_L_law 410 = .ok (.if_icmp .eq 239, 3) := by decide +kernel
theorem d_L_law_413 : decode b_L_law 413 = .ok (.iconst 0, 1) := by decide +kernel
theorem d_L_law_414 : decode b_L_law 414 = .ok (.ireturn, 1) := by decide +kernel
theorem d_L_law_415 : decode b_L_law 415 = .ok (.aload_n 1, 1) := by decide +kernel
theorem d_L_law_416 : decode b_L_law 416 = .ok (.aload_n 0, 1) := by decide +kernel
theorem d_L_law_417 : decode b_L_law 417 = .ok (.iload_n 3, 1) := by decide +kernel
theorem d_L_law_418 : decode b_L_law 418 = .ok (.iconst 1, 1) := by decide +kernel
theorem d_L_law_419 : decode b_L_law 419 = .ok (.iadd, 1) := by decide +kernel
theorem d_L_law_420 : decode b_L_law 420 = .ok (.iaload, 1) := by decide +kernel
theorem d_L_law_421 : decode b_L_law 421 = .ok (.aload_n 0, 1) := by decide +kernel
theorem d_L_law_422 : decode b_L_law 422 = .ok (.iload_n 3, 1) := by decide +kernel
theorem d_L_law_423 : decode b_L_law 423 = .ok (.iconst 2, 1) := by decide +kernel
theorem d_L_law_424 : decode b_L_law 424 = .ok (.iadd, 1) := by decide +kernel
theorem d_L_law_425 : decode b_L_law 425 = .ok (.iaload, 1) := by decide +kernel
theorem d_L_law_426 : decode b_L_law 426 = .ok (.aload_n 0, 1) := by decide +kernel
theorem d_L_law_427 : decode b_L_law 427 = .ok (.iload_n 3, 1) := by decide +kernel
theorem d_L_law_428 : decode b_L_law 428 = .ok (.iconst 3, 1) := by decide +kernel
theorem d_L_law_429 : decode b_L_law 429 = .ok (.iadd, 1) := by decide +kernel
theorem d_L_law_430 : decode b_L_law 430 = .ok (.iaload, 1) := by decide +kernel
theorem d_L_law_431 : decode b_L_law 431 = .ok (.invokevirtual 65, 3) := by decide +kernel
theorem d_L_law_434 : decode b_L_law 434 = .ok (.aload_n 2, 1) := by decide +kernel
theorem d_L_law_435 : decode b_L_law 435 = .ok (.aload_n 0, 1) := by decide +kernel
theorem d_L_law_436 : decode b_L_law 436 = .ok (.iload_n 3, 1) := by decide +kernel
theorem d_L_law_437 : decode b_L_law 437 = .ok (.iconst 1, 1) := by decide +kernel
theorem d_L_law_438 : decode b_L_law 438 = .ok (.iadd, 1) := by decide +kernel
theorem d_L_law_439 : decode b_L_law 439 = .ok (.iaload, 1) := by decide +kernel
theorem d_L_law_440 : decode b_L_law 440 = .ok (.aload_n 0, 1) := by decide +kernel
theorem d_L_law_441 : decode b_L_law 441 = .ok (.iload_n 3, 1) := by decide +kernel
theorem d_L_law_442 : decode b_L_law 442 = .ok (.iconst 2, 1) := by decide +kernel
theorem d_L_law_443 : decode b_L_law 443 = .ok (.iadd, 1) := by decide +kernel
theorem d_L_law_444 : decode b_L_law 444 = .ok (.iaload, 1) := by decide +kernel
theorem d_L_law_445 : decode b_L_law 445 = .ok (.aload_n 0, 1) := by decide +kernel
theorem d_L_law_446 : decode b_L_law 446 = .ok (.iload_n 3, 1) := by decide +kernel
theorem d_L_law_447 : decode b_L_law 447 = .ok (.iconst 3, 1) := by decide +kernel
theorem d_L_law_448 : decode b_L_law 448 = .ok (.iadd, 1) := by decide +kernel
theorem d_L_law_449 : decode b_L_law 449 = .ok (.iaload, 1) := by decide +kernel
theorem d_L_law_450 : decode b_L_law 450 = .ok (.invokevirtual 68, 3) := by decide +kernel
theorem d_L_law_453 : decode b_L_law 453 = .ok (.if_icmp .eq 196, 3) := by decide +kernel
theorem d_L_law_456 : decode b_L_law 456 = .ok (.iconst 0, 1) := by decide +kernel
theorem d_L_law_457 : decode b_L_law 457 = .ok (.ireturn, 1) := by decide +kernel
theorem d_L_law_458 : decode b_L_law 458 = .ok (.aload_n 1, 1) := by decide +kernel
theorem d_L_law_459 : decode b_L_law 459 = .ok (.aload_n 0, 1) := by decide +kernel
theorem d_L_law_460 : decode b_L_law 460 = .ok (.iload_n 3, 1) := by decide +kernel
theorem d_L_law_461 : decode b_L_law 461 = .ok (.iconst 1, 1) := by decide +kernel
theorem d_L_law_462 : decode b_L_law 462 = .ok (.iadd, 1) := by decide +kernel
theorem d_L_law_463 : decode b_L_law 463 = .ok (.iaload, 1) := by decide +kernel
theorem d_L_law_464 : decode b_L_law 464 = .ok (.aload_n 0, 1) := by decide +kernel
theorem d_L_law_465 : decode b_L_law 465 = .ok (.iload_n 3, 1) := by decide +kernel
theorem d_L_law_466 : decode b_L_law 466 = .ok (.iconst 2, 1) := by decide +kernel
theorem d_L_law_467 : decode b_L_law 467 = .ok (.iadd, 1) := by decide +kernel
theorem d_L_law_468 : decode b_L_law 468 = .ok (.iaload, 1) := by decide +kernel
theorem d_L_law_469 : decode b_L_law 469 = .ok (.invokevirtual 69, 3) := by decide +kernel
theorem d_L_law_472 : decode b_L_law 472 = .ok (.aload_n 2, 1) := by decide +kernel
theorem d_L_law_473 : decode b_L_law 473 = .ok (.aload_n 0, 1) := by decide +kernel
theorem d_L_law_474 : decode b_L_law 474 = .ok (.iload_n 3, 1) := by decide +kernel
theorem d_L_law_475 : decode b_L_law 475 = .ok (.iconst 1, 1) := by decide +kernel
theorem d_L_law_476 : decode b_L_law 476 = .ok (.iadd, 1) := by decide +kernel
theorem d_L_law_477 : decode b_L_law 477 = .ok (.iaload, 1) := by decide +kernel
theorem d_L_law_478 : decode b_L_law 478 = .ok (.aload_n 0, 1) := by decide +kernel
theorem d_L_law_479 : decode b_L_law 479 = .ok (.iload_n 3, 1) := by decide +kernel
theorem d_L_law_480 : decode b_L_law 480 = .ok (.iconst 2, 1) := by decide +kernel
theorem d_L_law_481 : decode b_L_law 481 = .ok (.iadd, 1) := by decide +kernel
theorem d_L_law_482 : decode b_L_law 482 = .ok (.iaload, 1) := by decide +kernel
theorem d_L_law_483 : decode b_L_law 483 = .ok (.invokevirtual 72, 3) := by decide +kernel
theorem d_L_law_486 : decode b_L_law 486 = .ok (.if_icmp .eq 163, 3) := by decide +kernel
theorem d_L_law_489 : decode b_L_law 489 = .ok (.iconst 0, 1) := by decide +kernel
theorem d_L_law_490 : decode b_L_law 490 = .ok (.ireturn, 1) := by decide +kernel
theorem d_L_law_491 : decode b_L_law 491 = .ok (.aload_n 1, 1) := by decide +kernel
theorem d_L_law_492 : decode b_L_law 492 = .ok (.aload_n 0, 1) := by decide +kernel
theorem d_L_law_493 : decode b_L_law 493 = .ok (.iload_n 3, 1) := by decide +kernel
theorem d_L_law_494 : decode b_L_law 494 = .ok (.iconst 1, 1) := by decide +kernel
theorem d_L_law_495 : decode b_L_law 495 = .ok (.iadd, 1) := by decide +kernel
theorem d_L_law_496 : decode b_L_law 496 = .ok (.iaload, 1) := by decide +kernel
theorem d_L_law_497 : decode b_L_law 497 = .ok (.aload_n 0, 1) := by decide +kernel
theorem d_L_law_498 : decode b_L_law 498 = .ok (.iload_n 3, 1) := by decide +kernel
theorem d_L_law_499 : decode b_L_law 499 = .ok (.iconst 2, 1) := by decide +kernel
theorem d_L_law_500 : decode b_L_law 500 = .ok (.iadd, 1) := by decide +kernel
theorem d_L_law_501 : decode b_L_law 501 = .ok (.iaload, 1) := by decide +kernel
theorem d_L_law_502 : decode b_L_law 502 = .ok (.aload_n 0, 1) := by decide +kernel
theorem d_L_law_503 : decode b_L_law 503 = .ok (.iload_n 3, 1) := by decide +kernel
theorem d_L_law_504 : decode b_L_law 504 = .ok (.iconst 3, 1) := by decide +kernel
theorem d_L_law_505 : decode b_L_law 505 = .ok (.iadd, 1) := by decide +kernel
theorem d_L_law_506 : decode b_L_law 506 = .ok (.iaload, 1) := by decide +kernel
theorem d_L_law_507 : decode b_L_law 507 = .ok (.invokevirtual 73, 3) := by decide +kernel
theorem d_L_law_510 : decode b_L_law 510 = .ok (.aload_n 2, 1) := by decide +kernel
theorem d_L_law_511 : decode b_L_law 511 = .ok (.aload_n 0, 1) := by decide +kernel
theorem d_L_law_512 : decode b_L_law 512 = .ok (.iload_n 3, 1) := by decide +kernel
theorem d_L_law_513 : decode b_L_law 513 = .ok (.iconst 1, 1) := by decide +kernel
theorem d_L_law_514 : decode b_L_law 514 = .ok (.iadd, 1) := by decide +kernel
theorem d_L_law_515 : decode b_L_law 515 = .ok (.iaload, 1) := by decide +kernel
theorem d_L_law_516 : decode b_L_law 516 = .ok (.aload_n 0, 1) := by decide +kernel
theorem d_L_law_517 : decode b_L_law 517 = .ok (.iload_n 3, 1) := by decide +kernel
theorem d_L_law_518 : decode b_L_law 518 = .ok (.iconst 2, 1) := by decide +kernel
theorem d_L_law_519 : decode b_L_law 519 = .ok (.iadd, 1) := by decide +kernel
theorem d_L_law_520 : decode b_L_law 520 = .ok (.iaload, 1) := by decide +kernel
theorem d_L_law_521 : decode b_L_law 521 = .ok (.aload_n 0, 1) := by decide +kernel
theorem d_L_law_522 : decode b_L_law 522 = .ok (.iload_n 3, 1) := by decide +kernel
theorem d_L_law_523 : decode b_L_law 523 = .ok (.iconst 3, 1) := by decide +kernel
theorem d_L_law_524 : decode b_L_law 524 = .ok (.iadd, 1) := by decide +kernel
theorem d_L_law_525 : decode b_L_law 525 = .ok (.iaload, 1) := by decide +kernel
theorem d_L_law_526 : decode b_L_law 526 = .ok (.invokevirtual 76, 3) := by decide +kernel
theorem d_L_law_529 : decode b_L_law 529 = .ok (.if_icmp .eq 120, 3) := by decide +kernel
theorem d_L_law_532 : decode b_L_law 532 = .ok (.iconst 0, 1) := by decide +kernel
theorem d_L_law_533 : decode b_L_law 533 = .ok (.ireturn, 1) := by decide +kernel
theorem d_L_law_534 : decode b_L_law 534 = .ok (.aload_n 1, 1) := by decide +kernel
theorem d_L_law_535 : decode b_L_law 535 = .ok (.aload_n 0, 1) := by decide +kernel
theorem d_L_law_536 : decode b_L_law 536 = .ok (.iload_n 3, 1) := by decide +kernel
theorem d_L_law_537 : decode b_L_law 537 = .ok (.iconst 1, 1) := by decide +kernel
theorem d_L_law_538 : decode b_L_law 538 = .ok (.iadd, 1) := by decide +kernel
theorem d_L_law_539 : decode b_L_law 539 = .ok (.iaload, 1) := by decide +kernel
theorem d_L_law_540 : decode b_L_law 540 = .ok (.aload_n 0, 1) := by decide +kernel
theorem d_L_law_541 : decode b_L_law 541 = .ok (.iload_n 3, 1) := by decide +kernel
theorem d_L_law_542 : decode b_L_law 542 = .ok (.iconst 2, 1) := by decide +kernel
theorem d_L_law_543 : decode b_L_law 543 = .ok (.iadd, 1) := by decide +kernel
theorem d_L_law_544 : decode b_L_law 544 = .ok (.iaload, 1) := by decide +kernel
theorem d_L_law_545 : decode b_L_law 545 = .ok (.ifCond .eq 7, 3) := by decide +kernel
theorem d_L_law_548 : decode b_L_law 548 = .ok (.iconst 1, 1) := by decide +kernel
theorem d_L_law_549 : decode b_L_law 549 = .ok (.goto 4, 3) := by decide +kernel
theorem d_L_law_552 : decode b_L_law 552 = .ok (.iconst 0, 1) := by decide +kernel
theorem d_L_law_553 : decode b_L_law 553 = .ok (.invokevirtual 77, 3) := by decide +kernel
theorem d_L_law_556 : decode b_L_law 556 = .ok (.aload_n 2, 1) := by decide +kernel
theorem d_L_law_557 : decode b_L_law 557 = .ok (.aload_n 0, 1) := by decide +kernel
theorem d_L_law_558 : decode b_L_law 558 = .ok (.iload_n 3, 1) := by decide +kernel
theorem d_L_law_559 : decode b_L_law 559 = .ok (.iconst 1, 1) := by decide +kernel
theorem d_L_law_560 : decode b_L_law 560 = .ok (.iadd, 1) := by decide +kernel
theorem d_L_law_561 : decode b_L_law 561 = .ok (.iaload, 1) := by decide +kernel
theorem d_L_law_562 : decode b_L_law 562 = .ok (.aload_n 0, 1) := by decide +kernel
theorem d_L_law_563 : decode b_L_law 563 = .ok (.iload_n 3, 1) := by decide +kernel
theorem d_L_law_564 : decode b_L_law 564 = .ok (.iconst 2, 1) := by decide +kernel
theorem d_L_law_565 : decode b_L_law 565 = .ok (.iadd, 1) := by decide +kernel
theorem d_L_law_566 : decode b_L_law 566 = .ok (.iaload, 1) := by decide +kernel
theorem d_L_law_567 : decode b_L_law 567 = .ok (.ifCond .eq 7, 3) := by decide +kernel
theorem d_L_law_570 : decode b_L_law 570 = .ok (.iconst 1, 1) := by decide +kernel
theorem d_L_law_571 : decode b_L_law 571 = .ok (.goto 4, 3) := by decide +kernel
theorem d_L_law_574 : decode b_L_law 574 = .ok (.iconst 0, 1) := by decide +kernel
theorem d_L_law_575 : decode b_L_law 575 = .ok (.invokevirtual 81, 3) := by decide +kernel
theorem d_L_law_578 : decode b_L_law 578 = .ok (.if_icmp .eq 71, 3) := by decide +kernel
theorem d_L_law_581 : decode b_L_law 581 = .ok (.iconst 0, 1) := by decide +kernel
theorem d_L_law_582 : decode b_L_law 582 = .ok (.ireturn, 1) := by decide +kernel
theorem d_L_law_583 : decode b_L_law 583 = .ok (.aload_n 1, 1) := by decide +kernel
theorem d_L_law_584 : decode b_L_law 584 = .ok (.aload_n 0, 1) := by decide +kernel
theorem d_L_law_585 : decode b_L_law 585 = .ok (.iload_n 3, 1) := by decide +kernel
theorem d_L_law_586 : decode b_L_law 586 = .ok (.iconst 1, 1) := by decide +kernel
theorem d_L_law_587 : decode b_L_law 587 = .ok (.iadd, 1) := by decide +kernel
theorem d_L_law_588 : decode b_L_law 588 = .ok (.iaload, 1) := by decide +kernel
theorem d_L_law_589 : decode b_L_law 589 = .ok (.aload_n 0, 1) := by decide +kernel
theorem d_L_law_590 : decode b_L_law 590 = .ok (.iload_n 3, 1) := by decide +kernel
theorem d_L_law_591 : decode b_L_law 591 = .ok (.iconst 2, 1) := by decide +kernel
theorem d_L_law_592 : decode b_L_law 592 = .ok (.iadd, 1) := by decide +kernel
theorem d_L_law_593 : decode b_L_law 593 = .ok (.iaload, 1) := by decide +kernel
theorem d_L_law_594 : decode b_L_law 594 = .ok (.invokevirtual 82, 3) := by decide +kernel
theorem d_L_law_597 : decode b_L_law 597 = .ok (.aload_n 2, 1) := by decide +kernel
theorem d_L_law_598 : decode b_L_law 598 = .ok (.aload_n 0, 1) := by decide +kernel
theorem d_L_law_599 : decode b_L_law 599 = .ok (.iload_n 3, 1) := by decide +kernel
theorem d_L_law_600 : decode b_L_law 600 = .ok (.iconst 1, 1) := by decide +kernel
theorem d_L_law_601 : decode b_L_law 601 = .ok (.iadd, 1) := by decide +kernel
theorem d_L_law_602 : decode b_L_law 602 = .ok (.iaload, 1) := by decide +kernel
theorem d_L_law_603 : decode b_L_law 603 = .ok (.aload_n 0, 1) := by decide +kernel
theorem d_L_law_604 : decode b_L_law 604 = .ok (.iload_n 3, 1) := by decide +kernel
theorem d_L_law_605 : decode b_L_law 605 = .ok (.iconst 2, 1) := by decide +kernel
theorem d_L_law_606 : decode b_L_law 606 = .ok (.iadd, 1) := by decide +kernel
theorem d_L_law_607 : decode b_L_law 607 = .ok (.iaload, 1) := by decide +kernel
theorem d_L_law_608 : decode b_L_law 608 = .ok (.invokevirtual 85, 3) := by decide +kernel
theorem d_L_law_611 : decode b_L_law 611 = .ok (.if_icmp .eq 38, 3) := by decide +kernel
theorem d_L_law_614 : decode b_L_law 614 = .ok (.iconst 0, 1) := by decide +kernel
theorem d_L_law_615 : decode b_L_law 615 = .ok (.ireturn, 1) := by decide +kernel
theorem d_L_law_616 : decode b_L_law 616 = .ok (.aload_n 1, 1) := by decide +kernel
theorem d_L_law_617 : decode b_L_law 617 = .ok (.aload_n 0, 1) := by decide +kernel
theorem d_L_law_618 : decode b_L_law 618 = .ok (.iload_n 3, 1) := by decide +kernel
theorem d_L_law_619 : decode b_L_law 619 = .ok (.iconst 1, 1) := by decide +kernel
theorem d_L_law_620 : decode b_L_law 620 = .ok (.iadd, 1) := by decide +kernel
theorem d_L_law_621 : decode b_L_law 621 = .ok (.iaload, 1) := by decide +kernel
theorem d_L_law_622 : decode b_L_law 622 = .ok (.aload_n 0, 1) := by decide +kernel
theorem d_L_law_623 : decode b_L_law 623 = .ok (.iload_n 3, 1) := by decide +kernel
theorem d_L_law_624 : decode b_L_law 624 = .ok (.iconst 2, 1) := by decide +kernel
theorem d_L_law_625 : decode b_L_law 625 = .ok (.iadd, 1) := by decide +kernel
theorem d_L_law_626 : decode b_L_law 626 = .ok (.iaload, 1) := by decide +kernel
theorem d_L_law_627 : decode b_L_law 627 = .ok (.invokevirtual 86, 3) := by decide +kernel
theorem d_L_law_630 : decode b_L_law 630 = .ok (.aload_n 2, 1) := by decide +kernel
theorem d_L_law_631 : decode b_L_law 631 = .ok (.aload_n 0, 1) := by decide +kernel
theorem d_L_law_632 : decode b_L_law 632 = .ok (.iload_n 3, 1) := by decide +kernel
theorem d_L_law_633 : decode b_L_law 633 = .ok (.iconst 1, 1) := by decide +kernel
theorem d_L_law_634 : decode b_L_law 634 = .ok (.iadd, 1) := by decide +kernel
theorem d_L_law_635 : decode b_L_law 635 = .ok (.iaload, 1) := by decide +kernel
theorem d_L_law_636 : decode b_L_law 636 = .ok (.aload_n 0, 1) := by decide +kernel
theorem d_L_law_637 : decode b_L_law 637 = .ok (.iload_n 3, 1) := by decide +kernel
theorem d_L_law_638 : decode b_L_law 638 = .ok (.iconst 2, 1) := by decide +kernel
theorem d_L_law_639 : decode b_L_law 639 = .ok (.iadd, 1) := by decide +kernel
theorem d_L_law_640 : decode b_L_law 640 = .ok (.iaload, 1) := by decide +kernel
theorem d_L_law_641 : decode b_L_law 641 = .ok (.invokevirtual 89, 3) := by decide +kernel
theorem d_L_law_644 : decode b_L_law 644 = .ok (.if_icmp .eq 5, 3) := by decide +kernel
theorem d_L_law_647 : decode b_L_law 647 = .ok (.iconst 0, 1) := by decide +kernel
theorem d_L_law_648 : decode b_L_law 648 = .ok (.ireturn, 1) := by decide +kernel
theorem d_L_law_649 : decode b_L_law 649 = .ok (.iinc 3 4, 3) := by decide +kernel
theorem d_L_law_652 : decode b_L_law 652 = .ok (.goto (-624), 3) := by decide +kernel
theorem d_L_law_655 : decode b_L_law 655 = .ok (.iconst 1, 1) := by decide +kernel
theorem d_L_law_656 : decode b_L_law 656 = .ok (.ireturn, 1) := by decide +kernel
