theorem d_Law_cell_0 : decode b_Law_cell 0 = .ok (.iload_n 1, 1) := by decide +kernel
theorem d_Law_cell_1 : decode b_Law_cell 1 = .ok (.aload_n 0, 1) := by decide +kernel
theorem d_Law_cell_2 : decode b_Law_cell 2 = .ok (.arraylength, 1) := by decide +kernel
theorem d_Law_cell_3 : decode b_Law_cell 3 = .ok (.if_icmp .ge 9, 3) := by decide +kernel
theorem d_Law_cell_6 : decode b_Law_cell 6 = .ok (.aload_n 0, 1) := by decide +kernel
theorem d_Law_cell_7 : decode b_Law_cell 7 = .ok (.iload_n 1, 1) := by decide +kernel
theorem d_Law_cell_8 : decode b_Law_cell 8 = .ok (.iaload, 1) := by decide +kernel
theorem d_Law_cell_9 : decode b_Law_cell 9 = .ok (.goto 4, 3) := by decide +kernel
theorem d_Law_cell_12 : decode b_Law_cell 12 = .ok (.iconst 0, 1) := by decide +kernel
theorem d_Law_cell_13 : decode b_Law_cell 13 = .ok (.ireturn, 1) := by decide +kernel
theorem d_Law_law_0 : decode code 0 = .ok (.new 7, 3) := by decide +kernel
theorem d_Law_law_3 : decode code 3 = .ok (.dup, 1) := by decide +kernel
theorem d_Law_law_4 : decode code 4 = .ok (.aload_n 0, 1) := by decide +kernel
theorem d_Law_law_5 : decode code 5 = .ok (.iconst 0, 1) := by decide +kernel
theorem d_Law_law_6 : decode code 6 = .ok (.invokestatic 9, 3) := by decide +kernel
theorem d_Law_law_9 : decode code 9 = .ok (.aload_n 0, 1) := by decide +kernel
theorem d_Law_law_10 : decode code 10 = .ok (.iconst 1, 1) := by decide +kernel
theorem d_Law_law_11 : decode code 11 = .ok (.invokestatic 9, 3) := by decide +kernel
theorem d_Law_law_14 : decode code 14 = .ok (.invokespecial 15, 3) := by decide +kernel
theorem d_Law_law_17 : decode code 17 = .ok (.astore_n 1, 1) := by decide +kernel
theorem d_Law_law_18 : decode code 18 = .ok (.new 18, 3) := by decide +kernel
theorem d_Law_law_21 : decode code 21 = .ok (.dup, 1) := by decide +kernel
theorem d_Law_law_22 : decode code 22 = .ok (.aload_n 0, 1) := by decide +kernel
theorem d_Law_law_23 : decode code 23 = .ok (.iconst 0, 1) := by decide +kernel
theorem d_Law_law_24 : decode code 24 = .ok (.invokestatic 9, 3) := by decide +kernel
theorem d_Law_law_27 : decode code 27 = .ok (.aload_n 0, 1) := by decide +kernel
theorem d_Law_law_28 : decode code 28 = .ok (.iconst 1, 1) := by decide +kernel
theorem d_Law_law_29 : decode code 29 = .ok (.invokestatic 9, 3) := by decide +kernel
theorem d_Law_law_32 : decode code 32 = .ok (.invokespecial 20, 3) := by decide +kernel
theorem d_Law_law_35 : decode code 35 = .ok (.astore_n 2, 1) := by decide +kernel
theorem d_Law_law_36 : decode code 36 = .ok (.iconst 2, 1) := by decide +kernel
theorem d_Law_law_37 : decode code 37 = .ok (.istore_n 3, 1) := by decide +kernel
theorem d_Law_law_38 : decode code 38 = .ok (.iload_n 3, 1) := by decide +kernel
theorem d_Law_law_39 : decode code 39 = .ok (.aload_n 0, 1) := by decide +kernel
theorem d_Law_law_40 : decode code 40 = .ok (.arraylength, 1) := by decide +kernel
theorem d_Law_law_41 : decode code 41 = .ok (.bipush 6, 2) := by decide +kernel
theorem d_Law_law_43 : decode code 43 = .ok (.isub, 1) := by decide +kernel
theorem d_Law_law_44 : decode code 44 = .ok (.if_icmp .gt 356, 3) := by decide +kernel
theorem d_Law_law_47 : decode code 47 = .ok (.aload_n 0, 1) := by decide +kernel
theorem d_Law_law_48 : decode code 48 = .ok (.iload_n 3, 1) := by decide +kernel
theorem d_Law_law_49 : decode code 49 = .ok (.iaload, 1) := by decide +kernel
theorem d_Law_law_50 : decode code 50 = .ok (.bipush 15, 2) := by decide +kernel
theorem d_Law_law_52 : decode code 52 = .ok (.iand, 1) := by decide +kernel
theorem d_Law_law_53 : decode code 53 = .ok (.tableswitch 341 0 9 #[55, 78, 101, 124, 187, 200, 223, 236, 249, 318], 55) := by decide +kernel
theorem d_Law_law_108 : decode code 108 = .ok (.aload_n 1, 1) := by decide +kernel
theorem d_Law_law_109 : decode code 109 = .ok (.aload_n 0, 1) := by decide +kernel
theorem d_Law_law_110 : decode code 110 = .ok (.iload_n 3, 1) := by decide +kernel
theorem d_Law_law_111 : decode code 111 = .ok (.iconst 1, 1) := by decide +kernel
theorem d_Law_law_112 : decode code 112 = .ok (.iadd, 1) := by decide +kernel
theorem d_Law_law_113 : decode code 113 = .ok (.iaload, 1) := by decide +kernel
theorem d_Law_law_114 : decode code 114 = .ok (.invokevirtual 21, 3) := by decide +kernel
theorem d_Law_law_117 : decode code 117 = .ok (.aload_n 2, 1) := by decide +kernel
theorem d_Law_law_118 : decode code 118 = .ok (.aload_n 0, 1) := by decide +kernel
theorem d_Law_law_119 : decode code 119 = .ok (.iload_n 3, 1) := by decide +kernel
theorem d_Law_law_120 : decode code 120 = .ok (.iconst 1, 1) := by decide +kernel
theorem d_Law_law_121 : decode code 121 = .ok (.iadd, 1) := by decide +kernel
theorem d_Law_law_122 : decode code 122 = .ok (.iaload, 1) := by decide +kernel
theorem d_Law_law_123 : decode code 123 = .ok (.invokevirtual 25, 3) := by decide +kernel
theorem d_Law_law_126 : decode code 126 = .ok (.if_icmp .eq 268, 3) := by decide +kernel
theorem d_Law_law_129 : decode code 129 = .ok (.iconst 0, 1) := by decide +kernel
theorem d_Law_law_130 : decode code 130 = .ok (.ireturn, 1) := by decide +kernel
theorem d_Law_law_131 : decode code 131 = .ok (.aload_n 1, 1) := by decide +kernel
theorem d_Law_law_132 : decode code 132 = .ok (.aload_n 0, 1) := by decide +kernel
theorem d_Law_law_133 : decode code 133 = .ok (.iload_n 3, 1) := by decide +kernel
theorem d_Law_law_134 : decode code 134 = .ok (.iconst 1, 1) := by decide +kernel
theorem d_Law_law_135 : decode code 135 = .ok (.iadd, 1) := by decide +kernel
theorem d_Law_law_136 : decode code 136 = .ok (.iaload, 1) := by decide +kernel
theorem d_Law_law_137 : decode code 137 = .ok (.invokevirtual 26, 3) := by decide +kernel
theorem d_Law_law_140 : decode code 140 = .ok (.aload_n 2, 1) := by decide +kernel
theorem d_Law_law_141 : decode code 141 = .ok (.aload_n 0, 1) := by decide +kernel
theorem d_Law_law_142 : decode code 142 = .ok (.iload_n 3, 1) := by decide +kernel
theorem d_Law_law_143 : decode code 143 = .ok (.iconst 1, 1) := by decide +kernel
theorem d_Law_law_144 : decode code 144 = .ok (.iadd, 1) := by decide +kernel
theorem d_Law_law_145 : decode code 145 = .ok (.iaload, 1) := by decide +kernel
theorem d_Law_law_146 : decode code 146 = .ok (.invokevirtual 29, 3) := by decide +kernel
theorem d_Law_law_149 : decode code 149 = .ok (.if_icmp .eq 245, 3) := by decide +kernel
theorem d_Law_law_152 : decode code 152 = .ok (.iconst 0, 1) := by decide +kernel
theorem d_Law_law_153 : decode code 153 = .ok (.ireturn, 1) := by decide +kernel
theorem d_Law_law_154 : decode code 154 = .ok (.aload_n 1, 1) := by decide +kernel
theorem d_Law_law_155 : decode code 155 = .ok (.aload_n 0, 1) := by decide +kernel
theorem d_Law_law_156 : decode code 156 = .ok (.iload_n 3, 1) := by decide +kernel
theorem d_Law_law_157 : decode code 157 = .ok (.iconst 1, 1) := by decide +kernel
theorem d_Law_law_158 : decode code 158 = .ok (.iadd, 1) := by decide +kernel
theorem d_Law_law_159 : decode code 159 = .ok (.iaload, 1) := by decide +kernel
theorem d_Law_law_160 : decode code 160 = .ok (.invokevirtual 30, 3) := by decide +kernel
theorem d_Law_law_163 : decode code 163 = .ok (.aload_n 2, 1) := by decide +kernel
theorem d_Law_law_164 : decode code 164 = .ok (.aload_n 0, 1) := by decide +kernel
theorem d_Law_law_165 : decode code 165 = .ok (.iload_n 3, 1) := by decide +kernel
theorem d_Law_law_166 : decode code 166 = .ok (.iconst 1, 1) := by decide +kernel
theorem d_Law_law_167 : decode code 167 = .ok (.iadd, 1) := by decide +kernel
theorem d_Law_law_168 : decode code 168 = .ok (.iaload, 1) := by decide +kernel
theorem d_Law_law_169 : decode code 169 = .ok (.invokevirtual 33, 3) := by decide +kernel
theorem d_Law_law_172 : decode code 172 = .ok (.if_icmp .eq 222, 3) := by decide +kernel
theorem d_Law_law_175 : decode code 175 = .ok (.iconst 0, 1) := by decide +kernel
theorem d_Law_law_176 : decode code 176 = .ok (.ireturn, 1) := by decide +kernel
theorem d_Law_law_177 : decode code 177 = .ok (.aload_n 1, 1) := by decide +kernel
theorem d_Law_law_178 : decode code 178 = .ok (.aload_n 0, 1) := by decide +kernel
theorem d_Law_law_179 : decode code 179 = .ok (.iload_n 3, 1) := by decide +kernel
theorem d_Law_law_180 : decode code 180 = .ok (.iconst 1, 1) := by decide +kernel
theorem d_Law_law_181 : decode code 181 = .ok (.iadd, 1) := by decide +kernel
theorem d_Law_law_182 : decode code 182 = .ok (.iaload, 1) := by decide +kernel
theorem d_Law_law_183 : decode code 183 = .ok (.aload_n 0, 1) := by decide +kernel
theorem d_Law_law_184 : decode code 184 = .ok (.iload_n 3, 1) := by decide +kernel
theorem d_Law_law_185 : decode code 185 = .ok (.iconst 2, 1) := by decide +kernel
theorem d_Law_law_186 : decode code 186 = .ok (.iadd, 1) := by decide +kernel
theorem d_Law_law_187 : decode code 187 = .ok (.iaload, 1) := by decide +kernel
theorem d_Law_law_188 : decode code 188 = .ok (.aload_n 0, 1) := by decide +kernel
theorem d_Law_law_189 : decode code 189 = .ok (.iload_n 3, 1) := by decide +kernel
theorem d_Law_law_190 : decode code 190 = .ok (.iconst 3, 1) := by decide +kernel
theorem d_Law_law_191 : decode code 191 = .ok (.iadd, 1) := by decide +kernel
theorem d_Law_law_192 : decode code 192 = .ok (.iaload, 1) := by decide +kernel
theorem d_Law_law_193 : decode code 193 = .ok (.aload_n 0, 1) := by decide +kernel
theorem d_Law_law_194 : decode code 194 = .ok (.iload_n 3, 1) := by decide +kernel
theorem d_Law_law_195 : decode code 195 = .ok (.iconst 4, 1) := by decide +kernel
theorem d_Law_law_196 : decode code 196 = .ok (.iadd, 1) := by decide +kernel
theorem d_Law_law_197 : decode code 197 = .ok (.iaload, 1) := by decide +kernel
theorem d_Law_law_198 : decode code 198 = .ok (.aload_n 0, 1) := by decide +kernel
theorem d_Law_law_199 : decode code 199 = .ok (.iload_n 3, 1) := by decide +kernel
theorem d_Law_law_200 : decode code 200 = .ok (.iconst 5, 1) := by decide +kernel
theorem d_Law_law_201 : decode code 201 = .ok (.iadd, 1) := by decide +kernel
theorem d_Law_law_202 : decode code 202 = .ok (.iaload, 1) := by decide +kernel
theorem d_Law_law_203 : decode code 203 = .ok (.invokevirtual 34, 3) := by decide +kernel
theorem d_Law_law_206 : decode code 206 = .ok (.aload_n 2, 1) := by decide +kernel
theorem d_Law_law_207 : decode code 207 = .ok (.aload_n 0, 1) := by decide +kernel
theorem d_Law_law_208 : decode code 208 = .ok (.iload_n 3, 1) := by decide +kernel
theorem d_Law_law_209 : decode code 209 = .ok (.iconst 1, 1) := by decide +kernel
theorem d_Law_law_210 : decode code 210 = .ok (.iadd, 1) := by decide +kernel
theorem d_Law_law_211 : decode code 211 = .ok (.iaload, 1) := by decide +kernel
theorem d_Law_law_212 : decode code 212 = .ok (.aload_n 0, 1) := by decide +kernel
theorem d_Law_law_213 : decode code 213 = .ok (.iload_n 3, 1) := by decide +kernel
theorem d_Law_law_214 : decode code 214 = .ok (.iconst 2, 1) := by decide +kernel
theorem d_Law_law_215 : decode code 215 = .ok (.iadd, 1) := by decide +kernel
theorem d_Law_law_216 : decode code 216 = .ok (.iaload, 1) := by decide +kernel
theorem d_Law_law_217 : decode code 217 = .ok (.aload_n 0, 1) := by decide +kernel
theorem d_Law_law_218 : decode code 218 = .ok (.iload_n 3, 1) := by decide +kernel
theorem d_Law_law_219 : decode code 219 = .ok (.iconst 3, 1) := by decide +kernel
theorem d_Law_law_220 : decode code 220 = .ok (.iadd, 1) := by decide +kernel
theorem d_Law_law_221 : decode code 221 = .ok (.iaload, 1) := by decide +kernel
theorem d_Law_law_222 : decode code 222 = .ok (.aload_n 0, 1) := by decide +kernel
theorem d_Law_law_223 : decode code 223 = .ok (.iload_n 3, 1) := by decide +kernel
theorem d_Law_law_224 : decode code 224 = .ok (.iconst 4, 1) := by decide +kernel
theorem d_Law_law_225 : decode code 225 = .ok (.iadd, 1) := by decide +kernel
theorem d_Law_law_226 : decode code 226 = .ok (.iaload, 1) := by decide +kernel
theorem d_Law_law_227 : decode code 227 = .ok (.aload_n 0, 1) := by decide +kernel
theorem d_Law_law_228 : decode code 228 = .ok (.iload_n 3, 1) := by decide +kernel
theorem d_Law_law_229 : decode code 229 = .ok (.iconst 5, 1) := by decide +kernel
theorem d_Law_law_230 : decode code 230 = .ok (.iadd, 1) := by decide +kernel
theorem d_Law_law_231 : decode code 231 = .ok (.iaload, 1) := by decide +kernel
theorem d_Law_law_232 : decode code 232 = .ok (.invokevirtual 38, 3) := by decide +kernel
theorem d_Law_law_235 : decode code 235 = .ok (.if_icmp .eq 159, 3) := by decide +kernel
theorem d_Law_law_238 : decode code 238 = .ok (.iconst 0, 1) := by decide +kernel
theorem d_Law_law_239 : decode code 239 = .ok (.ireturn, 1) := by decide +kernel
theorem d_Law_law_240 : decode code 240 = .ok (.aload_n 1, 1) := by decide +kernel
theorem d_Law_law_241 : decode code 241 = .ok (.invokevirtual 39, 3) := by decide +kernel
theorem d_Law_law_244 : decode code 244 = .ok (.aload_n 2, 1) := by decide +kernel
theorem d_Law_law_245 : decode code 245 = .ok (.invokevirtual 43, 3) := by decide +kernel
theorem d_Law_law_248 : decode code 248 = .ok (.if_icmp .eq 146, 3) := by decide +kernel
theorem d_Law_law_251 : decode code 251 = .ok (.iconst 0, 1) := by decide +kernel
theorem d_Law_law_252 : decode code 252 = .ok (.ireturn, 1) := by decide +kernel
theorem d_Law_law_253 : decode code 253 = .ok (.aload_n 1, 1) := by decide +kernel
theorem d_Law_law_254 : decode code 254 = .ok (.aload_n 0, 1) := by decide +kernel
theorem d_Law_law_255 : decode code 255 = .ok (.iload_n 3, 1) := by decide +kernel
theorem d_Law_law_256 : decode code 256 = .ok (.iconst 1, 1) := by decide +kernel
theorem d_Law_law_257 : decode code 257 = .ok (.iadd, 1) := by decide +kernel
theorem d_Law_law_258 : decode code 258 = .ok (.iaload, 1) := by decide +kernel
theorem d_Law_law_259 : decode code 259 = .ok (.invokevirtual 44, 3) := by decide +kernel
theorem d_Law_law_262 : decode code 262 = .ok (.aload_n 2, 1) := by decide +kernel
theorem d_Law_law_263 : decode code 263 = .ok (.aload_n 0, 1) := by decide +kernel
theorem d_Law_law_264 : decode code 264 = .ok (.iload_n 3, 1) := by decide +kernel
theorem d_Law_law_265 : decode code 265 = .ok (.iconst 1, 1) := by decide +kernel
theorem d_Law_law_266 : decode code 266 = .ok (.iadd, 1) := by decide +kernel
theorem d_Law_law_267 : decode code 267 = .ok (.iaload, 1) := by decide +kernel
theorem d_Law_law_268 : decode code 268 = .ok (.invokevirtual 47, 3) := by decide +kernel
theorem d_Law_law_271 : decode code 271 = .ok (.if_icmp .eq 123, 3) := by decide +kernel
theorem d_Law_law_274 : decode code 274 = .ok (.iconst 0, 1) := by decide +kernel
theorem d_Law_law_275 : decode code 275 = .ok (.ireturn, 1) := by decide +kernel
theorem d_Law_law_276 : decode code 276 = .ok (.aload_n 1, 1) := by decide +kernel
theorem d_Law_law_277 : decode code 277 = .ok (.invokevirtual 48, 3) := by decide +kernel
theorem d_Law_law_280 : decode code 280 = .ok (.aload_n 2, 1) := by decide +kernel
theorem d_Law_law_281 : decode code 281 = .ok (.invokevirtual 51, 3) := by decide +kernel
theorem d_Law_law_284 : decode code 284 = .ok (.if_icmp .eq 110, 3) := by decide +kernel
theorem d_Law_law_287 : decode code 287 = .ok (.iconst 0, 1) := by decide +kernel
theorem d_Law_law_288 : decode code 288 = .ok (.ireturn, 1) := by decide +kernel
theorem d_Law_law_289 : decode code 289 = .ok (.aload_n 1, 1) := by decide +kernel
theorem d_Law_law_290 : decode code 290 = .ok (.invokevirtual 52, 3) := by decide +kernel
theorem d_Law_law_293 : decode code 293 = .ok (.aload_n 2, 1) := by decide +kernel
theorem d_Law_law_294 : decode code 294 = .ok (.invokevirtual 55, 3) := by decide +kernel
theorem d_Law_law_297 : decode code 297 = .ok (.if_icmp .eq 97, 3) := by decide +kernel
theorem d_Law_law_300 : decode code 300 = .ok (.iconst 0, 1) := by decide +kernel
theorem d_Law_law_301 : decode code 301 = .ok (.ireturn, 1) := by decide +kernel
theorem d_Law_law_302 : decode code 302 = .ok (.aload_n 1, 1) := by decide +kernel
theorem d_Law_law_303 : decode code 303 = .ok (.aload_n 0, 1) := by decide +kernel
theorem d_Law_law_304 : decode code 304 = .ok (.iload_n 3, 1) := by decide +kernel
theorem d_Law_law_305 : decode code 305 = .ok (.iconst 1, 1) := by decide +kernel
theorem d_Law_law_306 : decode code 306 = .ok (.iadd, 1) := by decide +kernel
theorem d_Law_law_307 : decode code 307 = .ok (.iaload, 1) := by decide +kernel
theorem d_Law_law_308 : decode code 308 = .ok (.aload_n 0, 1) := by decide +kernel
theorem d_Law_law_309 : decode code 309 = .ok (.iload_n 3, 1) := by decide +kernel
theorem d_Law_law_310 : decode code 310 = .ok (.iconst 2, 1) := by decide +kernel
theorem d_Law_law_311 : decode code 311 = .ok (.iadd, 1) := by decide +kernel
theorem d_Law_law_312 : decode code 312 = .ok (.iaload, 1) := by decide +kernel
theorem d_Law_law_313 : decode code 313 = .ok (.aload_n 0, 1) := by decide +kernel
theorem d_Law_law_314 : decode code 314 = .ok (.iload_n 3, 1) := by decide +kernel
theorem d_Law_law_315 : decode code 315 = .ok (.iconst 3, 1) := by decide +kernel
theorem d_Law_law_316 : decode code 316 = .ok (.iadd, 1) := by decide +kernel
theorem d_Law_law_317 : decode code 317 = .ok (.iaload, 1) := by decide +kernel
theorem d_Law_law_318 : decode code 318 = .ok (.aload_n 0, 1) := by decide +kernel
theorem d_Law_law_319 : decode code 319 = .ok (.iload_n 3, 1) := by decide +kernel
theorem d_Law_law_320 : decode code 320 = .ok (.iconst 4, 1) := by decide +kernel
theorem d_Law_law_321 : decode code 321 = .ok (.iadd, 1) := by decide +kernel
theorem d_Law_law_322 : decode code 322 = .ok (.iaload, 1) := by decide +kernel
theorem d_Law_law_323 : decode code 323 = .ok (.ifCond .eq 7, 3) := by decide +kernel
theorem d_Law_law_326 : decode code 326 = .ok (.iconst 1, 1) := by decide +kernel
theorem d_Law_law_327 : decode code 327 = .ok (.goto 4, 3) := by decide +kernel
theorem d_Law_law_330 : decode code 330 = .ok (.iconst 0, 1) := by decide +kernel
theorem d_Law_law_331 : decode code 331 = .ok (.invokevirtual 56, 3) := by decide +kernel
theorem d_Law_law_334 : decode code 334 = .ok (.aload_n 2, 1) := by decide +kernel
theorem d_Law_law_335 : decode code 335 = .ok (.aload_n 0, 1) := by decide +kernel
theorem d_Law_law_336 : decode code 336 = .ok (.iload_n 3, 1) := by decide +kernel
theorem d_Law_law_337 : decode code 337 = .ok (.iconst 1, 1) := by decide +kernel
theorem d_Law_law_338 : decode code 338 = .ok (.iadd, 1) := by decide +kernel
theorem d_Law_law_339 : decode code 339 = .ok (.iaload, 1) := by decide +kernel
theorem d_Law_law_340 : decode code 340 = .ok (.aload_n 0, 1) := by decide +kernel
theorem d_Law_law_341 : decode code 341 = .ok (.iload_n 3, 1) := by decide +kernel
theorem d_Law_law_342 : decode code 342 = .ok (.iconst 2, 1) := by decide +kernel
theorem d_Law_law_343 : decode code 343 = .ok (.iadd, 1) := by decide +kernel
theorem d_Law_law_344 : decode code 344 = .ok (.iaload, 1) := by decide +kernel
theorem d_Law_law_345 : decode code 345 = .ok (.aload_n 0, 1) := by decide +kernel
theorem d_Law_law_346 : decode code 346 = .ok (.iload_n 3, 1) := by decide +kernel
theorem d_Law_law_347 : decode code 347 = .ok (.iconst 3, 1) := by decide +kernel
theorem d_Law_law_348 : decode code 348 = .ok (.iadd, 1) := by decide +kernel
theorem d_Law_law_349 : decode code 349 = .ok (.iaload, 1) := by decide +kernel
theorem d_Law_law_350 : decode code 350 = .ok (.aload_n 0, 1) := by decide +kernel
theorem d_Law_law_351 : decode code 351 = .ok (.iload_n 3, 1) := by decide +kernel
theorem d_Law_law_352 : decode code 352 = .ok (.iconst 4, 1) := by decide +kernel
theorem d_Law_law_353 : decode code 353 = .ok (.iadd, 1) := by decide +kernel
theorem d_Law_law_354 : decode code 354 = .ok (.iaload, 1) := by decide +kernel
theorem d_Law_law_355 : decode code 355 = .ok (.ifCond .eq 7, 3) := by decide +kernel
theorem d_Law_law_358 : decode code 358 = .ok (.iconst 1, 1) := by decide +kernel
theorem d_Law_law_359 : decode code 359 = .ok (.goto 4, 3) := by decide +kernel
theorem d_Law_law_362 : decode code 362 = .ok (.iconst 0, 1) := by decide +kernel
theorem d_Law_law_363 : decode code 363 = .ok (.invokevirtual 60, 3) := by decide +kernel
theorem d_Law_law_366 : decode code 366 = .ok (.if_icmp .eq 28, 3) := by decide +kernel
theorem d_Law_law_369 : decode code 369 = .ok (.iconst 0, 1) := by decide +kernel
theorem d_Law_law_370 : decode code 370 = .ok (.ireturn, 1) := by decide +kernel
theorem d_Law_law_371 : decode code 371 = .ok (.aload_n 1, 1) := by decide +kernel
theorem d_Law_law_372 : decode code 372 = .ok (.aload_n 0, 1) := by decide +kernel
theorem d_Law_law_373 : decode code 373 = .ok (.iload_n 3, 1) := by decide +kernel
theorem d_Law_law_374 : decode code 374 = .ok (.iconst 1, 1) := by decide +kernel
theorem d_Law_law_375 : decode code 375 = .ok (.iadd, 1) := by decide +kernel
theorem d_Law_law_376 : decode code 376 = .ok (.iaload, 1) := by decide +kernel
theorem d_Law_law_377 : decode code 377 = .ok (.invokevirtual 61, 3) := by decide +kernel
theorem d_Law_law_380 : decode code 380 = .ok (.aload_n 2, 1) := by decide +kernel
theorem d_Law_law_381 : decode code 381 = .ok (.aload_n 0, 1) := by decide +kernel
theorem d_Law_law_382 : decode code 382 = .ok (.iload_n 3, 1) := by decide +kernel
theorem d_Law_law_383 : decode code 383 = .ok (.iconst 1, 1) := by decide +kernel
theorem d_Law_law_384 : decode code 384 = .ok (.iadd, 1) := by decide +kernel
theorem d_Law_law_385 : decode code 385 = .ok (.iaload, 1) := by decide +kernel
theorem d_Law_law_386 : decode code 386 = .ok (.invokevirtual 64, 3) := by decide +kernel
theorem d_Law_law_389 : decode code 389 = .ok (.if_icmp .eq 5, 3) := by decide +kernel
theorem d_Law_law_392 : decode code 392 = .ok (.iconst 0, 1) := by decide +kernel
theorem d_Law_law_393 : decode code 393 = .ok (.ireturn, 1) := by decide +kernel
theorem d_Law_law_394 : decode code 394 = .ok (.iinc 3 6, 3) := by decide +kernel
theorem d_Law_law_397 : decode code 397 = .ok (.goto (-359), 3) := by decide +kernel
theorem d_Law_law_400 : decode code 400 = .ok (.iconst 1, 1) := by decide +kernel
theorem d_Law_law_401 : decode code 401 = .ok (.ireturn, 1) := by decide +kernel
