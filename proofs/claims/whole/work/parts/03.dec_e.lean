theorem d_W_cell_0 : decode method_2_code 0 = .ok (.iload_n 1, 1) := by decide +kernel
theorem d_W_cell_1 : decode method_2_code 1 = .ok (.aload_n 0, 1) := by decide +kernel
theorem d_W_cell_2 : decode method_2_code 2 = .ok (.arraylength, 1) := by decide +kernel
theorem d_W_cell_3 : decode method_2_code 3 = .ok (.if_icmp .ge 9, 3) := by decide +kernel
theorem d_W_cell_6 : decode method_2_code 6 = .ok (.aload_n 0, 1) := by decide +kernel
theorem d_W_cell_7 : decode method_2_code 7 = .ok (.iload_n 1, 1) := by decide +kernel
theorem d_W_cell_8 : decode method_2_code 8 = .ok (.iaload, 1) := by decide +kernel
theorem d_W_cell_9 : decode method_2_code 9 = .ok (.goto 4, 3) := by decide +kernel
theorem d_W_cell_12 : decode method_2_code 12 = .ok (.iconst 0, 1) := by decide +kernel
theorem d_W_cell_13 : decode method_2_code 13 = .ok (.ireturn, 1) := by decide +kernel
theorem d_W_law_0 : decode code 0 = .ok (.new 7, 3) := by decide +kernel
theorem d_W_law_3 : decode code 3 = .ok (.dup, 1) := by decide +kernel
theorem d_W_law_4 : decode code 4 = .ok (.aload_n 0, 1) := by decide +kernel
theorem d_W_law_5 : decode code 5 = .ok (.iconst 0, 1) := by decide +kernel
theorem d_W_law_6 : decode code 6 = .ok (.invokestatic 9, 3) := by decide +kernel
theorem d_W_law_9 : decode code 9 = .ok (.invokespecial 15, 3) := by decide +kernel
theorem d_W_law_12 : decode code 12 = .ok (.astore_n 1, 1) := by decide +kernel
theorem d_W_law_13 : decode code 13 = .ok (.new 18, 3) := by decide +kernel
theorem d_W_law_16 : decode code 16 = .ok (.dup, 1) := by decide +kernel
theorem d_W_law_17 : decode code 17 = .ok (.aload_n 0, 1) := by decide +kernel
theorem d_W_law_18 : decode code 18 = .ok (.iconst 0, 1) := by decide +kernel
theorem d_W_law_19 : decode code 19 = .ok (.invokestatic 9, 3) := by decide +kernel
theorem d_W_law_22 : decode code 22 = .ok (.invokespecial 20, 3) := by decide +kernel
theorem d_W_law_25 : decode code 25 = .ok (.astore_n 2, 1) := by decide +kernel
theorem d_W_law_26 : decode code 26 = .ok (.iconst 1, 1) := by decide +kernel
theorem d_W_law_27 : decode code 27 = .ok (.istore_n 3, 1) := by decide +kernel
theorem d_W_law_28 : decode code 28 = .ok (.iload_n 3, 1) := by decide +kernel
theorem d_W_law_29 : decode code 29 = .ok (.aload_n 0, 1) := by decide +kernel
theorem d_W_law_30 : decode code 30 = .ok (.arraylength, 1) := by decide +kernel
theorem d_W_law_31 : decode code 31 = .ok (.iconst 4, 1) := by decide +kernel
theorem d_W_law_32 : decode code 32 = .ok (.isub, 1) := by decide +kernel
theorem d_W_law_33 : decode code 33 = .ok (.if_icmp .gt 507, 3) := by decide +kernel
theorem d_W_law_36 : decode code 36 = .ok (.aload_n 0, 1) := by decide +kernel
theorem d_W_law_37 : decode code 37 = .ok (.iload_n 3, 1) := by decide +kernel
theorem d_W_law_38 : decode code 38 = .ok (.iaload, 1) := by decide +kernel
theorem d_W_law_39 : decode code 39 = .ok (.bipush 15, 2) := by decide +kernel
theorem d_W_law_41 : decode code 41 = .ok (.iand, 1) := by decide +kernel
theorem d_W_law_42 : decode code 42 = .ok (.tableswitch 492 0 13 #[70, 103, 136, 179, 212, 255, 268, 291, 314, 337, 370, 403, 436, 469], 70) := by decide +kernel
theorem d_W_law_112 : decode code 112 = .ok (.aload_n 1, 1) := by decide +kernel
theorem d_W_law_113 : decode code 113 = .ok (.aload_n 0, 1) := by decide +kernel
theorem d_W_law_114 : decode code 114 = .ok (.iload_n 3, 1) := by decide +kernel
theorem d_W_law_115 : decode code 115 = .ok (.iconst 1, 1) := by decide +kernel
theorem d_W_law_116 : decode code 116 = .ok (.iadd, 1) := by decide +kernel
theorem d_W_law_117 : decode code 117 = .ok (.iaload, 1) := by decide +kernel
theorem d_W_law_118 : decode code 118 = .ok (.aload_n 0, 1) := by decide +kernel
theorem d_W_law_119 : decode code 119 = .ok (.iload_n 3, 1) := by decide +kernel
theorem d_W_law_120 : decode code 120 = .ok (.iconst 2, 1) := by decide +kernel
theorem d_W_law_121 : decode code 121 = .ok (.iadd, 1) := by decide +kernel
theorem d_W_law_122 : decode code 122 = .ok (.iaload, 1) := by decide +kernel
theorem d_W_law_123 : decode code 123 = .ok (.invokevirtual 21, 3) := by decide +kernel
theorem d_W_law_126 : decode code 126 = .ok (.aload_n 2, 1) := by decide +kernel
theorem d_W_law_127 : decode code 127 = .ok (.aload_n 0, 1) := by decide +kernel
theorem d_W_law_128 : decode code 128 = .ok (.iload_n 3, 1) := by decide +kernel
theorem d_W_law_129 : decode code 129 = .ok (.iconst 1, 1) := by decide +kernel
theorem d_W_law_130 : decode code 130 = .ok (.iadd, 1) := by decide +kernel
theorem d_W_law_131 : decode code 131 = .ok (.iaload, 1) := by decide +kernel
theorem d_W_law_132 : decode code 132 = .ok (.aload_n 0, 1) := by decide +kernel
theorem d_W_law_133 : decode code 133 = .ok (.iload_n 3, 1) := by decide +kernel
theorem d_W_law_134 : decode code 134 = .ok (.iconst 2, 1) := by decide +kernel
theorem d_W_law_135 : decode code 135 = .ok (.iadd, 1) := by decide +kernel
theorem d_W_law_136 : decode code 136 = .ok (.iaload, 1) := by decide +kernel
theorem d_W_law_137 : decode code 137 = .ok (.invokevirtual 25, 3) := by decide +kernel
theorem d_W_law_140 : decode code 140 = .ok (.if_icmp .eq 394, 3) := by decide +kernel
theorem d_W_law_143 : decode code 143 = .ok (.iconst 0, 1) := by decide +kernel
theorem d_W_law_144 : decode code 144 = .ok (.ireturn, 1) := by decide +kernel
theorem d_W_law_145 : decode code 145 = .ok (.aload_n 1, 1) := by decide +kernel
theorem d_W_law_146 : decode code 146 = .ok (.aload_n 0, 1) := by decide +kernel
theorem d_W_law_147 : decode code 147 = .ok (.iload_n 3, 1) := by decide +kernel
theorem d_W_law_148 : decode code 148 = .ok (.iconst 1, 1) := by decide +kernel
theorem d_W_law_149 : decode code 149 = .ok (.iadd, 1) := by decide +kernel
theorem d_W_law_150 : decode code 150 = .ok (.iaload, 1) := by decide +kernel
theorem d_W_law_151 : decode code 151 = .ok (.aload_n 0, 1) := by decide +kernel
theorem d_W_law_152 : decode code 152 = .ok (.iload_n 3, 1) := by decide +kernel
theorem d_W_law_153 : decode code 153 = .ok (.iconst 2, 1) := by decide +kernel
theorem d_W_law_154 : decode code 154 = .ok (.iadd, 1) := by decide +kernel
theorem d_W_law_155 : decode code 155 = .ok (.iaload, 1) := by decide +kernel
theorem d_W_law_156 : decode code 156 = .ok (.invokevirtual 26, 3) := by decide +kernel
theorem d_W_law_159 : decode code 159 = .ok (.aload_n 2, 1) := by decide +kernel
theorem d_W_law_160 : decode code 160 = .ok (.aload_n 0, 1) := by decide +kernel
theorem d_W_law_161 : decode code 161 = .ok (.iload_n 3, 1) := by decide +kernel
theorem d_W_law_162 : decode code 162 = .ok (.iconst 1, 1) := by decide +kernel
theorem d_W_law_163 : decode code 163 = .ok (.iadd, 1) := by decide +kernel
theorem d_W_law_164 : decode code 164 = .ok (.iaload, 1) := by decide +kernel
theorem d_W_law_165 : decode code 165 = .ok (.aload_n 0, 1) := by decide +kernel
theorem d_W_law_166 : decode code 166 = .ok (.iload_n 3, 1) := by decide +kernel
theorem d_W_law_167 : decode code 167 = .ok (.iconst 2, 1) := by decide +kernel
theorem d_W_law_168 : decode code 168 = .ok (.iadd, 1) := by decide +kernel
theorem d_W_law_169 : decode code 169 = .ok (.iaload, 1) := by decide +kernel
theorem d_W_law_170 : decode code 170 = .ok (.invokevirtual 29, 3) := by decide +kernel
theorem d_W_law_173 : decode code 173 = .ok (.if_icmp .eq 361, 3) := by decide +kernel
theorem d_W_law_176 : decode code 176 = .ok (.iconst 0, 1) := by decide +kernel
theorem d_W_law_177 : decode code 177 = .ok (.ireturn, 1) := by decide +kernel
theorem d_W_law_178 : decode code 178 = .ok (.aload_n 1, 1) := by decide +kernel
theorem d_W_law_179 : decode code 179 = .ok (.aload_n 0, 1) := by decide +kernel
theorem d_W_law_180 : decode code 180 = .ok (.iload_n 3, 1) := by decide +kernel
theorem d_W_law_181 : decode code 181 = .ok (.iconst 1, 1) := by decide +kernel
theorem d_W_law_182 : decode code 182 = .ok (.iadd, 1) := by decide +kernel
theorem d_W_law_183 : decode code 183 = .ok (.iaload, 1) := by decide +kernel
theorem d_W_law_184 : decode code 184 = .ok (.aload_n 0, 1) := by decide +kernel
theorem d_W_law_185 : decode code 185 = .ok (.iload_n 3, 1) := by decide +kernel
theorem d_W_law_186 : decode code 186 = .ok (.iconst 2, 1) := by decide +kernel
theorem d_W_law_187 : decode code 187 = .ok (.iadd, 1) := by decide +kernel
theorem d_W_law_188 : decode code 188 = .ok (.iaload, 1) := by decide +kernel
theorem d_W_law_189 : decode code 189 = .ok (.aload_n 0, 1) := by decide +kernel
theorem d_W_law_190 : decode code 190 = .ok (.iload_n 3, 1) := by decide +kernel
theorem d_W_law_191 : decode code 191 = .ok (.iconst 3, 1) := by decide +kernel
theorem d_W_law_192 : decode code 192 = .ok (.iadd, 1) := by decide +kernel
theorem d_W_law_193 : decode code 193 = .ok (.iaload, 1) := by decide +kernel
theorem d_W_law_194 : decode code 194 = .ok (.invokevirtual 30, 3) := by decide +kernel
theorem d_W_law_197 : decode code 197 = .ok (.aload_n 2, 1) := by decide +kernel
theorem d_W_law_198 : decode code 198 = .ok (.aload_n 0, 1) := by decide +kernel
theorem d_W_law_199 : decode code 199 = .ok (.iload_n 3, 1) := by decide +kernel
theorem d_W_law_200 : decode code 200 = .ok (.iconst 1, 1) := by decide +kernel
theorem d_W_law_201 : decode code 201 = .ok (.iadd, 1) := by decide +kernel
theorem d_W_law_202 : decode code 202 = .ok (.iaload, 1) := by decide +kernel
theorem d_W_law_203 : decode code 203 = .ok (.aload_n 0, 1) := by decide +kernel
theorem d_W_law_204 : decode code 204 = .ok (.iload_n 3, 1) := by decide +kernel
theorem d_W_law_205 : decode code 205 = .ok (.iconst 2, 1) := by decide +kernel
theorem d_W_law_206 : decode code 206 = .ok (.iadd, 1) := by decide +kernel
theorem d_W_law_207 : decode code 207 = .ok (.iaload, 1) := by decide +kernel
theorem d_W_law_208 : decode code 208 = .ok (.aload_n 0, 1) := by decide +kernel
theorem d_W_law_209 : decode code 209 = .ok (.iload_n 3, 1) := by decide +kernel
theorem d_W_law_210 : decode code 210 = .ok (.iconst 3, 1) := by decide +kernel
theorem d_W_law_211 : decode code 211 = .ok (.iadd, 1) := by decide +kernel
theorem d_W_law_212 : decode code 212 = .ok (.iaload, 1) := by decide +kernel
theorem d_W_law_213 : decode code 213 = .ok (.invokevirtual 34, 3) := by decide +kernel
theorem d_W_law_216 : decode code 216 = .ok (.if_icmp .eq 318, 3) := by decide +kernel
theorem d_W_law_219 : decode code 219 = .ok (.iconst 0, 1) := by decide +kernel
theorem d_W_law_220 : decode code 220 = .ok (.ireturn, 1) := by decide +kernel
theorem d_W_law_221 : decode code 221 = .ok (.aload_n 1, 1) := by decide +kernel
theorem d_W_law_222 : decode code 222 = .ok (.aload_n 0, 1) := by decide +kernel
theorem d_W_law_223 : decode code 223 = .ok (.iload_n 3, 1) := by decide +kernel
theorem d_W_law_224 : decode code 224 = .ok (.iconst 1, 1) := by decide +kernel
theorem d_W_law_225 : decode code 225 = .ok (.iadd, 1) := by decide +kernel
theorem d_W_law_226 : decode code 226 = .ok (.iaload, 1) := by decide +kernel
theorem d_W_law_227 : decode code 227 = .ok (.aload_n 0, 1) := by decide +kernel
theorem d_W_law_228 : decode code 228 = .ok (.iload_n 3, 1) := by decide +kernel
theorem d_W_law_229 : decode code 229 = .ok (.iconst 2, 1) := by decide +kernel
theorem d_W_law_230 : decode code 230 = .ok (.iadd, 1) := by decide +kernel
theorem d_W_law_231 : decode code 231 = .ok (.iaload, 1) := by decide +kernel
theorem d_W_law_232 : decode code 232 = .ok (.invokevirtual 35, 3) := by decide +kernel
theorem d_W_law_235 : decode code 235 = .ok (.aload_n 2, 1) := by decide +kernel
theorem d_W_law_236 : decode code 236 = .ok (.aload_n 0, 1) := by decide +kernel
theorem d_W_law_237 : decode code 237 = .ok (.iload_n 3, 1) := by decide +kernel
theorem d_W_law_238 : decode code 238 = .ok (.iconst 1, 1) := by decide +kernel
theorem d_W_law_239 : decode code 239 = .ok (.iadd, 1) := by decide +kernel
theorem d_W_law_240 : decode code 240 = .ok (.iaload, 1) := by decide +kernel
theorem d_W_law_241 : decode code 241 = .ok (.aload_n 0, 1) := by decide +kernel
theorem d_W_law_242 : decode code 242 = .ok (.iload_n 3, 1) := by decide +kernel
theorem d_W_law_243 : decode code 243 = .ok (.iconst 2, 1) := by decide +kernel
theorem d_W_law_244 : decode code 244 = .ok (.iadd, 1) := by decide +kernel
theorem d_W_law_245 : decode code 245 = .ok (.iaload, 1) := by decide +kernel
theorem d_W_law_246 : decode code 246 = .ok (.invokevirtual 38, 3) := by decide +kernel
theorem d_W_law_249 : decode code 249 = .ok (.if_icmp .eq 285, 3) := by decide +kernel
theorem d_W_law_252 : decode code 252 = .ok (.iconst 0, 1) := by decide +kernel
theorem d_W_law_253 : decode code 253 = .ok (.ireturn, 1) := by decide +kernel
theorem d_W_law_254 : decode code 254 = .ok (.aload_n 1, 1) := by decide +kernel
theorem d_W_law_255 : decode code 255 = .ok (.aload_n 0, 1) := by decide +kernel
theorem d_W_law_256 : decode code 256 = .ok (.iload_n 3, 1) := by decide +kernel
theorem d_W_law_257 : decode code 257 = .ok (.iconst 1, 1) := by decide +kernel
theorem d_W_law_258 : decode code 258 = .ok (.iadd, 1) := by decide +kernel
theorem d_W_law_259 : decode code 259 = .ok (.iaload, 1) := by decide +kernel
theorem d_W_law_260 : decode code 260 = .ok (.aload_n 0, 1) := by decide +kernel
theorem d_W_law_261 : decode code 261 = .ok (.iload_n 3, 1) := by decide +kernel
theorem d_W_law_262 : decode code 262 = .ok (.iconst 2, 1) := by decide +kernel
theorem d_W_law_263 : decode code 263 = .ok (.iadd, 1) := by decide +kernel
theorem d_W_law_264 : decode code 264 = .ok (.iaload, 1) := by decide +kernel
theorem d_W_law_265 : decode code 265 = .ok (.aload_n 0, 1) := by decide +kernel
theorem d_W_law_266 : decode code 266 = .ok (.iload_n 3, 1) := by decide +kernel
theorem d_W_law_267 : decode code 267 = .ok (.iconst 3, 1) := by decide +kernel
theorem d_W_law_268 : decode code 268 = .ok (.iadd, 1) := by decide +kernel
theorem d_W_law_269 : decode code 269 = .ok (.iaload, 1) := by decide +kernel
theorem d_W_law_270 : decode code 270 = .ok (.invokevirtual 39, 3) := by decide +kernel
theorem d_W_law_273 : decode code 273 = .ok (.aload_n 2, 1) := by decide +kernel
theorem d_W_law_274 : decode code 274 = .ok (.aload_n 0, 1) := by decide +kernel
theorem d_W_law_275 : decode code 275 = .ok (.iload_n 3, 1) := by decide +kernel
theorem d_W_law_276 : decode code 276 = .ok (.iconst 1, 1) := by decide +kernel
theorem d_W_law_277 : decode code 277 = .ok (.iadd, 1) := by decide +kernel
theorem d_W_law_278 : decode code 278 = .ok (.iaload, 1) := by decide +kernel
theorem d_W_law_279 : decode code 279 = .ok (.aload_n 0, 1) := by decide +kernel
theorem d_W_law_280 : decode code 280 = .ok (.iload_n 3, 1) := by decide +kernel
theorem d_W_law_281 : decode code 281 = .ok (.iconst 2, 1) := by decide +kernel
theorem d_W_law_282 : decode code 282 = .ok (.iadd, 1) := by decide +kernel
theorem d_W_law_283 : decode code 283 = .ok (.iaload, 1) := by decide +kernel
theorem d_W_law_284 : decode code 284 = .ok (.aload_n 0, 1) := by decide +kernel
theorem d_W_law_285 : decode code 285 = .ok (.iload_n 3, 1) := by decide +kernel
theorem d_W_law_286 : decode code 286 = .ok (.iconst 3, 1) := by decide +kernel
theorem d_W_law_287 : decode code 287 = .ok (.iadd, 1) := by decide +kernel
theorem d_W_law_288 : decode code 288 = .ok (.iaload, 1) := by decide +kernel
theorem d_W_law_289 : decode code 289 = .ok (.invokevirtual 42, 3) := by decide +kernel
theorem d_W_law_292 : decode code 292 = .ok (.if_icmp .eq 242, 3) := by decide +kernel
theorem d_W_law_295 : decode code 295 = .ok (.iconst 0, 1) := by decide +kernel
theorem d_W_law_296 : decode code 296 = .ok (.ireturn, 1) := by decide +kernel
theorem d_W_law_297 : decode code 297 = .ok (.aload_n 1, 1) := by decide +kernel
theorem d_W_law_298 : decode code 298 = .ok (.invokevirtual 43, 3) := by decide +kernel
theorem d_W_law_301 : decode code 301 = .ok (.aload_n 2, 1) := by decide +kernel
theorem d_W_law_302 : decode code 302 = .ok (.invokevirtual 47, 3) := by decide +kernel
theorem d_W_law_305 : decode code 305 = .ok (.if_icmp .eq 229, 3) := by decide +kernel
theorem d_W_law_308 : decode code 308 = .ok (.iconst 0, 1) := by decide +kernel
theorem d_W_law_309 : decode code 309 = .ok (.ireturn, 1) := by decide +kernel
theorem d_W_law_310 : decode code 310 = .ok (.aload_n 1, 1) := by decide +kernel
theorem d_W_law_311 : decode code 311 = .ok (.aload_n 0, 1) := by decide +kernel
theorem d_W_law_312 : decode code 312 = .ok (.iload_n 3, 1) := by decide +kernel
theorem d_W_law_313 : decode code 313 = .ok (.iconst 1, 1) := by decide +kernel
theorem d_W_law_314 : decode code 314 = .ok (.iadd, 1) := by decide +kernel
theorem d_W_law_315 : decode code 315 = .ok (.iaload, 1) := by decide +kernel
theorem d_W_law_316 : decode code 316 = .ok (.invokevirtual 48, 3) := by decide +kernel
theorem d_W_law_319 : decode code 319 = .ok (.aload_n 2, 1) := by decide +kernel
theorem d_W_law_320 : decode code 320 = .ok (.aload_n 0, 1) := by decide +kernel
theorem d_W_law_321 : decode code 321 = .ok (.iload_n 3, 1) := by decide +kernel
theorem d_W_law_322 : decode code 322 = .ok (.iconst 1, 1) := by decide +kernel
theorem d_W_law_323 : decode code 323 = .ok (.iadd, 1) := by decide +kernel
theorem d_W_law_324 : decode code 324 = .ok (.iaload, 1) := by decide +kernel
theorem d_W_law_325 : decode code 325 = .ok (.invokevirtual 52, 3) := by decide +kernel
theorem d_W_law_328 : decode code 328 = .ok (.if_icmp .eq 206, 3) := by decide +kernel
theorem d_W_law_331 : decode code 331 = .ok (.iconst 0, 1) := by decide +kernel
theorem d_W_law_332 : decode code 332 = .ok (.ireturn, 1) := by decide +kernel
theorem d_W_law_333 : decode code 333 = .ok (.aload_n 1, 1) := by decide +kernel
theorem d_W_law_334 : decode code 334 = .ok (.aload_n 0, 1) := by decide +kernel
theorem d_W_law_335 : decode code 335 = .ok (.iload_n 3, 1) := by decide +kernel
theorem d_W_law_336 : decode code 336 = .ok (.iconst 1, 1) := by decide +kernel
theorem d_W_law_337 : decode code 337 = .ok (.iadd, 1) := by decide +kernel
theorem d_W_law_338 : decode code 338 = .ok (.iaload, 1) := by decide +kernel
theorem d_W_law_339 : decode code 339 = .ok (.invokevirtual 53, 3) := by decide +kernel
theorem d_W_law_342 : decode code 342 = .ok (.aload_n 2, 1) := by decide +kernel
theorem d_W_law_343 : decode code 343 = .ok (.aload_n 0, 1) := by decide +kernel
theorem d_W_law_344 : decode code 344 = .ok (.iload_n 3, 1) := by decide +kernel
theorem d_W_law_345 : decode code 345 = .ok (.iconst 1, 1) := by decide +kernel
theorem d_W_law_346 : decode code 346 = .ok (.iadd, 1) := by decide +kernel
theorem d_W_law_347 : decode code 347 = .ok (.iaload, 1) := by decide +kernel
theorem d_W_law_348 : decode code 348 = .ok (.invokevirtual 56, 3) := by decide +kernel
theorem d_W_law_351 : decode code 351 = .ok (.if_icmp .eq 183, 3) := by decide +kernel
theorem d_W_law_354 : decode code 354 = .ok (.iconst 0, 1) := by decide +kernel
theorem d_W_law_355 : decode code 355 = .ok (.ireturn, 1) := by decide +kernel
theorem d_W_law_356 : decode code 356 = .ok (.aload_n 1, 1) := by decide +kernel
theorem d_W_law_357 : decode code 357 = .ok (.aload_n 0, 1) := by decide +kernel
theorem d_W_law_358 : decode code 358 = .ok (.iload_n 3, 1) := by decide +kernel
theorem d_W_law_359 : decode code 359 = .ok (.iconst 1, 1) := by decide +kernel
theorem d_W_law_360 : decode code 360 = .ok (.iadd, 1) := by decide +kernel
theorem d_W_law_361 : decode code 361 = .ok (.iaload, 1) := by decide +kernel
theorem d_W_law_362 : decode code 362 = .ok (.invokevirtual 57, 3) := by decide +kernel
theorem d_W_law_365 : decode code 365 = .ok (.aload_n 2, 1) := by decide +kernel
theorem d_W_law_366 : decode code 366 = .ok (.aload_n 0, 1) := by decide +kernel
theorem d_W_law_367 : decode code 367 = .ok (.iload_n 3, 1) := by decide +kernel
theorem d_W_law_368 : decode code 368 = .ok (.iconst 1, 1) := by decide +kernel
theorem d_W_law_369 : decode code 369 = .ok (.iadd, 1) := by decide +kernel
theorem d_W_law_370 : decode code 370 = .ok (.iaload, 1) := by decide +kernel
theorem d_W_law_371 : decode code 371 = .ok (.invokevirtual 60, 3) := by decide +kernel
theorem d_W_law_374 : decode code 374 = .ok (.if_icmp .eq 160, 3) := by decide +kernel
theorem d_W_law_377 : decode code 377 = .ok (.iconst 0, 1) := by decide +kernel
theorem d_W_law_378 : decode code 378 = .ok (.ireturn, 1) := by decide +kernel
theorem d_W_law_379 : decode code 379 = .ok (.aload_n 1, 1) := by decide +kernel
theorem d_W_law_380 : decode code 380 = .ok (.aload_n 0, 1) := by decide +kernel
theorem d_W_law_381 : decode code 381 = .ok (.iload_n 3, 1) := by decide +kernel
theorem d_W_law_382 : decode code 382 = .ok (.iconst 1, 1) := by decide +kernel
theorem d_W_law_383 : decode code 383 = .ok (.iadd, 1) := by decide +kernel
theorem d_W_law_384 : decode code 384 = .ok (.iaload, 1) := by decide +kernel
theorem d_W_law_385 : decode code 385 = .ok (.aload_n 0, 1) := by decide +kernel
theorem d_W_law_386 : decode code 386 = .ok (.iload_n 3, 1) := by decide +kernel
theorem d_W_law_387 : decode code 387 = .ok (.iconst 2, 1) := by decide +kernel
theorem d_W_law_388 : decode code 388 = .ok (.iadd, 1) := by decide +kernel
theorem d_W_law_389 : decode code 389 = .ok (.iaload, 1) := by decide +kernel
theorem d_W_law_390 : decode code 390 = .ok (.invokevirtual 61, 3) := by decide +kernel
theorem d_W_law_393 : decode code 393 = .ok (.aload_n 2, 1) := by decide +kernel
theorem d_W_law_394 : decode code 394 = .ok (.aload_n 0, 1) := by decide +kernel
theorem d_W_law_395 : decode code 395 = .ok (.iload_n 3, 1) := by decide +kernel
theorem d_W_law_396 : decode code 396 = .ok (.iconst 1, 1) := by decide +kernel
theorem d_W_law_397 : decode code 397 = .ok (.iadd, 1) := by decide +kernel
theorem d_W_law_398 : decode code 398 = .ok (.iaload, 1) := by decide +kernel
theorem d_W_law_399 : decode code 399 = .ok (.aload_n 0, 1) := by decide +kernel
theorem d_W_law_400 : decode code 400 = .ok (.iload_n 3, 1) := by decide +kernel
theorem d_W_law_401 : decode code 401 = .ok (.iconst 2, 1) := by decide +kernel
theorem d_W_law_402 : decode code 402 = .ok (.iadd, 1) := by decide +kernel
theorem d_W_law_403 : decode code 403 = .ok (.iaload, 1) := by decide +kernel
theorem d_W_law_404 : decode code 404 = .ok (.invokevirtual 64, 3) := by decide +kernel
theorem d_W_law_407 : decode code 407 = .ok (.if_icmp .eq 127, 3) := by decide +kernel
theorem d_W_law_410 : decode code 410 = .ok (.iconst 0, 1) := by decide +kernel
theorem d_W_law_411 : decode code 411 = .ok (.ireturn, 1) := by decide +kernel
theorem d_W_law_412 : decode code 412 = .ok (.aload_n 1, 1) := by decide +kernel
theorem d_W_law_413 : decode code 413 = .ok (.aload_n 0, 1) := by decide +kernel
theorem d_W_law_414 : decode code 414 = .ok (.iload_n 3, 1) := by decide +kernel
theorem d_W_law_415 : decode code 415 = .ok (.iconst 1, 1) := by decide +kernel
theorem d_W_law_416 : decode code 416 = .ok (.iadd, 1) := by decide +kernel
theorem d_W_law_417 : decode code 417 = .ok (.iaload, 1) := by decide +kernel
theorem d_W_law_418 : decode code 418 = .ok (.aload_n 0, 1) := by decide +kernel
theorem d_W_law_419 : decode code 419 = .ok (.iload_n 3, 1) := by decide +kernel
theorem d_W_law_420 : decode code 420 = .ok (.iconst 2, 1) := by decide +kernel
theorem d_W_law_421 : decode code 421 = .ok (.iadd, 1) := by decide +kernel
theorem d_W_law_422 : decode code 422 = .ok (.iaload, 1) := by decide +kernel
theorem d_W_law_423 : decode code 423 = .ok (.invokevirtual 65, 3) := by decide +kernel
theorem d_W_law_426 : decode code 426 = .ok (.aload_n 2, 1) := by decide +kernel
theorem d_W_law_427 : decode code 427 = .ok (.aload_n 0, 1) := by decide +kernel
theorem d_W_law_428 : decode code 428 = .ok (.iload_n 3, 1) := by decide +kernel
theorem d_W_law_429 : decode code 429 = .ok (.iconst 1, 1) := by decide +kernel
theorem d_W_law_430 : decode code 430 = .ok (.iadd, 1) := by decide +kernel
theorem d_W_law_431 : decode code 431 = .ok (.iaload, 1) := by decide +kernel
theorem d_W_law_432 : decode code 432 = .ok (.aload_n 0, 1) := by decide +kernel
theorem d_W_law_433 : decode code 433 = .ok (.iload_n 3, 1) := by decide +kernel
theorem d_W_law_434 : decode code 434 = .ok (.iconst 2, 1) := by decide +kernel
theorem d_W_law_435 : decode code 435 = .ok (.iadd, 1) := by decide +kernel
theorem d_W_law_436 : decode code 436 = .ok (.iaload, 1) := by decide +kernel
theorem d_W_law_437 : decode code 437 = .ok (.invokevirtual 68, 3) := by decide +kernel
theorem d_W_law_440 : decode code 440 = .ok (.if_icmp .eq 94, 3) := by decide +kernel
theorem d_W_law_443 : decode code 443 = .ok (.iconst 0, 1) := by decide +kernel
theorem d_W_law_444 : decode code 444 = .ok (.ireturn, 1) := by decide +kernel
theorem d_W_law_445 : decode code 445 = .ok (.aload_n 1, 1) := by decide +kernel
theorem d_W_law_446 : decode code 446 = .ok (.aload_n 0, 1) := by decide +kernel
theorem d_W_law_447 : decode code 447 = .ok (.iload_n 3, 1) := by decide +kernel
theorem d_W_law_448 : decode code 448 = .ok (.iconst 1, 1) := by decide +kernel
theorem d_W_law_449 : decode code 449 = .ok (.iadd, 1) := by decide +kernel
theorem d_W_law_450 : decode code 450 = .ok (.iaload, 1) := by decide +kernel
theorem d_W_law_451 : decode code 451 = .ok (.aload_n 0, 1) := by decide +kernel
theorem d_W_law_452 : decode code 452 = .ok (.iload_n 3, 1) := by decide +kernel
theorem d_W_law_453 : decode code 453 = .ok (.iconst 2, 1) := by decide +kernel
theorem d_W_law_454 : decode code 454 = .ok (.iadd, 1) := by decide +kernel
theorem d_W_law_455 : decode code 455 = .ok (.iaload, 1) := by decide +kernel
theorem d_W_law_456 : decode code 456 = .ok (.invokevirtual 69, 3) := by decide +kernel
theorem d_W_law_459 : decode code 459 = .ok (.aload_n 2, 1) := by decide +kernel
theorem d_W_law_460 : decode code 460 = .ok (.aload_n 0, 1) := by decide +kernel
theorem d_W_law_461 : decode code 461 = .ok (.iload_n 3, 1) := by decide +kernel
theorem d_W_law_462 : decode code 462 = .ok (.iconst 1, 1) := by decide +kernel
theorem d_W_law_463 : decode code 463 = .ok (.iadd, 1) := by decide +kernel
theorem d_W_law_464 : decode code 464 = .ok (.iaload, 1) := by decide +kernel
theorem d_W_law_465 : decode code 465 = .ok (.aload_n 0, 1) := by decide +kernel
theorem d_W_law_466 : decode code 466 = .ok (.iload_n 3, 1) := by decide +kernel
theorem d_W_law_467 : decode code 467 = .ok (.iconst 2, 1) := by decide +kernel
theorem d_W_law_468 : decode code 468 = .ok (.iadd, 1) := by decide +kernel
theorem d_W_law_469 : decode code 469 = .ok (.iaload, 1) := by decide +kernel
theorem d_W_law_470 : decode code 470 = .ok (.invokevirtual 72, 3) := by decide +kernel
theorem d_W_law_473 : decode code 473 = .ok (.if_icmp .eq 61, 3) := by decide +kernel
theorem d_W_law_476 : decode code 476 = .ok (.iconst 0, 1) := by decide +kernel
theorem d_W_law_477 : decode code 477 = .ok (.ireturn, 1) := by decide +kernel
theorem d_W_law_478 : decode code 478 = .ok (.aload_n 1, 1) := by decide +kernel
theorem d_W_law_479 : decode code 479 = .ok (.aload_n 0, 1) := by decide +kernel
theorem d_W_law_480 : decode code 480 = .ok (.iload_n 3, 1) := by decide +kernel
theorem d_W_law_481 : decode code 481 = .ok (.iconst 1, 1) := by decide +kernel
theorem d_W_law_482 : decode code 482 = .ok (.iadd, 1) := by decide +kernel
theorem d_W_law_483 : decode code 483 = .ok (.iaload, 1) := by decide +kernel
theorem d_W_law_484 : decode code 484 = .ok (.aload_n 0, 1) := by decide +kernel
theorem d_W_law_485 : decode code 485 = .ok (.iload_n 3, 1) := by decide +kernel
theorem d_W_law_486 : decode code 486 = .ok (.iconst 2, 1) := by decide +kernel
theorem d_W_law_487 : decode code 487 = .ok (.iadd, 1) := by decide +kernel
theorem d_W_law_488 : decode code 488 = .ok (.iaload, 1) := by decide +kernel
theorem d_W_law_489 : decode code 489 = .ok (.invokevirtual 73, 3) := by decide +kernel
theorem d_W_law_492 : decode code 492 = .ok (.aload_n 2, 1) := by decide +kernel
theorem d_W_law_493 : decode code 493 = .ok (.aload_n 0, 1) := by decide +kernel
theorem d_W_law_494 : decode code 494 = .ok (.iload_n 3, 1) := by decide +kernel
theorem d_W_law_495 : decode code 495 = .ok (.iconst 1, 1) := by decide +kernel
theorem d_W_law_496 : decode code 496 = .ok (.iadd, 1) := by decide +kernel
theorem d_W_law_497 : decode code 497 = .ok (.iaload, 1) := by decide +kernel
theorem d_W_law_498 : decode code 498 = .ok (.aload_n 0, 1) := by decide +kernel
theorem d_W_law_499 : decode code 499 = .ok (.iload_n 3, 1) := by decide +kernel
theorem d_W_law_500 : decode code 500 = .ok (.iconst 2, 1) := by decide +kernel
theorem d_W_law_501 : decode code 501 = .ok (.iadd, 1) := by decide +kernel
theorem d_W_law_502 : decode code 502 = .ok (.iaload, 1) := by decide +kernel
theorem d_W_law_503 : decode code 503 = .ok (.invokevirtual 76, 3) := by decide +kernel
theorem d_W_law_506 : decode code 506 = .ok (.if_icmp .eq 28, 3) := by decide +kernel
theorem d_W_law_509 : decode code 509 = .ok (.iconst 0, 1) := by decide +kernel
theorem d_W_law_510 : decode code 510 = .ok (.ireturn, 1) := by decide +kernel
theorem d_W_law_511 : decode code 511 = .ok (.aload_n 1, 1) := by decide +kernel
theorem d_W_law_512 : decode code 512 = .ok (.aload_n 0, 1) := by decide +kernel
theorem d_W_law_513 : decode code 513 = .ok (.iload_n 3, 1) := by decide +kernel
theorem d_W_law_514 : decode code 514 = .ok (.iconst 1, 1) := by decide +kernel
theorem d_W_law_515 : decode code 515 = .ok (.iadd, 1) := by decide +kernel
theorem d_W_law_516 : decode code 516 = .ok (.iaload, 1) := by decide +kernel
theorem d_W_law_517 : decode code 517 = .ok (.invokevirtual 77, 3) := by decide +kernel
theorem d_W_law_520 : decode code 520 = .ok (.aload_n 2, 1) := by decide +kernel
theorem d_W_law_521 : decode code 521 = .ok (.aload_n 0, 1) := by decide +kernel
theorem d_W_law_522 : decode code 522 = .ok (.iload_n 3, 1) := by decide +kernel
theorem d_W_law_523 : decode code 523 = .ok (.iconst 1, 1) := by decide +kernel
theorem d_W_law_524 : decode code 524 = .ok (.iadd, 1) := by decide +kernel
theorem d_W_law_525 : decode code 525 = .ok (.iaload, 1) := by decide +kernel
theorem d_W_law_526 : decode code 526 = .ok (.invokevirtual 80, 3) := by decide +kernel
theorem d_W_law_529 : decode code 529 = .ok (.if_icmp .eq 5, 3) := by decide +kernel
theorem d_W_law_532 : decode code 532 = .ok (.iconst 0, 1) := by decide +kernel
theorem d_W_law_533 : decode code 533 = .ok (.ireturn, 1) := by decide +kernel
theorem d_W_law_534 : decode code 534 = .ok (.iinc 3 4, 3) := by decide +kernel
theorem d_W_law_537 : decode code 537 = .ok (.goto (-509), 3) := by decide +kernel
theorem d_W_law_540 : decode code 540 = .ok (.iconst 1, 1) := by decide +kernel
theorem d_W_law_541 : decode code 541 = .ok (.ireturn, 1) := by decide +kernel
