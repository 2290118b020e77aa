theorem dX7_init_0 : decode cX7_init 0 = .ok (.aload_n 0, 1) := by decide +kernel
theorem dX7_init_1 : decode cX7_init 1 = .ok (.invokespecial 1, 3) := by decide +kernel
theorem dX7_init_4 : decode cX7_init 4 = .ok (.aload_n 0, 1) := by decide +kernel
theorem dX7_init_5 : decode cX7_init 5 = .ok (.bipush 7, 2) := by decide +kernel
theorem dX7_init_7 : decode cX7_init 7 = .ok (.newarray .int, 2) := by decide +kernel
theorem dX7_init_9 : decode cX7_init 9 = .ok (.putfield 7, 3) := by decide +kernel
theorem dX7_init_12 : decode cX7_init 12 = .ok (.aload_n 0, 1) := by decide +kernel
theorem dX7_init_13 : decode cX7_init 13 = .ok (.bipush 7, 2) := by decide +kernel
theorem dX7_init_15 : decode cX7_init 15 = .ok (.newarray .int, 2) := by decide +kernel
theorem dX7_init_17 : decode cX7_init 17 = .ok (.putfield 13, 3) := by decide +kernel
theorem dX7_init_20 : decode cX7_init 20 = .ok (.aload_n 0, 1) := by decide +kernel
theorem dX7_init_21 : decode cX7_init 21 = .ok (.bipush 7, 2) := by decide +kernel
theorem dX7_init_23 : decode cX7_init 23 = .ok (.newarray .int, 2) := by decide +kernel
theorem dX7_init_25 : decode cX7_init 25 = .ok (.putfield 16, 3) := by decide +kernel
theorem dX7_init_28 : decode cX7_init 28 = .ok (.aload_n 0, 1) := by decide +kernel
theorem dX7_init_29 : decode cX7_init 29 = .ok (.bipush 7, 2) := by decide +kernel
theorem dX7_init_31 : decode cX7_init 31 = .ok (.newarray .int, 2) := by decide +kernel
theorem dX7_init_33 : decode cX7_init 33 = .ok (.putfield 19, 3) := by decide +kernel
theorem dX7_init_36 : decode cX7_init 36 = .ok (.aload_n 0, 1) := by decide +kernel
theorem dX7_init_37 : decode cX7_init 37 = .ok (.bipush 28, 2) := by decide +kernel
theorem dX7_init_39 : decode cX7_init 39 = .ok (.newarray .int, 2) := by decide +kernel
theorem dX7_init_41 : decode cX7_init 41 = .ok (.putfield 22, 3) := by decide +kernel
theorem dX7_init_44 : decode cX7_init 44 = .ok (.aload_n 0, 1) := by decide +kernel
theorem dX7_init_45 : decode cX7_init 45 = .ok (.bipush 8, 2) := by decide +kernel
theorem dX7_init_47 : decode cX7_init 47 = .ok (.newarray .int, 2) := by decide +kernel
theorem dX7_init_49 : decode cX7_init 49 = .ok (.putfield 25, 3) := by decide +kernel
theorem dX7_init_52 : decode cX7_init 52 = .ok (.aload_n 0, 1) := by decide +kernel
theorem dX7_init_53 : decode cX7_init 53 = .ok (.bipush 8, 2) := by decide +kernel
theorem dX7_init_55 : decode cX7_init 55 = .ok (.newarray .int, 2) := by decide +kernel
theorem dX7_init_57 : decode cX7_init 57 = .ok (.putfield 28, 3) := by decide +kernel
theorem dX7_init_60 : decode cX7_init 60 = .ok (.aload_n 0, 1) := by decide +kernel
theorem dX7_init_61 : decode cX7_init 61 = .ok (.iconst 3, 1) := by decide +kernel
theorem dX7_init_62 : decode cX7_init 62 = .ok (.newarray .int, 2) := by decide +kernel
theorem dX7_init_64 : decode cX7_init 64 = .ok (.dup, 1) := by decide +kernel
theorem dX7_init_65 : decode cX7_init 65 = .ok (.iconst 0, 1) := by decide +kernel
theorem dX7_init_66 : decode cX7_init 66 = .ok (.iconst (-1), 1) := by decide +kernel
theorem dX7_init_67 : decode cX7_init 67 = .ok (.iastore, 1) := by decide +kernel
theorem dX7_init_68 : decode cX7_init 68 = .ok (.dup, 1) := by decide +kernel
theorem dX7_init_69 : decode cX7_init 69 = .ok (.iconst 1, 1) := by decide +kernel
theorem dX7_init_70 : decode cX7_init 70 = .ok (.iconst (-1), 1) := by decide +kernel
theorem dX7_init_71 : decode cX7_init 71 = .ok (.iastore, 1) := by decide +kernel
theorem dX7_init_72 : decode cX7_init 72 = .ok (.dup, 1) := by decide +kernel
theorem dX7_init_73 : decode cX7_init 73 = .ok (.iconst 2, 1) := by decide +kernel
theorem dX7_init_74 : decode cX7_init 74 = .ok (.iconst (-1), 1) := by decide +kernel
theorem dX7_init_75 : decode cX7_init 75 = .ok (.iastore, 1) := by decide +kernel
theorem dX7_init_76 : decode cX7_init 76 = .ok (.putfield 31, 3) := by decide +kernel
theorem dX7_init_79 : decode cX7_init 79 = .ok (.aload_n 0, 1) := by decide +kernel
theorem dX7_init_80 : decode cX7_init 80 = .ok (.sipush 160, 3) := by decide +kernel
theorem dX7_init_83 : decode cX7_init 83 = .ok (.newarray .int, 2) := by decide +kernel
theorem dX7_init_85 : decode cX7_init 85 = .ok (.putfield 34, 3) := by decide +kernel
theorem dX7_init_88 : decode cX7_init 88 = .ok (.aload_n 0, 1) := by decide +kernel
theorem dX7_init_89 : decode cX7_init 89 = .ok (.sipush 1200, 3) := by decide +kernel
theorem dX7_init_92 : decode cX7_init 92 = .ok (.newarray .int, 2) := by decide +kernel
theorem dX7_init_94 : decode cX7_init 94 = .ok (.putfield 37, 3) := by decide +kernel
theorem dX7_init_97 : decode cX7_init 97 = .ok (.aload_n 0, 1) := by decide +kernel
theorem dX7_init_98 : decode cX7_init 98 = .ok (.bipush 24, 2) := by decide +kernel
theorem dX7_init_100 : decode cX7_init 100 = .ok (.newarray .int, 2) := by decide +kernel
theorem dX7_init_102 : decode cX7_init 102 = .ok (.putfield 40, 3) := by decide +kernel
theorem dX7_init_105 : decode cX7_init 105 = .ok (.aload_n 0, 1) := by decide +kernel
theorem dX7_init_106 : decode cX7_init 106 = .ok (.bipush 7, 2) := by decide +kernel
theorem dX7_init_108 : decode cX7_init 108 = .ok (.newarray .int, 2) := by decide +kernel
theorem dX7_init_110 : decode cX7_init 110 = .ok (.putfield 43, 3) := by decide +kernel
theorem dX7_init_113 : decode cX7_init 113 = .ok (.aload_n 0, 1) := by decide +kernel
theorem dX7_init_114 : decode cX7_init 114 = .ok (.bipush 28, 2) := by decide +kernel
theorem dX7_init_116 : decode cX7_init 116 = .ok (.newarray .int, 2) := by decide +kernel
theorem dX7_init_118 : decode cX7_init 118 = .ok (.putfield 46, 3) := by decide +kernel
theorem dX7_init_121 : decode cX7_init 121 = .ok (.aload_n 0, 1) := by decide +kernel
theorem dX7_init_122 : decode cX7_init 122 = .ok (.iconst 3, 1) := by decide +kernel
theorem dX7_init_123 : decode cX7_init 123 = .ok (.newarray .int, 2) := by decide +kernel
theorem dX7_init_125 : decode cX7_init 125 = .ok (.putfield 49, 3) := by decide +kernel
theorem dX7_init_128 : decode cX7_init 128 = .ok (.aload_n 0, 1) := by decide +kernel
theorem dX7_init_129 : decode cX7_init 129 = .ok (.iconst 4, 1) := by decide +kernel
theorem dX7_init_130 : decode cX7_init 130 = .ok (.newarray .int, 2) := by decide +kernel
theorem dX7_init_132 : decode cX7_init 132 = .ok (.dup, 1) := by decide +kernel
theorem dX7_init_133 : decode cX7_init 133 = .ok (.iconst 0, 1) := by decide +kernel
theorem dX7_init_134 : decode cX7_init 134 = .ok (.iconst (-1), 1) := by decide +kernel
theorem dX7_init_135 : decode cX7_init 135 = .ok (.iastore, 1) := by decide +kernel
theorem dX7_init_136 : decode cX7_init 136 = .ok (.dup, 1) := by decide +kernel
theorem dX7_init_137 : decode cX7_init 137 = .ok (.iconst 1, 1) := by decide +kernel
theorem dX7_init_138 : decode cX7_init 138 = .ok (.iconst (-1), 1) := by decide +kernel
theorem dX7_init_139 : decode cX7_init 139 = .ok (.iastore, 1) := by decide +kernel
theorem dX7_init_140 : decode cX7_init 140 = .ok (.dup, 1) := by decide +kernel
theorem dX7_init_141 : decode cX7_init 141 = .ok (.iconst 2, 1) := by decide +kernel
theorem dX7_init_142 : decode cX7_init 142 = .ok (.iconst (-1), 1) := by decide +kernel
theorem dX7_init_143 : decode cX7_init 143 = .ok (.iastore, 1) := by decide +kernel
theorem dX7_init_144 : decode cX7_init 144 = .ok (.dup, 1) := by decide +kernel
theorem dX7_init_145 : decode cX7_init 145 = .ok (.iconst 3, 1) := by decide +kernel
theorem dX7_init_146 : decode cX7_init 146 = .ok (.iconst (-1), 1) := by decide +kernel
theorem dX7_init_147 : decode cX7_init 147 = .ok (.iastore, 1) := by decide +kernel
theorem dX7_init_148 : decode cX7_init 148 = .ok (.putfield 52, 3) := by decide +kernel
theorem dX7_init_151 : decode cX7_init 151 = .ok (.aload_n 0, 1) := by decide +kernel
theorem dX7_init_152 : decode cX7_init 152 = .ok (.iconst 4, 1) := by decide +kernel
theorem dX7_init_153 : decode cX7_init 153 = .ok (.newarray .int, 2) := by decide +kernel
theorem dX7_init_155 : decode cX7_init 155 = .ok (.putfield 55, 3) := by decide +kernel
theorem dX7_init_158 : decode cX7_init 158 = .ok (.aload_n 0, 1) := by decide +kernel
theorem dX7_init_159 : decode cX7_init 159 = .ok (.sipush 160, 3) := by decide +kernel
theorem dX7_init_162 : decode cX7_init 162 = .ok (.newarray .int, 2) := by decide +kernel
theorem dX7_init_164 : decode cX7_init 164 = .ok (.putfield 58, 3) := by decide +kernel
theorem dX7_init_167 : decode cX7_init 167 = .ok (.aload_n 0, 1) := by decide +kernel
theorem dX7_init_168 : decode cX7_init 168 = .ok (.bipush 50, 2) := by decide +kernel
theorem dX7_init_170 : decode cX7_init 170 = .ok (.newarray .int, 2) := by decide +kernel
theorem dX7_init_172 : decode cX7_init 172 = .ok (.dup, 1) := by decide +kernel
theorem dX7_init_173 : decode cX7_init 173 = .ok (.iconst 0, 1) := by decide +kernel
theorem dX7_init_174 : decode cX7_init 174 = .ok (.bipush 119, 2) := by decide +kernel
theorem dX7_init_176 : decode cX7_init 176 = .ok (.iastore, 1) := by decide +kernel
theorem dX7_init_177 : decode cX7_init 177 = .ok (.dup, 1) := by decide +kernel
theorem dX7_init_178 : decode cX7_init 178 = .ok (.iconst 1, 1) := by decide +kernel
theorem dX7_init_179 : decode cX7_init 179 = .ok (.bipush 101, 2) := by decide +kernel
theorem dX7_init_181 : decode cX7_init 181 = .ok (.iastore, 1) := by decide +kernel
theorem dX7_init_182 : decode cX7_init 182 = .ok (.dup, 1) := by decide +kernel
theorem dX7_init_183 : decode cX7_init 183 = .ok (.iconst 2, 1) := by decide +kernel
theorem dX7_init_184 : decode cX7_init 184 = .ok (.bipush 105, 2) := by decide +kernel
theorem dX7_init_186 : decode cX7_init 186 = .ok (.iastore, 1) := by decide +kernel
theorem dX7_init_187 : decode cX7_init 187 = .ok (.dup, 1) := by decide +kernel
theorem dX7_init_188 : decode cX7_init 188 = .ok (.iconst 3, 1) := by decide +kernel
theorem dX7_init_189 : decode cX7_init 189 = .ok (.bipush 103, 2) := by decide +kernel
theorem dX7_init_191 : decode cX7_init 191 = .ok (.iastore, 1) := by decide +kernel
theorem dX7_init_192 : decode cX7_init 192 = .ok (.dup, 1) := by decide +kernel
theorem dX7_init_193 : decode cX7_init 193 = .ok (.iconst 4, 1) := by decide +kernel
theorem dX7_init_194 : decode cX7_init 194 = .ok (.bipush 104, 2) := by decide +kernel
theorem dX7_init_196 : decode cX7_init 196 = .ok (.iastore, 1) := by decide +kernel
theorem dX7_init_197 : decode cX7_init 197 = .ok (.dup, 1) := by decide +kernel
theorem dX7_init_198 : decode cX7_init 198 = .ok (.iconst 5, 1) := by decide +kernel
theorem dX7_init_199 : decode cX7_init 199 = .ok (.bipush 116, 2) := by decide +kernel
theorem dX7_init_201 : decode cX7_init 201 = .ok (.iastore, 1) := by decide +kernel
theorem dX7_init_202 : decode cX7_init 202 = .ok (.dup, 1) := by decide +kernel
theorem dX7_init_203 : decode cX7_init 203 = .ok (.bipush 6, 2) := by decide +kernel
theorem dX7_init_205 : decode cX7_init 205 = .ok (.bipush 32, 2) := by decide +kernel
theorem dX7_init_207 : decode cX7_init 207 = .ok (.iastore, 1) := by decide +kernel
theorem dX7_init_208 : decode cX7_init 208 = .ok (.dup, 1) := by decide +kernel
theorem dX7_init_209 : decode cX7_init 209 = .ok (.bipush 7, 2) := by decide +kernel
theorem dX7_init_211 : decode cX7_init 211 = .ok (.bipush 108, 2) := by decide +kernel
theorem dX7_init_213 : decode cX7_init 213 = .ok (.iastore, 1) := by decide +kernel
theorem dX7_init_214 : decode cX7_init 214 = .ok (.dup, 1) := by decide +kernel
theorem dX7_init_215 : decode cX7_init 215 = .ok (.bipush 8, 2) := by decide +kernel
theorem dX7_init_217 : decode cX7_init 217 = .ok (.bipush 111, 2) := by decide +kernel
theorem dX7_init_219 : decode cX7_init 219 = .ok (.iastore, 1) := by decide +kernel
theorem dX7_init_220 : decode cX7_init 220 = .ok (.dup, 1) := by decide +kernel
theorem dX7_init_221 : decode cX7_init 221 = .ok (.bipush 9, 2) := by decide +kernel
theorem dX7_init_223 : decode cX7_init 223 = .ok (.bipush 117, 2) := by decide +kernel
theorem dX7_init_225 : decode cX7_init 225 = .ok (.iastore, 1) := by decide +kernel
theorem dX7_init_226 : decode cX7_init 226 = .ok (.dup, 1) := by decide +kernel
theorem dX7_init_227 : decode cX7_init 227 = .ok (.bipush 10, 2) := by decide +kernel
theorem dX7_init_229 : decode cX7_init 229 = .ok (.bipush 100, 2) := by decide +kernel
theorem dX7_init_231 : decode cX7_init 231 = .ok (.iastore, 1) := by decide +kernel
theorem dX7_init_232 : decode cX7_init 232 = .ok (.dup, 1) := by decide +kernel
theorem dX7_init_233 : decode cX7_init 233 = .ok (.bipush 11, 2) := by decide +kernel
theorem dX7_init_235 : decode cX7_init 235 = .ok (.bipush 32, 2) := by decide +kernel
theorem dX7_init_237 : decode cX7_init 237 = .ok (.iastore, 1) := by decide +kernel
theorem dX7_init_238 : decode cX7_init 238 = .ok (.dup, 1) := by decide +kernel
theorem dX7_init_239 : decode cX7_init 239 = .ok (.bipush 12, 2) := by decide +kernel
theorem dX7_init_241 : decode cX7_init 241 = .ok (.bipush 42, 2) := by decide +kernel
theorem dX7_init_243 : decode cX7_init 243 = .ok (.iastore, 1) := by decide +kernel
theorem dX7_init_244 : decode cX7_init 244 = .ok (.dup, 1) := by decide +kernel
theorem dX7_init_245 : decode cX7_init 245 = .ok (.bipush 13, 2) := by decide +kernel
theorem dX7_init_247 : decode cX7_init 247 = .ok (.bipush 32, 2) := by decide +kernel
theorem dX7_init_249 : decode cX7_init 249 = .ok (.iastore, 1) := by decide +kernel
theorem dX7_init_250 : decode cX7_init 250 = .ok (.dup, 1) := by decide +kernel
theorem dX7_init_251 : decode cX7_init 251 = .ok (.bipush 14, 2) := by decide +kernel
theorem dX7_init_253 : decode cX7_init 253 = .ok (.bipush 50, 2) := by decide +kernel
theorem dX7_init_255 : decode cX7_init 255 = .ok (.iastore, 1) := by decide +kernel
theorem dX7_init_256 : decode cX7_init 256 = .ok (.dup, 1) := by decide +kernel
theorem dX7_init_257 : decode cX7_init 257 = .ok (.bipush 15, 2) := by decide +kernel
theorem dX7_init_259 : decode cX7_init 259 = .ok (.bipush 32, 2) := by decide +kernel
theorem dX7_init_261 : decode cX7_init 261 = .ok (.iastore, 1) := by decide +kernel
theorem dX7_init_262 : decode cX7_init 262 = .ok (.dup, 1) := by decide +kernel
theorem dX7_init_263 : decode cX7_init 263 = .ok (.bipush 16, 2) := by decide +kernel
theorem dX7_init_265 : decode cX7_init 265 = .ok (.bipush 43, 2) := by decide +kernel
theorem dX7_init_267 : decode cX7_init 267 = .ok (.iastore, 1) := by decide +kernel
theorem dX7_init_268 : decode cX7_init 268 = .ok (.dup, 1) := by decide +kernel
theorem dX7_init_269 : decode cX7_init 269 = .ok (.bipush 17, 2) := by decide +kernel
theorem dX7_init_271 : decode cX7_init 271 = .ok (.bipush 32, 2) := by decide +kernel
theorem dX7_init_273 : decode cX7_init 273 = .ok (.iastore, 1) := by decide +kernel
theorem dX7_init_274 : decode cX7_init 274 = .ok (.dup, 1) := by decide +kernel
theorem dX7_init_275 : decode cX7_init 275 = .ok (.bipush 18, 2) := by decide +kernel
theorem dX7_init_277 : decode cX7_init 277 = .ok (.bipush 100, 2) := by decide +kernel
theorem dX7_init_279 : decode cX7_init 279 = .ok (.iastore, 1) := by decide +kernel
theorem dX7_init_280 : decode cX7_init 280 = .ok (.dup, 1) := by decide +kernel
theorem dX7_init_281 : decode cX7_init 281 = .ok (.bipush 19, 2) := by decide +kernel
theorem dX7_init_283 : decode cX7_init 283 = .ok (.bipush 101, 2) := by decide +kernel
theorem dX7_init_285 : decode cX7_init 285 = .ok (.iastore, 1) := by decide +kernel
theorem dX7_init_286 : decode cX7_init 286 = .ok (.dup, 1) := by decide +kernel
theorem dX7_init_287 : decode cX7_init 287 = .ok (.bipush 20, 2) := by decide +kernel
theorem dX7_init_289 : decode cX7_init 289 = .ok (.bipush 112, 2) := by decide +kernel
theorem dX7_init_291 : decode cX7_init 291 = .ok (.iastore, 1) := by decide +kernel
theorem dX7_init_292 : decode cX7_init 292 = .ok (.dup, 1) := by decide +kernel
theorem dX7_init_293 : decode cX7_init 293 = .ok (.bipush 21, 2) := by decide +kernel
theorem dX7_init_295 : decode cX7_init 295 = .ok (.bipush 116, 2) := by decide +kernel
theorem dX7_init_297 : decode cX7_init 297 = .ok (.iastore, 1) := by decide +kernel
theorem dX7_init_298 : decode cX7_init 298 = .ok (.dup, 1) := by decide +kernel
theorem dX7_init_299 : decode cX7_init 299 = .ok (.bipush 22, 2) := by decide +kernel
theorem dX7_init_301 : decode cX7_init 301 = .ok (.bipush 104, 2) := by decide +kernel
theorem dX7_init_303 : decode cX7_init 303 = .ok (.iastore, 1) := by decide +kernel
theorem dX7_init_304 : decode cX7_init 304 = .ok (.dup, 1) := by decide +kernel
theorem dX7_init_305 : decode cX7_init 305 = .ok (.bipush 23, 2) := by decide +kernel
theorem dX7_init_307 : decode cX7_init 307 = .ok (.bipush 32, 2) := by decide +kernel
theorem dX7_init_309 : decode cX7_init 309 = .ok (.iastore, 1) := by decide +kernel
theorem dX7_init_310 : decode cX7_init 310 = .ok (.dup, 1) := by decide +kernel
theorem dX7_init_311 : decode cX7_init 311 = .ok (.bipush 24, 2) := by decide +kernel
theorem dX7_init_313 : decode cX7_init 313 = .ok (.bipush 59, 2) := by decide +kernel
theorem dX7_init_315 : decode cX7_init 315 = .ok (.iastore, 1) := by decide +kernel
theorem dX7_init_316 : decode cX7_init 316 = .ok (.dup, 1) := by decide +kernel
theorem dX7_init_317 : decode cX7_init 317 = .ok (.bipush 25, 2) := by decide +kernel
theorem dX7_init_319 : decode cX7_init 319 = .ok (.bipush 32, 2) := by decide +kernel
theorem dX7_init_321 : decode cX7_init 321 = .ok (.iastore, 1) := by decide +kernel
theorem dX7_init_322 : decode cX7_init 322 = .ok (.dup, 1) := by decide +kernel
theorem dX7_init_323 : decode cX7_init 323 = .ok (.bipush 26, 2) := by decide +kernel
theorem dX7_init_325 : decode cX7_init 325 = .ok (.bipush 112, 2) := by decide +kernel
theorem dX7_init_327 : decode cX7_init 327 = .ok (.iastore, 1) := by decide +kernel
theorem dX7_init_328 : decode cX7_init 328 = .ok (.dup, 1) := by decide +kernel
theorem dX7_init_329 : decode cX7_init 329 = .ok (.bipush 27, 2) := by decide +kernel
theorem dX7_init_331 : decode cX7_init 331 = .ok (.bipush 111, 2) := by decide +kernel
theorem dX7_init_333 : decode cX7_init 333 = .ok (.iastore, 1) := by decide +kernel
theorem dX7_init_334 : decode cX7_init 334 = .ok (.dup, 1) := by decide +kernel
theorem dX7_init_335 : decode cX7_init 335 = .ok (.bipush 28, 2) := by decide +kernel
theorem dX7_init_337 : decode cX7_init 337 = .ok (.bipush 105, 2) := by decide +kernel
theorem dX7_init_339 : decode cX7_init 339 = .ok (.iastore, 1) := by decide +kernel
theorem dX7_init_340 : decode cX7_init 340 = .ok (.dup, 1) := by decide +kernel
theorem dX7_init_341 : decode cX7_init 341 = .ok (.bipush 29, 2) := by decide +kernel
theorem dX7_init_343 : decode cX7_init 343 = .ok (.bipush 110, 2) := by decide +kernel
theorem dX7_init_345 : decode cX7_init 345 = .ok (.iastore, 1) := by decide +kernel
theorem dX7_init_346 : decode cX7_init 346 = .ok (.dup, 1) := by decide +kernel
theorem dX7_init_347 : decode cX7_init 347 = .ok (.bipush 30, 2) := by decide +kernel
theorem dX7_init_349 : decode cX7_init 349 = .ok (.bipush 116, 2) := by decide +kernel
theorem dX7_init_351 : decode cX7_init 351 = .ok (.iastore, 1) := by decide +kernel
theorem dX7_init_352 : decode cX7_init 352 = .ok (.dup, 1) := by decide +kernel
theorem dX7_init_353 : decode cX7_init 353 = .ok (.bipush 31, 2) := by decide +kernel
theorem dX7_init_355 : decode cX7_init 355 = .ok (.bipush 115, 2) := by decide +kernel
theorem dX7_init_357 : decode cX7_init 357 = .ok (.iastore, 1) := by decide +kernel
theorem dX7_init_358 : decode cX7_init 358 = .ok (.dup, 1) := by decide +kernel
theorem dX7_init_359 : decode cX7_init 359 = .ok (.bipush 32, 2) := by decide +kernel
theorem dX7_init_361 : decode cX7_init 361 = .ok (.bipush 32, 2) := by decide +kernel
theorem dX7_init_363 : decode cX7_init 363 = .ok (.iastore, 1) := by decide +kernel
theorem dX7_init_364 : decode cX7_init 364 = .ok (.dup, 1) := by decide +kernel
theorem dX7_init_365 : decode cX7_init 365 = .ok (.bipush 33, 2) := by decide +kernel
theorem dX7_init_367 : decode cX7_init 367 = .ok (.bipush 49, 2) := by decide +kernel
theorem dX7_init_369 : decode cX7_init 369 = .ok (.iastore, 1) := by decide +kernel
theorem dX7_init_370 : decode cX7_init 370 = .ok (.dup, 1) := by decide +kernel
theorem dX7_init_371 : decode cX7_init 371 = .ok (.bipush 34, 2) := by decide +kernel
theorem dX7_init_373 : decode cX7_init 373 = .ok (.bipush 32, 2) := by decide +kernel
theorem dX7_init_375 : decode cX7_init 375 = .ok (.iastore, 1) := by decide +kernel
theorem dX7_init_376 : decode cX7_init 376 = .ok (.dup, 1) := by decide +kernel
theorem dX7_init_377 : decode cX7_init 377 = .ok (.bipush 35, 2) := by decide +kernel
theorem dX7_init_379 : decode cX7_init 379 = .ok (.bipush 59, 2) := by decide +kernel
theorem dX7_init_381 : decode cX7_init 381 = .ok (.iastore, 1) := by decide +kernel
theorem dX7_init_382 : decode cX7_init 382 = .ok (.dup, 1) := by decide +kernel
theorem dX7_init_383 : decode cX7_init 383 = .ok (.bipush 36, 2) := by decide +kernel
theorem dX7_init_385 : decode cX7_init 385 = .ok (.bipush 32, 2) := by decide +kernel
theorem dX7_init_387 : decode cX7_init 387 = .ok (.iastore, 1) := by decide +kernel
theorem dX7_init_388 : decode cX7_init 388 = .ok (.dup, 1) := by decide +kernel
theorem dX7_init_389 : decode cX7_init 389 = .ok (.bipush 37, 2) := by decide +kernel
theorem dX7_init_391 : decode cX7_init 391 = .ok (.bipush 104, 2) := by decide +kernel
theorem dX7_init_393 : decode cX7_init 393 = .ok (.iastore, 1) := by decide +kernel
theorem dX7_init_394 : decode cX7_init 394 = .ok (.dup, 1) := by decide +kernel
theorem dX7_init_395 : decode cX7_init 395 = .ok (.bipush 38, 2) := by decide +kernel
theorem dX7_init_397 : decode cX7_init 397 = .ok (.bipush 105, 2) := by decide +kernel
theorem dX7_init_399 : decode cX7_init 399 = .ok (.iastore, 1) := by decide +kernel
theorem dX7_init_400 : decode cX7_init 400 = .ok (.dup, 1) := by decide +kernel
theorem dX7_init_401 : decode cX7_init 401 = .ok (.bipush 39, 2) := by decide +kernel
theorem dX7_init_403 : decode cX7_init 403 = .ok (.bipush 114, 2) := by decide +kernel
theorem dX7_init_405 : decode cX7_init 405 = .ok (.iastore, 1) := by decide +kernel
theorem dX7_init_406 : decode cX7_init 406 = .ok (.dup, 1) := by decide +kernel
theorem dX7_init_407 : decode cX7_init 407 = .ok (.bipush 40, 2) := by decide +kernel
theorem dX7_init_409 : decode cX7_init 409 = .ok (.bipush 101, 2) := by decide +kernel
theorem dX7_init_411 : decode cX7_init 411 = .ok (.iastore, 1) := by decide +kernel
theorem dX7_init_412 : decode cX7_init 412 = .ok (.dup, 1) := by decide +kernel
theorem dX7_init_413 : decode cX7_init 413 = .ok (.bipush 41, 2) := by decide +kernel
theorem dX7_init_415 : decode cX7_init 415 = .ok (.bipush 115, 2) := by decide +kernel
theorem dX7_init_417 : decode cX7_init 417 = .ok (.iastore, 1) := by decide +kernel
theorem dX7_init_418 : decode cX7_init 418 = .ok (.dup, 1) := by decide +kernel
theorem dX7_init_419 : decode cX7_init 419 = .ok (.bipush 42, 2) := by decide +kernel
theorem dX7_init_421 : decode cX7_init 421 = .ok (.bipush 32, 2) := by decide +kernel
theorem dX7_init_423 : decode cX7_init 423 = .ok (.iastore, 1) := by decide +kernel
theorem dX7_init_424 : decode cX7_init 424 = .ok (.dup, 1) := by decide +kernel
theorem dX7_init_425 : decode cX7_init 425 = .ok (.bipush 43, 2) := by decide +kernel
theorem dX7_init_427 : decode cX7_init 427 = .ok (.bipush 100, 2) := by decide +kernel
theorem dX7_init_429 : decode cX7_init 429 = .ok (.iastore, 1) := by decide +kernel
theorem dX7_init_430 : decode cX7_init 430 = .ok (.dup, 1) := by decide +kernel
theorem dX7_init_431 : decode cX7_init 431 = .ok (.bipush 44, 2) := by decide +kernel
theorem dX7_init_433 : decode cX7_init 433 = .ok (.bipush 101, 2) := by decide +kernel
theorem dX7_init_435 : decode cX7_init 435 = .ok (.iastore, 1) := by decide +kernel
theorem dX7_init_436 : decode cX7_init 436 = .ok (.dup, 1) := by decide +kernel
theorem dX7_init_437 : decode cX7_init 437 = .ok (.bipush 45, 2) := by decide +kernel
theorem dX7_init_439 : decode cX7_init 439 = .ok (.bipush 112, 2) := by decide +kernel
theorem dX7_init_441 : decode cX7_init 441 = .ok (.iastore, 1) := by decide +kernel
theorem dX7_init_442 : decode cX7_init 442 = .ok (.dup, 1) := by decide +kernel
theorem dX7_init_443 : decode cX7_init 443 = .ok (.bipush 46, 2) := by decide +kernel
theorem dX7_init_445 : decode cX7_init 445 = .ok (.bipush 116, 2) := by decide +kernel
theorem dX7_init_447 : decode cX7_init 447 = .ok (.iastore, 1) := by decide +kernel
theorem dX7_init_448 : decode cX7_init 448 = .ok (.dup, 1) := by decide +kernel
theorem dX7_init_449 : decode cX7_init 449 = .ok (.bipush 47, 2) := by decide +kernel
theorem dX7_init_451 : decode cX7_init 451 = .ok (.bipush 104, 2) := by decide +kernel
theorem dX7_init_453 : decode cX7_init 453 = .ok (.iastore, 1) := by decide +kernel
theorem dX7_init_454 : decode cX7_init 454 = .ok (.dup, 1) := by decide +kernel
theorem dX7_init_455 : decode cX7_init 455 = .ok (.bipush 48, 2) := by decide +kernel
theorem dX7_init_457 : decode cX7_init 457 = .ok (.bipush 32, 2) := by decide +kernel
theorem dX7_init_459 : decode cX7_init 459 = .ok (.iastore, 1) := by decide +kernel
theorem dX7_init_460 : decode cX7_init 460 = .ok (.dup, 1) := by decide +kernel
theorem dX7_init_461 : decode cX7_init 461 = .ok (.bipush 49, 2) := by decide +kernel
theorem dX7_init_463 : decode cX7_init 463 = .ok (.bipush 59, 2) := by decide +kernel
theorem dX7_init_465 : decode cX7_init 465 = .ok (.iastore, 1) := by decide +kernel
theorem dX7_init_466 : decode cX7_init 466 = .ok (.putfield 61, 3) := by decide +kernel
theorem dX7_init_469 : decode cX7_init 469 = .ok (.aload_n 0, 1) := by decide +kernel
theorem dX7_init_470 : decode cX7_init 470 = .ok (.bipush 96, 2) := by decide +kernel
theorem dX7_init_472 : decode cX7_init 472 = .ok (.newarray .int, 2) := by decide +kernel
theorem dX7_init_474 : decode cX7_init 474 = .ok (.dup, 1) := by decide +kernel
theorem dX7_init_475 : decode cX7_init 475 = .ok (.iconst 0, 1) := by decide +kernel
theorem dX7_init_476 : decode cX7_init 476 = .ok (.bipush 119, 2) := by decide +kernel
theorem dX7_init_478 : decode cX7_init 478 = .ok (.iastore, 1) := by decide +kernel
theorem dX7_init_479 : decode cX7_init 479 = .ok (.dup, 1) := by decide +kernel
theorem dX7_init_480 : decode cX7_init 480 = .ok (.iconst 1, 1) := by decide +kernel
theorem dX7_init_481 : decode cX7_init 481 = .ok (.bipush 101, 2) := by decide +kernel
theorem dX7_init_483 : decode cX7_init 483 = .ok (.iastore, 1) := by decide +kernel
theorem dX7_init_484 : decode cX7_init 484 = .ok (.dup, 1) := by decide +kernel
theorem dX7_init_485 : decode cX7_init 485 = .ok (.iconst 2, 1) := by decide +kernel
theorem dX7_init_486 : decode cX7_init 486 = .ok (.bipush 105, 2) := by decide +kernel
theorem dX7_init_488 : decode cX7_init 488 = .ok (.iastore, 1) := by decide +kernel
theorem dX7_init_489 : decode cX7_init 489 = .ok (.dup, 1) := by decide +kernel
theorem dX7_init_490 : decode cX7_init 490 = .ok (.iconst 3, 1) := by decide +kernel
theorem dX7_init_491 : decode cX7_init 491 = .ok (.bipush 103, 2) := by decide +kernel
theorem dX7_init_493 : decode cX7_init 493 = .ok (.iastore, 1) := by decide +kernel
theorem dX7_init_494 : decode cX7_init 494 = .ok (.dup, 1) := by decide +kernel
theorem dX7_init_495 : decode cX7_init 495 = .ok (.iconst 4, 1) := by decide +kernel
theorem dX7_init_496 : decode cX7_init 496 = .ok (.bipush 104, 2) := by decide +kernel
theorem dX7_init_498 : decode cX7_init 498 = .ok (.iastore, 1) := by decide +kernel
theorem dX7_init_499 : decode cX7_init 499 = .ok (.dup, 1) := by decide +kernel
theorem dX7_init_500 : decode cX7_init 500 = .ok (.iconst 5, 1) := by decide +kernel
theorem dX7_init_501 : decode cX7_init 501 = .ok (.bipush 116, 2) := by decide +kernel
theorem dX7_init_503 : decode cX7_init 503 = .ok (.iastore, 1) := by decide +kernel
theorem dX7_init_504 : decode cX7_init 504 = .ok (.dup, 1) := by decide +kernel
theorem dX7_init_505 : decode cX7_init 505 = .ok (.bipush 6, 2) := by decide +kernel
theorem dX7_init_507 : decode cX7_init 507 = .ok (.bipush 32, 2) := by decide +kernel
theorem dX7_init_509 : decode cX7_init 509 = .ok (.iastore, 1) := by decide +kernel
theorem dX7_init_510 : decode cX7_init 510 = .ok (.dup, 1) := by decide +kernel
theorem dX7_init_511 : decode cX7_init 511 = .ok (.bipush 7, 2) := by decide +kernel
theorem dX7_init_513 : decode cX7_init 513 = .ok (.bipush 32, 2) := by decide +kernel
theorem dX7_init_515 : decode cX7_init 515 = .ok (.iastore, 1) := by decide +kernel
theorem dX7_init_516 : decode cX7_init 516 = .ok (.dup, 1) := by decide +kernel
theorem dX7_init_517 : decode cX7_init 517 = .ok (.bipush 8, 2) := by decide +kernel
theorem dX7_init_519 : decode cX7_init 519 = .ok (.bipush 112, 2) := by decide +kernel
theorem dX7_init_521 : decode cX7_init 521 = .ok (.iastore, 1) := by decide +kernel
theorem dX7_init_522 : decode cX7_init 522 = .ok (.dup, 1) := by decide +kernel
theorem dX7_init_523 : decode cX7_init 523 = .ok (.bipush 9, 2) := by decide +kernel
theorem dX7_init_525 : decode cX7_init 525 = .ok (.bipush 111, 2) := by decide +kernel
theorem dX7_init_527 : decode cX7_init 527 = .ok (.iastore, 1) := by decide +kernel
theorem dX7_init_528 : decode cX7_init 528 = .ok (.dup, 1) := by decide +kernel
theorem dX7_init_529 : decode cX7_init 529 = .ok (.bipush 10, 2) := by decide +kernel
theorem dX7_init_531 : decode cX7_init 531 = .ok (.bipush 105, 2) := by decide +kernel
theorem dX7_init_533 : decode cX7_init 533 = .ok (.iastore, 1) := by decide +kernel
theorem dX7_init_534 : decode cX7_init 534 = .ok (.dup, 1) := by decide +kernel
theorem dX7_init_535 : decode cX7_init 535 = .ok (.bipush 11, 2) := by decide +kernel
theorem dX7_init_537 : decode cX7_init 537 = .ok (.bipush 110, 2) := by decide +kernel
theorem dX7_init_539 : decode cX7_init 539 = .ok (.iastore, 1) := by decide +kernel
theorem dX7_init_540 : decode cX7_init 540 = .ok (.dup, 1) := by decide +kernel
theorem dX7_init_541 : decode cX7_init 541 = .ok (.bipush 12, 2) := by decide +kernel
theorem dX7_init_543 : decode cX7_init 543 = .ok (.bipush 116, 2) := by decide +kernel
theorem dX7_init_545 : decode cX7_init 545 = .ok (.iastore, 1) := by decide +kernel
theorem dX7_init_546 : decode cX7_init 546 = .ok (.dup, 1) := by decide +kernel
theorem dX7_init_547 : decode cX7_init 547 = .ok (.bipush 13, 2) := by decide +kernel
theorem dX7_init_549 : decode cX7_init 549 = .ok (.bipush 115, 2) := by decide +kernel
theorem dX7_init_551 : decode cX7_init 551 = .ok (.iastore, 1) := by decide +kernel
theorem dX7_init_552 : decode cX7_init 552 = .ok (.dup, 1) := by decide +kernel
theorem dX7_init_553 : decode cX7_init 553 = .ok (.bipush 14, 2) := by decide +kernel
theorem dX7_init_555 : decode cX7_init 555 = .ok (.bipush 32, 2) := by decide +kernel
theorem dX7_init_557 : decode cX7_init 557 = .ok (.iastore, 1) := by decide +kernel
theorem dX7_init_558 : decode cX7_init 558 = .ok (.dup, 1) := by decide +kernel
theorem dX7_init_559 : decode cX7_init 559 = .ok (.bipush 15, 2) := by decide +kernel
theorem dX7_init_561 : decode cX7_init 561 = .ok (.bipush 32, 2) := by decide +kernel
theorem dX7_init_563 : decode cX7_init 563 = .ok (.iastore, 1) := by decide +kernel
theorem dX7_init_564 : decode cX7_init 564 = .ok (.dup, 1) := by decide +kernel
theorem dX7_init_565 : decode cX7_init 565 = .ok (.bipush 16, 2) := by decide +kernel
theorem dX7_init_567 : decode cX7_init 567 = .ok (.bipush 104, 2) := by decide +kernel
theorem dX7_init_569 : decode cX7_init 569 = .ok (.iastore, 1) := by decide +kernel
theorem dX7_init_570 : decode cX7_init 570 = .ok (.dup, 1) := by decide +kernel
theorem dX7_init_571 : decode cX7_init 571 = .ok (.bipush 17, 2) := by decide +kernel
theorem dX7_init_573 : decode cX7_init 573 = .ok (.bipush 105, 2) := by decide +kernel
theorem dX7_init_575 : decode cX7_init 575 = .ok (.iastore, 1) := by decide +kernel
theorem dX7_init_576 : decode cX7_init 576 = .ok (.dup, 1) := by decide +kernel
theorem dX7_init_577 : decode cX7_init 577 = .ok (.bipush 18, 2) := by decide +kernel
theorem dX7_init_579 : decode cX7_init 579 = .ok (.bipush 114, 2) := by decide +kernel
theorem dX7_init_581 : decode cX7_init 581 = .ok (.iastore, 1) := by decide +kernel
theorem dX7_init_582 : decode cX7_init 582 = .ok (.dup, 1) := by decide +kernel
theorem dX7_init_583 : decode cX7_init 583 = .ok (.bipush 19, 2) := by decide +kernel
theorem dX7_init_585 : decode cX7_init 585 = .ok (.bipush 101, 2) := by decide +kernel
theorem dX7_init_587 : decode cX7_init 587 = .ok (.iastore, 1) := by decide +kernel
theorem dX7_init_588 : decode cX7_init 588 = .ok (.dup, 1) := by decide +kernel
theorem dX7_init_589 : decode cX7_init 589 = .ok (.bipush 20, 2) := by decide +kernel
theorem dX7_init_591 : decode cX7_init 591 = .ok (.bipush 115, 2) := by decide +kernel
theorem dX7_init_593 : decode cX7_init 593 = .ok (.iastore, 1) := by decide +kernel
theorem dX7_init_594 : decode cX7_init 594 = .ok (.dup, 1) := by decide +kernel
theorem dX7_init_595 : decode cX7_init 595 = .ok (.bipush 21, 2) := by decide +kernel
theorem dX7_init_597 : decode cX7_init 597 = .ok (.bipush 32, 2) := by decide +kernel
theorem dX7_init_599 : decode cX7_init 599 = .ok (.iastore, 1) := by decide +kernel
theorem dX7_init_600 : decode cX7_init 600 = .ok (.dup, 1) := by decide +kernel
theorem dX7_init_601 : decode cX7_init 601 = .ok (.bipush 22, 2) := by decide +kernel
theorem dX7_init_603 : decode cX7_init 603 = .ok (.bipush 32, 2) := by decide +kernel
theorem dX7_init_605 : decode cX7_init 605 = .ok (.iastore, 1) := by decide +kernel
theorem dX7_init_606 : decode cX7_init 606 = .ok (.dup, 1) := by decide +kernel
theorem dX7_init_607 : decode cX7_init 607 = .ok (.bipush 23, 2) := by decide +kernel
theorem dX7_init_609 : decode cX7_init 609 = .ok (.bipush 32, 2) := by decide +kernel
theorem dX7_init_611 : decode cX7_init 611 = .ok (.iastore, 1) := by decide +kernel
theorem dX7_init_612 : decode cX7_init 612 = .ok (.dup, 1) := by decide +kernel
theorem dX7_init_613 : decode cX7_init 613 = .ok (.bipush 24, 2) := by decide +kernel
theorem dX7_init_615 : decode cX7_init 615 = .ok (.bipush 100, 2) := by decide +kernel
theorem dX7_init_617 : decode cX7_init 617 = .ok (.iastore, 1) := by decide +kernel
theorem dX7_init_618 : decode cX7_init 618 = .ok (.dup, 1) := by decide +kernel
theorem dX7_init_619 : decode cX7_init 619 = .ok (.bipush 25, 2) := by decide +kernel
theorem dX7_init_621 : decode cX7_init 621 = .ok (.bipush 101, 2) := by decide +kernel
theorem dX7_init_623 : decode cX7_init 623 = .ok (.iastore, 1) := by decide +kernel
theorem dX7_init_624 : decode cX7_init 624 = .ok (.dup, 1) := by decide +kernel
theorem dX7_init_625 : decode cX7_init 625 = .ok (.bipush 26, 2) := by decide +kernel
theorem dX7_init_627 : decode cX7_init 627 = .ok (.bipush 112, 2) := by decide +kernel
theorem dX7_init_629 : decode cX7_init 629 = .ok (.iastore, 1) := by decide +kernel
theorem dX7_init_630 : decode cX7_init 630 = .ok (.dup, 1) := by decide +kernel
theorem dX7_init_631 : decode cX7_init 631 = .ok (.bipush 27, 2) := by decide +kernel
theorem dX7_init_633 : decode cX7_init 633 = .ok (.bipush 116, 2) := by decide +kernel
theorem dX7_init_635 : decode cX7_init 635 = .ok (.iastore, 1) := by decide +kernel
theorem dX7_init_636 : decode cX7_init 636 = .ok (.dup, 1) := by decide +kernel
theorem dX7_init_637 : decode cX7_init 637 = .ok (.bipush 28, 2) := by decide +kernel
theorem dX7_init_639 : decode cX7_init 639 = .ok (.bipush 104, 2) := by decide +kernel
theorem dX7_init_641 : decode cX7_init 641 = .ok (.iastore, 1) := by decide +kernel
theorem dX7_init_642 : decode cX7_init 642 = .ok (.dup, 1) := by decide +kernel
theorem dX7_init_643 : decode cX7_init 643 = .ok (.bipush 29, 2) := by decide +kernel
theorem dX7_init_645 : decode cX7_init 645 = .ok (.bipush 32, 2) := by decide +kernel
theorem dX7_init_647 : decode cX7_init 647 = .ok (.iastore, 1) := by decide +kernel
theorem dX7_init_648 : decode cX7_init 648 = .ok (.dup, 1) := by decide +kernel
theorem dX7_init_649 : decode cX7_init 649 = .ok (.bipush 30, 2) := by decide +kernel
theorem dX7_init_651 : decode cX7_init 651 = .ok (.bipush 32, 2) := by decide +kernel
theorem dX7_init_653 : decode cX7_init 653 = .ok (.iastore, 1) := by decide +kernel
theorem dX7_init_654 : decode cX7_init 654 = .ok (.dup, 1) := by decide +kernel
theorem dX7_init_655 : decode cX7_init 655 = .ok (.bipush 31, 2) := by decide +kernel
theorem dX7_init_657 : decode cX7_init 657 = .ok (.bipush 32, 2) := by decide +kernel
theorem dX7_init_659 : decode cX7_init 659 = .ok (.iastore, 1) := by decide +kernel
theorem dX7_init_660 : decode cX7_init 660 = .ok (.dup, 1) := by decide +kernel
theorem dX7_init_661 : decode cX7_init 661 = .ok (.bipush 32, 2) := by decide +kernel
theorem dX7_init_663 : decode cX7_init 663 = .ok (.bipush 97, 2) := by decide +kernel
theorem dX7_init_665 : decode cX7_init 665 = .ok (.iastore, 1) := by decide +kernel
theorem dX7_init_666 : decode cX7_init 666 = .ok (.dup, 1) := by decide +kernel
theorem dX7_init_667 : decode cX7_init 667 = .ok (.bipush 33, 2) := by decide +kernel
theorem dX7_init_669 : decode cX7_init 669 = .ok (.bipush 115, 2) := by decide +kernel
theorem dX7_init_671 : decode cX7_init 671 = .ok (.iastore, 1) := by decide +kernel
theorem dX7_init_672 : decode cX7_init 672 = .ok (.dup, 1) := by decide +kernel
theorem dX7_init_673 : decode cX7_init 673 = .ok (.bipush 34, 2) := by decide +kernel
theorem dX7_init_675 : decode cX7_init 675 = .ok (.bipush 107, 2) := by decide +kernel
theorem dX7_init_677 : decode cX7_init 677 = .ok (.iastore, 1) := by decide +kernel
theorem dX7_init_678 : decode cX7_init 678 = .ok (.dup, 1) := by decide +kernel
theorem dX7_init_679 : decode cX7_init 679 = .ok (.bipush 35, 2) := by decide +kernel
theorem dX7_init_681 : decode cX7_init 681 = .ok (.bipush 101, 2) := by decide +kernel
theorem dX7_init_683 : decode cX7_init 683 = .ok (.iastore, 1) := by decide +kernel
theorem dX7_init_684 : decode cX7_init 684 = .ok (.dup, 1) := by decide +kernel
theorem dX7_init_685 : decode cX7_init 685 = .ok (.bipush 36, 2) := by decide +kernel
theorem dX7_init_687 : decode cX7_init 687 = .ok (.bipush 100, 2) := by decide +kernel
theorem dX7_init_689 : decode cX7_init 689 = .ok (.iastore, 1) := by decide +kernel
theorem dX7_init_690 : decode cX7_init 690 = .ok (.dup, 1) := by decide +kernel
theorem dX7_init_691 : decode cX7_init 691 = .ok (.bipush 37, 2) := by decide +kernel
theorem dX7_init_693 : decode cX7_init 693 = .ok (.bipush 32, 2) := by decide +kernel
theorem dX7_init_695 : decode cX7_init 695 = .ok (.iastore, 1) := by decide +kernel
theorem dX7_init_696 : decode cX7_init 696 = .ok (.dup, 1) := by decide +kernel
theorem dX7_init_697 : decode cX7_init 697 = .ok (.bipush 38, 2) := by decide +kernel
theorem dX7_init_699 : decode cX7_init 699 = .ok (.bipush 32, 2) := by decide +kernel
theorem dX7_init_701 : decode cX7_init 701 = .ok (.iastore, 1) := by decide +kernel
theorem dX7_init_702 : decode cX7_init 702 = .ok (.dup, 1) := by decide +kernel
theorem dX7_init_703 : decode cX7_init 703 = .ok (.bipush 39, 2) := by decide +kernel
theorem dX7_init_705 : decode cX7_init 705 = .ok (.bipush 32, 2) := by decide +kernel
theorem dX7_init_707 : decode cX7_init 707 = .ok (.iastore, 1) := by decide +kernel
theorem dX7_init_708 : decode cX7_init 708 = .ok (.dup, 1) := by decide +kernel
theorem dX7_init_709 : decode cX7_init 709 = .ok (.bipush 40, 2) := by decide +kernel
theorem dX7_init_711 : decode cX7_init 711 = .ok (.bipush 108, 2) := by decide +kernel
theorem dX7_init_713 : decode cX7_init 713 = .ok (.iastore, 1) := by decide +kernel
theorem dX7_init_714 : decode cX7_init 714 = .ok (.dup, 1) := by decide +kernel
theorem dX7_init_715 : decode cX7_init 715 = .ok (.bipush 41, 2) := by decide +kernel
theorem dX7_init_717 : decode cX7_init 717 = .ok (.bipush 111, 2) := by decide +kernel
theorem dX7_init_719 : decode cX7_init 719 = .ok (.iastore, 1) := by decide +kernel
theorem dX7_init_720 : decode cX7_init 720 = .ok (.dup, 1) := by decide +kernel
theorem dX7_init_721 : decode cX7_init 721 = .ok (.bipush 42, 2) := by decide +kernel
theorem dX7_init_723 : decode cX7_init 723 = .ok (.bipush 117, 2) := by decide +kernel
theorem dX7_init_725 : decode cX7_init 725 = .ok (.iastore, 1) := by decide +kernel
theorem dX7_init_726 : decode cX7_init 726 = .ok (.dup, 1) := by decide +kernel
theorem dX7_init_727 : decode cX7_init 727 = .ok (.bipush 43, 2) := by decide +kernel
theorem dX7_init_729 : decode cX7_init 729 = .ok (.bipush 100, 2) := by decide +kernel
theorem dX7_init_731 : decode cX7_init 731 = .ok (.iastore, 1) := by decide +kernel
theorem dX7_init_732 : decode cX7_init 732 = .ok (.dup, 1) := by decide +kernel
theorem dX7_init_733 : decode cX7_init 733 = .ok (.bipush 44, 2) := by decide +kernel
theorem dX7_init_735 : decode cX7_init 735 = .ok (.bipush 32, 2) := by decide +kernel
theorem dX7_init_737 : decode cX7_init 737 = .ok (.iastore, 1) := by decide +kernel
theorem dX7_init_738 : decode cX7_init 738 = .ok (.dup, 1) := by decide +kernel
theorem dX7_init_739 : decode cX7_init 739 = .ok (.bipush 45, 2) := by decide +kernel
theorem dX7_init_741 : decode cX7_init 741 = .ok (.bipush 32, 2) := by decide +kernel
theorem dX7_init_743 : decode cX7_init 743 = .ok (.iastore, 1) := by decide +kernel
theorem dX7_init_744 : decode cX7_init 744 = .ok (.dup, 1) := by decide +kernel
theorem dX7_init_745 : decode cX7_init 745 = .ok (.bipush 46, 2) := by decide +kernel
theorem dX7_init_747 : decode cX7_init 747 = .ok (.bipush 32, 2) := by decide +kernel
theorem dX7_init_749 : decode cX7_init 749 = .ok (.iastore, 1) := by decide +kernel
theorem dX7_init_750 : decode cX7_init 750 = .ok (.dup, 1) := by decide +kernel
theorem dX7_init_751 : decode cX7_init 751 = .ok (.bipush 47, 2) := by decide +kernel
theorem dX7_init_753 : decode cX7_init 753 = .ok (.bipush 32, 2) := by decide +kernel
theorem dX7_init_755 : decode cX7_init 755 = .ok (.iastore, 1) := by decide +kernel
theorem dX7_init_756 : decode cX7_init 756 = .ok (.dup, 1) := by decide +kernel
theorem dX7_init_757 : decode cX7_init 757 = .ok (.bipush 48, 2) := by decide +kernel
theorem dX7_init_759 : decode cX7_init 759 = .ok (.bipush 116, 2) := by decide +kernel
theorem dX7_init_761 : decode cX7_init 761 = .ok (.iastore, 1) := by decide +kernel
theorem dX7_init_762 : decode cX7_init 762 = .ok (.dup, 1) := by decide +kernel
theorem dX7_init_763 : decode cX7_init 763 = .ok (.bipush 49, 2) := by decide +kernel
theorem dX7_init_765 : decode cX7_init 765 = .ok (.bipush 111, 2) := by decide +kernel
theorem dX7_init_767 : decode cX7_init 767 = .ok (.iastore, 1) := by decide +kernel
theorem dX7_init_768 : decode cX7_init 768 = .ok (.dup, 1) := by decide +kernel
theorem dX7_init_769 : decode cX7_init 769 = .ok (.bipush 50, 2) := by decide +kernel
theorem dX7_init_771 : decode cX7_init 771 = .ok (.bipush 112, 2) := by decide +kernel
theorem dX7_init_773 : decode cX7_init 773 = .ok (.iastore, 1) := by decide +kernel
theorem dX7_init_774 : decode cX7_init 774 = .ok (.dup, 1) := by decide +kernel
theorem dX7_init_775 : decode cX7_init 775 = .ok (.bipush 51, 2) := by decide +kernel
theorem dX7_init_777 : decode cX7_init 777 = .ok (.bipush 105, 2) := by decide +kernel
theorem dX7_init_779 : decode cX7_init 779 = .ok (.iastore, 1) := by decide +kernel
theorem dX7_init_780 : decode cX7_init 780 = .ok (.dup, 1) := by decide +kernel
theorem dX7_init_781 : decode cX7_init 781 = .ok (.bipush 52, 2) := by decide +kernel
theorem dX7_init_783 : decode cX7_init 783 = .ok (.bipush 99, 2) := by decide +kernel
theorem dX7_init_785 : decode cX7_init 785 = .ok (.iastore, 1) := by decide +kernel
theorem dX7_init_786 : decode cX7_init 786 = .ok (.dup, 1) := by decide +kernel
theorem dX7_init_787 : decode cX7_init 787 = .ok (.bipush 53, 2) := by decide +kernel
theorem dX7_init_789 : decode cX7_init 789 = .ok (.bipush 32, 2) := by decide +kernel
theorem dX7_init_791 : decode cX7_init 791 = .ok (.iastore, 1) := by decide +kernel
theorem dX7_init_792 : decode cX7_init 792 = .ok (.dup, 1) := by decide +kernel
theorem dX7_init_793 : decode cX7_init 793 = .ok (.bipush 54, 2) := by decide +kernel
theorem dX7_init_795 : decode cX7_init 795 = .ok (.bipush 32, 2) := by decide +kernel
theorem dX7_init_797 : decode cX7_init 797 = .ok (.iastore, 1) := by decide +kernel
theorem dX7_init_798 : decode cX7_init 798 = .ok (.dup, 1) := by decide +kernel
theorem dX7_init_799 : decode cX7_init 799 = .ok (.bipush 55, 2) := by decide +kernel
theorem dX7_init_801 : decode cX7_init 801 = .ok (.bipush 32, 2) := by decide +kernel
theorem dX7_init_803 : decode cX7_init 803 = .ok (.iastore, 1) := by decide +kernel
theorem dX7_init_804 : decode cX7_init 804 = .ok (.dup, 1) := by decide +kernel
theorem dX7_init_805 : decode cX7_init 805 = .ok (.bipush 56, 2) := by decide +kernel
theorem dX7_init_807 : decode cX7_init 807 = .ok (.bipush 114, 2) := by decide +kernel
theorem dX7_init_809 : decode cX7_init 809 = .ok (.iastore, 1) := by decide +kernel
theorem dX7_init_810 : decode cX7_init 810 = .ok (.dup, 1) := by decide +kernel
theorem dX7_init_811 : decode cX7_init 811 = .ok (.bipush 57, 2) := by decide +kernel
theorem dX7_init_813 : decode cX7_init 813 = .ok (.bipush 111, 2) := by decide +kernel
theorem dX7_init_815 : decode cX7_init 815 = .ok (.iastore, 1) := by decide +kernel
theorem dX7_init_816 : decode cX7_init 816 = .ok (.dup, 1) := by decide +kernel
theorem dX7_init_817 : decode cX7_init 817 = .ok (.bipush 58, 2) := by decide +kernel
theorem dX7_init_819 : decode cX7_init 819 = .ok (.bipush 117, 2) := by decide +kernel
theorem dX7_init_821 : decode cX7_init 821 = .ok (.iastore, 1) := by decide +kernel
theorem dX7_init_822 : decode cX7_init 822 = .ok (.dup, 1) := by decide +kernel
theorem dX7_init_823 : decode cX7_init 823 = .ok (.bipush 59, 2) := by decide +kernel
theorem dX7_init_825 : decode cX7_init 825 = .ok (.bipush 110, 2) := by decide +kernel
theorem dX7_init_827 : decode cX7_init 827 = .ok (.iastore, 1) := by decide +kernel
theorem dX7_init_828 : decode cX7_init 828 = .ok (.dup, 1) := by decide +kernel
theorem dX7_init_829 : decode cX7_init 829 = .ok (.bipush 60, 2) := by decide +kernel
theorem dX7_init_831 : decode cX7_init 831 = .ok (.bipush 100, 2) := by decide +kernel
theorem dX7_init_833 : decode cX7_init 833 = .ok (.iastore, 1) := by decide +kernel
theorem dX7_init_834 : decode cX7_init 834 = .ok (.dup, 1) := by decide +kernel
theorem dX7_init_835 : decode cX7_init 835 = .ok (.bipush 61, 2) := by decide +kernel
theorem dX7_init_837 : decode cX7_init 837 = .ok (.bipush 32, 2) := by decide +kernel
theorem dX7_init_839 : decode cX7_init 839 = .ok (.iastore, 1) := by decide +kernel
theorem dX7_init_840 : decode cX7_init 840 = .ok (.dup, 1) := by decide +kernel
theorem dX7_init_841 : decode cX7_init 841 = .ok (.bipush 62, 2) := by decide +kernel
theorem dX7_init_843 : decode cX7_init 843 = .ok (.bipush 32, 2) := by decide +kernel
theorem dX7_init_845 : decode cX7_init 845 = .ok (.iastore, 1) := by decide +kernel
theorem dX7_init_846 : decode cX7_init 846 = .ok (.dup, 1) := by decide +kernel
theorem dX7_init_847 : decode cX7_init 847 = .ok (.bipush 63, 2) := by decide +kernel
theorem dX7_init_849 : decode cX7_init 849 = .ok (.bipush 32, 2) := by decide +kernel
theorem dX7_init_851 : decode cX7_init 851 = .ok (.iastore, 1) := by decide +kernel
theorem dX7_init_852 : decode cX7_init 852 = .ok (.dup, 1) := by decide +kernel
theorem dX7_init_853 : decode cX7_init 853 = .ok (.bipush 64, 2) := by decide +kernel
theorem dX7_init_855 : decode cX7_init 855 = .ok (.bipush 119, 2) := by decide +kernel
theorem dX7_init_857 : decode cX7_init 857 = .ok (.iastore, 1) := by decide +kernel
theorem dX7_init_858 : decode cX7_init 858 = .ok (.dup, 1) := by decide +kernel
theorem dX7_init_859 : decode cX7_init 859 = .ok (.bipush 65, 2) := by decide +kernel
theorem dX7_init_861 : decode cX7_init 861 = .ok (.bipush 104, 2) := by decide +kernel
theorem dX7_init_863 : decode cX7_init 863 = .ok (.iastore, 1) := by decide +kernel
theorem dX7_init_864 : decode cX7_init 864 = .ok (.dup, 1) := by decide +kernel
theorem dX7_init_865 : decode cX7_init 865 = .ok (.bipush 66, 2) := by decide +kernel
theorem dX7_init_867 : decode cX7_init 867 = .ok (.bipush 111, 2) := by decide +kernel
theorem dX7_init_869 : decode cX7_init 869 = .ok (.iastore, 1) := by decide +kernel
theorem dX7_init_870 : decode cX7_init 870 = .ok (.dup, 1) := by decide +kernel
theorem dX7_init_871 : decode cX7_init 871 = .ok (.bipush 67, 2) := by decide +kernel
theorem dX7_init_873 : decode cX7_init 873 = .ok (.bipush 32, 2) := by decide +kernel
theorem dX7_init_875 : decode cX7_init 875 = .ok (.iastore, 1) := by decide +kernel
theorem dX7_init_876 : decode cX7_init 876 = .ok (.dup, 1) := by decide +kernel
theorem dX7_init_877 : decode cX7_init 877 = .ok (.bipush 68, 2) := by decide +kernel
theorem dX7_init_879 : decode cX7_init 879 = .ok (.bipush 32, 2) := by decide +kernel
theorem dX7_init_881 : decode cX7_init 881 = .ok (.iastore, 1) := by decide +kernel
theorem dX7_init_882 : decode cX7_init 882 = .ok (.dup, 1) := by decide +kernel
theorem dX7_init_883 : decode cX7_init 883 = .ok (.bipush 69, 2) := by decide +kernel
theorem dX7_init_885 : decode cX7_init 885 = .ok (.bipush 32, 2) := by decide +kernel
theorem dX7_init_887 : decode cX7_init 887 = .ok (.iastore, 1) := by decide +kernel
theorem dX7_init_888 : decode cX7_init 888 = .ok (.dup, 1) := by decide +kernel
theorem dX7_init_889 : decode cX7_init 889 = .ok (.bipush 70, 2) := by decide +kernel
theorem dX7_init_891 : decode cX7_init 891 = .ok (.bipush 32, 2) := by decide +kernel
theorem dX7_init_893 : decode cX7_init 893 = .ok (.iastore, 1) := by decide +kernel
theorem dX7_init_894 : decode cX7_init 894 = .ok (.dup, 1) := by decide +kernel
theorem dX7_init_895 : decode cX7_init 895 = .ok (.bipush 71, 2) := by decide +kernel
theorem dX7_init_897 : decode cX7_init 897 = .ok (.bipush 32, 2) := by decide +kernel
theorem dX7_init_899 : decode cX7_init 899 = .ok (.iastore, 1) := by decide +kernel
theorem dX7_init_900 : decode cX7_init 900 = .ok (.dup, 1) := by decide +kernel
theorem dX7_init_901 : decode cX7_init 901 = .ok (.bipush 72, 2) := by decide +kernel
theorem dX7_init_903 : decode cX7_init 903 = .ok (.bipush 111, 2) := by decide +kernel
theorem dX7_init_905 : decode cX7_init 905 = .ok (.iastore, 1) := by decide +kernel
theorem dX7_init_906 : decode cX7_init 906 = .ok (.dup, 1) := by decide +kernel
theorem dX7_init_907 : decode cX7_init 907 = .ok (.bipush 73, 2) := by decide +kernel
theorem dX7_init_909 : decode cX7_init 909 = .ok (.bipush 114, 2) := by decide +kernel
theorem dX7_init_911 : decode cX7_init 911 = .ok (.iastore, 1) := by decide +kernel
theorem dX7_init_912 : decode cX7_init 912 = .ok (.dup, 1) := by decide +kernel
theorem dX7_init_913 : decode cX7_init 913 = .ok (.bipush 74, 2) := by decide +kernel
theorem dX7_init_915 : decode cX7_init 915 = .ok (.bipush 32, 2) := by decide +kernel
theorem dX7_init_917 : decode cX7_init 917 = .ok (.iastore, 1) := by decide +kernel
theorem dX7_init_918 : decode cX7_init 918 = .ok (.dup, 1) := by decide +kernel
theorem dX7_init_919 : decode cX7_init 919 = .ok (.bipush 75, 2) := by decide +kernel
theorem dX7_init_921 : decode cX7_init 921 = .ok (.bipush 32, 2) := by decide +kernel
theorem dX7_init_923 : decode cX7_init 923 = .ok (.iastore, 1) := by decide +kernel
theorem dX7_init_924 : decode cX7_init 924 = .ok (.dup, 1) := by decide +kernel
theorem dX7_init_925 : decode cX7_init 925 = .ok (.bipush 76, 2) := by decide +kernel
theorem dX7_init_927 : decode cX7_init 927 = .ok (.bipush 32, 2) := by decide +kernel
theorem dX7_init_929 : decode cX7_init 929 = .ok (.iastore, 1) := by decide +kernel
theorem dX7_init_930 : decode cX7_init 930 = .ok (.dup, 1) := by decide +kernel
theorem dX7_init_931 : decode cX7_init 931 = .ok (.bipush 77, 2) := by decide +kernel
theorem dX7_init_933 : decode cX7_init 933 = .ok (.bipush 32, 2) := by decide +kernel
theorem dX7_init_935 : decode cX7_init 935 = .ok (.iastore, 1) := by decide +kernel
theorem dX7_init_936 : decode cX7_init 936 = .ok (.dup, 1) := by decide +kernel
theorem dX7_init_937 : decode cX7_init 937 = .ok (.bipush 78, 2) := by decide +kernel
theorem dX7_init_939 : decode cX7_init 939 = .ok (.bipush 32, 2) := by decide +kernel
theorem dX7_init_941 : decode cX7_init 941 = .ok (.iastore, 1) := by decide +kernel
theorem dX7_init_942 : decode cX7_init 942 = .ok (.dup, 1) := by decide +kernel
theorem dX7_init_943 : decode cX7_init 943 = .ok (.bipush 79, 2) := by decide +kernel
theorem dX7_init_945 : decode cX7_init 945 = .ok (.bipush 32, 2) := by decide +kernel
theorem dX7_init_947 : decode cX7_init 947 = .ok (.iastore, 1) := by decide +kernel
theorem dX7_init_948 : decode cX7_init 948 = .ok (.dup, 1) := by decide +kernel
theorem dX7_init_949 : decode cX7_init 949 = .ok (.bipush 80, 2) := by decide +kernel
theorem dX7_init_951 : decode cX7_init 951 = .ok (.bipush 97, 2) := by decide +kernel
theorem dX7_init_953 : decode cX7_init 953 = .ok (.iastore, 1) := by decide +kernel
theorem dX7_init_954 : decode cX7_init 954 = .ok (.dup, 1) := by decide +kernel
theorem dX7_init_955 : decode cX7_init 955 = .ok (.bipush 81, 2) := by decide +kernel
theorem dX7_init_957 : decode cX7_init 957 = .ok (.bipush 110, 2) := by decide +kernel
theorem dX7_init_959 : decode cX7_init 959 = .ok (.iastore, 1) := by decide +kernel
theorem dX7_init_960 : decode cX7_init 960 = .ok (.dup, 1) := by decide +kernel
theorem dX7_init_961 : decode cX7_init 961 = .ok (.bipush 82, 2) := by decide +kernel
theorem dX7_init_963 : decode cX7_init 963 = .ok (.bipush 100, 2) := by decide +kernel
theorem dX7_init_965 : decode cX7_init 965 = .ok (.iastore, 1) := by decide +kernel
theorem dX7_init_966 : decode cX7_init 966 = .ok (.dup, 1) := by decide +kernel
theorem dX7_init_967 : decode cX7_init 967 = .ok (.bipush 83, 2) := by decide +kernel
theorem dX7_init_969 : decode cX7_init 969 = .ok (.bipush 32, 2) := by decide +kernel
theorem dX7_init_971 : decode cX7_init 971 = .ok (.iastore, 1) := by decide +kernel
theorem dX7_init_972 : decode cX7_init 972 = .ok (.dup, 1) := by decide +kernel
theorem dX7_init_973 : decode cX7_init 973 = .ok (.bipush 84, 2) := by decide +kernel
theorem dX7_init_975 : decode cX7_init 975 = .ok (.bipush 32, 2) := by decide +kernel
theorem dX7_init_977 : decode cX7_init 977 = .ok (.iastore, 1) := by decide +kernel
theorem dX7_init_978 : decode cX7_init 978 = .ok (.dup, 1) := by decide +kernel
theorem dX7_init_979 : decode cX7_init 979 = .ok (.bipush 85, 2) := by decide +kernel
theorem dX7_init_981 : decode cX7_init 981 = .ok (.bipush 32, 2) := by decide +kernel
theorem dX7_init_983 : decode cX7_init 983 = .ok (.iastore, 1) := by decide +kernel
theorem dX7_init_984 : decode cX7_init 984 = .ok (.dup, 1) := by decide +kernel
theorem dX7_init_985 : decode cX7_init 985 = .ok (.bipush 86, 2) := by decide +kernel
theorem dX7_init_987 : decode cX7_init 987 = .ok (.bipush 32, 2) := by decide +kernel
theorem dX7_init_989 : decode cX7_init 989 = .ok (.iastore, 1) := by decide +kernel
theorem dX7_init_990 : decode cX7_init 990 = .ok (.dup, 1) := by decide +kernel
theorem dX7_init_991 : decode cX7_init 991 = .ok (.bipush 87, 2) := by decide +kernel
theorem dX7_init_993 : decode cX7_init 993 = .ok (.bipush 32, 2) := by decide +kernel
theorem dX7_init_995 : decode cX7_init 995 = .ok (.iastore, 1) := by decide +kernel
theorem dX7_init_996 : decode cX7_init 996 = .ok (.dup, 1) := by decide +kernel
theorem dX7_init_997 : decode cX7_init 997 = .ok (.bipush 88, 2) := by decide +kernel
theorem dX7_init_999 : decode cX7_init 999 = .ok (.bipush 110, 2) := by decide +kernel
theorem dX7_init_1001 : decode cX7_init 1001 = .ok (.iastore, 1) := by decide +kernel
theorem dX7_init_1002 : decode cX7_init 1002 = .ok (.dup, 1) := by decide +kernel
theorem dX7_init_1003 : decode cX7_init 1003 = .ok (.bipush 89, 2) := by decide +kernel
theorem dX7_init_1005 : decode cX7_init 1005 = .ok (.bipush 111, 2) := by decide +kernel
theorem dX7_init_1007 : decode cX7_init 1007 = .ok (.iastore, 1) := by decide +kernel
theorem dX7_init_1008 : decode cX7_init 1008 = .ok (.dup, 1) := by decide +kernel
theorem dX7_init_1009 : decode cX7_init 1009 = .ok (.bipush 90, 2) := by decide +kernel
theorem dX7_init_1011 : decode cX7_init 1011 = .ok (.bipush 116, 2) := by decide +kernel
theorem dX7_init_1013 : decode cX7_init 1013 = .ok (.iastore, 1) := by decide +kernel
theorem dX7_init_1014 : decode cX7_init 1014 = .ok (.dup, 1) := by decide +kernel
theorem dX7_init_1015 : decode cX7_init 1015 = .ok (.bipush 91, 2) := by decide +kernel
theorem dX7_init_1017 : decode cX7_init 1017 = .ok (.bipush 32, 2) := by decide +kernel
theorem dX7_init_1019 : decode cX7_init 1019 = .ok (.iastore, 1) := by decide +kernel
theorem dX7_init_1020 : decode cX7_init 1020 = .ok (.dup, 1) := by decide +kernel
theorem dX7_init_1021 : decode cX7_init 1021 = .ok (.bipush 92, 2) := by decide +kernel
theorem dX7_init_1023 : decode cX7_init 1023 = .ok (.bipush 32, 2) := by decide +kernel
theorem dX7_init_1025 : decode cX7_init 1025 = .ok (.iastore, 1) := by decide +kernel
theorem dX7_init_1026 : decode cX7_init 1026 = .ok (.dup, 1) := by decide +kernel
theorem dX7_init_1027 : decode cX7_init 1027 = .ok (.bipush 93, 2) := by decide +kernel
theorem dX7_init_1029 : decode cX7_init 1029 = .ok (.bipush 32, 2) := by decide +kernel
theorem dX7_init_1031 : decode cX7_init 1031 = .ok (.iastore, 1) := by decide +kernel
theorem dX7_init_1032 : decode cX7_init 1032 = .ok (.dup, 1) := by decide +kernel
theorem dX7_init_1033 : decode cX7_init 1033 = .ok (.bipush 94, 2) := by decide +kernel
theorem dX7_init_1035 : decode cX7_init 1035 = .ok (.bipush 32, 2) := by decide +kernel
theorem dX7_init_1037 : decode cX7_init 1037 = .ok (.iastore, 1) := by decide +kernel
theorem dX7_init_1038 : decode cX7_init 1038 = .ok (.dup, 1) := by decide +kernel
theorem dX7_init_1039 : decode cX7_init 1039 = .ok (.bipush 95, 2) := by decide +kernel
theorem dX7_init_1041 : decode cX7_init 1041 = .ok (.bipush 32, 2) := by decide +kernel
theorem dX7_init_1043 : decode cX7_init 1043 = .ok (.iastore, 1) := by decide +kernel
theorem dX7_init_1044 : decode cX7_init 1044 = .ok (.putfield 64, 3) := by decide +kernel
theorem dX7_init_1047 : decode cX7_init 1047 = .ok (.aload_n 0, 1) := by decide +kernel
theorem dX7_init_1048 : decode cX7_init 1048 = .ok (.sipush 200, 3) := by decide +kernel
theorem dX7_init_1051 : decode cX7_init 1051 = .ok (.newarray .int, 2) := by decide +kernel
theorem dX7_init_1053 : decode cX7_init 1053 = .ok (.putfield 67, 3) := by decide +kernel
theorem dX7_init_1056 : decode cX7_init 1056 = .ok (.aload_n 0, 1) := by decide +kernel
theorem dX7_init_1057 : decode cX7_init 1057 = .ok (.sipush 200, 3) := by decide +kernel
theorem dX7_init_1060 : decode cX7_init 1060 = .ok (.newarray .int, 2) := by decide +kernel
theorem dX7_init_1062 : decode cX7_init 1062 = .ok (.putfield 70, 3) := by decide +kernel
theorem dX7_init_1065 : decode cX7_init 1065 = .ok (.aload_n 0, 1) := by decide +kernel
theorem dX7_init_1066 : decode cX7_init 1066 = .ok (.bipush 6, 2) := by decide +kernel
theorem dX7_init_1068 : decode cX7_init 1068 = .ok (.newarray .int, 2) := by decide +kernel
theorem dX7_init_1070 : decode cX7_init 1070 = .ok (.putfield 73, 3) := by decide +kernel
theorem dX7_init_1073 : decode cX7_init 1073 = .ok (.aload_n 0, 1) := by decide +kernel
theorem dX7_init_1074 : decode cX7_init 1074 = .ok (.bipush 28, 2) := by decide +kernel
theorem dX7_init_1076 : decode cX7_init 1076 = .ok (.newarray .int, 2) := by decide +kernel
theorem dX7_init_1078 : decode cX7_init 1078 = .ok (.putfield 76, 3) := by decide +kernel
theorem dX7_init_1081 : decode cX7_init 1081 = .ok (.iconst 0, 1) := by decide +kernel
theorem dX7_init_1082 : decode cX7_init 1082 = .ok (.istore_n 1, 1) := by decide +kernel
theorem dX7_init_1083 : decode cX7_init 1083 = .ok (.iload_n 1, 1) := by decide +kernel
theorem dX7_init_1084 : decode cX7_init 1084 = .ok (.bipush 50, 2) := by decide +kernel
theorem dX7_init_1086 : decode cX7_init 1086 = .ok (.if_icmp .ge 21, 3) := by decide +kernel
theorem dX7_init_1089 : decode cX7_init 1089 = .ok (.aload_n 0, 1) := by decide +kernel
theorem dX7_init_1090 : decode cX7_init 1090 = .ok (.getfield 34, 3) := by decide +kernel
theorem dX7_init_1093 : decode cX7_init 1093 = .ok (.iload_n 1, 1) := by decide +kernel
theorem dX7_init_1094 : decode cX7_init 1094 = .ok (.aload_n 0, 1) := by decide +kernel
theorem dX7_init_1095 : decode cX7_init 1095 = .ok (.getfield 61, 3) := by decide +kernel
theorem dX7_init_1098 : decode cX7_init 1098 = .ok (.iload_n 1, 1) := by decide +kernel
theorem dX7_init_1099 : decode cX7_init 1099 = .ok (.iaload, 1) := by decide +kernel
theorem dX7_init_1100 : decode cX7_init 1100 = .ok (.iastore, 1) := by decide +kernel
theorem dX7_init_1101 : decode cX7_init 1101 = .ok (.iinc 1 1, 3) := by decide +kernel
theorem dX7_init_1104 : decode cX7_init 1104 = .ok (.goto (-21), 3) := by decide +kernel
theorem dX7_init_1107 : decode cX7_init 1107 = .ok (.aload_n 0, 1) := by decide +kernel
theorem dX7_init_1108 : decode cX7_init 1108 = .ok (.bipush 50, 2) := by decide +kernel
theorem dX7_init_1110 : decode cX7_init 1110 = .ok (.putfield 79, 3) := by decide +kernel
theorem dX7_init_1113 : decode cX7_init 1113 = .ok (.aload_n 0, 1) := by decide +kernel
theorem dX7_init_1114 : decode cX7_init 1114 = .ok (.invokevirtual 83, 3) := by decide +kernel
theorem dX7_init_1117 : decode cX7_init 1117 = .ok (.pop, 1) := by decide +kernel
theorem dX7_init_1118 : decode cX7_init 1118 = .ok (.return_, 1) := by decide +kernel
theorem dX7_in_0 : decode cX7_in 0 = .ok (.iload_n 0, 1) := by decide +kernel
theorem dX7_in_1 : decode cX7_in 1 = .ok (.iload_n 1, 1) := by decide +kernel
theorem dX7_in_2 : decode cX7_in 2 = .ok (.if_icmp .lt 12, 3) := by decide +kernel
theorem dX7_in_5 : decode cX7_in 5 = .ok (.iload_n 0, 1) := by decide +kernel
theorem dX7_in_6 : decode cX7_in 6 = .ok (.iload_n 2, 1) := by decide +kernel
theorem dX7_in_7 : decode cX7_in 7 = .ok (.if_icmp .gt 7, 3) := by decide +kernel
theorem dX7_in_10 : decode cX7_in 10 = .ok (.iconst 1, 1) := by decide +kernel
theorem dX7_in_11 : decode cX7_in 11 = .ok (.goto 4, 3) := by decide +kernel
theorem dX7_in_14 : decode cX7_in 14 = .ok (.iconst 0, 1) := by decide +kernel
theorem dX7_in_15 : decode cX7_in 15 = .ok (.ireturn, 1) := by decide +kernel
theorem dX7_within_0 : decode cX7_within 0 = .ok (.iload_n 0, 1) := by decide +kernel
theorem dX7_within_1 : decode cX7_within 1 = .ok (.iload_n 1, 1) := by decide +kernel
theorem dX7_within_2 : decode cX7_within 2 = .ok (.if_icmp .ge 7, 3) := by decide +kernel
theorem dX7_within_5 : decode cX7_within 5 = .ok (.iload_n 1, 1) := by decide +kernel
theorem dX7_within_6 : decode cX7_within 6 = .ok (.goto 13, 3) := by decide +kernel
theorem dX7_within_9 : decode cX7_within 9 = .ok (.iload_n 0, 1) := by decide +kernel
theorem dX7_within_10 : decode cX7_within 10 = .ok (.iload_n 2, 1) := by decide +kernel
theorem dX7_within_11 : decode cX7_within 11 = .ok (.if_icmp .le 7, 3) := by decide +kernel
theorem dX7_within_14 : decode cX7_within 14 = .ok (.iload_n 2, 1) := by decide +kernel
theorem dX7_within_15 : decode cX7_within 15 = .ok (.goto 4, 3) := by decide +kernel
theorem dX7_within_18 : decode cX7_within 18 = .ok (.iload_n 0, 1) := by decide +kernel
theorem dX7_within_19 : decode cX7_within 19 = .ok (.ireturn, 1) := by decide +kernel
theorem dX7_isOne_0 : decode cX7_isOne 0 = .ok (.iload_n 1, 1) := by decide +kernel
theorem dX7_isOne_1 : decode cX7_isOne 1 = .ok (.iconst 0, 1) := by decide +kernel
theorem dX7_isOne_2 : decode cX7_isOne 2 = .ok (.aload_n 0, 1) := by decide +kernel
theorem dX7_isOne_3 : decode cX7_isOne 3 = .ok (.getfield 87, 3) := by decide +kernel
theorem dX7_isOne_6 : decode cX7_isOne 6 = .ok (.iconst 1, 1) := by decide +kernel
theorem dX7_isOne_7 : decode cX7_isOne 7 = .ok (.isub, 1) := by decide +kernel
theorem dX7_isOne_8 : decode cX7_isOne 8 = .ok (.invokestatic 90, 3) := by decide +kernel
theorem dX7_isOne_11 : decode cX7_isOne 11 = .ok (.ireturn, 1) := by decide +kernel
theorem dX7_isQuestion_0 : decode cX7_isQuestion 0 = .ok (.iload_n 1, 1) := by decide +kernel
theorem dX7_isQuestion_1 : decode cX7_isQuestion 1 = .ok (.iconst 0, 1) := by decide +kernel
theorem dX7_isQuestion_2 : decode cX7_isQuestion 2 = .ok (.aload_n 0, 1) := by decide +kernel
theorem dX7_isQuestion_3 : decode cX7_isQuestion 3 = .ok (.getfield 94, 3) := by decide +kernel
theorem dX7_isQuestion_6 : decode cX7_isQuestion 6 = .ok (.iconst 1, 1) := by decide +kernel
theorem dX7_isQuestion_7 : decode cX7_isQuestion 7 = .ok (.isub, 1) := by decide +kernel
theorem dX7_isQuestion_8 : decode cX7_isQuestion 8 = .ok (.invokestatic 90, 3) := by decide +kernel
theorem dX7_isQuestion_11 : decode cX7_isQuestion 11 = .ok (.ireturn, 1) := by decide +kernel
theorem dX7_isTable_0 : decode cX7_isTable 0 = .ok (.iload_n 0, 1) := by decide +kernel
theorem dX7_isTable_1 : decode cX7_isTable 1 = .ok (.iconst 0, 1) := by decide +kernel
theorem dX7_isTable_2 : decode cX7_isTable 2 = .ok (.iconst 2, 1) := by decide +kernel
theorem dX7_isTable_3 : decode cX7_isTable 3 = .ok (.invokestatic 90, 3) := by decide +kernel
theorem dX7_isTable_6 : decode cX7_isTable 6 = .ok (.ireturn, 1) := by decide +kernel
theorem dX7_ones_0 : decode cX7_ones 0 = .ok (.iconst 0, 1) := by decide +kernel
theorem dX7_ones_1 : decode cX7_ones 1 = .ok (.istore_n 1, 1) := by decide +kernel
theorem dX7_ones_2 : decode cX7_ones 2 = .ok (.iconst 0, 1) := by decide +kernel
theorem dX7_ones_3 : decode cX7_ones 3 = .ok (.istore_n 2, 1) := by decide +kernel
theorem dX7_ones_4 : decode cX7_ones 4 = .ok (.iload_n 2, 1) := by decide +kernel
theorem dX7_ones_5 : decode cX7_ones 5 = .ok (.bipush 12, 2) := by decide +kernel
theorem dX7_ones_7 : decode cX7_ones 7 = .ok (.if_icmp .ge 17, 3) := by decide +kernel
theorem dX7_ones_10 : decode cX7_ones 10 = .ok (.iload_n 1, 1) := by decide +kernel
theorem dX7_ones_11 : decode cX7_ones 11 = .ok (.iload_n 0, 1) := by decide +kernel
theorem dX7_ones_12 : decode cX7_ones 12 = .ok (.iload_n 2, 1) := by decide +kernel
theorem dX7_ones_13 : decode cX7_ones 13 = .ok (.ishr, 1) := by decide +kernel
theorem dX7_ones_14 : decode cX7_ones 14 = .ok (.iconst 1, 1) := by decide +kernel
theorem dX7_ones_15 : decode cX7_ones 15 = .ok (.iand, 1) := by decide +kernel
theorem dX7_ones_16 : decode cX7_ones 16 = .ok (.iadd, 1) := by decide +kernel
theorem dX7_ones_17 : decode cX7_ones 17 = .ok (.istore_n 1, 1) := by decide +kernel
theorem dX7_ones_18 : decode cX7_ones 18 = .ok (.iinc 2 1, 3) := by decide +kernel
theorem dX7_ones_21 : decode cX7_ones 21 = .ok (.goto (-17), 3) := by decide +kernel
theorem dX7_ones_24 : decode cX7_ones 24 = .ok (.iload_n 1, 1) := by decide +kernel
theorem dX7_ones_25 : decode cX7_ones 25 = .ok (.ireturn, 1) := by decide +kernel
theorem dX7_count_0 : decode cX7_count 0 = .ok (.iload_n 1, 1) := by decide +kernel
theorem dX7_count_1 : decode cX7_count 1 = .ok (.tableswitch 60 0 4 #[35, 40, 45, 50, 55], 35) := by decide +kernel
theorem dX7_count_36 : decode cX7_count 36 = .ok (.aload_n 0, 1) := by decide +kernel
theorem dX7_count_37 : decode cX7_count 37 = .ok (.getfield 87, 3) := by decide +kernel
theorem dX7_count_40 : decode cX7_count 40 = .ok (.ireturn, 1) := by decide +kernel
theorem dX7_count_41 : decode cX7_count 41 = .ok (.aload_n 0, 1) := by decide +kernel
theorem dX7_count_42 : decode cX7_count 42 = .ok (.getfield 94, 3) := by decide +kernel
theorem dX7_count_45 : decode cX7_count 45 = .ok (.ireturn, 1) := by decide +kernel
theorem dX7_count_46 : decode cX7_count 46 = .ok (.aload_n 0, 1) := by decide +kernel
theorem dX7_count_47 : decode cX7_count 47 = .ok (.getfield 97, 3) := by decide +kernel
theorem dX7_count_50 : decode cX7_count 50 = .ok (.ireturn, 1) := by decide +kernel
theorem dX7_count_51 : decode cX7_count 51 = .ok (.aload_n 0, 1) := by decide +kernel
theorem dX7_count_52 : decode cX7_count 52 = .ok (.getfield 100, 3) := by decide +kernel
theorem dX7_count_55 : decode cX7_count 55 = .ok (.ireturn, 1) := by decide +kernel
theorem dX7_count_56 : decode cX7_count 56 = .ok (.aload_n 0, 1) := by decide +kernel
theorem dX7_count_57 : decode cX7_count 57 = .ok (.getfield 79, 3) := by decide +kernel
theorem dX7_count_60 : decode cX7_count 60 = .ok (.ireturn, 1) := by decide +kernel
theorem dX7_count_61 : decode cX7_count 61 = .ok (.bipush (-2), 2) := by decide +kernel
theorem dX7_count_63 : decode cX7_count 63 = .ok (.ireturn, 1) := by decide +kernel
theorem dX7_isByte_0 : decode cX7_isByte 0 = .ok (.iload_n 0, 1) := by decide +kernel
theorem dX7_isByte_1 : decode cX7_isByte 1 = .ok (.iconst 0, 1) := by decide +kernel
theorem dX7_isByte_2 : decode cX7_isByte 2 = .ok (.sipush 255, 3) := by decide +kernel
theorem dX7_isByte_5 : decode cX7_isByte 5 = .ok (.invokestatic 90, 3) := by decide +kernel
theorem dX7_isByte_8 : decode cX7_isByte 8 = .ok (.ireturn, 1) := by decide +kernel
theorem dX7_feed_0 : decode cX7_feed 0 = .ok (.iload_n 1, 1) := by decide +kernel
theorem dX7_feed_1 : decode cX7_feed 1 = .ok (.iconst 1, 1) := by decide +kernel
theorem dX7_feed_2 : decode cX7_feed 2 = .ok (.iconst 5, 1) := by decide +kernel
theorem dX7_feed_3 : decode cX7_feed 3 = .ok (.invokestatic 90, 3) := by decide +kernel
theorem dX7_feed_6 : decode cX7_feed 6 = .ok (.ifCond .eq 41, 3) := by decide +kernel
theorem dX7_feed_9 : decode cX7_feed 9 = .ok (.iload_n 2, 1) := by decide +kernel
theorem dX7_feed_10 : decode cX7_feed 10 = .ok (.invokestatic 103, 3) := by decide +kernel
theorem dX7_feed_13 : decode cX7_feed 13 = .ok (.ifCond .eq 34, 3) := by decide +kernel
theorem dX7_feed_16 : decode cX7_feed 16 = .ok (.iload_n 3, 1) := by decide +kernel
theorem dX7_feed_17 : decode cX7_feed 17 = .ok (.invokestatic 103, 3) := by decide +kernel
theorem dX7_feed_20 : decode cX7_feed 20 = .ok (.ifCond .eq 27, 3) := by decide +kernel
theorem dX7_feed_23 : decode cX7_feed 23 = .ok (.iload 4, 2) := by decide +kernel
theorem dX7_feed_25 : decode cX7_feed 25 = .ok (.invokestatic 103, 3) := by decide +kernel
theorem dX7_feed_28 : decode cX7_feed 28 = .ok (.ifCond .eq 19, 3) := by decide +kernel
theorem dX7_feed_31 : decode cX7_feed 31 = .ok (.iload 5, 2) := by decide +kernel
theorem dX7_feed_33 : decode cX7_feed 33 = .ok (.invokestatic 103, 3) := by decide +kernel
theorem dX7_feed_36 : decode cX7_feed 36 = .ok (.ifCond .eq 11, 3) := by decide +kernel
theorem dX7_feed_39 : decode cX7_feed 39 = .ok (.iload 6, 2) := by decide +kernel
theorem dX7_feed_41 : decode cX7_feed 41 = .ok (.invokestatic 103, 3) := by decide +kernel
theorem dX7_feed_44 : decode cX7_feed 44 = .ok (.ifCond .ne 6, 3) := by decide +kernel
theorem dX7_feed_47 : decode cX7_feed 47 = .ok (.bipush (-2), 2) := by decide +kernel
theorem dX7_feed_49 : decode cX7_feed 49 = .ok (.ireturn, 1) := by decide +kernel
theorem dX7_feed_50 : decode cX7_feed 50 = .ok (.aload_n 0, 1) := by decide +kernel
theorem dX7_feed_51 : decode cX7_feed 51 = .ok (.getfield 79, 3) := by decide +kernel
theorem dX7_feed_54 : decode cX7_feed 54 = .ok (.iload_n 1, 1) := by decide +kernel
theorem dX7_feed_55 : decode cX7_feed 55 = .ok (.iadd, 1) := by decide +kernel
theorem dX7_feed_56 : decode cX7_feed 56 = .ok (.sipush 160, 3) := by decide +kernel
theorem dX7_feed_59 : decode cX7_feed 59 = .ok (.if_icmp .le 6, 3) := by decide +kernel
theorem dX7_feed_62 : decode cX7_feed 62 = .ok (.bipush (-4), 2) := by decide +kernel
theorem dX7_feed_64 : decode cX7_feed 64 = .ok (.ireturn, 1) := by decide +kernel
theorem dX7_feed_65 : decode cX7_feed 65 = .ok (.iconst 0, 1) := by decide +kernel
theorem dX7_feed_66 : decode cX7_feed 66 = .ok (.istore 7, 2) := by decide +kernel
theorem dX7_feed_68 : decode cX7_feed 68 = .ok (.iload 7, 2) := by decide +kernel
theorem dX7_feed_70 : decode cX7_feed 70 = .ok (.iload_n 1, 1) := by decide +kernel
theorem dX7_feed_71 : decode cX7_feed 71 = .ok (.if_icmp .ge 71, 3) := by decide +kernel
theorem dX7_feed_74 : decode cX7_feed 74 = .ok (.aload_n 0, 1) := by decide +kernel
theorem dX7_feed_75 : decode cX7_feed 75 = .ok (.getfield 34, 3) := by decide +kernel
theorem dX7_feed_78 : decode cX7_feed 78 = .ok (.aload_n 0, 1) := by decide +kernel
theorem dX7_feed_79 : decode cX7_feed 79 = .ok (.getfield 79, 3) := by decide +kernel
theorem dX7_feed_82 : decode cX7_feed 82 = .ok (.iload 7, 2) := by decide +kernel
theorem dX7_feed_84 : decode cX7_feed 84 = .ok (.ifCond .ne 7, 3) := by decide +kernel
theorem dX7_feed_87 : decode cX7_feed 87 = .ok (.iload_n 2, 1) := by decide +kernel
theorem dX7_feed_88 : decode cX7_feed 88 = .ok (.goto 37, 3) := by decide +kernel
theorem dX7_feed_91 : decode cX7_feed 91 = .ok (.iload 7, 2) := by decide +kernel
theorem dX7_feed_93 : decode cX7_feed 93 = .ok (.iconst 1, 1) := by decide +kernel
theorem dX7_feed_94 : decode cX7_feed 94 = .ok (.if_icmp .ne 7, 3) := by decide +kernel
theorem dX7_feed_97 : decode cX7_feed 97 = .ok (.iload_n 3, 1) := by decide +kernel
theorem dX7_feed_98 : decode cX7_feed 98 = .ok (.goto 27, 3) := by decide +kernel
theorem dX7_feed_101 : decode cX7_feed 101 = .ok (.iload 7, 2) := by decide +kernel
theorem dX7_feed_103 : decode cX7_feed 103 = .ok (.iconst 2, 1) := by decide +kernel
theorem dX7_feed_104 : decode cX7_feed 104 = .ok (.if_icmp .ne 8, 3) := by decide +kernel
theorem dX7_feed_107 : decode cX7_feed 107 = .ok (.iload 4, 2) := by decide +kernel
theorem dX7_feed_109 : decode cX7_feed 109 = .ok (.goto 16, 3) := by decide +kernel
theorem dX7_feed_112 : decode cX7_feed 112 = .ok (.iload 7, 2) := by decide +kernel
theorem dX7_feed_114 : decode cX7_feed 114 = .ok (.iconst 3, 1) := by decide +kernel
theorem dX7_feed_115 : decode cX7_feed 115 = .ok (.if_icmp .ne 8, 3) := by decide +kernel
theorem dX7_feed_118 : decode cX7_feed 118 = .ok (.iload 5, 2) := by decide +kernel
theorem dX7_feed_120 : decode cX7_feed 120 = .ok (.goto 5, 3) := by decide +kernel
theorem dX7_feed_123 : decode cX7_feed 123 = .ok (.iload 6, 2) := by decide +kernel
theorem dX7_feed_125 : decode cX7_feed 125 = .ok (.iastore, 1) := by decide +kernel
theorem dX7_feed_126 : decode cX7_feed 126 = .ok (.aload_n 0, 1) := by decide +kernel
theorem dX7_feed_127 : decode cX7_feed 127 = .ok (.dup, 1) := by decide +kernel
theorem dX7_feed_128 : decode cX7_feed 128 = .ok (.getfield 79, 3) := by decide +kernel
theorem dX7_feed_131 : decode cX7_feed 131 = .ok (.iconst 1, 1) := by decide +kernel
theorem dX7_feed_132 : decode cX7_feed 132 = .ok (.iadd, 1) := by decide +kernel
theorem dX7_feed_133 : decode cX7_feed 133 = .ok (.putfield 79, 3) := by decide +kernel
theorem dX7_feed_136 : decode cX7_feed 136 = .ok (.iinc 7 1, 3) := by decide +kernel
theorem dX7_feed_139 : decode cX7_feed 139 = .ok (.goto (-71), 3) := by decide +kernel
theorem dX7_feed_142 : decode cX7_feed 142 = .ok (.aload_n 0, 1) := by decide +kernel
theorem dX7_feed_143 : decode cX7_feed 143 = .ok (.getfield 79, 3) := by decide +kernel
theorem dX7_feed_146 : decode cX7_feed 146 = .ok (.ireturn, 1) := by decide +kernel
theorem dX7_wordFrom_0 : decode cX7_wordFrom 0 = .ok (.iconst 0, 1) := by decide +kernel
theorem dX7_wordFrom_1 : decode cX7_wordFrom 1 = .ok (.istore_n 3, 1) := by decide +kernel
theorem dX7_wordFrom_2 : decode cX7_wordFrom 2 = .ok (.iload_n 3, 1) := by decide +kernel
theorem dX7_wordFrom_3 : decode cX7_wordFrom 3 = .ok (.bipush 12, 2) := by decide +kernel
theorem dX7_wordFrom_5 : decode cX7_wordFrom 5 = .ok (.if_icmp .ge 96, 3) := by decide +kernel
theorem dX7_wordFrom_8 : decode cX7_wordFrom 8 = .ok (.iload_n 2, 1) := by decide +kernel
theorem dX7_wordFrom_9 : decode cX7_wordFrom 9 = .ok (.iload_n 1, 1) := by decide +kernel
theorem dX7_wordFrom_10 : decode cX7_wordFrom 10 = .ok (.isub, 1) := by decide +kernel
theorem dX7_wordFrom_11 : decode cX7_wordFrom 11 = .ok (.bipush 8, 2) := by decide +kernel
theorem dX7_wordFrom_13 : decode cX7_wordFrom 13 = .ok (.if_icmp .gt 7, 3) := by decide +kernel
theorem dX7_wordFrom_16 : decode cX7_wordFrom 16 = .ok (.iconst 1, 1) := by decide +kernel
theorem dX7_wordFrom_17 : decode cX7_wordFrom 17 = .ok (.goto 4, 3) := by decide +kernel
theorem dX7_wordFrom_20 : decode cX7_wordFrom 20 = .ok (.iconst 0, 1) := by decide +kernel
theorem dX7_wordFrom_21 : decode cX7_wordFrom 21 = .ok (.istore 4, 2) := by decide +kernel
theorem dX7_wordFrom_23 : decode cX7_wordFrom 23 = .ok (.iconst 0, 1) := by decide +kernel
theorem dX7_wordFrom_24 : decode cX7_wordFrom 24 = .ok (.istore 5, 2) := by decide +kernel
theorem dX7_wordFrom_26 : decode cX7_wordFrom 26 = .ok (.iload 5, 2) := by decide +kernel
theorem dX7_wordFrom_28 : decode cX7_wordFrom 28 = .ok (.bipush 8, 2) := by decide +kernel
theorem dX7_wordFrom_30 : decode cX7_wordFrom 30 = .ok (.if_icmp .ge 58, 3) := by decide +kernel
theorem dX7_wordFrom_33 : decode cX7_wordFrom 33 = .ok (.iload 4, 2) := by decide +kernel
theorem dX7_wordFrom_35 : decode cX7_wordFrom 35 = .ok (.ifCond .eq 53, 3) := by decide +kernel
theorem dX7_wordFrom_38 : decode cX7_wordFrom 38 = .ok (.aload_n 0, 1) := by decide +kernel
theorem dX7_wordFrom_39 : decode cX7_wordFrom 39 = .ok (.getfield 64, 3) := by decide +kernel
theorem dX7_wordFrom_42 : decode cX7_wordFrom 42 = .ok (.bipush 8, 2) := by decide +kernel
theorem dX7_wordFrom_44 : decode cX7_wordFrom 44 = .ok (.iload_n 3, 1) := by decide +kernel
theorem dX7_wordFrom_45 : decode cX7_wordFrom 45 = .ok (.imul, 1) := by decide +kernel
theorem dX7_wordFrom_46 : decode cX7_wordFrom 46 = .ok (.iload 5, 2) := by decide +kernel
theorem dX7_wordFrom_48 : decode cX7_wordFrom 48 = .ok (.iadd, 1) := by decide +kernel
theorem dX7_wordFrom_49 : decode cX7_wordFrom 49 = .ok (.iaload, 1) := by decide +kernel
theorem dX7_wordFrom_50 : decode cX7_wordFrom 50 = .ok (.iload_n 1, 1) := by decide +kernel
theorem dX7_wordFrom_51 : decode cX7_wordFrom 51 = .ok (.iload 5, 2) := by decide +kernel
theorem dX7_wordFrom_53 : decode cX7_wordFrom 53 = .ok (.iadd, 1) := by decide +kernel
theorem dX7_wordFrom_54 : decode cX7_wordFrom 54 = .ok (.iload_n 2, 1) := by decide +kernel
theorem dX7_wordFrom_55 : decode cX7_wordFrom 55 = .ok (.if_icmp .ge 15, 3) := by decide +kernel
theorem dX7_wordFrom_58 : decode cX7_wordFrom 58 = .ok (.aload_n 0, 1) := by decide +kernel
theorem dX7_wordFrom_59 : decode cX7_wordFrom 59 = .ok (.getfield 34, 3) := by decide +kernel
theorem dX7_wordFrom_62 : decode cX7_wordFrom 62 = .ok (.iload_n 1, 1) := by decide +kernel
theorem dX7_wordFrom_63 : decode cX7_wordFrom 63 = .ok (.iload 5, 2) := by decide +kernel
theorem dX7_wordFrom_65 : decode cX7_wordFrom 65 = .ok (.iadd, 1) := by decide +kernel
theorem dX7_wordFrom_66 : decode cX7_wordFrom 66 = .ok (.iaload, 1) := by decide +kernel
theorem dX7_wordFrom_67 : decode cX7_wordFrom 67 = .ok (.goto 5, 3) := by decide +kernel
theorem dX7_wordFrom_70 : decode cX7_wordFrom 70 = .ok (.bipush 32, 2) := by decide +kernel
theorem dX7_wordFrom_72 : decode cX7_wordFrom 72 = .ok (.if_icmp .ne 7, 3) := by decide +kernel
theorem dX7_wordFrom_75 : decode cX7_wordFrom 75 = .ok (.iconst 1, 1) := by decide +kernel
theorem dX7_wordFrom_76 : decode cX7_wordFrom 76 = .ok (.goto 4, 3) := by decide +kernel
theorem dX7_wordFrom_79 : decode cX7_wordFrom 79 = .ok (.iconst 0, 1) := by decide +kernel
theorem dX7_wordFrom_80 : decode cX7_wordFrom 80 = .ok (.istore 4, 2) := by decide +kernel
theorem dX7_wordFrom_82 : decode cX7_wordFrom 82 = .ok (.iinc 5 1, 3) := by decide +kernel
theorem dX7_wordFrom_85 : decode cX7_wordFrom 85 = .ok (.goto (-59), 3) := by decide +kernel
theorem dX7_wordFrom_88 : decode cX7_wordFrom 88 = .ok (.iload 4, 2) := by decide +kernel
theorem dX7_wordFrom_90 : decode cX7_wordFrom 90 = .ok (.ifCond .eq 5, 3) := by decide +kernel
theorem dX7_wordFrom_93 : decode cX7_wordFrom 93 = .ok (.iload_n 3, 1) := by decide +kernel
theorem dX7_wordFrom_94 : decode cX7_wordFrom 94 = .ok (.ireturn, 1) := by decide +kernel
theorem dX7_wordFrom_95 : decode cX7_wordFrom 95 = .ok (.iinc 3 1, 3) := by decide +kernel
theorem dX7_wordFrom_98 : decode cX7_wordFrom 98 = .ok (.goto (-96), 3) := by decide +kernel
theorem dX7_wordFrom_101 : decode cX7_wordFrom 101 = .ok (.bipush 12, 2) := by decide +kernel
theorem dX7_wordFrom_103 : decode cX7_wordFrom 103 = .ok (.ireturn, 1) := by decide +kernel
theorem dX7_next_0 : decode cX7_next 0 = .ok (.aload_n 0, 1) := by decide +kernel
theorem dX7_next_1 : decode cX7_next 1 = .ok (.getfield 107, 3) := by decide +kernel
theorem dX7_next_4 : decode cX7_next 4 = .ok (.aload_n 0, 1) := by decide +kernel
theorem dX7_next_5 : decode cX7_next 5 = .ok (.getfield 79, 3) := by decide +kernel
theorem dX7_next_8 : decode cX7_next 8 = .ok (.if_icmp .ge 44, 3) := by decide +kernel
theorem dX7_next_11 : decode cX7_next 11 = .ok (.aload_n 0, 1) := by decide +kernel
theorem dX7_next_12 : decode cX7_next 12 = .ok (.getfield 34, 3) := by decide +kernel
theorem dX7_next_15 : decode cX7_next 15 = .ok (.aload_n 0, 1) := by decide +kernel
theorem dX7_next_16 : decode cX7_next 16 = .ok (.getfield 107, 3) := by decide +kernel
theorem dX7_next_19 : decode cX7_next 19 = .ok (.iaload, 1) := by decide +kernel
theorem dX7_next_20 : decode cX7_next 20 = .ok (.bipush 32, 2) := by decide +kernel
theorem dX7_next_22 : decode cX7_next 22 = .ok (.if_icmp .eq 17, 3) := by decide +kernel
theorem dX7_next_25 : decode cX7_next 25 = .ok (.aload_n 0, 1) := by decide +kernel
theorem dX7_next_26 : decode cX7_next 26 = .ok (.getfield 34, 3) := by decide +kernel
theorem dX7_next_29 : decode cX7_next 29 = .ok (.aload_n 0, 1) := by decide +kernel
theorem dX7_next_30 : decode cX7_next 30 = .ok (.getfield 107, 3) := by decide +kernel
theorem dX7_next_33 : decode cX7_next 33 = .ok (.iaload, 1) := by decide +kernel
theorem dX7_next_34 : decode cX7_next 34 = .ok (.bipush 10, 2) := by decide +kernel
theorem dX7_next_36 : decode cX7_next 36 = .ok (.if_icmp .ne 16, 3) := by decide +kernel
theorem dX7_next_39 : decode cX7_next 39 = .ok (.aload_n 0, 1) := by decide +kernel
theorem dX7_next_40 : decode cX7_next 40 = .ok (.dup, 1) := by decide +kernel
theorem dX7_next_41 : decode cX7_next 41 = .ok (.getfield 107, 3) := by decide +kernel
theorem dX7_next_44 : decode cX7_next 44 = .ok (.iconst 1, 1) := by decide +kernel
theorem dX7_next_45 : decode cX7_next 45 = .ok (.iadd, 1) := by decide +kernel
theorem dX7_next_46 : decode cX7_next 46 = .ok (.putfield 107, 3) := by decide +kernel
theorem dX7_next_49 : decode cX7_next 49 = .ok (.goto (-49), 3) := by decide +kernel
theorem dX7_next_52 : decode cX7_next 52 = .ok (.aload_n 0, 1) := by decide +kernel
theorem dX7_next_53 : decode cX7_next 53 = .ok (.aload_n 0, 1) := by decide +kernel
theorem dX7_next_54 : decode cX7_next 54 = .ok (.getfield 107, 3) := by decide +kernel
theorem dX7_next_57 : decode cX7_next 57 = .ok (.putfield 110, 3) := by decide +kernel
theorem dX7_next_60 : decode cX7_next 60 = .ok (.aload_n 0, 1) := by decide +kernel
theorem dX7_next_61 : decode cX7_next 61 = .ok (.iconst 0, 1) := by decide +kernel
theorem dX7_next_62 : decode cX7_next 62 = .ok (.putfield 113, 3) := by decide +kernel
theorem dX7_next_65 : decode cX7_next 65 = .ok (.aload_n 0, 1) := by decide +kernel
theorem dX7_next_66 : decode cX7_next 66 = .ok (.iconst 0, 1) := by decide +kernel
theorem dX7_next_67 : decode cX7_next 67 = .ok (.putfield 116, 3) := by decide +kernel
theorem dX7_next_70 : decode cX7_next 70 = .ok (.aload_n 0, 1) := by decide +kernel
theorem dX7_next_71 : decode cX7_next 71 = .ok (.getfield 107, 3) := by decide +kernel
theorem dX7_next_74 : decode cX7_next 74 = .ok (.aload_n 0, 1) := by decide +kernel
theorem dX7_next_75 : decode cX7_next 75 = .ok (.getfield 79, 3) := by decide +kernel
theorem dX7_next_78 : decode cX7_next 78 = .ok (.if_icmp .ne 4, 3) := by decide +kernel
theorem dX7_next_81 : decode cX7_next 81 = .ok (.return_, 1) := by decide +kernel
theorem dX7_next_82 : decode cX7_next 82 = .ok (.aload_n 0, 1) := by decide +kernel
theorem dX7_next_83 : decode cX7_next 83 = .ok (.getfield 34, 3) := by decide +kernel
theorem dX7_next_86 : decode cX7_next 86 = .ok (.aload_n 0, 1) := by decide +kernel
theorem dX7_next_87 : decode cX7_next 87 = .ok (.getfield 107, 3) := by decide +kernel
theorem dX7_next_90 : decode cX7_next 90 = .ok (.iaload, 1) := by decide +kernel
theorem dX7_next_91 : decode cX7_next 91 = .ok (.istore_n 1, 1) := by decide +kernel
theorem dX7_next_92 : decode cX7_next 92 = .ok (.iload_n 1, 1) := by decide +kernel
theorem dX7_next_93 : decode cX7_next 93 = .ok (.bipush 97, 2) := by decide +kernel
theorem dX7_next_95 : decode cX7_next 95 = .ok (.bipush 122, 2) := by decide +kernel
theorem dX7_next_97 : decode cX7_next 97 = .ok (.invokestatic 90, 3) := by decide +kernel
theorem dX7_next_100 : decode cX7_next 100 = .ok (.ifCond .eq 117, 3) := by decide +kernel
theorem dX7_next_103 : decode cX7_next 103 = .ok (.aload_n 0, 1) := by decide +kernel
theorem dX7_next_104 : decode cX7_next 104 = .ok (.getfield 107, 3) := by decide +kernel
theorem dX7_next_107 : decode cX7_next 107 = .ok (.aload_n 0, 1) := by decide +kernel
theorem dX7_next_108 : decode cX7_next 108 = .ok (.getfield 79, 3) := by decide +kernel
theorem dX7_next_111 : decode cX7_next 111 = .ok (.if_icmp .ge 35, 3) := by decide +kernel
theorem dX7_next_114 : decode cX7_next 114 = .ok (.aload_n 0, 1) := by decide +kernel
theorem dX7_next_115 : decode cX7_next 115 = .ok (.getfield 34, 3) := by decide +kernel
theorem dX7_next_118 : decode cX7_next 118 = .ok (.aload_n 0, 1) := by decide +kernel
theorem dX7_next_119 : decode cX7_next 119 = .ok (.getfield 107, 3) := by decide +kernel
theorem dX7_next_122 : decode cX7_next 122 = .ok (.iaload, 1) := by decide +kernel
theorem dX7_next_123 : decode cX7_next 123 = .ok (.bipush 97, 2) := by decide +kernel
theorem dX7_next_125 : decode cX7_next 125 = .ok (.bipush 122, 2) := by decide +kernel
theorem dX7_next_127 : decode cX7_next 127 = .ok (.invokestatic 90, 3) := by decide +kernel
theorem dX7_next_130 : decode cX7_next 130 = .ok (.ifCond .eq 16, 3) := by decide +kernel
theorem dX7_next_133 : decode cX7_next 133 = .ok (.aload_n 0, 1) := by decide +kernel
theorem dX7_next_134 : decode cX7_next 134 = .ok (.dup, 1) := by decide +kernel
theorem dX7_next_135 : decode cX7_next 135 = .ok (.getfield 107, 3) := by decide +kernel
theorem dX7_next_138 : decode cX7_next 138 = .ok (.iconst 1, 1) := by decide +kernel
theorem dX7_next_139 : decode cX7_next 139 = .ok (.iadd, 1) := by decide +kernel
theorem dX7_next_140 : decode cX7_next 140 = .ok (.putfield 107, 3) := by decide +kernel
theorem dX7_next_143 : decode cX7_next 143 = .ok (.goto (-40), 3) := by decide +kernel
theorem dX7_next_146 : decode cX7_next 146 = .ok (.aload_n 0, 1) := by decide +kernel
theorem dX7_next_147 : decode cX7_next 147 = .ok (.aload_n 0, 1) := by decide +kernel
theorem dX7_next_148 : decode cX7_next 148 = .ok (.getfield 110, 3) := by decide +kernel
theorem dX7_next_151 : decode cX7_next 151 = .ok (.aload_n 0, 1) := by decide +kernel
theorem dX7_next_152 : decode cX7_next 152 = .ok (.getfield 107, 3) := by decide +kernel
theorem dX7_next_155 : decode cX7_next 155 = .ok (.invokevirtual 119, 3) := by decide +kernel
theorem dX7_next_158 : decode cX7_next 158 = .ok (.istore_n 2, 1) := by decide +kernel
theorem dX7_next_159 : decode cX7_next 159 = .ok (.aload_n 0, 1) := by decide +kernel
theorem dX7_next_160 : decode cX7_next 160 = .ok (.iload_n 2, 1) := by decide +kernel
theorem dX7_next_161 : decode cX7_next 161 = .ok (.iconst 3, 1) := by decide +kernel
theorem dX7_next_162 : decode cX7_next 162 = .ok (.if_icmp .ge 7, 3) := by decide +kernel
theorem dX7_next_165 : decode cX7_next 165 = .ok (.iconst 3, 1) := by decide +kernel
theorem dX7_next_166 : decode cX7_next 166 = .ok (.goto 29, 3) := by decide +kernel
theorem dX7_next_169 : decode cX7_next 169 = .ok (.iload_n 2, 1) := by decide +kernel
theorem dX7_next_170 : decode cX7_next 170 = .ok (.bipush 9, 2) := by decide +kernel
theorem dX7_next_172 : decode cX7_next 172 = .ok (.if_icmp .ge 7, 3) := by decide +kernel
theorem dX7_next_175 : decode cX7_next 175 = .ok (.iconst 2, 1) := by decide +kernel
theorem dX7_next_176 : decode cX7_next 176 = .ok (.goto 19, 3) := by decide +kernel
theorem dX7_next_179 : decode cX7_next 179 = .ok (.iload_n 2, 1) := by decide +kernel
theorem dX7_next_180 : decode cX7_next 180 = .ok (.bipush 12, 2) := by decide +kernel
theorem dX7_next_182 : decode cX7_next 182 = .ok (.if_icmp .ne 7, 3) := by decide +kernel
theorem dX7_next_185 : decode cX7_next 185 = .ok (.iconst (-1), 1) := by decide +kernel
theorem dX7_next_186 : decode cX7_next 186 = .ok (.goto 9, 3) := by decide +kernel
theorem dX7_next_189 : decode cX7_next 189 = .ok (.iconst 4, 1) := by decide +kernel
theorem dX7_next_190 : decode cX7_next 190 = .ok (.iload_n 2, 1) := by decide +kernel
theorem dX7_next_191 : decode cX7_next 191 = .ok (.iadd, 1) := by decide +kernel
theorem dX7_next_192 : decode cX7_next 192 = .ok (.bipush 9, 2) := by decide +kernel
theorem dX7_next_194 : decode cX7_next 194 = .ok (.isub, 1) := by decide +kernel
theorem dX7_next_195 : decode cX7_next 195 = .ok (.putfield 113, 3) := by decide +kernel
theorem dX7_next_198 : decode cX7_next 198 = .ok (.aload_n 0, 1) := by decide +kernel
theorem dX7_next_199 : decode cX7_next 199 = .ok (.iload_n 2, 1) := by decide +kernel
theorem dX7_next_200 : decode cX7_next 200 = .ok (.iconst 3, 1) := by decide +kernel
theorem dX7_next_201 : decode cX7_next 201 = .ok (.if_icmp .ge 7, 3) := by decide +kernel
theorem dX7_next_204 : decode cX7_next 204 = .ok (.iload_n 2, 1) := by decide +kernel
theorem dX7_next_205 : decode cX7_next 205 = .ok (.goto 6, 3) := by decide +kernel
theorem dX7_next_208 : decode cX7_next 208 = .ok (.iload_n 2, 1) := by decide +kernel
theorem dX7_next_209 : decode cX7_next 209 = .ok (.iconst 3, 1) := by decide +kernel
theorem dX7_next_210 : decode cX7_next 210 = .ok (.isub, 1) := by decide +kernel
theorem dX7_next_211 : decode cX7_next 211 = .ok (.putfield 116, 3) := by decide +kernel
theorem dX7_next_214 : decode cX7_next 214 = .ok (.goto 189, 3) := by decide +kernel
theorem dX7_next_217 : decode cX7_next 217 = .ok (.iload_n 1, 1) := by decide +kernel
theorem dX7_next_218 : decode cX7_next 218 = .ok (.bipush 48, 2) := by decide +kernel
theorem dX7_next_220 : decode cX7_next 220 = .ok (.bipush 57, 2) := by decide +kernel
theorem dX7_next_222 : decode cX7_next 222 = .ok (.invokestatic 90, 3) := by decide +kernel
theorem dX7_next_225 : decode cX7_next 225 = .ok (.ifCond .eq 101, 3) := by decide +kernel
theorem dX7_next_228 : decode cX7_next 228 = .ok (.iconst 0, 1) := by decide +kernel
theorem dX7_next_229 : decode cX7_next 229 = .ok (.istore_n 2, 1) := by decide +kernel
theorem dX7_next_230 : decode cX7_next 230 = .ok (.aload_n 0, 1) := by decide +kernel
theorem dX7_next_231 : decode cX7_next 231 = .ok (.getfield 107, 3) := by decide +kernel
theorem dX7_next_234 : decode cX7_next 234 = .ok (.aload_n 0, 1) := by decide +kernel
theorem dX7_next_235 : decode cX7_next 235 = .ok (.getfield 79, 3) := by decide +kernel
theorem dX7_next_238 : decode cX7_next 238 = .ok (.if_icmp .ge 71, 3) := by decide +kernel
theorem dX7_next_241 : decode cX7_next 241 = .ok (.aload_n 0, 1) := by decide +kernel
theorem dX7_next_242 : decode cX7_next 242 = .ok (.getfield 34, 3) := by decide +kernel
theorem dX7_next_245 : decode cX7_next 245 = .ok (.aload_n 0, 1) := by decide +kernel
theorem dX7_next_246 : decode cX7_next 246 = .ok (.getfield 107, 3) := by decide +kernel
theorem dX7_next_249 : decode cX7_next 249 = .ok (.iaload, 1) := by decide +kernel
theorem dX7_next_250 : decode cX7_next 250 = .ok (.bipush 48, 2) := by decide +kernel
theorem dX7_next_252 : decode cX7_next 252 = .ok (.bipush 57, 2) := by decide +kernel
theorem dX7_next_254 : decode cX7_next 254 = .ok (.invokestatic 90, 3) := by decide +kernel
theorem dX7_next_257 : decode cX7_next 257 = .ok (.ifCond .eq 52, 3) := by decide +kernel
theorem dX7_next_260 : decode cX7_next 260 = .ok (.aload_n 0, 1) := by decide +kernel
theorem dX7_next_261 : decode cX7_next 261 = .ok (.iload_n 2, 1) := by decide +kernel
theorem dX7_next_262 : decode cX7_next 262 = .ok (.iconst 4, 1) := by decide +kernel
theorem dX7_next_263 : decode cX7_next 263 = .ok (.if_icmp .ge 26, 3) := by decide +kernel
theorem dX7_next_266 : decode cX7_next 266 = .ok (.bipush 10, 2) := by decide +kernel
theorem dX7_next_268 : decode cX7_next 268 = .ok (.aload_n 0, 1) := by decide +kernel
theorem dX7_next_269 : decode cX7_next 269 = .ok (.getfield 116, 3) := by decide +kernel
theorem dX7_next_272 : decode cX7_next 272 = .ok (.imul, 1) := by decide +kernel
theorem dX7_next_273 : decode cX7_next 273 = .ok (.aload_n 0, 1) := by decide +kernel
theorem dX7_next_274 : decode cX7_next 274 = .ok (.getfield 34, 3) := by decide +kernel
theorem dX7_next_277 : decode cX7_next 277 = .ok (.aload_n 0, 1) := by decide +kernel
theorem dX7_next_278 : decode cX7_next 278 = .ok (.getfield 107, 3) := by decide +kernel
theorem dX7_next_281 : decode cX7_next 281 = .ok (.iaload, 1) := by decide +kernel
theorem dX7_next_282 : decode cX7_next 282 = .ok (.iadd, 1) := by decide +kernel
theorem dX7_next_283 : decode cX7_next 283 = .ok (.bipush 48, 2) := by decide +kernel
theorem dX7_next_285 : decode cX7_next 285 = .ok (.isub, 1) := by decide +kernel
theorem dX7_next_286 : decode cX7_next 286 = .ok (.goto 4, 3) := by decide +kernel
theorem dX7_next_289 : decode cX7_next 289 = .ok (.iconst 0, 1) := by decide +kernel
theorem dX7_next_290 : decode cX7_next 290 = .ok (.putfield 116, 3) := by decide +kernel
theorem dX7_next_293 : decode cX7_next 293 = .ok (.iinc 2 1, 3) := by decide +kernel
theorem dX7_next_296 : decode cX7_next 296 = .ok (.aload_n 0, 1) := by decide +kernel
theorem dX7_next_297 : decode cX7_next 297 = .ok (.dup, 1) := by decide +kernel
theorem dX7_next_298 : decode cX7_next 298 = .ok (.getfield 107, 3) := by decide +kernel
theorem dX7_next_301 : decode cX7_next 301 = .ok (.iconst 1, 1) := by decide +kernel
theorem dX7_next_302 : decode cX7_next 302 = .ok (.iadd, 1) := by decide +kernel
theorem dX7_next_303 : decode cX7_next 303 = .ok (.putfield 107, 3) := by decide +kernel
theorem dX7_next_306 : decode cX7_next 306 = .ok (.goto (-76), 3) := by decide +kernel
theorem dX7_next_309 : decode cX7_next 309 = .ok (.aload_n 0, 1) := by decide +kernel
theorem dX7_next_310 : decode cX7_next 310 = .ok (.iload_n 2, 1) := by decide +kernel
theorem dX7_next_311 : decode cX7_next 311 = .ok (.iconst 4, 1) := by decide +kernel
theorem dX7_next_312 : decode cX7_next 312 = .ok (.if_icmp .le 7, 3) := by decide +kernel
theorem dX7_next_315 : decode cX7_next 315 = .ok (.iconst (-1), 1) := by decide +kernel
theorem dX7_next_316 : decode cX7_next 316 = .ok (.goto 4, 3) := by decide +kernel
theorem dX7_next_319 : decode cX7_next 319 = .ok (.iconst 1, 1) := by decide +kernel
theorem dX7_next_320 : decode cX7_next 320 = .ok (.putfield 113, 3) := by decide +kernel
theorem dX7_next_323 : decode cX7_next 323 = .ok (.goto 80, 3) := by decide +kernel
theorem dX7_next_326 : decode cX7_next 326 = .ok (.iload_n 1, 1) := by decide +kernel
theorem dX7_next_327 : decode cX7_next 327 = .ok (.bipush 40, 2) := by decide +kernel
theorem dX7_next_329 : decode cX7_next 329 = .ok (.if_icmp .eq 45, 3) := by decide +kernel
theorem dX7_next_332 : decode cX7_next 332 = .ok (.iload_n 1, 1) := by decide +kernel
theorem dX7_next_333 : decode cX7_next 333 = .ok (.bipush 41, 2) := by decide +kernel
theorem dX7_next_335 : decode cX7_next 335 = .ok (.if_icmp .eq 39, 3) := by decide +kernel
theorem dX7_next_338 : decode cX7_next 338 = .ok (.iload_n 1, 1) := by decide +kernel
theorem dX7_next_339 : decode cX7_next 339 = .ok (.bipush 59, 2) := by decide +kernel
theorem dX7_next_341 : decode cX7_next 341 = .ok (.if_icmp .eq 33, 3) := by decide +kernel
theorem dX7_next_344 : decode cX7_next 344 = .ok (.iload_n 1, 1) := by decide +kernel
theorem dX7_next_345 : decode cX7_next 345 = .ok (.bipush 43, 2) := by decide +kernel
theorem dX7_next_347 : decode cX7_next 347 = .ok (.if_icmp .eq 27, 3) := by decide +kernel
theorem dX7_next_350 : decode cX7_next 350 = .ok (.iload_n 1, 1) := by decide +kernel
theorem dX7_next_351 : decode cX7_next 351 = .ok (.bipush 45, 2) := by decide +kernel
theorem dX7_next_353 : decode cX7_next 353 = .ok (.if_icmp .eq 21, 3) := by decide +kernel
theorem dX7_next_356 : decode cX7_next 356 = .ok (.iload_n 1, 1) := by decide +kernel
theorem dX7_next_357 : decode cX7_next 357 = .ok (.bipush 42, 2) := by decide +kernel
theorem dX7_next_359 : decode cX7_next 359 = .ok (.if_icmp .eq 15, 3) := by decide +kernel
theorem dX7_next_362 : decode cX7_next 362 = .ok (.iload_n 1, 1) := by decide +kernel
theorem dX7_next_363 : decode cX7_next 363 = .ok (.bipush 60, 2) := by decide +kernel
theorem dX7_next_365 : decode cX7_next 365 = .ok (.if_icmp .eq 9, 3) := by decide +kernel
theorem dX7_next_368 : decode cX7_next 368 = .ok (.iload_n 1, 1) := by decide +kernel
theorem dX7_next_369 : decode cX7_next 369 = .ok (.bipush 61, 2) := by decide +kernel
theorem dX7_next_371 : decode cX7_next 371 = .ok (.if_icmp .ne 7, 3) := by decide +kernel
theorem dX7_next_374 : decode cX7_next 374 = .ok (.iconst 1, 1) := by decide +kernel
theorem dX7_next_375 : decode cX7_next 375 = .ok (.goto 4, 3) := by decide +kernel
theorem dX7_next_378 : decode cX7_next 378 = .ok (.iconst 0, 1) := by decide +kernel
theorem dX7_next_379 : decode cX7_next 379 = .ok (.istore_n 2, 1) := by decide +kernel
theorem dX7_next_380 : decode cX7_next 380 = .ok (.aload_n 0, 1) := by decide +kernel
theorem dX7_next_381 : decode cX7_next 381 = .ok (.iload_n 2, 1) := by decide +kernel
theorem dX7_next_382 : decode cX7_next 382 = .ok (.ifCond .eq 7, 3) := by decide +kernel
theorem dX7_next_385 : decode cX7_next 385 = .ok (.iload_n 1, 1) := by decide +kernel
theorem dX7_next_386 : decode cX7_next 386 = .ok (.goto 4, 3) := by decide +kernel
theorem dX7_next_389 : decode cX7_next 389 = .ok (.iconst (-1), 1) := by decide +kernel
theorem dX7_next_390 : decode cX7_next 390 = .ok (.putfield 113, 3) := by decide +kernel
theorem dX7_next_393 : decode cX7_next 393 = .ok (.aload_n 0, 1) := by decide +kernel
theorem dX7_next_394 : decode cX7_next 394 = .ok (.dup, 1) := by decide +kernel
theorem dX7_next_395 : decode cX7_next 395 = .ok (.getfield 107, 3) := by decide +kernel
theorem dX7_next_398 : decode cX7_next 398 = .ok (.iconst 1, 1) := by decide +kernel
theorem dX7_next_399 : decode cX7_next 399 = .ok (.iadd, 1) := by decide +kernel
theorem dX7_next_400 : decode cX7_next 400 = .ok (.putfield 107, 3) := by decide +kernel
theorem dX7_next_403 : decode cX7_next 403 = .ok (.return_, 1) := by decide +kernel
theorem dX7_rank_0 : decode cX7_rank 0 = .ok (.iload_n 0, 1) := by decide +kernel
theorem dX7_rank_1 : decode cX7_rank 1 = .ok (.ifCond .ne 7, 3) := by decide +kernel
theorem dX7_rank_4 : decode cX7_rank 4 = .ok (.iconst 0, 1) := by decide +kernel
theorem dX7_rank_5 : decode cX7_rank 5 = .ok (.goto 66, 3) := by decide +kernel
theorem dX7_rank_8 : decode cX7_rank 8 = .ok (.iload_n 0, 1) := by decide +kernel
theorem dX7_rank_9 : decode cX7_rank 9 = .ok (.bipush 11, 2) := by decide +kernel
theorem dX7_rank_11 : decode cX7_rank 11 = .ok (.if_icmp .ne 7, 3) := by decide +kernel
theorem dX7_rank_14 : decode cX7_rank 14 = .ok (.iconst 1, 1) := by decide +kernel
theorem dX7_rank_15 : decode cX7_rank 15 = .ok (.goto 56, 3) := by decide +kernel
theorem dX7_rank_18 : decode cX7_rank 18 = .ok (.iload_n 0, 1) := by decide +kernel
theorem dX7_rank_19 : decode cX7_rank 19 = .ok (.bipush 12, 2) := by decide +kernel
theorem dX7_rank_21 : decode cX7_rank 21 = .ok (.if_icmp .ne 7, 3) := by decide +kernel
theorem dX7_rank_24 : decode cX7_rank 24 = .ok (.iconst 2, 1) := by decide +kernel
theorem dX7_rank_25 : decode cX7_rank 25 = .ok (.goto 46, 3) := by decide +kernel
theorem dX7_rank_28 : decode cX7_rank 28 = .ok (.iload_n 0, 1) := by decide +kernel
theorem dX7_rank_29 : decode cX7_rank 29 = .ok (.bipush 13, 2) := by decide +kernel
theorem dX7_rank_31 : decode cX7_rank 31 = .ok (.if_icmp .ne 7, 3) := by decide +kernel
theorem dX7_rank_34 : decode cX7_rank 34 = .ok (.iconst 3, 1) := by decide +kernel
theorem dX7_rank_35 : decode cX7_rank 35 = .ok (.goto 36, 3) := by decide +kernel
theorem dX7_rank_38 : decode cX7_rank 38 = .ok (.iload_n 0, 1) := by decide +kernel
theorem dX7_rank_39 : decode cX7_rank 39 = .ok (.bipush 15, 2) := by decide +kernel
theorem dX7_rank_41 : decode cX7_rank 41 = .ok (.if_icmp .gt 7, 3) := by decide +kernel
theorem dX7_rank_44 : decode cX7_rank 44 = .ok (.iconst 4, 1) := by decide +kernel
theorem dX7_rank_45 : decode cX7_rank 45 = .ok (.goto 26, 3) := by decide +kernel
theorem dX7_rank_48 : decode cX7_rank 48 = .ok (.iload_n 0, 1) := by decide +kernel
theorem dX7_rank_49 : decode cX7_rank 49 = .ok (.bipush 17, 2) := by decide +kernel
theorem dX7_rank_51 : decode cX7_rank 51 = .ok (.if_icmp .gt 7, 3) := by decide +kernel
theorem dX7_rank_54 : decode cX7_rank 54 = .ok (.iconst 5, 1) := by decide +kernel
theorem dX7_rank_55 : decode cX7_rank 55 = .ok (.goto 16, 3) := by decide +kernel
theorem dX7_rank_58 : decode cX7_rank 58 = .ok (.iload_n 0, 1) := by decide +kernel
theorem dX7_rank_59 : decode cX7_rank 59 = .ok (.bipush 18, 2) := by decide +kernel
theorem dX7_rank_61 : decode cX7_rank 61 = .ok (.if_icmp .ne 8, 3) := by decide +kernel
theorem dX7_rank_64 : decode cX7_rank 64 = .ok (.bipush 6, 2) := by decide +kernel
theorem dX7_rank_66 : decode cX7_rank 66 = .ok (.goto 5, 3) := by decide +kernel
theorem dX7_rank_69 : decode cX7_rank 69 = .ok (.bipush 7, 2) := by decide +kernel
theorem dX7_rank_71 : decode cX7_rank 71 = .ok (.ireturn, 1) := by decide +kernel
theorem dX7_puts_0 : decode cX7_puts 0 = .ok (.aload_n 0, 1) := by decide +kernel
theorem dX7_puts_1 : decode cX7_puts 1 = .ok (.getfield 37, 3) := by decide +kernel
theorem dX7_puts_4 : decode cX7_puts 4 = .ok (.sipush 200, 3) := by decide +kernel
theorem dX7_puts_7 : decode cX7_puts 7 = .ok (.aload_n 0, 1) := by decide +kernel
theorem dX7_puts_8 : decode cX7_puts 8 = .ok (.getfield 97, 3) := by decide +kernel
theorem dX7_puts_11 : decode cX7_puts 11 = .ok (.imul, 1) := by decide +kernel
theorem dX7_puts_12 : decode cX7_puts 12 = .ok (.aload_n 0, 1) := by decide +kernel
theorem dX7_puts_13 : decode cX7_puts 13 = .ok (.getfield 123, 3) := by decide +kernel
theorem dX7_puts_16 : decode cX7_puts 16 = .ok (.iadd, 1) := by decide +kernel
theorem dX7_puts_17 : decode cX7_puts 17 = .ok (.iload_n 1, 1) := by decide +kernel
theorem dX7_puts_18 : decode cX7_puts 18 = .ok (.iastore, 1) := by decide +kernel
theorem dX7_puts_19 : decode cX7_puts 19 = .ok (.aload_n 0, 1) := by decide +kernel
theorem dX7_puts_20 : decode cX7_puts 20 = .ok (.dup, 1) := by decide +kernel
theorem dX7_puts_21 : decode cX7_puts 21 = .ok (.getfield 123, 3) := by decide +kernel
theorem dX7_puts_24 : decode cX7_puts 24 = .ok (.iconst 1, 1) := by decide +kernel
theorem dX7_puts_25 : decode cX7_puts 25 = .ok (.iadd, 1) := by decide +kernel
theorem dX7_puts_26 : decode cX7_puts 26 = .ok (.putfield 123, 3) := by decide +kernel
theorem dX7_puts_29 : decode cX7_puts 29 = .ok (.return_, 1) := by decide +kernel
theorem dX7_unwinds_0 : decode cX7_unwinds 0 = .ok (.aload_n 0, 1) := by decide +kernel
theorem dX7_unwinds_1 : decode cX7_unwinds 1 = .ok (.getfield 126, 3) := by decide +kernel
theorem dX7_unwinds_4 : decode cX7_unwinds 4 = .ok (.ifCond .le 75, 3) := by decide +kernel
theorem dX7_unwinds_7 : decode cX7_unwinds 7 = .ok (.aload_n 0, 1) := by decide +kernel
theorem dX7_unwinds_8 : decode cX7_unwinds 8 = .ok (.getfield 67, 3) := by decide +kernel
theorem dX7_unwinds_11 : decode cX7_unwinds 11 = .ok (.aload_n 0, 1) := by decide +kernel
theorem dX7_unwinds_12 : decode cX7_unwinds 12 = .ok (.getfield 126, 3) := by decide +kernel
theorem dX7_unwinds_15 : decode cX7_unwinds 15 = .ok (.iconst 1, 1) := by decide +kernel
theorem dX7_unwinds_16 : decode cX7_unwinds 16 = .ok (.isub, 1) := by decide +kernel
theorem dX7_unwinds_17 : decode cX7_unwinds 17 = .ok (.iaload, 1) := by decide +kernel
theorem dX7_unwinds_18 : decode cX7_unwinds 18 = .ok (.invokestatic 129, 3) := by decide +kernel
theorem dX7_unwinds_21 : decode cX7_unwinds 21 = .ok (.iload_n 1, 1) := by decide +kernel
theorem dX7_unwinds_22 : decode cX7_unwinds 22 = .ok (.if_icmp .lt 57, 3) := by decide +kernel
theorem dX7_unwinds_25 : decode cX7_unwinds 25 = .ok (.aload_n 0, 1) := by decide +kernel
theorem dX7_unwinds_26 : decode cX7_unwinds 26 = .ok (.dup, 1) := by decide +kernel
theorem dX7_unwinds_27 : decode cX7_unwinds 27 = .ok (.getfield 126, 3) := by decide +kernel
theorem dX7_unwinds_30 : decode cX7_unwinds 30 = .ok (.iconst 1, 1) := by decide +kernel
theorem dX7_unwinds_31 : decode cX7_unwinds 31 = .ok (.isub, 1) := by decide +kernel
theorem dX7_unwinds_32 : decode cX7_unwinds 32 = .ok (.putfield 126, 3) := by decide +kernel
theorem dX7_unwinds_35 : decode cX7_unwinds 35 = .ok (.aload_n 0, 1) := by decide +kernel
theorem dX7_unwinds_36 : decode cX7_unwinds 36 = .ok (.getfield 67, 3) := by decide +kernel
theorem dX7_unwinds_39 : decode cX7_unwinds 39 = .ok (.aload_n 0, 1) := by decide +kernel
theorem dX7_unwinds_40 : decode cX7_unwinds 40 = .ok (.getfield 126, 3) := by decide +kernel
theorem dX7_unwinds_43 : decode cX7_unwinds 43 = .ok (.iaload, 1) := by decide +kernel
theorem dX7_unwinds_44 : decode cX7_unwinds 44 = .ok (.istore_n 2, 1) := by decide +kernel
theorem dX7_unwinds_45 : decode cX7_unwinds 45 = .ok (.aload_n 0, 1) := by decide +kernel
theorem dX7_unwinds_46 : decode cX7_unwinds 46 = .ok (.dup, 1) := by decide +kernel
theorem dX7_unwinds_47 : decode cX7_unwinds 47 = .ok (.getfield 133, 3) := by decide +kernel
theorem dX7_unwinds_50 : decode cX7_unwinds 50 = .ok (.iload_n 2, 1) := by decide +kernel
theorem dX7_unwinds_51 : decode cX7_unwinds 51 = .ok (.bipush 13, 2) := by decide +kernel
theorem dX7_unwinds_53 : decode cX7_unwinds 53 = .ok (.if_icmp .eq 9, 3) := by decide +kernel
theorem dX7_unwinds_56 : decode cX7_unwinds 56 = .ok (.iload_n 2, 1) := by decide +kernel
theorem dX7_unwinds_57 : decode cX7_unwinds 57 = .ok (.bipush 19, 2) := by decide +kernel
theorem dX7_unwinds_59 : decode cX7_unwinds 59 = .ok (.if_icmp .ne 7, 3) := by decide +kernel
theorem dX7_unwinds_62 : decode cX7_unwinds 62 = .ok (.iconst 1, 1) := by decide +kernel
theorem dX7_unwinds_63 : decode cX7_unwinds 63 = .ok (.goto 4, 3) := by decide +kernel
theorem dX7_unwinds_66 : decode cX7_unwinds 66 = .ok (.iconst 0, 1) := by decide +kernel
theorem dX7_unwinds_67 : decode cX7_unwinds 67 = .ok (.isub, 1) := by decide +kernel
theorem dX7_unwinds_68 : decode cX7_unwinds 68 = .ok (.putfield 133, 3) := by decide +kernel
theorem dX7_unwinds_71 : decode cX7_unwinds 71 = .ok (.aload_n 0, 1) := by decide +kernel
theorem dX7_unwinds_72 : decode cX7_unwinds 72 = .ok (.iload_n 2, 1) := by decide +kernel
theorem dX7_unwinds_73 : decode cX7_unwinds 73 = .ok (.invokevirtual 136, 3) := by decide +kernel
theorem dX7_unwinds_76 : decode cX7_unwinds 76 = .ok (.goto (-76), 3) := by decide +kernel
theorem dX7_unwinds_79 : decode cX7_unwinds 79 = .ok (.return_, 1) := by decide +kernel
theorem dX7_holds_0 : decode cX7_holds 0 = .ok (.aload_n 0, 1) := by decide +kernel
theorem dX7_holds_1 : decode cX7_holds 1 = .ok (.getfield 67, 3) := by decide +kernel
theorem dX7_holds_4 : decode cX7_holds 4 = .ok (.aload_n 0, 1) := by decide +kernel
theorem dX7_holds_5 : decode cX7_holds 5 = .ok (.getfield 126, 3) := by decide +kernel
theorem dX7_holds_8 : decode cX7_holds 8 = .ok (.iload_n 1, 1) := by decide +kernel
theorem dX7_holds_9 : decode cX7_holds 9 = .ok (.iastore, 1) := by decide +kernel
theorem dX7_holds_10 : decode cX7_holds 10 = .ok (.aload_n 0, 1) := by decide +kernel
theorem dX7_holds_11 : decode cX7_holds 11 = .ok (.dup, 1) := by decide +kernel
theorem dX7_holds_12 : decode cX7_holds 12 = .ok (.getfield 126, 3) := by decide +kernel
theorem dX7_holds_15 : decode cX7_holds 15 = .ok (.iconst 1, 1) := by decide +kernel
theorem dX7_holds_16 : decode cX7_holds 16 = .ok (.iadd, 1) := by decide +kernel
theorem dX7_holds_17 : decode cX7_holds 17 = .ok (.putfield 126, 3) := by decide +kernel
theorem dX7_holds_20 : decode cX7_holds 20 = .ok (.return_, 1) := by decide +kernel
theorem dX7_opensOne_0 : decode cX7_opensOne 0 = .ok (.aload_n 0, 1) := by decide +kernel
theorem dX7_opensOne_1 : decode cX7_opensOne 1 = .ok (.getfield 133, 3) := by decide +kernel
theorem dX7_opensOne_4 : decode cX7_opensOne 4 = .ok (.iconst 5, 1) := by decide +kernel
theorem dX7_opensOne_5 : decode cX7_opensOne 5 = .ok (.if_icmp .ne 5, 3) := by decide +kernel
theorem dX7_opensOne_8 : decode cX7_opensOne 8 = .ok (.iconst 0, 1) := by decide +kernel
theorem dX7_opensOne_9 : decode cX7_opensOne 9 = .ok (.ireturn, 1) := by decide +kernel
theorem dX7_opensOne_10 : decode cX7_opensOne 10 = .ok (.aload_n 0, 1) := by decide +kernel
theorem dX7_opensOne_11 : decode cX7_opensOne 11 = .ok (.dup, 1) := by decide +kernel
theorem dX7_opensOne_12 : decode cX7_opensOne 12 = .ok (.getfield 133, 3) := by decide +kernel
theorem dX7_opensOne_15 : decode cX7_opensOne 15 = .ok (.iconst 1, 1) := by decide +kernel
theorem dX7_opensOne_16 : decode cX7_opensOne 16 = .ok (.iadd, 1) := by decide +kernel
theorem dX7_opensOne_17 : decode cX7_opensOne 17 = .ok (.putfield 133, 3) := by decide +kernel
theorem dX7_opensOne_20 : decode cX7_opensOne 20 = .ok (.aload_n 0, 1) := by decide +kernel
theorem dX7_opensOne_21 : decode cX7_opensOne 21 = .ok (.iload_n 1, 1) := by decide +kernel
theorem dX7_opensOne_22 : decode cX7_opensOne 22 = .ok (.invokevirtual 140, 3) := by decide +kernel
theorem dX7_opensOne_25 : decode cX7_opensOne 25 = .ok (.iconst 1, 1) := by decide +kernel
theorem dX7_opensOne_26 : decode cX7_opensOne 26 = .ok (.ireturn, 1) := by decide +kernel
theorem dX7_between_0 : decode cX7_between 0 = .ok (.aload_n 0, 1) := by decide +kernel
theorem dX7_between_1 : decode cX7_between 1 = .ok (.iload_n 1, 1) := by decide +kernel
theorem dX7_between_2 : decode cX7_between 2 = .ok (.invokestatic 129, 3) := by decide +kernel
theorem dX7_between_5 : decode cX7_between 5 = .ok (.iconst 4, 1) := by decide +kernel
theorem dX7_between_6 : decode cX7_between 6 = .ok (.if_icmp .ne 7, 3) := by decide +kernel
theorem dX7_between_9 : decode cX7_between 9 = .ok (.iconst 5, 1) := by decide +kernel
theorem dX7_between_10 : decode cX7_between 10 = .ok (.goto 7, 3) := by decide +kernel
theorem dX7_between_13 : decode cX7_between 13 = .ok (.iload_n 1, 1) := by decide +kernel
theorem dX7_between_14 : decode cX7_between 14 = .ok (.invokestatic 129, 3) := by decide +kernel
theorem dX7_between_17 : decode cX7_between 17 = .ok (.invokevirtual 143, 3) := by decide +kernel
theorem dX7_between_20 : decode cX7_between 20 = .ok (.iload_n 1, 1) := by decide +kernel
theorem dX7_between_21 : decode cX7_between 21 = .ok (.invokestatic 129, 3) := by decide +kernel
theorem dX7_between_24 : decode cX7_between 24 = .ok (.iconst 4, 1) := by decide +kernel
theorem dX7_between_25 : decode cX7_between 25 = .ok (.if_icmp .ne 30, 3) := by decide +kernel
theorem dX7_between_28 : decode cX7_between 28 = .ok (.aload_n 0, 1) := by decide +kernel
theorem dX7_between_29 : decode cX7_between 29 = .ok (.getfield 126, 3) := by decide +kernel
theorem dX7_between_32 : decode cX7_between 32 = .ok (.ifCond .le 23, 3) := by decide +kernel
theorem dX7_between_35 : decode cX7_between 35 = .ok (.aload_n 0, 1) := by decide +kernel
theorem dX7_between_36 : decode cX7_between 36 = .ok (.getfield 67, 3) := by decide +kernel
theorem dX7_between_39 : decode cX7_between 39 = .ok (.aload_n 0, 1) := by decide +kernel
theorem dX7_between_40 : decode cX7_between 40 = .ok (.getfield 126, 3) := by decide +kernel
theorem dX7_between_43 : decode cX7_between 43 = .ok (.iconst 1, 1) := by decide +kernel
theorem dX7_between_44 : decode cX7_between 44 = .ok (.isub, 1) := by decide +kernel
theorem dX7_between_45 : decode cX7_between 45 = .ok (.iaload, 1) := by decide +kernel
theorem dX7_between_46 : decode cX7_between 46 = .ok (.invokestatic 129, 3) := by decide +kernel
theorem dX7_between_49 : decode cX7_between 49 = .ok (.iconst 4, 1) := by decide +kernel
theorem dX7_between_50 : decode cX7_between 50 = .ok (.if_icmp .ne 5, 3) := by decide +kernel
theorem dX7_between_53 : decode cX7_between 53 = .ok (.iconst 0, 1) := by decide +kernel
theorem dX7_between_54 : decode cX7_between 54 = .ok (.ireturn, 1) := by decide +kernel
theorem dX7_between_55 : decode cX7_between 55 = .ok (.aload_n 0, 1) := by decide +kernel
theorem dX7_between_56 : decode cX7_between 56 = .ok (.iload_n 1, 1) := by decide +kernel
theorem dX7_between_57 : decode cX7_between 57 = .ok (.invokevirtual 140, 3) := by decide +kernel
theorem dX7_between_60 : decode cX7_between 60 = .ok (.iconst 1, 1) := by decide +kernel
theorem dX7_between_61 : decode cX7_between 61 = .ok (.ireturn, 1) := by decide +kernel
theorem dX7_signOf_0 : decode cX7_signOf 0 = .ok (.aload_n 0, 1) := by decide +kernel
theorem dX7_signOf_1 : decode cX7_signOf 1 = .ok (.getfield 113, 3) := by decide +kernel
theorem dX7_signOf_4 : decode cX7_signOf 4 = .ok (.iconst 4, 1) := by decide +kernel
theorem dX7_signOf_5 : decode cX7_signOf 5 = .ok (.if_icmp .ne 8, 3) := by decide +kernel
theorem dX7_signOf_8 : decode cX7_signOf 8 = .ok (.bipush 11, 2) := by decide +kernel
theorem dX7_signOf_10 : decode cX7_signOf 10 = .ok (.goto 87, 3) := by decide +kernel
theorem dX7_signOf_13 : decode cX7_signOf 13 = .ok (.aload_n 0, 1) := by decide +kernel
theorem dX7_signOf_14 : decode cX7_signOf 14 = .ok (.getfield 113, 3) := by decide +kernel
theorem dX7_signOf_17 : decode cX7_signOf 17 = .ok (.iconst 5, 1) := by decide +kernel
theorem dX7_signOf_18 : decode cX7_signOf 18 = .ok (.if_icmp .ne 8, 3) := by decide +kernel
theorem dX7_signOf_21 : decode cX7_signOf 21 = .ok (.bipush 12, 2) := by decide +kernel
theorem dX7_signOf_23 : decode cX7_signOf 23 = .ok (.goto 74, 3) := by decide +kernel
theorem dX7_signOf_26 : decode cX7_signOf 26 = .ok (.aload_n 0, 1) := by decide +kernel
theorem dX7_signOf_27 : decode cX7_signOf 27 = .ok (.getfield 113, 3) := by decide +kernel
theorem dX7_signOf_30 : decode cX7_signOf 30 = .ok (.bipush 60, 2) := by decide +kernel
theorem dX7_signOf_32 : decode cX7_signOf 32 = .ok (.if_icmp .ne 8, 3) := by decide +kernel
theorem dX7_signOf_35 : decode cX7_signOf 35 = .ok (.bipush 14, 2) := by decide +kernel
theorem dX7_signOf_37 : decode cX7_signOf 37 = .ok (.goto 60, 3) := by decide +kernel
theorem dX7_signOf_40 : decode cX7_signOf 40 = .ok (.aload_n 0, 1) := by decide +kernel
theorem dX7_signOf_41 : decode cX7_signOf 41 = .ok (.getfield 113, 3) := by decide +kernel
theorem dX7_signOf_44 : decode cX7_signOf 44 = .ok (.bipush 61, 2) := by decide +kernel
theorem dX7_signOf_46 : decode cX7_signOf 46 = .ok (.if_icmp .ne 8, 3) := by decide +kernel
theorem dX7_signOf_49 : decode cX7_signOf 49 = .ok (.bipush 15, 2) := by decide +kernel
theorem dX7_signOf_51 : decode cX7_signOf 51 = .ok (.goto 46, 3) := by decide +kernel
theorem dX7_signOf_54 : decode cX7_signOf 54 = .ok (.aload_n 0, 1) := by decide +kernel
theorem dX7_signOf_55 : decode cX7_signOf 55 = .ok (.getfield 113, 3) := by decide +kernel
theorem dX7_signOf_58 : decode cX7_signOf 58 = .ok (.bipush 43, 2) := by decide +kernel
theorem dX7_signOf_60 : decode cX7_signOf 60 = .ok (.if_icmp .ne 8, 3) := by decide +kernel
theorem dX7_signOf_63 : decode cX7_signOf 63 = .ok (.bipush 16, 2) := by decide +kernel
theorem dX7_signOf_65 : decode cX7_signOf 65 = .ok (.goto 32, 3) := by decide +kernel
theorem dX7_signOf_68 : decode cX7_signOf 68 = .ok (.aload_n 0, 1) := by decide +kernel
theorem dX7_signOf_69 : decode cX7_signOf 69 = .ok (.getfield 113, 3) := by decide +kernel
theorem dX7_signOf_72 : decode cX7_signOf 72 = .ok (.bipush 45, 2) := by decide +kernel
theorem dX7_signOf_74 : decode cX7_signOf 74 = .ok (.if_icmp .ne 8, 3) := by decide +kernel
theorem dX7_signOf_77 : decode cX7_signOf 77 = .ok (.bipush 17, 2) := by decide +kernel
theorem dX7_signOf_79 : decode cX7_signOf 79 = .ok (.goto 18, 3) := by decide +kernel
theorem dX7_signOf_82 : decode cX7_signOf 82 = .ok (.aload_n 0, 1) := by decide +kernel
theorem dX7_signOf_83 : decode cX7_signOf 83 = .ok (.getfield 113, 3) := by decide +kernel
theorem dX7_signOf_86 : decode cX7_signOf 86 = .ok (.bipush 42, 2) := by decide +kernel
theorem dX7_signOf_88 : decode cX7_signOf 88 = .ok (.if_icmp .ne 8, 3) := by decide +kernel
theorem dX7_signOf_91 : decode cX7_signOf 91 = .ok (.bipush 18, 2) := by decide +kernel
theorem dX7_signOf_93 : decode cX7_signOf 93 = .ok (.goto 4, 3) := by decide +kernel
theorem dX7_signOf_96 : decode cX7_signOf 96 = .ok (.iconst (-1), 1) := by decide +kernel
theorem dX7_signOf_97 : decode cX7_signOf 97 = .ok (.ireturn, 1) := by decide +kernel
theorem dX7_eRead_0 : decode cX7_eRead 0 = .ok (.aload_n 0, 1) := by decide +kernel
theorem dX7_eRead_1 : decode cX7_eRead 1 = .ok (.iconst 0, 1) := by decide +kernel
theorem dX7_eRead_2 : decode cX7_eRead 2 = .ok (.putfield 126, 3) := by decide +kernel
theorem dX7_eRead_5 : decode cX7_eRead 5 = .ok (.aload_n 0, 1) := by decide +kernel
theorem dX7_eRead_6 : decode cX7_eRead 6 = .ok (.iconst 0, 1) := by decide +kernel
theorem dX7_eRead_7 : decode cX7_eRead 7 = .ok (.putfield 133, 3) := by decide +kernel
theorem dX7_eRead_10 : decode cX7_eRead 10 = .ok (.iconst 1, 1) := by decide +kernel
theorem dX7_eRead_11 : decode cX7_eRead 11 = .ok (.istore_n 1, 1) := by decide +kernel
theorem dX7_eRead_12 : decode cX7_eRead 12 = .ok (.iconst 1, 1) := by decide +kernel
theorem dX7_eRead_13 : decode cX7_eRead 13 = .ok (.istore_n 2, 1) := by decide +kernel
theorem dX7_eRead_14 : decode cX7_eRead 14 = .ok (.aload_n 0, 1) := by decide +kernel
theorem dX7_eRead_15 : decode cX7_eRead 15 = .ok (.invokevirtual 146, 3) := by decide +kernel
theorem dX7_eRead_18 : decode cX7_eRead 18 = .ok (.iload_n 1, 1) := by decide +kernel
theorem dX7_eRead_19 : decode cX7_eRead 19 = .ok (.ifCond .eq 131, 3) := by decide +kernel
theorem dX7_eRead_22 : decode cX7_eRead 22 = .ok (.aload_n 0, 1) := by decide +kernel
theorem dX7_eRead_23 : decode cX7_eRead 23 = .ok (.getfield 113, 3) := by decide +kernel
theorem dX7_eRead_26 : decode cX7_eRead 26 = .ok (.iconst 1, 1) := by decide +kernel
theorem dX7_eRead_27 : decode cX7_eRead 27 = .ok (.if_icmp .eq 11, 3) := by decide +kernel
theorem dX7_eRead_30 : decode cX7_eRead 30 = .ok (.aload_n 0, 1) := by decide +kernel
theorem dX7_eRead_31 : decode cX7_eRead 31 = .ok (.getfield 113, 3) := by decide +kernel
theorem dX7_eRead_34 : decode cX7_eRead 34 = .ok (.iconst 2, 1) := by decide +kernel
theorem dX7_eRead_35 : decode cX7_eRead 35 = .ok (.if_icmp .ne 40, 3) := by decide +kernel
theorem dX7_eRead_38 : decode cX7_eRead 38 = .ok (.aload_n 0, 1) := by decide +kernel
theorem dX7_eRead_39 : decode cX7_eRead 39 = .ok (.aload_n 0, 1) := by decide +kernel
theorem dX7_eRead_40 : decode cX7_eRead 40 = .ok (.getfield 113, 3) := by decide +kernel
theorem dX7_eRead_43 : decode cX7_eRead 43 = .ok (.iconst 1, 1) := by decide +kernel
theorem dX7_eRead_44 : decode cX7_eRead 44 = .ok (.if_icmp .ne 13, 3) := by decide +kernel
theorem dX7_eRead_47 : decode cX7_eRead 47 = .ok (.ldc 149, 2) := by decide +kernel
theorem dX7_eRead_49 : decode cX7_eRead 49 = .ok (.aload_n 0, 1) := by decide +kernel
theorem dX7_eRead_50 : decode cX7_eRead 50 = .ok (.getfield 116, 3) := by decide +kernel
theorem dX7_eRead_53 : decode cX7_eRead 53 = .ok (.iadd, 1) := by decide +kernel
theorem dX7_eRead_54 : decode cX7_eRead 54 = .ok (.goto 7, 3) := by decide +kernel
theorem dX7_eRead_57 : decode cX7_eRead 57 = .ok (.aload_n 0, 1) := by decide +kernel
theorem dX7_eRead_58 : decode cX7_eRead 58 = .ok (.getfield 116, 3) := by decide +kernel
theorem dX7_eRead_61 : decode cX7_eRead 61 = .ok (.invokevirtual 136, 3) := by decide +kernel
theorem dX7_eRead_64 : decode cX7_eRead 64 = .ok (.aload_n 0, 1) := by decide +kernel
theorem dX7_eRead_65 : decode cX7_eRead 65 = .ok (.bipush 7, 2) := by decide +kernel
theorem dX7_eRead_67 : decode cX7_eRead 67 = .ok (.invokevirtual 143, 3) := by decide +kernel
theorem dX7_eRead_70 : decode cX7_eRead 70 = .ok (.iconst 0, 1) := by decide +kernel
theorem dX7_eRead_71 : decode cX7_eRead 71 = .ok (.istore_n 1, 1) := by decide +kernel
theorem dX7_eRead_72 : decode cX7_eRead 72 = .ok (.goto (-58), 3) := by decide +kernel
theorem dX7_eRead_75 : decode cX7_eRead 75 = .ok (.aload_n 0, 1) := by decide +kernel
theorem dX7_eRead_76 : decode cX7_eRead 76 = .ok (.getfield 113, 3) := by decide +kernel
theorem dX7_eRead_79 : decode cX7_eRead 79 = .ok (.bipush 6, 2) := by decide +kernel
theorem dX7_eRead_81 : decode cX7_eRead 81 = .ok (.if_icmp .ne 18, 3) := by decide +kernel
theorem dX7_eRead_84 : decode cX7_eRead 84 = .ok (.iload_n 2, 1) := by decide +kernel
theorem dX7_eRead_85 : decode cX7_eRead 85 = .ok (.ifCond .eq 14, 3) := by decide +kernel
theorem dX7_eRead_88 : decode cX7_eRead 88 = .ok (.aload_n 0, 1) := by decide +kernel
theorem dX7_eRead_89 : decode cX7_eRead 89 = .ok (.bipush 13, 2) := by decide +kernel
theorem dX7_eRead_91 : decode cX7_eRead 91 = .ok (.invokevirtual 150, 3) := by decide +kernel
theorem dX7_eRead_94 : decode cX7_eRead 94 = .ok (.ifCond .ne (-80), 3) := by decide +kernel
theorem dX7_eRead_97 : decode cX7_eRead 97 = .ok (.iconst 0, 1) := by decide +kernel
theorem dX7_eRead_98 : decode cX7_eRead 98 = .ok (.ireturn, 1) := by decide +kernel
theorem dX7_eRead_99 : decode cX7_eRead 99 = .ok (.aload_n 0, 1) := by decide +kernel
theorem dX7_eRead_100 : decode cX7_eRead 100 = .ok (.getfield 113, 3) := by decide +kernel
theorem dX7_eRead_103 : decode cX7_eRead 103 = .ok (.bipush 45, 2) := by decide +kernel
theorem dX7_eRead_105 : decode cX7_eRead 105 = .ok (.if_icmp .ne 19, 3) := by decide +kernel
theorem dX7_eRead_108 : decode cX7_eRead 108 = .ok (.aload_n 0, 1) := by decide +kernel
theorem dX7_eRead_109 : decode cX7_eRead 109 = .ok (.bipush 19, 2) := by decide +kernel
theorem dX7_eRead_111 : decode cX7_eRead 111 = .ok (.invokevirtual 150, 3) := by decide +kernel
theorem dX7_eRead_114 : decode cX7_eRead 114 = .ok (.ifCond .ne 5, 3) := by decide +kernel
theorem dX7_eRead_117 : decode cX7_eRead 117 = .ok (.iconst 0, 1) := by decide +kernel
theorem dX7_eRead_118 : decode cX7_eRead 118 = .ok (.ireturn, 1) := by decide +kernel
theorem dX7_eRead_119 : decode cX7_eRead 119 = .ok (.iconst 0, 1) := by decide +kernel
theorem dX7_eRead_120 : decode cX7_eRead 120 = .ok (.istore_n 2, 1) := by decide +kernel
theorem dX7_eRead_121 : decode cX7_eRead 121 = .ok (.goto (-107), 3) := by decide +kernel
theorem dX7_eRead_124 : decode cX7_eRead 124 = .ok (.aload_n 0, 1) := by decide +kernel
theorem dX7_eRead_125 : decode cX7_eRead 125 = .ok (.getfield 113, 3) := by decide +kernel
theorem dX7_eRead_128 : decode cX7_eRead 128 = .ok (.bipush 40, 2) := by decide +kernel
theorem dX7_eRead_130 : decode cX7_eRead 130 = .ok (.if_icmp .ne 18, 3) := by decide +kernel
theorem dX7_eRead_133 : decode cX7_eRead 133 = .ok (.aload_n 0, 1) := by decide +kernel
theorem dX7_eRead_134 : decode cX7_eRead 134 = .ok (.iconst 0, 1) := by decide +kernel
theorem dX7_eRead_135 : decode cX7_eRead 135 = .ok (.invokevirtual 150, 3) := by decide +kernel
theorem dX7_eRead_138 : decode cX7_eRead 138 = .ok (.ifCond .ne 5, 3) := by decide +kernel
theorem dX7_eRead_141 : decode cX7_eRead 141 = .ok (.iconst 0, 1) := by decide +kernel
theorem dX7_eRead_142 : decode cX7_eRead 142 = .ok (.ireturn, 1) := by decide +kernel
theorem dX7_eRead_143 : decode cX7_eRead 143 = .ok (.iconst 1, 1) := by decide +kernel
theorem dX7_eRead_144 : decode cX7_eRead 144 = .ok (.istore_n 2, 1) := by decide +kernel
theorem dX7_eRead_145 : decode cX7_eRead 145 = .ok (.goto (-131), 3) := by decide +kernel
theorem dX7_eRead_148 : decode cX7_eRead 148 = .ok (.iconst 0, 1) := by decide +kernel
theorem dX7_eRead_149 : decode cX7_eRead 149 = .ok (.ireturn, 1) := by decide +kernel
theorem dX7_eRead_150 : decode cX7_eRead 150 = .ok (.aload_n 0, 1) := by decide +kernel
theorem dX7_eRead_151 : decode cX7_eRead 151 = .ok (.getfield 113, 3) := by decide +kernel
theorem dX7_eRead_154 : decode cX7_eRead 154 = .ok (.bipush 59, 2) := by decide +kernel
theorem dX7_eRead_156 : decode cX7_eRead 156 = .ok (.if_icmp .ne 21, 3) := by decide +kernel
theorem dX7_eRead_159 : decode cX7_eRead 159 = .ok (.aload_n 0, 1) := by decide +kernel
theorem dX7_eRead_160 : decode cX7_eRead 160 = .ok (.iconst 1, 1) := by decide +kernel
theorem dX7_eRead_161 : decode cX7_eRead 161 = .ok (.invokevirtual 143, 3) := by decide +kernel
theorem dX7_eRead_164 : decode cX7_eRead 164 = .ok (.aload_n 0, 1) := by decide +kernel
theorem dX7_eRead_165 : decode cX7_eRead 165 = .ok (.getfield 126, 3) := by decide +kernel
theorem dX7_eRead_168 : decode cX7_eRead 168 = .ok (.ifCond .ne 7, 3) := by decide +kernel
theorem dX7_eRead_171 : decode cX7_eRead 171 = .ok (.iconst 1, 1) := by decide +kernel
theorem dX7_eRead_172 : decode cX7_eRead 172 = .ok (.goto 4, 3) := by decide +kernel
theorem dX7_eRead_175 : decode cX7_eRead 175 = .ok (.iconst 0, 1) := by decide +kernel
theorem dX7_eRead_176 : decode cX7_eRead 176 = .ok (.ireturn, 1) := by decide +kernel
theorem dX7_eRead_177 : decode cX7_eRead 177 = .ok (.aload_n 0, 1) := by decide +kernel
theorem dX7_eRead_178 : decode cX7_eRead 178 = .ok (.getfield 113, 3) := by decide +kernel
theorem dX7_eRead_181 : decode cX7_eRead 181 = .ok (.bipush 41, 2) := by decide +kernel
theorem dX7_eRead_183 : decode cX7_eRead 183 = .ok (.if_icmp .ne 46, 3) := by decide +kernel
theorem dX7_eRead_186 : decode cX7_eRead 186 = .ok (.aload_n 0, 1) := by decide +kernel
theorem dX7_eRead_187 : decode cX7_eRead 187 = .ok (.iconst 1, 1) := by decide +kernel
theorem dX7_eRead_188 : decode cX7_eRead 188 = .ok (.invokevirtual 143, 3) := by decide +kernel
theorem dX7_eRead_191 : decode cX7_eRead 191 = .ok (.aload_n 0, 1) := by decide +kernel
theorem dX7_eRead_192 : decode cX7_eRead 192 = .ok (.getfield 126, 3) := by decide +kernel
theorem dX7_eRead_195 : decode cX7_eRead 195 = .ok (.ifCond .ne 5, 3) := by decide +kernel
theorem dX7_eRead_198 : decode cX7_eRead 198 = .ok (.iconst 0, 1) := by decide +kernel
theorem dX7_eRead_199 : decode cX7_eRead 199 = .ok (.ireturn, 1) := by decide +kernel
theorem dX7_eRead_200 : decode cX7_eRead 200 = .ok (.aload_n 0, 1) := by decide +kernel
theorem dX7_eRead_201 : decode cX7_eRead 201 = .ok (.dup, 1) := by decide +kernel
theorem dX7_eRead_202 : decode cX7_eRead 202 = .ok (.getfield 126, 3) := by decide +kernel
theorem dX7_eRead_205 : decode cX7_eRead 205 = .ok (.iconst 1, 1) := by decide +kernel
theorem dX7_eRead_206 : decode cX7_eRead 206 = .ok (.isub, 1) := by decide +kernel
theorem dX7_eRead_207 : decode cX7_eRead 207 = .ok (.putfield 126, 3) := by decide +kernel
theorem dX7_eRead_210 : decode cX7_eRead 210 = .ok (.aload_n 0, 1) := by decide +kernel
theorem dX7_eRead_211 : decode cX7_eRead 211 = .ok (.dup, 1) := by decide +kernel
theorem dX7_eRead_212 : decode cX7_eRead 212 = .ok (.getfield 133, 3) := by decide +kernel
theorem dX7_eRead_215 : decode cX7_eRead 215 = .ok (.iconst 1, 1) := by decide +kernel
theorem dX7_eRead_216 : decode cX7_eRead 216 = .ok (.isub, 1) := by decide +kernel
theorem dX7_eRead_217 : decode cX7_eRead 217 = .ok (.putfield 133, 3) := by decide +kernel
theorem dX7_eRead_220 : decode cX7_eRead 220 = .ok (.aload_n 0, 1) := by decide +kernel
theorem dX7_eRead_221 : decode cX7_eRead 221 = .ok (.bipush 7, 2) := by decide +kernel
theorem dX7_eRead_223 : decode cX7_eRead 223 = .ok (.invokevirtual 143, 3) := by decide +kernel
theorem dX7_eRead_226 : decode cX7_eRead 226 = .ok (.goto (-212), 3) := by decide +kernel
theorem dX7_eRead_229 : decode cX7_eRead 229 = .ok (.aload_n 0, 1) := by decide +kernel
theorem dX7_eRead_230 : decode cX7_eRead 230 = .ok (.invokevirtual 153, 3) := by decide +kernel
theorem dX7_eRead_233 : decode cX7_eRead 233 = .ok (.istore_n 3, 1) := by decide +kernel
theorem dX7_eRead_234 : decode cX7_eRead 234 = .ok (.iload_n 3, 1) := by decide +kernel
theorem dX7_eRead_235 : decode cX7_eRead 235 = .ok (.iconst (-1), 1) := by decide +kernel
theorem dX7_eRead_236 : decode cX7_eRead 236 = .ok (.if_icmp .eq 11, 3) := by decide +kernel
theorem dX7_eRead_239 : decode cX7_eRead 239 = .ok (.aload_n 0, 1) := by decide +kernel
theorem dX7_eRead_240 : decode cX7_eRead 240 = .ok (.iload_n 3, 1) := by decide +kernel
theorem dX7_eRead_241 : decode cX7_eRead 241 = .ok (.invokevirtual 156, 3) := by decide +kernel
theorem dX7_eRead_244 : decode cX7_eRead 244 = .ok (.ifCond .ne 5, 3) := by decide +kernel
theorem dX7_eRead_247 : decode cX7_eRead 247 = .ok (.iconst 0, 1) := by decide +kernel
theorem dX7_eRead_248 : decode cX7_eRead 248 = .ok (.ireturn, 1) := by decide +kernel
theorem dX7_eRead_249 : decode cX7_eRead 249 = .ok (.iconst 1, 1) := by decide +kernel
theorem dX7_eRead_250 : decode cX7_eRead 250 = .ok (.istore_n 1, 1) := by decide +kernel
theorem dX7_eRead_251 : decode cX7_eRead 251 = .ok (.iload_n 3, 1) := by decide +kernel
theorem dX7_eRead_252 : decode cX7_eRead 252 = .ok (.bipush 12, 2) := by decide +kernel
theorem dX7_eRead_254 : decode cX7_eRead 254 = .ok (.if_icmp .gt 7, 3) := by decide +kernel
theorem dX7_eRead_257 : decode cX7_eRead 257 = .ok (.iconst 1, 1) := by decide +kernel
theorem dX7_eRead_258 : decode cX7_eRead 258 = .ok (.goto 4, 3) := by decide +kernel
theorem dX7_eRead_261 : decode cX7_eRead 261 = .ok (.iconst 0, 1) := by decide +kernel
theorem dX7_eRead_262 : decode cX7_eRead 262 = .ok (.istore_n 2, 1) := by decide +kernel
theorem dX7_eRead_263 : decode cX7_eRead 263 = .ok (.goto (-249), 3) := by decide +kernel
theorem dX7_text_0 : decode cX7_text 0 = .ok (.aload_n 0, 1) := by decide +kernel
theorem dX7_text_1 : decode cX7_text 1 = .ok (.getfield 97, 3) := by decide +kernel
theorem dX7_text_4 : decode cX7_text 4 = .ok (.bipush 6, 2) := by decide +kernel
theorem dX7_text_6 : decode cX7_text 6 = .ok (.if_icmp .ne 6, 3) := by decide +kernel
theorem dX7_text_9 : decode cX7_text 9 = .ok (.bipush (-4), 2) := by decide +kernel
theorem dX7_text_11 : decode cX7_text 11 = .ok (.ireturn, 1) := by decide +kernel
theorem dX7_text_12 : decode cX7_text 12 = .ok (.aload_n 0, 1) := by decide +kernel
theorem dX7_text_13 : decode cX7_text 13 = .ok (.iconst 0, 1) := by decide +kernel
theorem dX7_text_14 : decode cX7_text 14 = .ok (.putfield 107, 3) := by decide +kernel
theorem dX7_text_17 : decode cX7_text 17 = .ok (.aload_n 0, 1) := by decide +kernel
theorem dX7_text_18 : decode cX7_text 18 = .ok (.iconst 0, 1) := by decide +kernel
theorem dX7_text_19 : decode cX7_text 19 = .ok (.putfield 123, 3) := by decide +kernel
theorem dX7_text_22 : decode cX7_text 22 = .ok (.iconst 1, 1) := by decide +kernel
theorem dX7_text_23 : decode cX7_text 23 = .ok (.istore_n 1, 1) := by decide +kernel
theorem dX7_text_24 : decode cX7_text 24 = .ok (.iconst 0, 1) := by decide +kernel
theorem dX7_text_25 : decode cX7_text 25 = .ok (.istore_n 2, 1) := by decide +kernel
theorem dX7_text_26 : decode cX7_text 26 = .ok (.iload_n 2, 1) := by decide +kernel
theorem dX7_text_27 : decode cX7_text 27 = .ok (.iconst 3, 1) := by decide +kernel
theorem dX7_text_28 : decode cX7_text 28 = .ok (.if_icmp .ge 73, 3) := by decide +kernel
theorem dX7_text_31 : decode cX7_text 31 = .ok (.iload_n 1, 1) := by decide +kernel
theorem dX7_text_32 : decode cX7_text 32 = .ok (.ifCond .eq 69, 3) := by decide +kernel
theorem dX7_text_35 : decode cX7_text 35 = .ok (.aload_n 0, 1) := by decide +kernel
theorem dX7_text_36 : decode cX7_text 36 = .ok (.invokevirtual 146, 3) := by decide +kernel
theorem dX7_text_39 : decode cX7_text 39 = .ok (.aload_n 0, 1) := by decide +kernel
theorem dX7_text_40 : decode cX7_text 40 = .ok (.getfield 113, 3) := by decide +kernel
theorem dX7_text_43 : decode cX7_text 43 = .ok (.iconst 3, 1) := by decide +kernel
theorem dX7_text_44 : decode cX7_text 44 = .ok (.if_icmp .ne 15, 3) := by decide +kernel
theorem dX7_text_47 : decode cX7_text 47 = .ok (.aload_n 0, 1) := by decide +kernel
theorem dX7_text_48 : decode cX7_text 48 = .ok (.getfield 116, 3) := by decide +kernel
theorem dX7_text_51 : decode cX7_text 51 = .ok (.iload_n 2, 1) := by decide +kernel
theorem dX7_text_52 : decode cX7_text 52 = .ok (.if_icmp .ne 7, 3) := by decide +kernel
theorem dX7_text_55 : decode cX7_text 55 = .ok (.iconst 1, 1) := by decide +kernel
theorem dX7_text_56 : decode cX7_text 56 = .ok (.goto 4, 3) := by decide +kernel
theorem dX7_text_59 : decode cX7_text 59 = .ok (.iconst 0, 1) := by decide +kernel
theorem dX7_text_60 : decode cX7_text 60 = .ok (.istore_n 1, 1) := by decide +kernel
theorem dX7_text_61 : decode cX7_text 61 = .ok (.aload_n 0, 1) := by decide +kernel
theorem dX7_text_62 : decode cX7_text 62 = .ok (.getfield 40, 3) := by decide +kernel
theorem dX7_text_65 : decode cX7_text 65 = .ok (.iconst 4, 1) := by decide +kernel
theorem dX7_text_66 : decode cX7_text 66 = .ok (.aload_n 0, 1) := by decide +kernel
theorem dX7_text_67 : decode cX7_text 67 = .ok (.getfield 97, 3) := by decide +kernel
theorem dX7_text_70 : decode cX7_text 70 = .ok (.imul, 1) := by decide +kernel
theorem dX7_text_71 : decode cX7_text 71 = .ok (.iload_n 2, 1) := by decide +kernel
theorem dX7_text_72 : decode cX7_text 72 = .ok (.iadd, 1) := by decide +kernel
theorem dX7_text_73 : decode cX7_text 73 = .ok (.aload_n 0, 1) := by decide +kernel
theorem dX7_text_74 : decode cX7_text 74 = .ok (.getfield 123, 3) := by decide +kernel
theorem dX7_text_77 : decode cX7_text 77 = .ok (.iastore, 1) := by decide +kernel
theorem dX7_text_78 : decode cX7_text 78 = .ok (.iload_n 1, 1) := by decide +kernel
theorem dX7_text_79 : decode cX7_text 79 = .ok (.ifCond .eq 14, 3) := by decide +kernel
theorem dX7_text_82 : decode cX7_text 82 = .ok (.aload_n 0, 1) := by decide +kernel
theorem dX7_text_83 : decode cX7_text 83 = .ok (.invokevirtual 159, 3) := by decide +kernel
theorem dX7_text_86 : decode cX7_text 86 = .ok (.ifCond .eq 7, 3) := by decide +kernel
theorem dX7_text_89 : decode cX7_text 89 = .ok (.iconst 1, 1) := by decide +kernel
theorem dX7_text_90 : decode cX7_text 90 = .ok (.goto 4, 3) := by decide +kernel
theorem dX7_text_93 : decode cX7_text 93 = .ok (.iconst 0, 1) := by decide +kernel
theorem dX7_text_94 : decode cX7_text 94 = .ok (.istore_n 1, 1) := by decide +kernel
theorem dX7_text_95 : decode cX7_text 95 = .ok (.iinc 2 1, 3) := by decide +kernel
theorem dX7_text_98 : decode cX7_text 98 = .ok (.goto (-72), 3) := by decide +kernel
theorem dX7_text_101 : decode cX7_text 101 = .ok (.iload_n 1, 1) := by decide +kernel
theorem dX7_text_102 : decode cX7_text 102 = .ok (.ifCond .eq 20, 3) := by decide +kernel
theorem dX7_text_105 : decode cX7_text 105 = .ok (.aload_n 0, 1) := by decide +kernel
theorem dX7_text_106 : decode cX7_text 106 = .ok (.invokevirtual 146, 3) := by decide +kernel
theorem dX7_text_109 : decode cX7_text 109 = .ok (.aload_n 0, 1) := by decide +kernel
theorem dX7_text_110 : decode cX7_text 110 = .ok (.getfield 113, 3) := by decide +kernel
theorem dX7_text_113 : decode cX7_text 113 = .ok (.ifCond .ne 7, 3) := by decide +kernel
theorem dX7_text_116 : decode cX7_text 116 = .ok (.iconst 1, 1) := by decide +kernel
theorem dX7_text_117 : decode cX7_text 117 = .ok (.goto 4, 3) := by decide +kernel
theorem dX7_text_120 : decode cX7_text 120 = .ok (.iconst 0, 1) := by decide +kernel
theorem dX7_text_121 : decode cX7_text 121 = .ok (.istore_n 1, 1) := by decide +kernel
theorem dX7_text_122 : decode cX7_text 122 = .ok (.aload_n 0, 1) := by decide +kernel
theorem dX7_text_123 : decode cX7_text 123 = .ok (.getfield 40, 3) := by decide +kernel
theorem dX7_text_126 : decode cX7_text 126 = .ok (.iconst 4, 1) := by decide +kernel
theorem dX7_text_127 : decode cX7_text 127 = .ok (.aload_n 0, 1) := by decide +kernel
theorem dX7_text_128 : decode cX7_text 128 = .ok (.getfield 97, 3) := by decide +kernel
theorem dX7_text_131 : decode cX7_text 131 = .ok (.imul, 1) := by decide +kernel
theorem dX7_text_132 : decode cX7_text 132 = .ok (.iconst 3, 1) := by decide +kernel
theorem dX7_text_133 : decode cX7_text 133 = .ok (.iadd, 1) := by decide +kernel
theorem dX7_text_134 : decode cX7_text 134 = .ok (.aload_n 0, 1) := by decide +kernel
theorem dX7_text_135 : decode cX7_text 135 = .ok (.getfield 123, 3) := by decide +kernel
theorem dX7_text_138 : decode cX7_text 138 = .ok (.iastore, 1) := by decide +kernel
theorem dX7_text_139 : decode cX7_text 139 = .ok (.aload_n 0, 1) := by decide +kernel
theorem dX7_text_140 : decode cX7_text 140 = .ok (.iconst 0, 1) := by decide +kernel
theorem dX7_text_141 : decode cX7_text 141 = .ok (.putfield 79, 3) := by decide +kernel
theorem dX7_text_144 : decode cX7_text 144 = .ok (.iload_n 1, 1) := by decide +kernel
theorem dX7_text_145 : decode cX7_text 145 = .ok (.ifCond .ne 11, 3) := by decide +kernel
theorem dX7_text_148 : decode cX7_text 148 = .ok (.bipush (-100), 2) := by decide +kernel
theorem dX7_text_150 : decode cX7_text 150 = .ok (.aload_n 0, 1) := by decide +kernel
theorem dX7_text_151 : decode cX7_text 151 = .ok (.getfield 110, 3) := by decide +kernel
theorem dX7_text_154 : decode cX7_text 154 = .ok (.isub, 1) := by decide +kernel
theorem dX7_text_155 : decode cX7_text 155 = .ok (.ireturn, 1) := by decide +kernel
theorem dX7_text_156 : decode cX7_text 156 = .ok (.aload_n 0, 1) := by decide +kernel
theorem dX7_text_157 : decode cX7_text 157 = .ok (.dup, 1) := by decide +kernel
theorem dX7_text_158 : decode cX7_text 158 = .ok (.getfield 97, 3) := by decide +kernel
theorem dX7_text_161 : decode cX7_text 161 = .ok (.iconst 1, 1) := by decide +kernel
theorem dX7_text_162 : decode cX7_text 162 = .ok (.iadd, 1) := by decide +kernel
theorem dX7_text_163 : decode cX7_text 163 = .ok (.putfield 97, 3) := by decide +kernel
theorem dX7_text_166 : decode cX7_text 166 = .ok (.aload_n 0, 1) := by decide +kernel
theorem dX7_text_167 : decode cX7_text 167 = .ok (.getfield 97, 3) := by decide +kernel
theorem dX7_text_170 : decode cX7_text 170 = .ok (.iconst 1, 1) := by decide +kernel
theorem dX7_text_171 : decode cX7_text 171 = .ok (.isub, 1) := by decide +kernel
theorem dX7_text_172 : decode cX7_text 172 = .ok (.ireturn, 1) := by decide +kernel
theorem dX7_two_0 : decode cX7_two 0 = .ok (.iload_n 0, 1) := by decide +kernel
theorem dX7_two_1 : decode cX7_two 1 = .ok (.tableswitch 101 11 17 #[43, 57, 101, 71, 82, 93, 97], 43) := by decide +kernel
theorem dX7_two_44 : decode cX7_two 44 = .ok (.iload_n 1, 1) := by decide +kernel
theorem dX7_two_45 : decode cX7_two 45 = .ok (.ifCond .ne 7, 3) := by decide +kernel
theorem dX7_two_48 : decode cX7_two 48 = .ok (.iload_n 2, 1) := by decide +kernel
theorem dX7_two_49 : decode cX7_two 49 = .ok (.ifCond .eq 7, 3) := by decide +kernel
theorem dX7_two_52 : decode cX7_two 52 = .ok (.iconst 1, 1) := by decide +kernel
theorem dX7_two_53 : decode cX7_two 53 = .ok (.goto 4, 3) := by decide +kernel
theorem dX7_two_56 : decode cX7_two 56 = .ok (.iconst 0, 1) := by decide +kernel
theorem dX7_two_57 : decode cX7_two 57 = .ok (.ireturn, 1) := by decide +kernel
theorem dX7_two_58 : decode cX7_two 58 = .ok (.iload_n 1, 1) := by decide +kernel
theorem dX7_two_59 : decode cX7_two 59 = .ok (.ifCond .eq 11, 3) := by decide +kernel
theorem dX7_two_62 : decode cX7_two 62 = .ok (.iload_n 2, 1) := by decide +kernel
theorem dX7_two_63 : decode cX7_two 63 = .ok (.ifCond .eq 7, 3) := by decide +kernel
theorem dX7_two_66 : decode cX7_two 66 = .ok (.iconst 1, 1) := by decide +kernel
theorem dX7_two_67 : decode cX7_two 67 = .ok (.goto 4, 3) := by decide +kernel
theorem dX7_two_70 : decode cX7_two 70 = .ok (.iconst 0, 1) := by decide +kernel
theorem dX7_two_71 : decode cX7_two 71 = .ok (.ireturn, 1) := by decide +kernel
theorem dX7_two_72 : decode cX7_two 72 = .ok (.iload_n 1, 1) := by decide +kernel
theorem dX7_two_73 : decode cX7_two 73 = .ok (.iload_n 2, 1) := by decide +kernel
theorem dX7_two_74 : decode cX7_two 74 = .ok (.if_icmp .ge 7, 3) := by decide +kernel
theorem dX7_two_77 : decode cX7_two 77 = .ok (.iconst 1, 1) := by decide +kernel
theorem dX7_two_78 : decode cX7_two 78 = .ok (.goto 4, 3) := by decide +kernel
theorem dX7_two_81 : decode cX7_two 81 = .ok (.iconst 0, 1) := by decide +kernel
theorem dX7_two_82 : decode cX7_two 82 = .ok (.ireturn, 1) := by decide +kernel
theorem dX7_two_83 : decode cX7_two 83 = .ok (.iload_n 1, 1) := by decide +kernel
theorem dX7_two_84 : decode cX7_two 84 = .ok (.iload_n 2, 1) := by decide +kernel
theorem dX7_two_85 : decode cX7_two 85 = .ok (.if_icmp .ne 7, 3) := by decide +kernel
theorem dX7_two_88 : decode cX7_two 88 = .ok (.iconst 1, 1) := by decide +kernel
theorem dX7_two_89 : decode cX7_two 89 = .ok (.goto 4, 3) := by decide +kernel
theorem dX7_two_92 : decode cX7_two 92 = .ok (.iconst 0, 1) := by decide +kernel
theorem dX7_two_93 : decode cX7_two 93 = .ok (.ireturn, 1) := by decide +kernel
theorem dX7_two_94 : decode cX7_two 94 = .ok (.iload_n 1, 1) := by decide +kernel
theorem dX7_two_95 : decode cX7_two 95 = .ok (.iload_n 2, 1) := by decide +kernel
theorem dX7_two_96 : decode cX7_two 96 = .ok (.iadd, 1) := by decide +kernel
theorem dX7_two_97 : decode cX7_two 97 = .ok (.ireturn, 1) := by decide +kernel
theorem dX7_two_98 : decode cX7_two 98 = .ok (.iload_n 1, 1) := by decide +kernel
theorem dX7_two_99 : decode cX7_two 99 = .ok (.iload_n 2, 1) := by decide +kernel
theorem dX7_two_100 : decode cX7_two 100 = .ok (.isub, 1) := by decide +kernel
theorem dX7_two_101 : decode cX7_two 101 = .ok (.ireturn, 1) := by decide +kernel
theorem dX7_two_102 : decode cX7_two 102 = .ok (.iload_n 1, 1) := by decide +kernel
theorem dX7_two_103 : decode cX7_two 103 = .ok (.iload_n 2, 1) := by decide +kernel
theorem dX7_two_104 : decode cX7_two 104 = .ok (.imul, 1) := by decide +kernel
theorem dX7_two_105 : decode cX7_two 105 = .ok (.ireturn, 1) := by decide +kernel
theorem dX7_says_0 : decode cX7_says 0 = .ok (.iconst 0, 1) := by decide +kernel
theorem dX7_says_1 : decode cX7_says 1 = .ok (.istore_n 2, 1) := by decide +kernel
theorem dX7_says_2 : decode cX7_says 2 = .ok (.aload_n 0, 1) := by decide +kernel
theorem dX7_says_3 : decode cX7_says 3 = .ok (.getfield 40, 3) := by decide +kernel
theorem dX7_says_6 : decode cX7_says 6 = .ok (.iconst 4, 1) := by decide +kernel
theorem dX7_says_7 : decode cX7_says 7 = .ok (.aload_n 0, 1) := by decide +kernel
theorem dX7_says_8 : decode cX7_says 8 = .ok (.getfield 100, 3) := by decide +kernel
theorem dX7_says_11 : decode cX7_says 11 = .ok (.imul, 1) := by decide +kernel
theorem dX7_says_12 : decode cX7_says 12 = .ok (.iload_n 1, 1) := by decide +kernel
theorem dX7_says_13 : decode cX7_says 13 = .ok (.iadd, 1) := by decide +kernel
theorem dX7_says_14 : decode cX7_says 14 = .ok (.iaload, 1) := by decide +kernel
theorem dX7_says_15 : decode cX7_says 15 = .ok (.istore_n 3, 1) := by decide +kernel
theorem dX7_says_16 : decode cX7_says 16 = .ok (.iload_n 3, 1) := by decide +kernel
theorem dX7_says_17 : decode cX7_says 17 = .ok (.aload_n 0, 1) := by decide +kernel
theorem dX7_says_18 : decode cX7_says 18 = .ok (.getfield 40, 3) := by decide +kernel
theorem dX7_says_21 : decode cX7_says 21 = .ok (.iconst 4, 1) := by decide +kernel
theorem dX7_says_22 : decode cX7_says 22 = .ok (.aload_n 0, 1) := by decide +kernel
theorem dX7_says_23 : decode cX7_says 23 = .ok (.getfield 100, 3) := by decide +kernel
theorem dX7_says_26 : decode cX7_says 26 = .ok (.imul, 1) := by decide +kernel
theorem dX7_says_27 : decode cX7_says 27 = .ok (.iload_n 1, 1) := by decide +kernel
theorem dX7_says_28 : decode cX7_says 28 = .ok (.iadd, 1) := by decide +kernel
theorem dX7_says_29 : decode cX7_says 29 = .ok (.iconst 1, 1) := by decide +kernel
theorem dX7_says_30 : decode cX7_says 30 = .ok (.iadd, 1) := by decide +kernel
theorem dX7_says_31 : decode cX7_says 31 = .ok (.iaload, 1) := by decide +kernel
theorem dX7_says_32 : decode cX7_says 32 = .ok (.if_icmp .ge 165, 3) := by decide +kernel
theorem dX7_says_35 : decode cX7_says 35 = .ok (.aload_n 0, 1) := by decide +kernel
theorem dX7_says_36 : decode cX7_says 36 = .ok (.getfield 37, 3) := by decide +kernel
theorem dX7_says_39 : decode cX7_says 39 = .ok (.sipush 200, 3) := by decide +kernel
theorem dX7_says_42 : decode cX7_says 42 = .ok (.aload_n 0, 1) := by decide +kernel
theorem dX7_says_43 : decode cX7_says 43 = .ok (.getfield 100, 3) := by decide +kernel
theorem dX7_says_46 : decode cX7_says 46 = .ok (.imul, 1) := by decide +kernel
theorem dX7_says_47 : decode cX7_says 47 = .ok (.iload_n 3, 1) := by decide +kernel
theorem dX7_says_48 : decode cX7_says 48 = .ok (.iadd, 1) := by decide +kernel
theorem dX7_says_49 : decode cX7_says 49 = .ok (.iaload, 1) := by decide +kernel
theorem dX7_says_50 : decode cX7_says 50 = .ok (.istore 4, 2) := by decide +kernel
theorem dX7_says_52 : decode cX7_says 52 = .ok (.iload 4, 2) := by decide +kernel
theorem dX7_says_54 : decode cX7_says 54 = .ok (.ldc 149, 2) := by decide +kernel
theorem dX7_says_56 : decode cX7_says 56 = .ok (.if_icmp .ge 10, 3) := by decide +kernel
theorem dX7_says_59 : decode cX7_says 59 = .ok (.iload 4, 2) := by decide +kernel
theorem dX7_says_61 : decode cX7_says 61 = .ok (.bipush 11, 2) := by decide +kernel
theorem dX7_says_63 : decode cX7_says 63 = .ok (.if_icmp .ge 37, 3) := by decide +kernel
theorem dX7_says_66 : decode cX7_says 66 = .ok (.aload_n 0, 1) := by decide +kernel
theorem dX7_says_67 : decode cX7_says 67 = .ok (.getfield 70, 3) := by decide +kernel
theorem dX7_says_70 : decode cX7_says 70 = .ok (.iload_n 2, 1) := by decide +kernel
theorem dX7_says_71 : decode cX7_says 71 = .ok (.iload 4, 2) := by decide +kernel
theorem dX7_says_73 : decode cX7_says 73 = .ok (.bipush 11, 2) := by decide +kernel
theorem dX7_says_75 : decode cX7_says 75 = .ok (.if_icmp .ge 13, 3) := by decide +kernel
theorem dX7_says_78 : decode cX7_says 78 = .ok (.aload_n 0, 1) := by decide +kernel
theorem dX7_says_79 : decode cX7_says 79 = .ok (.getfield 73, 3) := by decide +kernel
theorem dX7_says_82 : decode cX7_says 82 = .ok (.iload 4, 2) := by decide +kernel
theorem dX7_says_84 : decode cX7_says 84 = .ok (.iaload, 1) := by decide +kernel
theorem dX7_says_85 : decode cX7_says 85 = .ok (.goto 8, 3) := by decide +kernel
theorem dX7_says_88 : decode cX7_says 88 = .ok (.iload 4, 2) := by decide +kernel
theorem dX7_says_90 : decode cX7_says 90 = .ok (.ldc 149, 2) := by decide +kernel
theorem dX7_says_92 : decode cX7_says 92 = .ok (.isub, 1) := by decide +kernel
theorem dX7_says_93 : decode cX7_says 93 = .ok (.iastore, 1) := by decide +kernel
theorem dX7_says_94 : decode cX7_says 94 = .ok (.iinc 2 1, 3) := by decide +kernel
theorem dX7_says_97 : decode cX7_says 97 = .ok (.goto 94, 3) := by decide +kernel
theorem dX7_says_100 : decode cX7_says 100 = .ok (.iload 4, 2) := by decide +kernel
theorem dX7_says_102 : decode cX7_says 102 = .ok (.bipush 13, 2) := by decide +kernel
theorem dX7_says_104 : decode cX7_says 104 = .ok (.if_icmp .ne 30, 3) := by decide +kernel
theorem dX7_says_107 : decode cX7_says 107 = .ok (.aload_n 0, 1) := by decide +kernel
theorem dX7_says_108 : decode cX7_says 108 = .ok (.getfield 70, 3) := by decide +kernel
theorem dX7_says_111 : decode cX7_says 111 = .ok (.iload_n 2, 1) := by decide +kernel
theorem dX7_says_112 : decode cX7_says 112 = .ok (.iconst 1, 1) := by decide +kernel
theorem dX7_says_113 : decode cX7_says 113 = .ok (.isub, 1) := by decide +kernel
theorem dX7_says_114 : decode cX7_says 114 = .ok (.aload_n 0, 1) := by decide +kernel
theorem dX7_says_115 : decode cX7_says 115 = .ok (.getfield 70, 3) := by decide +kernel
theorem dX7_says_118 : decode cX7_says 118 = .ok (.iload_n 2, 1) := by decide +kernel
theorem dX7_says_119 : decode cX7_says 119 = .ok (.iconst 1, 1) := by decide +kernel
theorem dX7_says_120 : decode cX7_says 120 = .ok (.isub, 1) := by decide +kernel
theorem dX7_says_121 : decode cX7_says 121 = .ok (.iaload, 1) := by decide +kernel
theorem dX7_says_122 : decode cX7_says 122 = .ok (.ifCond .ne 7, 3) := by decide +kernel
theorem dX7_says_125 : decode cX7_says 125 = .ok (.iconst 1, 1) := by decide +kernel
theorem dX7_says_126 : decode cX7_says 126 = .ok (.goto 4, 3) := by decide +kernel
theorem dX7_says_129 : decode cX7_says 129 = .ok (.iconst 0, 1) := by decide +kernel
theorem dX7_says_130 : decode cX7_says 130 = .ok (.iastore, 1) := by decide +kernel
theorem dX7_says_131 : decode cX7_says 131 = .ok (.goto 60, 3) := by decide +kernel
theorem dX7_says_134 : decode cX7_says 134 = .ok (.iload 4, 2) := by decide +kernel
theorem dX7_says_136 : decode cX7_says 136 = .ok (.bipush 19, 2) := by decide +kernel
theorem dX7_says_138 : decode cX7_says 138 = .ok (.if_icmp .ne 23, 3) := by decide +kernel
theorem dX7_says_141 : decode cX7_says 141 = .ok (.aload_n 0, 1) := by decide +kernel
theorem dX7_says_142 : decode cX7_says 142 = .ok (.getfield 70, 3) := by decide +kernel
theorem dX7_says_145 : decode cX7_says 145 = .ok (.iload_n 2, 1) := by decide +kernel
theorem dX7_says_146 : decode cX7_says 146 = .ok (.iconst 1, 1) := by decide +kernel
theorem dX7_says_147 : decode cX7_says 147 = .ok (.isub, 1) := by decide +kernel
theorem dX7_says_148 : decode cX7_says 148 = .ok (.aload_n 0, 1) := by decide +kernel
theorem dX7_says_149 : decode cX7_says 149 = .ok (.getfield 70, 3) := by decide +kernel
theorem dX7_says_152 : decode cX7_says 152 = .ok (.iload_n 2, 1) := by decide +kernel
theorem dX7_says_153 : decode cX7_says 153 = .ok (.iconst 1, 1) := by decide +kernel
theorem dX7_says_154 : decode cX7_says 154 = .ok (.isub, 1) := by decide +kernel
theorem dX7_says_155 : decode cX7_says 155 = .ok (.iaload, 1) := by decide +kernel
theorem dX7_says_156 : decode cX7_says 156 = .ok (.ineg, 1) := by decide +kernel
theorem dX7_says_157 : decode cX7_says 157 = .ok (.iastore, 1) := by decide +kernel
theorem dX7_says_158 : decode cX7_says 158 = .ok (.goto 33, 3) := by decide +kernel
theorem dX7_says_161 : decode cX7_says 161 = .ok (.iinc 2 (-1), 3) := by decide +kernel
theorem dX7_says_164 : decode cX7_says 164 = .ok (.aload_n 0, 1) := by decide +kernel
theorem dX7_says_165 : decode cX7_says 165 = .ok (.getfield 70, 3) := by decide +kernel
theorem dX7_says_168 : decode cX7_says 168 = .ok (.iload_n 2, 1) := by decide +kernel
theorem dX7_says_169 : decode cX7_says 169 = .ok (.iconst 1, 1) := by decide +kernel
theorem dX7_says_170 : decode cX7_says 170 = .ok (.isub, 1) := by decide +kernel
theorem dX7_says_171 : decode cX7_says 171 = .ok (.iload 4, 2) := by decide +kernel
theorem dX7_says_173 : decode cX7_says 173 = .ok (.aload_n 0, 1) := by decide +kernel
theorem dX7_says_174 : decode cX7_says 174 = .ok (.getfield 70, 3) := by decide +kernel
theorem dX7_says_177 : decode cX7_says 177 = .ok (.iload_n 2, 1) := by decide +kernel
theorem dX7_says_178 : decode cX7_says 178 = .ok (.iconst 1, 1) := by decide +kernel
theorem dX7_says_179 : decode cX7_says 179 = .ok (.isub, 1) := by decide +kernel
theorem dX7_says_180 : decode cX7_says 180 = .ok (.iaload, 1) := by decide +kernel
theorem dX7_says_181 : decode cX7_says 181 = .ok (.aload_n 0, 1) := by decide +kernel
theorem dX7_says_182 : decode cX7_says 182 = .ok (.getfield 70, 3) := by decide +kernel
theorem dX7_says_185 : decode cX7_says 185 = .ok (.iload_n 2, 1) := by decide +kernel
theorem dX7_says_186 : decode cX7_says 186 = .ok (.iaload, 1) := by decide +kernel
theorem dX7_says_187 : decode cX7_says 187 = .ok (.invokestatic 163, 3) := by decide +kernel
theorem dX7_says_190 : decode cX7_says 190 = .ok (.iastore, 1) := by decide +kernel
theorem dX7_says_191 : decode cX7_says 191 = .ok (.iinc 3 1, 3) := by decide +kernel
theorem dX7_says_194 : decode cX7_says 194 = .ok (.goto (-178), 3) := by decide +kernel
theorem dX7_says_197 : decode cX7_says 197 = .ok (.aload_n 0, 1) := by decide +kernel
theorem dX7_says_198 : decode cX7_says 198 = .ok (.getfield 70, 3) := by decide +kernel
theorem dX7_says_201 : decode cX7_says 201 = .ok (.iconst 0, 1) := by decide +kernel
theorem dX7_says_202 : decode cX7_says 202 = .ok (.iaload, 1) := by decide +kernel
theorem dX7_says_203 : decode cX7_says 203 = .ok (.ireturn, 1) := by decide +kernel
theorem dX7_force_0 : decode cX7_force 0 = .ok (.iload_n 1, 1) := by decide +kernel
theorem dX7_force_1 : decode cX7_force 1 = .ok (.iconst 0, 1) := by decide +kernel
theorem dX7_force_2 : decode cX7_force 2 = .ok (.aload_n 0, 1) := by decide +kernel
theorem dX7_force_3 : decode cX7_force 3 = .ok (.getfield 97, 3) := by decide +kernel
theorem dX7_force_6 : decode cX7_force 6 = .ok (.iconst 1, 1) := by decide +kernel
theorem dX7_force_7 : decode cX7_force 7 = .ok (.isub, 1) := by decide +kernel
theorem dX7_force_8 : decode cX7_force 8 = .ok (.invokestatic 90, 3) := by decide +kernel
theorem dX7_force_11 : decode cX7_force 11 = .ok (.ifCond .ne 6, 3) := by decide +kernel
theorem dX7_force_14 : decode cX7_force 14 = .ok (.bipush (-2), 2) := by decide +kernel
theorem dX7_force_16 : decode cX7_force 16 = .ok (.ireturn, 1) := by decide +kernel
theorem dX7_force_17 : decode cX7_force 17 = .ok (.aload_n 0, 1) := by decide +kernel
theorem dX7_force_18 : decode cX7_force 18 = .ok (.getfield 100, 3) := by decide +kernel
theorem dX7_force_21 : decode cX7_force 21 = .ok (.istore_n 2, 1) := by decide +kernel
theorem dX7_force_22 : decode cX7_force 22 = .ok (.aload_n 0, 1) := by decide +kernel
theorem dX7_force_23 : decode cX7_force 23 = .ok (.iload_n 1, 1) := by decide +kernel
theorem dX7_force_24 : decode cX7_force 24 = .ok (.putfield 100, 3) := by decide +kernel
theorem dX7_force_27 : decode cX7_force 27 = .ok (.iload_n 2, 1) := by decide +kernel
theorem dX7_force_28 : decode cX7_force 28 = .ok (.ireturn, 1) := by decide +kernel
theorem dX7_asksOf_0 : decode cX7_asksOf 0 = .ok (.aload_n 0, 1) := by decide +kernel
theorem dX7_asksOf_1 : decode cX7_asksOf 1 = .ok (.getfield 73, 3) := by decide +kernel
theorem dX7_asksOf_4 : decode cX7_asksOf 4 = .ok (.iconst 0, 1) := by decide +kernel
theorem dX7_asksOf_5 : decode cX7_asksOf 5 = .ok (.iload_n 2, 1) := by decide +kernel
theorem dX7_asksOf_6 : decode cX7_asksOf 6 = .ok (.iastore, 1) := by decide +kernel
theorem dX7_asksOf_7 : decode cX7_asksOf 7 = .ok (.aload_n 0, 1) := by decide +kernel
theorem dX7_asksOf_8 : decode cX7_asksOf 8 = .ok (.getfield 73, 3) := by decide +kernel
theorem dX7_asksOf_11 : decode cX7_asksOf 11 = .ok (.iconst 1, 1) := by decide +kernel
theorem dX7_asksOf_12 : decode cX7_asksOf 12 = .ok (.iload_n 3, 1) := by decide +kernel
theorem dX7_asksOf_13 : decode cX7_asksOf 13 = .ok (.iastore, 1) := by decide +kernel
theorem dX7_asksOf_14 : decode cX7_asksOf 14 = .ok (.aload_n 0, 1) := by decide +kernel
theorem dX7_asksOf_15 : decode cX7_asksOf 15 = .ok (.getfield 73, 3) := by decide +kernel
theorem dX7_asksOf_18 : decode cX7_asksOf 18 = .ok (.iconst 2, 1) := by decide +kernel
theorem dX7_asksOf_19 : decode cX7_asksOf 19 = .ok (.iload 4, 2) := by decide +kernel
theorem dX7_asksOf_21 : decode cX7_asksOf 21 = .ok (.iastore, 1) := by decide +kernel
theorem dX7_asksOf_22 : decode cX7_asksOf 22 = .ok (.aload_n 0, 1) := by decide +kernel
theorem dX7_asksOf_23 : decode cX7_asksOf 23 = .ok (.getfield 73, 3) := by decide +kernel
theorem dX7_asksOf_26 : decode cX7_asksOf 26 = .ok (.iconst 3, 1) := by decide +kernel
theorem dX7_asksOf_27 : decode cX7_asksOf 27 = .ok (.iload 5, 2) := by decide +kernel
theorem dX7_asksOf_29 : decode cX7_asksOf 29 = .ok (.iastore, 1) := by decide +kernel
theorem dX7_asksOf_30 : decode cX7_asksOf 30 = .ok (.aload_n 0, 1) := by decide +kernel
theorem dX7_asksOf_31 : decode cX7_asksOf 31 = .ok (.getfield 73, 3) := by decide +kernel
theorem dX7_asksOf_34 : decode cX7_asksOf 34 = .ok (.iconst 4, 1) := by decide +kernel
theorem dX7_asksOf_35 : decode cX7_asksOf 35 = .ok (.iload 6, 2) := by decide +kernel
theorem dX7_asksOf_37 : decode cX7_asksOf 37 = .ok (.iastore, 1) := by decide +kernel
theorem dX7_asksOf_38 : decode cX7_asksOf 38 = .ok (.aload_n 0, 1) := by decide +kernel
theorem dX7_asksOf_39 : decode cX7_asksOf 39 = .ok (.getfield 73, 3) := by decide +kernel
theorem dX7_asksOf_42 : decode cX7_asksOf 42 = .ok (.iconst 5, 1) := by decide +kernel
theorem dX7_asksOf_43 : decode cX7_asksOf 43 = .ok (.iload 7, 2) := by decide +kernel
theorem dX7_asksOf_45 : decode cX7_asksOf 45 = .ok (.iastore, 1) := by decide +kernel
theorem dX7_asksOf_46 : decode cX7_asksOf 46 = .ok (.iload_n 1, 1) := by decide +kernel
theorem dX7_asksOf_47 : decode cX7_asksOf 47 = .ok (.ifCond .ne 20, 3) := by decide +kernel
theorem dX7_asksOf_50 : decode cX7_asksOf 50 = .ok (.aload_n 0, 1) := by decide +kernel
theorem dX7_asksOf_51 : decode cX7_asksOf 51 = .ok (.iconst 0, 1) := by decide +kernel
theorem dX7_asksOf_52 : decode cX7_asksOf 52 = .ok (.invokevirtual 167, 3) := by decide +kernel
theorem dX7_asksOf_55 : decode cX7_asksOf 55 = .ok (.sipush (-999), 3) := by decide +kernel
theorem dX7_asksOf_58 : decode cX7_asksOf 58 = .ok (.sipush 999, 3) := by decide +kernel
theorem dX7_asksOf_61 : decode cX7_asksOf 61 = .ok (.invokestatic 170, 3) := by decide +kernel
theorem dX7_asksOf_64 : decode cX7_asksOf 64 = .ok (.goto 14, 3) := by decide +kernel
theorem dX7_asksOf_67 : decode cX7_asksOf 67 = .ok (.aload_n 0, 1) := by decide +kernel
theorem dX7_asksOf_68 : decode cX7_asksOf 68 = .ok (.iload_n 1, 1) := by decide +kernel
theorem dX7_asksOf_69 : decode cX7_asksOf 69 = .ok (.invokevirtual 167, 3) := by decide +kernel
theorem dX7_asksOf_72 : decode cX7_asksOf 72 = .ok (.iconst 0, 1) := by decide +kernel
theorem dX7_asksOf_73 : decode cX7_asksOf 73 = .ok (.bipush 99, 2) := by decide +kernel
theorem dX7_asksOf_75 : decode cX7_asksOf 75 = .ok (.invokestatic 170, 3) := by decide +kernel
theorem dX7_asksOf_78 : decode cX7_asksOf 78 = .ok (.ireturn, 1) := by decide +kernel
theorem dX7_asks_0 : decode cX7_asks 0 = .ok (.iload_n 1, 1) := by decide +kernel
theorem dX7_asks_1 : decode cX7_asks 1 = .ok (.iconst 0, 1) := by decide +kernel
theorem dX7_asks_2 : decode cX7_asks 2 = .ok (.iconst 2, 1) := by decide +kernel
theorem dX7_asks_3 : decode cX7_asks 3 = .ok (.invokestatic 90, 3) := by decide +kernel
theorem dX7_asks_6 : decode cX7_asks 6 = .ok (.ifCond .eq 49, 3) := by decide +kernel
theorem dX7_asks_9 : decode cX7_asks 9 = .ok (.iload_n 2, 1) := by decide +kernel
theorem dX7_asks_10 : decode cX7_asks 10 = .ok (.iconst 0, 1) := by decide +kernel
theorem dX7_asks_11 : decode cX7_asks 11 = .ok (.bipush 99, 2) := by decide +kernel
theorem dX7_asks_13 : decode cX7_asks 13 = .ok (.invokestatic 90, 3) := by decide +kernel
theorem dX7_asks_16 : decode cX7_asks 16 = .ok (.ifCond .eq 39, 3) := by decide +kernel
theorem dX7_asks_19 : decode cX7_asks 19 = .ok (.iload_n 3, 1) := by decide +kernel
theorem dX7_asks_20 : decode cX7_asks 20 = .ok (.iconst 0, 1) := by decide +kernel
theorem dX7_asks_21 : decode cX7_asks 21 = .ok (.bipush 99, 2) := by decide +kernel
theorem dX7_asks_23 : decode cX7_asks 23 = .ok (.invokestatic 90, 3) := by decide +kernel
theorem dX7_asks_26 : decode cX7_asks 26 = .ok (.ifCond .eq 29, 3) := by decide +kernel
theorem dX7_asks_29 : decode cX7_asks 29 = .ok (.iload 4, 2) := by decide +kernel
theorem dX7_asks_31 : decode cX7_asks 31 = .ok (.iconst 0, 1) := by decide +kernel
theorem dX7_asks_32 : decode cX7_asks 32 = .ok (.bipush 39, 2) := by decide +kernel
theorem dX7_asks_34 : decode cX7_asks 34 = .ok (.invokestatic 90, 3) := by decide +kernel
theorem dX7_asks_37 : decode cX7_asks 37 = .ok (.ifCond .eq 18, 3) := by decide +kernel
theorem dX7_asks_40 : decode cX7_asks 40 = .ok (.iload 5, 2) := by decide +kernel
theorem dX7_asks_42 : decode cX7_asks 42 = .ok (.iconst 0, 1) := by decide +kernel
theorem dX7_asks_43 : decode cX7_asks 43 = .ok (.bipush 6, 2) := by decide +kernel
theorem dX7_asks_45 : decode cX7_asks 45 = .ok (.invokestatic 90, 3) := by decide +kernel
theorem dX7_asks_48 : decode cX7_asks 48 = .ok (.ifCond .eq 7, 3) := by decide +kernel
theorem dX7_asks_51 : decode cX7_asks 51 = .ok (.iconst 1, 1) := by decide +kernel
theorem dX7_asks_52 : decode cX7_asks 52 = .ok (.goto 4, 3) := by decide +kernel
theorem dX7_asks_55 : decode cX7_asks 55 = .ok (.iconst 0, 1) := by decide +kernel
theorem dX7_asks_56 : decode cX7_asks 56 = .ok (.istore 6, 2) := by decide +kernel
theorem dX7_asks_58 : decode cX7_asks 58 = .ok (.iload 6, 2) := by decide +kernel
theorem dX7_asks_60 : decode cX7_asks 60 = .ok (.ifCond .eq 32, 3) := by decide +kernel
theorem dX7_asks_63 : decode cX7_asks 63 = .ok (.aload_n 0, 1) := by decide +kernel
theorem dX7_asks_64 : decode cX7_asks 64 = .ok (.iload_n 1, 1) := by decide +kernel
theorem dX7_asks_65 : decode cX7_asks 65 = .ok (.iload_n 2, 1) := by decide +kernel
theorem dX7_asks_66 : decode cX7_asks 66 = .ok (.bipush 10, 2) := by decide +kernel
theorem dX7_asks_68 : decode cX7_asks 68 = .ok (.idiv, 1) := by decide +kernel
theorem dX7_asks_69 : decode cX7_asks 69 = .ok (.iload_n 2, 1) := by decide +kernel
theorem dX7_asks_70 : decode cX7_asks 70 = .ok (.bipush 10, 2) := by decide +kernel
theorem dX7_asks_72 : decode cX7_asks 72 = .ok (.irem, 1) := by decide +kernel
theorem dX7_asks_73 : decode cX7_asks 73 = .ok (.iload_n 3, 1) := by decide +kernel
theorem dX7_asks_74 : decode cX7_asks 74 = .ok (.iload 4, 2) := by decide +kernel
theorem dX7_asks_76 : decode cX7_asks 76 = .ok (.bipush 10, 2) := by decide +kernel
theorem dX7_asks_78 : decode cX7_asks 78 = .ok (.idiv, 1) := by decide +kernel
theorem dX7_asks_79 : decode cX7_asks 79 = .ok (.iload 4, 2) := by decide +kernel
theorem dX7_asks_81 : decode cX7_asks 81 = .ok (.bipush 10, 2) := by decide +kernel
theorem dX7_asks_83 : decode cX7_asks 83 = .ok (.irem, 1) := by decide +kernel
theorem dX7_asks_84 : decode cX7_asks 84 = .ok (.iload 5, 2) := by decide +kernel
theorem dX7_asks_86 : decode cX7_asks 86 = .ok (.invokevirtual 173, 3) := by decide +kernel
theorem dX7_asks_89 : decode cX7_asks 89 = .ok (.goto 5, 3) := by decide +kernel
theorem dX7_asks_92 : decode cX7_asks 92 = .ok (.bipush (-2), 2) := by decide +kernel
theorem dX7_asks_94 : decode cX7_asks 94 = .ok (.ireturn, 1) := by decide +kernel
theorem dX7_come_0 : decode cX7_come 0 = .ok (.iload_n 1, 1) := by decide +kernel
theorem dX7_come_1 : decode cX7_come 1 = .ok (.iconst 0, 1) := by decide +kernel
theorem dX7_come_2 : decode cX7_come 2 = .ok (.bipush 59, 2) := by decide +kernel
theorem dX7_come_4 : decode cX7_come 4 = .ok (.invokestatic 90, 3) := by decide +kernel
theorem dX7_come_7 : decode cX7_come 7 = .ok (.ifCond .eq 22, 3) := by decide +kernel
theorem dX7_come_10 : decode cX7_come 10 = .ok (.iload_n 2, 1) := by decide +kernel
theorem dX7_come_11 : decode cX7_come 11 = .ok (.iconst 0, 1) := by decide +kernel
theorem dX7_come_12 : decode cX7_come 12 = .ok (.bipush 20, 2) := by decide +kernel
theorem dX7_come_14 : decode cX7_come 14 = .ok (.invokestatic 90, 3) := by decide +kernel
theorem dX7_come_17 : decode cX7_come 17 = .ok (.ifCond .eq 12, 3) := by decide +kernel
theorem dX7_come_20 : decode cX7_come 20 = .ok (.iload_n 3, 1) := by decide +kernel
theorem dX7_come_21 : decode cX7_come 21 = .ok (.iconst (-1), 1) := by decide +kernel
theorem dX7_come_22 : decode cX7_come 22 = .ok (.iconst 2, 1) := by decide +kernel
theorem dX7_come_23 : decode cX7_come 23 = .ok (.invokestatic 90, 3) := by decide +kernel
theorem dX7_come_26 : decode cX7_come 26 = .ok (.ifCond .ne 6, 3) := by decide +kernel
theorem dX7_come_29 : decode cX7_come 29 = .ok (.bipush (-2), 2) := by decide +kernel
theorem dX7_come_31 : decode cX7_come 31 = .ok (.ireturn, 1) := by decide +kernel
theorem dX7_come_32 : decode cX7_come 32 = .ok (.aload_n 0, 1) := by decide +kernel
theorem dX7_come_33 : decode cX7_come 33 = .ok (.getfield 87, 3) := by decide +kernel
theorem dX7_come_36 : decode cX7_come 36 = .ok (.bipush 7, 2) := by decide +kernel
theorem dX7_come_38 : decode cX7_come 38 = .ok (.if_icmp .ne 6, 3) := by decide +kernel
theorem dX7_come_41 : decode cX7_come 41 = .ok (.bipush (-4), 2) := by decide +kernel
theorem dX7_come_43 : decode cX7_come 43 = .ok (.ireturn, 1) := by decide +kernel
theorem dX7_come_44 : decode cX7_come 44 = .ok (.aload_n 0, 1) := by decide +kernel
theorem dX7_come_45 : decode cX7_come 45 = .ok (.getfield 7, 3) := by decide +kernel
theorem dX7_come_48 : decode cX7_come 48 = .ok (.aload_n 0, 1) := by decide +kernel
theorem dX7_come_49 : decode cX7_come 49 = .ok (.getfield 87, 3) := by decide +kernel
theorem dX7_come_52 : decode cX7_come 52 = .ok (.iload_n 1, 1) := by decide +kernel
theorem dX7_come_53 : decode cX7_come 53 = .ok (.bipush 10, 2) := by decide +kernel
theorem dX7_come_55 : decode cX7_come 55 = .ok (.idiv, 1) := by decide +kernel
theorem dX7_come_56 : decode cX7_come 56 = .ok (.iastore, 1) := by decide +kernel
theorem dX7_come_57 : decode cX7_come 57 = .ok (.aload_n 0, 1) := by decide +kernel
theorem dX7_come_58 : decode cX7_come 58 = .ok (.getfield 16, 3) := by decide +kernel
theorem dX7_come_61 : decode cX7_come 61 = .ok (.aload_n 0, 1) := by decide +kernel
theorem dX7_come_62 : decode cX7_come 62 = .ok (.getfield 87, 3) := by decide +kernel
theorem dX7_come_65 : decode cX7_come 65 = .ok (.iload_n 1, 1) := by decide +kernel
theorem dX7_come_66 : decode cX7_come 66 = .ok (.bipush 10, 2) := by decide +kernel
theorem dX7_come_68 : decode cX7_come 68 = .ok (.irem, 1) := by decide +kernel
theorem dX7_come_69 : decode cX7_come 69 = .ok (.iastore, 1) := by decide +kernel
theorem dX7_come_70 : decode cX7_come 70 = .ok (.aload_n 0, 1) := by decide +kernel
theorem dX7_come_71 : decode cX7_come 71 = .ok (.getfield 13, 3) := by decide +kernel
theorem dX7_come_74 : decode cX7_come 74 = .ok (.aload_n 0, 1) := by decide +kernel
theorem dX7_come_75 : decode cX7_come 75 = .ok (.getfield 87, 3) := by decide +kernel
theorem dX7_come_78 : decode cX7_come 78 = .ok (.iload_n 2, 1) := by decide +kernel
theorem dX7_come_79 : decode cX7_come 79 = .ok (.iastore, 1) := by decide +kernel
theorem dX7_come_80 : decode cX7_come 80 = .ok (.aload_n 0, 1) := by decide +kernel
theorem dX7_come_81 : decode cX7_come 81 = .ok (.getfield 19, 3) := by decide +kernel
theorem dX7_come_84 : decode cX7_come 84 = .ok (.aload_n 0, 1) := by decide +kernel
theorem dX7_come_85 : decode cX7_come 85 = .ok (.getfield 87, 3) := by decide +kernel
theorem dX7_come_88 : decode cX7_come 88 = .ok (.iload_n 3, 1) := by decide +kernel
theorem dX7_come_89 : decode cX7_come 89 = .ok (.iastore, 1) := by decide +kernel
theorem dX7_come_90 : decode cX7_come 90 = .ok (.iconst 0, 1) := by decide +kernel
theorem dX7_come_91 : decode cX7_come 91 = .ok (.istore 4, 2) := by decide +kernel
theorem dX7_come_93 : decode cX7_come 93 = .ok (.iload 4, 2) := by decide +kernel
theorem dX7_come_95 : decode cX7_come 95 = .ok (.iconst 4, 1) := by decide +kernel
theorem dX7_come_96 : decode cX7_come 96 = .ok (.if_icmp .ge 24, 3) := by decide +kernel
theorem dX7_come_99 : decode cX7_come 99 = .ok (.aload_n 0, 1) := by decide +kernel
theorem dX7_come_100 : decode cX7_come 100 = .ok (.getfield 22, 3) := by decide +kernel
theorem dX7_come_103 : decode cX7_come 103 = .ok (.iconst 4, 1) := by decide +kernel
theorem dX7_come_104 : decode cX7_come 104 = .ok (.aload_n 0, 1) := by decide +kernel
theorem dX7_come_105 : decode cX7_come 105 = .ok (.getfield 87, 3) := by decide +kernel
theorem dX7_come_108 : decode cX7_come 108 = .ok (.imul, 1) := by decide +kernel
theorem dX7_come_109 : decode cX7_come 109 = .ok (.iload 4, 2) := by decide +kernel
theorem dX7_come_111 : decode cX7_come 111 = .ok (.iadd, 1) := by decide +kernel
theorem dX7_come_112 : decode cX7_come 112 = .ok (.iconst 0, 1) := by decide +kernel
theorem dX7_come_113 : decode cX7_come 113 = .ok (.iastore, 1) := by decide +kernel
theorem dX7_come_114 : decode cX7_come 114 = .ok (.iinc 4 1, 3) := by decide +kernel
theorem dX7_come_117 : decode cX7_come 117 = .ok (.goto (-24), 3) := by decide +kernel
theorem dX7_come_120 : decode cX7_come 120 = .ok (.aload_n 0, 1) := by decide +kernel
theorem dX7_come_121 : decode cX7_come 121 = .ok (.dup, 1) := by decide +kernel
theorem dX7_come_122 : decode cX7_come 122 = .ok (.getfield 87, 3) := by decide +kernel
theorem dX7_come_125 : decode cX7_come 125 = .ok (.iconst 1, 1) := by decide +kernel
theorem dX7_come_126 : decode cX7_come 126 = .ok (.iadd, 1) := by decide +kernel
theorem dX7_come_127 : decode cX7_come 127 = .ok (.putfield 87, 3) := by decide +kernel
theorem dX7_come_130 : decode cX7_come 130 = .ok (.aload_n 0, 1) := by decide +kernel
theorem dX7_come_131 : decode cX7_come 131 = .ok (.getfield 87, 3) := by decide +kernel
theorem dX7_come_134 : decode cX7_come 134 = .ok (.iconst 1, 1) := by decide +kernel
theorem dX7_come_135 : decode cX7_come 135 = .ok (.isub, 1) := by decide +kernel
theorem dX7_come_136 : decode cX7_come 136 = .ok (.ireturn, 1) := by decide +kernel
theorem dX7_learn_0 : decode cX7_learn 0 = .ok (.aload_n 0, 1) := by decide +kernel
theorem dX7_learn_1 : decode cX7_learn 1 = .ok (.iload_n 1, 1) := by decide +kernel
theorem dX7_learn_2 : decode cX7_learn 2 = .ok (.invokevirtual 177, 3) := by decide +kernel
theorem dX7_learn_5 : decode cX7_learn 5 = .ok (.ifCond .ne 6, 3) := by decide +kernel
theorem dX7_learn_8 : decode cX7_learn 8 = .ok (.bipush (-5), 2) := by decide +kernel
theorem dX7_learn_10 : decode cX7_learn 10 = .ok (.ireturn, 1) := by decide +kernel
theorem dX7_learn_11 : decode cX7_learn 11 = .ok (.iload_n 2, 1) := by decide +kernel
theorem dX7_learn_12 : decode cX7_learn 12 = .ok (.iconst 0, 1) := by decide +kernel
theorem dX7_learn_13 : decode cX7_learn 13 = .ok (.iconst 3, 1) := by decide +kernel
theorem dX7_learn_14 : decode cX7_learn 14 = .ok (.invokestatic 90, 3) := by decide +kernel
theorem dX7_learn_17 : decode cX7_learn 17 = .ok (.ifCond .eq 13, 3) := by decide +kernel
theorem dX7_learn_20 : decode cX7_learn 20 = .ok (.iload_n 3, 1) := by decide +kernel
theorem dX7_learn_21 : decode cX7_learn 21 = .ok (.iconst 0, 1) := by decide +kernel
theorem dX7_learn_22 : decode cX7_learn 22 = .ok (.bipush 9, 2) := by decide +kernel
theorem dX7_learn_24 : decode cX7_learn 24 = .ok (.invokestatic 90, 3) := by decide +kernel
theorem dX7_learn_27 : decode cX7_learn 27 = .ok (.ifCond .ne 6, 3) := by decide +kernel
theorem dX7_learn_30 : decode cX7_learn 30 = .ok (.bipush (-7), 2) := by decide +kernel
theorem dX7_learn_32 : decode cX7_learn 32 = .ok (.ireturn, 1) := by decide +kernel
theorem dX7_learn_33 : decode cX7_learn 33 = .ok (.aload_n 0, 1) := by decide +kernel
theorem dX7_learn_34 : decode cX7_learn 34 = .ok (.getfield 22, 3) := by decide +kernel
theorem dX7_learn_37 : decode cX7_learn 37 = .ok (.iconst 4, 1) := by decide +kernel
theorem dX7_learn_38 : decode cX7_learn 38 = .ok (.iload_n 1, 1) := by decide +kernel
theorem dX7_learn_39 : decode cX7_learn 39 = .ok (.imul, 1) := by decide +kernel
theorem dX7_learn_40 : decode cX7_learn 40 = .ok (.iload_n 2, 1) := by decide +kernel
theorem dX7_learn_41 : decode cX7_learn 41 = .ok (.iadd, 1) := by decide +kernel
theorem dX7_learn_42 : decode cX7_learn 42 = .ok (.iaload, 1) := by decide +kernel
theorem dX7_learn_43 : decode cX7_learn 43 = .ok (.istore 4, 2) := by decide +kernel
theorem dX7_learn_45 : decode cX7_learn 45 = .ok (.aload_n 0, 1) := by decide +kernel
theorem dX7_learn_46 : decode cX7_learn 46 = .ok (.getfield 22, 3) := by decide +kernel
theorem dX7_learn_49 : decode cX7_learn 49 = .ok (.iconst 4, 1) := by decide +kernel
theorem dX7_learn_50 : decode cX7_learn 50 = .ok (.iload_n 1, 1) := by decide +kernel
theorem dX7_learn_51 : decode cX7_learn 51 = .ok (.imul, 1) := by decide +kernel
theorem dX7_learn_52 : decode cX7_learn 52 = .ok (.iload_n 2, 1) := by decide +kernel
theorem dX7_learn_53 : decode cX7_learn 53 = .ok (.iadd, 1) := by decide +kernel
theorem dX7_learn_54 : decode cX7_learn 54 = .ok (.iload_n 3, 1) := by decide +kernel
theorem dX7_learn_55 : decode cX7_learn 55 = .ok (.iastore, 1) := by decide +kernel
theorem dX7_learn_56 : decode cX7_learn 56 = .ok (.iload 4, 2) := by decide +kernel
theorem dX7_learn_58 : decode cX7_learn 58 = .ok (.ireturn, 1) := by decide +kernel
theorem dX7_sit_0 : decode cX7_sit 0 = .ok (.aload_n 0, 1) := by decide +kernel
theorem dX7_sit_1 : decode cX7_sit 1 = .ok (.iload_n 1, 1) := by decide +kernel
theorem dX7_sit_2 : decode cX7_sit 2 = .ok (.invokevirtual 177, 3) := by decide +kernel
theorem dX7_sit_5 : decode cX7_sit 5 = .ok (.ifCond .ne 6, 3) := by decide +kernel
theorem dX7_sit_8 : decode cX7_sit 8 = .ok (.bipush (-5), 2) := by decide +kernel
theorem dX7_sit_10 : decode cX7_sit 10 = .ok (.ireturn, 1) := by decide +kernel
theorem dX7_sit_11 : decode cX7_sit 11 = .ok (.iload_n 2, 1) := by decide +kernel
theorem dX7_sit_12 : decode cX7_sit 12 = .ok (.iconst (-1), 1) := by decide +kernel
theorem dX7_sit_13 : decode cX7_sit 13 = .ok (.iconst 2, 1) := by decide +kernel
theorem dX7_sit_14 : decode cX7_sit 14 = .ok (.invokestatic 90, 3) := by decide +kernel
theorem dX7_sit_17 : decode cX7_sit 17 = .ok (.ifCond .ne 6, 3) := by decide +kernel
theorem dX7_sit_20 : decode cX7_sit 20 = .ok (.bipush (-7), 2) := by decide +kernel
theorem dX7_sit_22 : decode cX7_sit 22 = .ok (.ireturn, 1) := by decide +kernel
theorem dX7_sit_23 : decode cX7_sit 23 = .ok (.aload_n 0, 1) := by decide +kernel
theorem dX7_sit_24 : decode cX7_sit 24 = .ok (.getfield 19, 3) := by decide +kernel
theorem dX7_sit_27 : decode cX7_sit 27 = .ok (.iload_n 1, 1) := by decide +kernel
theorem dX7_sit_28 : decode cX7_sit 28 = .ok (.iaload, 1) := by decide +kernel
theorem dX7_sit_29 : decode cX7_sit 29 = .ok (.istore_n 3, 1) := by decide +kernel
theorem dX7_sit_30 : decode cX7_sit 30 = .ok (.aload_n 0, 1) := by decide +kernel
theorem dX7_sit_31 : decode cX7_sit 31 = .ok (.getfield 19, 3) := by decide +kernel
theorem dX7_sit_34 : decode cX7_sit 34 = .ok (.iload_n 1, 1) := by decide +kernel
theorem dX7_sit_35 : decode cX7_sit 35 = .ok (.iload_n 2, 1) := by decide +kernel
theorem dX7_sit_36 : decode cX7_sit 36 = .ok (.iastore, 1) := by decide +kernel
theorem dX7_sit_37 : decode cX7_sit 37 = .ok (.iload_n 3, 1) := by decide +kernel
theorem dX7_sit_38 : decode cX7_sit 38 = .ok (.ireturn, 1) := by decide +kernel
theorem dX7_told_0 : decode cX7_told 0 = .ok (.aload_n 0, 1) := by decide +kernel
theorem dX7_told_1 : decode cX7_told 1 = .ok (.iload_n 1, 1) := by decide +kernel
theorem dX7_told_2 : decode cX7_told 2 = .ok (.invokevirtual 177, 3) := by decide +kernel
theorem dX7_told_5 : decode cX7_told 5 = .ok (.ifCond .ne 6, 3) := by decide +kernel
theorem dX7_told_8 : decode cX7_told 8 = .ok (.bipush (-5), 2) := by decide +kernel
theorem dX7_told_10 : decode cX7_told 10 = .ok (.ireturn, 1) := by decide +kernel
theorem dX7_told_11 : decode cX7_told 11 = .ok (.iload_n 2, 1) := by decide +kernel
theorem dX7_told_12 : decode cX7_told 12 = .ok (.tableswitch 87 0 7 #[48, 48, 48, 48, 59, 66, 73, 80], 48) := by decide +kernel
theorem dX7_told_60 : decode cX7_told 60 = .ok (.aload_n 0, 1) := by decide +kernel
theorem dX7_told_61 : decode cX7_told 61 = .ok (.getfield 22, 3) := by decide +kernel
theorem dX7_told_64 : decode cX7_told 64 = .ok (.iconst 4, 1) := by decide +kernel
theorem dX7_told_65 : decode cX7_told 65 = .ok (.iload_n 1, 1) := by decide +kernel
theorem dX7_told_66 : decode cX7_told 66 = .ok (.imul, 1) := by decide +kernel
theorem dX7_told_67 : decode cX7_told 67 = .ok (.iload_n 2, 1) := by decide +kernel
theorem dX7_told_68 : decode cX7_told 68 = .ok (.iadd, 1) := by decide +kernel
theorem dX7_told_69 : decode cX7_told 69 = .ok (.iaload, 1) := by decide +kernel
theorem dX7_told_70 : decode cX7_told 70 = .ok (.ireturn, 1) := by decide +kernel
theorem dX7_told_71 : decode cX7_told 71 = .ok (.aload_n 0, 1) := by decide +kernel
theorem dX7_told_72 : decode cX7_told 72 = .ok (.getfield 19, 3) := by decide +kernel
theorem dX7_told_75 : decode cX7_told 75 = .ok (.iload_n 1, 1) := by decide +kernel
theorem dX7_told_76 : decode cX7_told 76 = .ok (.iaload, 1) := by decide +kernel
theorem dX7_told_77 : decode cX7_told 77 = .ok (.ireturn, 1) := by decide +kernel
theorem dX7_told_78 : decode cX7_told 78 = .ok (.aload_n 0, 1) := by decide +kernel
theorem dX7_told_79 : decode cX7_told 79 = .ok (.getfield 7, 3) := by decide +kernel
theorem dX7_told_82 : decode cX7_told 82 = .ok (.iload_n 1, 1) := by decide +kernel
theorem dX7_told_83 : decode cX7_told 83 = .ok (.iaload, 1) := by decide +kernel
theorem dX7_told_84 : decode cX7_told 84 = .ok (.ireturn, 1) := by decide +kernel
theorem dX7_told_85 : decode cX7_told 85 = .ok (.aload_n 0, 1) := by decide +kernel
theorem dX7_told_86 : decode cX7_told 86 = .ok (.getfield 13, 3) := by decide +kernel
theorem dX7_told_89 : decode cX7_told 89 = .ok (.iload_n 1, 1) := by decide +kernel
theorem dX7_told_90 : decode cX7_told 90 = .ok (.iaload, 1) := by decide +kernel
theorem dX7_told_91 : decode cX7_told 91 = .ok (.ireturn, 1) := by decide +kernel
theorem dX7_told_92 : decode cX7_told 92 = .ok (.aload_n 0, 1) := by decide +kernel
theorem dX7_told_93 : decode cX7_told 93 = .ok (.getfield 16, 3) := by decide +kernel
theorem dX7_told_96 : decode cX7_told 96 = .ok (.iload_n 1, 1) := by decide +kernel
theorem dX7_told_97 : decode cX7_told 97 = .ok (.iaload, 1) := by decide +kernel
theorem dX7_told_98 : decode cX7_told 98 = .ok (.ireturn, 1) := by decide +kernel
theorem dX7_told_99 : decode cX7_told 99 = .ok (.bipush (-7), 2) := by decide +kernel
theorem dX7_told_101 : decode cX7_told 101 = .ok (.ireturn, 1) := by decide +kernel
theorem dX7_question_0 : decode cX7_question 0 = .ok (.iload_n 1, 1) := by decide +kernel
theorem dX7_question_1 : decode cX7_question 1 = .ok (.iconst 0, 1) := by decide +kernel
theorem dX7_question_2 : decode cX7_question 2 = .ok (.iconst 3, 1) := by decide +kernel
theorem dX7_question_3 : decode cX7_question 3 = .ok (.invokestatic 90, 3) := by decide +kernel
theorem dX7_question_6 : decode cX7_question 6 = .ok (.ifCond .eq 13, 3) := by decide +kernel
theorem dX7_question_9 : decode cX7_question 9 = .ok (.iload_n 2, 1) := by decide +kernel
theorem dX7_question_10 : decode cX7_question 10 = .ok (.iconst 0, 1) := by decide +kernel
theorem dX7_question_11 : decode cX7_question 11 = .ok (.bipush 9, 2) := by decide +kernel
theorem dX7_question_13 : decode cX7_question 13 = .ok (.invokestatic 90, 3) := by decide +kernel
theorem dX7_question_16 : decode cX7_question 16 = .ok (.ifCond .ne 6, 3) := by decide +kernel
theorem dX7_question_19 : decode cX7_question 19 = .ok (.bipush (-2), 2) := by decide +kernel
theorem dX7_question_21 : decode cX7_question 21 = .ok (.ireturn, 1) := by decide +kernel
theorem dX7_question_22 : decode cX7_question 22 = .ok (.aload_n 0, 1) := by decide +kernel
theorem dX7_question_23 : decode cX7_question 23 = .ok (.getfield 94, 3) := by decide +kernel
theorem dX7_question_26 : decode cX7_question 26 = .ok (.bipush 8, 2) := by decide +kernel
theorem dX7_question_28 : decode cX7_question 28 = .ok (.if_icmp .ne 6, 3) := by decide +kernel
theorem dX7_question_31 : decode cX7_question 31 = .ok (.bipush (-4), 2) := by decide +kernel
theorem dX7_question_33 : decode cX7_question 33 = .ok (.ireturn, 1) := by decide +kernel
theorem dX7_question_34 : decode cX7_question 34 = .ok (.aload_n 0, 1) := by decide +kernel
theorem dX7_question_35 : decode cX7_question 35 = .ok (.getfield 25, 3) := by decide +kernel
theorem dX7_question_38 : decode cX7_question 38 = .ok (.aload_n 0, 1) := by decide +kernel
theorem dX7_question_39 : decode cX7_question 39 = .ok (.getfield 94, 3) := by decide +kernel
theorem dX7_question_42 : decode cX7_question 42 = .ok (.iload_n 1, 1) := by decide +kernel
theorem dX7_question_43 : decode cX7_question 43 = .ok (.iastore, 1) := by decide +kernel
theorem dX7_question_44 : decode cX7_question 44 = .ok (.aload_n 0, 1) := by decide +kernel
theorem dX7_question_45 : decode cX7_question 45 = .ok (.getfield 28, 3) := by decide +kernel
theorem dX7_question_48 : decode cX7_question 48 = .ok (.aload_n 0, 1) := by decide +kernel
theorem dX7_question_49 : decode cX7_question 49 = .ok (.getfield 94, 3) := by decide +kernel
theorem dX7_question_52 : decode cX7_question 52 = .ok (.iload_n 2, 1) := by decide +kernel
theorem dX7_question_53 : decode cX7_question 53 = .ok (.iastore, 1) := by decide +kernel
theorem dX7_question_54 : decode cX7_question 54 = .ok (.aload_n 0, 1) := by decide +kernel
theorem dX7_question_55 : decode cX7_question 55 = .ok (.dup, 1) := by decide +kernel
theorem dX7_question_56 : decode cX7_question 56 = .ok (.getfield 94, 3) := by decide +kernel
theorem dX7_question_59 : decode cX7_question 59 = .ok (.iconst 1, 1) := by decide +kernel
theorem dX7_question_60 : decode cX7_question 60 = .ok (.iadd, 1) := by decide +kernel
theorem dX7_question_61 : decode cX7_question 61 = .ok (.putfield 94, 3) := by decide +kernel
theorem dX7_question_64 : decode cX7_question 64 = .ok (.aload_n 0, 1) := by decide +kernel
theorem dX7_question_65 : decode cX7_question 65 = .ok (.getfield 94, 3) := by decide +kernel
theorem dX7_question_68 : decode cX7_question 68 = .ok (.iconst 1, 1) := by decide +kernel
theorem dX7_question_69 : decode cX7_question 69 = .ok (.isub, 1) := by decide +kernel
theorem dX7_question_70 : decode cX7_question 70 = .ok (.ireturn, 1) := by decide +kernel
theorem dX7_askedOf_0 : decode cX7_askedOf 0 = .ok (.aload_n 0, 1) := by decide +kernel
theorem dX7_askedOf_1 : decode cX7_askedOf 1 = .ok (.iload_n 1, 1) := by decide +kernel
theorem dX7_askedOf_2 : decode cX7_askedOf 2 = .ok (.invokevirtual 180, 3) := by decide +kernel
theorem dX7_askedOf_5 : decode cX7_askedOf 5 = .ok (.ifCond .ne 6, 3) := by decide +kernel
theorem dX7_askedOf_8 : decode cX7_askedOf 8 = .ok (.bipush (-5), 2) := by decide +kernel
theorem dX7_askedOf_10 : decode cX7_askedOf 10 = .ok (.ireturn, 1) := by decide +kernel
theorem dX7_askedOf_11 : decode cX7_askedOf 11 = .ok (.iload_n 2, 1) := by decide +kernel
theorem dX7_askedOf_12 : decode cX7_askedOf 12 = .ok (.ifCond .ne 12, 3) := by decide +kernel
theorem dX7_askedOf_15 : decode cX7_askedOf 15 = .ok (.aload_n 0, 1) := by decide +kernel
theorem dX7_askedOf_16 : decode cX7_askedOf 16 = .ok (.getfield 25, 3) := by decide +kernel
theorem dX7_askedOf_19 : decode cX7_askedOf 19 = .ok (.iload_n 1, 1) := by decide +kernel
theorem dX7_askedOf_20 : decode cX7_askedOf 20 = .ok (.iaload, 1) := by decide +kernel
theorem dX7_askedOf_21 : decode cX7_askedOf 21 = .ok (.goto 19, 3) := by decide +kernel
theorem dX7_askedOf_24 : decode cX7_askedOf 24 = .ok (.iload_n 2, 1) := by decide +kernel
theorem dX7_askedOf_25 : decode cX7_askedOf 25 = .ok (.iconst 1, 1) := by decide +kernel
theorem dX7_askedOf_26 : decode cX7_askedOf 26 = .ok (.if_icmp .ne 12, 3) := by decide +kernel
theorem dX7_askedOf_29 : decode cX7_askedOf 29 = .ok (.aload_n 0, 1) := by decide +kernel
theorem dX7_askedOf_30 : decode cX7_askedOf 30 = .ok (.getfield 28, 3) := by decide +kernel
theorem dX7_askedOf_33 : decode cX7_askedOf 33 = .ok (.iload_n 1, 1) := by decide +kernel
theorem dX7_askedOf_34 : decode cX7_askedOf 34 = .ok (.iaload, 1) := by decide +kernel
theorem dX7_askedOf_35 : decode cX7_askedOf 35 = .ok (.goto 5, 3) := by decide +kernel
theorem dX7_askedOf_38 : decode cX7_askedOf 38 = .ok (.bipush (-7), 2) := by decide +kernel
theorem dX7_askedOf_40 : decode cX7_askedOf 40 = .ok (.ireturn, 1) := by decide +kernel
theorem dX7_lay_0 : decode cX7_lay 0 = .ok (.iload_n 1, 1) := by decide +kernel
theorem dX7_lay_1 : decode cX7_lay 1 = .ok (.invokestatic 183, 3) := by decide +kernel
theorem dX7_lay_4 : decode cX7_lay 4 = .ok (.ifCond .ne 6, 3) := by decide +kernel
theorem dX7_lay_7 : decode cX7_lay 7 = .ok (.bipush (-5), 2) := by decide +kernel
theorem dX7_lay_9 : decode cX7_lay 9 = .ok (.ireturn, 1) := by decide +kernel
theorem dX7_lay_10 : decode cX7_lay 10 = .ok (.iload_n 2, 1) := by decide +kernel
theorem dX7_lay_11 : decode cX7_lay 11 = .ok (.iconst (-1), 1) := by decide +kernel
theorem dX7_lay_12 : decode cX7_lay 12 = .ok (.if_icmp .eq 14, 3) := by decide +kernel
theorem dX7_lay_15 : decode cX7_lay 15 = .ok (.aload_n 0, 1) := by decide +kernel
theorem dX7_lay_16 : decode cX7_lay 16 = .ok (.iload_n 2, 1) := by decide +kernel
theorem dX7_lay_17 : decode cX7_lay 17 = .ok (.invokevirtual 180, 3) := by decide +kernel
theorem dX7_lay_20 : decode cX7_lay 20 = .ok (.ifCond .ne 6, 3) := by decide +kernel
theorem dX7_lay_23 : decode cX7_lay 23 = .ok (.bipush (-7), 2) := by decide +kernel
theorem dX7_lay_25 : decode cX7_lay 25 = .ok (.ireturn, 1) := by decide +kernel
theorem dX7_lay_26 : decode cX7_lay 26 = .ok (.aload_n 0, 1) := by decide +kernel
theorem dX7_lay_27 : decode cX7_lay 27 = .ok (.getfield 31, 3) := by decide +kernel
theorem dX7_lay_30 : decode cX7_lay 30 = .ok (.iload_n 1, 1) := by decide +kernel
theorem dX7_lay_31 : decode cX7_lay 31 = .ok (.iaload, 1) := by decide +kernel
theorem dX7_lay_32 : decode cX7_lay 32 = .ok (.istore_n 3, 1) := by decide +kernel
theorem dX7_lay_33 : decode cX7_lay 33 = .ok (.aload_n 0, 1) := by decide +kernel
theorem dX7_lay_34 : decode cX7_lay 34 = .ok (.getfield 31, 3) := by decide +kernel
theorem dX7_lay_37 : decode cX7_lay 37 = .ok (.iload_n 1, 1) := by decide +kernel
theorem dX7_lay_38 : decode cX7_lay 38 = .ok (.iload_n 2, 1) := by decide +kernel
theorem dX7_lay_39 : decode cX7_lay 39 = .ok (.iastore, 1) := by decide +kernel
theorem dX7_lay_40 : decode cX7_lay 40 = .ok (.iload_n 3, 1) := by decide +kernel
theorem dX7_lay_41 : decode cX7_lay 41 = .ok (.ireturn, 1) := by decide +kernel
theorem dX7_laid_0 : decode cX7_laid 0 = .ok (.iload_n 1, 1) := by decide +kernel
theorem dX7_laid_1 : decode cX7_laid 1 = .ok (.invokestatic 183, 3) := by decide +kernel
theorem dX7_laid_4 : decode cX7_laid 4 = .ok (.ifCond .eq 12, 3) := by decide +kernel
theorem dX7_laid_7 : decode cX7_laid 7 = .ok (.aload_n 0, 1) := by decide +kernel
theorem dX7_laid_8 : decode cX7_laid 8 = .ok (.getfield 31, 3) := by decide +kernel
theorem dX7_laid_11 : decode cX7_laid 11 = .ok (.iload_n 1, 1) := by decide +kernel
theorem dX7_laid_12 : decode cX7_laid 12 = .ok (.iaload, 1) := by decide +kernel
theorem dX7_laid_13 : decode cX7_laid 13 = .ok (.goto 5, 3) := by decide +kernel
theorem dX7_laid_16 : decode cX7_laid 16 = .ok (.bipush (-5), 2) := by decide +kernel
theorem dX7_laid_18 : decode cX7_laid 18 = .ok (.ireturn, 1) := by decide +kernel
theorem dX7_knows_0 : decode cX7_knows 0 = .ok (.aload_n 0, 1) := by decide +kernel
theorem dX7_knows_1 : decode cX7_knows 1 = .ok (.getfield 7, 3) := by decide +kernel
theorem dX7_knows_4 : decode cX7_knows 4 = .ok (.iload_n 1, 1) := by decide +kernel
theorem dX7_knows_5 : decode cX7_knows 5 = .ok (.iaload, 1) := by decide +kernel
theorem dX7_knows_6 : decode cX7_knows 6 = .ok (.istore_n 3, 1) := by decide +kernel
theorem dX7_knows_7 : decode cX7_knows 7 = .ok (.aload_n 0, 1) := by decide +kernel
theorem dX7_knows_8 : decode cX7_knows 8 = .ok (.getfield 25, 3) := by decide +kernel
theorem dX7_knows_11 : decode cX7_knows 11 = .ok (.iload_n 2, 1) := by decide +kernel
theorem dX7_knows_12 : decode cX7_knows 12 = .ok (.iaload, 1) := by decide +kernel
theorem dX7_knows_13 : decode cX7_knows 13 = .ok (.istore 4, 2) := by decide +kernel
theorem dX7_knows_15 : decode cX7_knows 15 = .ok (.aload_n 0, 1) := by decide +kernel
theorem dX7_knows_16 : decode cX7_knows 16 = .ok (.getfield 22, 3) := by decide +kernel
theorem dX7_knows_19 : decode cX7_knows 19 = .ok (.iconst 4, 1) := by decide +kernel
theorem dX7_knows_20 : decode cX7_knows 20 = .ok (.iload_n 1, 1) := by decide +kernel
theorem dX7_knows_21 : decode cX7_knows 21 = .ok (.imul, 1) := by decide +kernel
theorem dX7_knows_22 : decode cX7_knows 22 = .ok (.iload 4, 2) := by decide +kernel
theorem dX7_knows_24 : decode cX7_knows 24 = .ok (.iadd, 1) := by decide +kernel
theorem dX7_knows_25 : decode cX7_knows 25 = .ok (.iaload, 1) := by decide +kernel
theorem dX7_knows_26 : decode cX7_knows 26 = .ok (.istore 5, 2) := by decide +kernel
theorem dX7_knows_28 : decode cX7_knows 28 = .ok (.iload 4, 2) := by decide +kernel
theorem dX7_knows_30 : decode cX7_knows 30 = .ok (.aload_n 0, 1) := by decide +kernel
theorem dX7_knows_31 : decode cX7_knows 31 = .ok (.getfield 16, 3) := by decide +kernel
theorem dX7_knows_34 : decode cX7_knows 34 = .ok (.iload_n 1, 1) := by decide +kernel
theorem dX7_knows_35 : decode cX7_knows 35 = .ok (.iaload, 1) := by decide +kernel
theorem dX7_knows_36 : decode cX7_knows 36 = .ok (.iconst 4, 1) := by decide +kernel
theorem dX7_knows_37 : decode cX7_knows 37 = .ok (.irem, 1) := by decide +kernel
theorem dX7_knows_38 : decode cX7_knows 38 = .ok (.if_icmp .ne 10, 3) := by decide +kernel
theorem dX7_knows_41 : decode cX7_knows 41 = .ok (.iload 5, 2) := by decide +kernel
theorem dX7_knows_43 : decode cX7_knows 43 = .ok (.iconst 3, 1) := by decide +kernel
theorem dX7_knows_44 : decode cX7_knows 44 = .ok (.iadd, 1) := by decide +kernel
theorem dX7_knows_45 : decode cX7_knows 45 = .ok (.goto 5, 3) := by decide +kernel
theorem dX7_knows_48 : decode cX7_knows 48 = .ok (.iload 5, 2) := by decide +kernel
theorem dX7_knows_50 : decode cX7_knows 50 = .ok (.istore 6, 2) := by decide +kernel
theorem dX7_knows_52 : decode cX7_knows 52 = .ok (.iload_n 3, 1) := by decide +kernel
theorem dX7_knows_53 : decode cX7_knows 53 = .ok (.iconst 1, 1) := by decide +kernel
theorem dX7_knows_54 : decode cX7_knows 54 = .ok (.if_icmp .ne 8, 3) := by decide +kernel
theorem dX7_knows_57 : decode cX7_knows 57 = .ok (.iload 6, 2) := by decide +kernel
theorem dX7_knows_59 : decode cX7_knows 59 = .ok (.goto 51, 3) := by decide +kernel
theorem dX7_knows_62 : decode cX7_knows 62 = .ok (.iload_n 3, 1) := by decide +kernel
theorem dX7_knows_63 : decode cX7_knows 63 = .ok (.iconst 3, 1) := by decide +kernel
theorem dX7_knows_64 : decode cX7_knows 64 = .ok (.if_icmp .ne 12, 3) := by decide +kernel
theorem dX7_knows_67 : decode cX7_knows 67 = .ok (.iload 6, 2) := by decide +kernel
theorem dX7_knows_69 : decode cX7_knows 69 = .ok (.iload_n 2, 1) := by decide +kernel
theorem dX7_knows_70 : decode cX7_knows 70 = .ok (.iconst 3, 1) := by decide +kernel
theorem dX7_knows_71 : decode cX7_knows 71 = .ok (.idiv, 1) := by decide +kernel
theorem dX7_knows_72 : decode cX7_knows 72 = .ok (.isub, 1) := by decide +kernel
theorem dX7_knows_73 : decode cX7_knows 73 = .ok (.goto 37, 3) := by decide +kernel
theorem dX7_knows_76 : decode cX7_knows 76 = .ok (.iload_n 3, 1) := by decide +kernel
theorem dX7_knows_77 : decode cX7_knows 77 = .ok (.iconst 4, 1) := by decide +kernel
theorem dX7_knows_78 : decode cX7_knows 78 = .ok (.if_icmp .ne 10, 3) := by decide +kernel
theorem dX7_knows_81 : decode cX7_knows 81 = .ok (.iload 5, 2) := by decide +kernel
theorem dX7_knows_83 : decode cX7_knows 83 = .ok (.iconst 2, 1) := by decide +kernel
theorem dX7_knows_84 : decode cX7_knows 84 = .ok (.iadd, 1) := by decide +kernel
theorem dX7_knows_85 : decode cX7_knows 85 = .ok (.goto 25, 3) := by decide +kernel
