theorem dX10_init_0 : decode cX10_init 0 = .ok (.aload_n 0, 1) := by decide +kernel
theorem dX10_init_1 : decode cX10_init 1 = .ok (.invokespecial 1, 3) := by decide +kernel
theorem dX10_init_4 : decode cX10_init 4 = .ok (.aload_n 0, 1) := by decide +kernel
theorem dX10_init_5 : decode cX10_init 5 = .ok (.bipush 8, 2) := by decide +kernel
theorem dX10_init_7 : decode cX10_init 7 = .ok (.newarray .int, 2) := by decide +kernel
theorem dX10_init_9 : decode cX10_init 9 = .ok (.putfield 7, 3) := by decide +kernel
theorem dX10_init_12 : decode cX10_init 12 = .ok (.aload_n 0, 1) := by decide +kernel
theorem dX10_init_13 : decode cX10_init 13 = .ok (.iconst 5, 1) := by decide +kernel
theorem dX10_init_14 : decode cX10_init 14 = .ok (.newarray .int, 2) := by decide +kernel
theorem dX10_init_16 : decode cX10_init 16 = .ok (.putfield 13, 3) := by decide +kernel
theorem dX10_init_19 : decode cX10_init 19 = .ok (.aload_n 0, 1) := by decide +kernel
theorem dX10_init_20 : decode cX10_init 20 = .ok (.iconst 5, 1) := by decide +kernel
theorem dX10_init_21 : decode cX10_init 21 = .ok (.newarray .int, 2) := by decide +kernel
theorem dX10_init_23 : decode cX10_init 23 = .ok (.putfield 16, 3) := by decide +kernel
theorem dX10_init_26 : decode cX10_init 26 = .ok (.aload_n 0, 1) := by decide +kernel
theorem dX10_init_27 : decode cX10_init 27 = .ok (.iconst 5, 1) := by decide +kernel
theorem dX10_init_28 : decode cX10_init 28 = .ok (.newarray .int, 2) := by decide +kernel
theorem dX10_init_30 : decode cX10_init 30 = .ok (.putfield 19, 3) := by decide +kernel
theorem dX10_init_33 : decode cX10_init 33 = .ok (.aload_n 0, 1) := by decide +kernel
theorem dX10_init_34 : decode cX10_init 34 = .ok (.iconst 5, 1) := by decide +kernel
theorem dX10_init_35 : decode cX10_init 35 = .ok (.newarray .int, 2) := by decide +kernel
theorem dX10_init_37 : decode cX10_init 37 = .ok (.putfield 22, 3) := by decide +kernel
theorem dX10_init_40 : decode cX10_init 40 = .ok (.aload_n 0, 1) := by decide +kernel
theorem dX10_init_41 : decode cX10_init 41 = .ok (.bipush 24, 2) := by decide +kernel
theorem dX10_init_43 : decode cX10_init 43 = .ok (.newarray .int, 2) := by decide +kernel
theorem dX10_init_45 : decode cX10_init 45 = .ok (.putfield 25, 3) := by decide +kernel
theorem dX10_init_48 : decode cX10_init 48 = .ok (.aload_n 0, 1) := by decide +kernel
theorem dX10_init_49 : decode cX10_init 49 = .ok (.sipush 160, 3) := by decide +kernel
theorem dX10_init_52 : decode cX10_init 52 = .ok (.newarray .int, 2) := by decide +kernel
theorem dX10_init_54 : decode cX10_init 54 = .ok (.putfield 28, 3) := by decide +kernel
theorem dX10_init_57 : decode cX10_init 57 = .ok (.aload_n 0, 1) := by decide +kernel
theorem dX10_init_58 : decode cX10_init 58 = .ok (.sipush 1200, 3) := by decide +kernel
theorem dX10_init_61 : decode cX10_init 61 = .ok (.newarray .int, 2) := by decide +kernel
theorem dX10_init_63 : decode cX10_init 63 = .ok (.putfield 31, 3) := by decide +kernel
theorem dX10_init_66 : decode cX10_init 66 = .ok (.aload_n 0, 1) := by decide +kernel
theorem dX10_init_67 : decode cX10_init 67 = .ok (.bipush 24, 2) := by decide +kernel
theorem dX10_init_69 : decode cX10_init 69 = .ok (.newarray .int, 2) := by decide +kernel
theorem dX10_init_71 : decode cX10_init 71 = .ok (.putfield 34, 3) := by decide +kernel
theorem dX10_init_74 : decode cX10_init 74 = .ok (.aload_n 0, 1) := by decide +kernel
theorem dX10_init_75 : decode cX10_init 75 = .ok (.bipush 42, 2) := by decide +kernel
theorem dX10_init_77 : decode cX10_init 77 = .ok (.newarray .int, 2) := by decide +kernel
theorem dX10_init_79 : decode cX10_init 79 = .ok (.putfield 37, 3) := by decide +kernel
theorem dX10_init_82 : decode cX10_init 82 = .ok (.aload_n 0, 1) := by decide +kernel
theorem dX10_init_83 : decode cX10_init 83 = .ok (.iconst 4, 1) := by decide +kernel
theorem dX10_init_84 : decode cX10_init 84 = .ok (.newarray .int, 2) := by decide +kernel
theorem dX10_init_86 : decode cX10_init 86 = .ok (.dup, 1) := by decide +kernel
theorem dX10_init_87 : decode cX10_init 87 = .ok (.iconst 0, 1) := by decide +kernel
theorem dX10_init_88 : decode cX10_init 88 = .ok (.iconst (-1), 1) := by decide +kernel
theorem dX10_init_89 : decode cX10_init 89 = .ok (.iastore, 1) := by decide +kernel
theorem dX10_init_90 : decode cX10_init 90 = .ok (.dup, 1) := by decide +kernel
theorem dX10_init_91 : decode cX10_init 91 = .ok (.iconst 1, 1) := by decide +kernel
theorem dX10_init_92 : decode cX10_init 92 = .ok (.iconst (-1), 1) := by decide +kernel
theorem dX10_init_93 : decode cX10_init 93 = .ok (.iastore, 1) := by decide +kernel
theorem dX10_init_94 : decode cX10_init 94 = .ok (.dup, 1) := by decide +kernel
theorem dX10_init_95 : decode cX10_init 95 = .ok (.iconst 2, 1) := by decide +kernel
theorem dX10_init_96 : decode cX10_init 96 = .ok (.iconst (-1), 1) := by decide +kernel
theorem dX10_init_97 : decode cX10_init 97 = .ok (.iastore, 1) := by decide +kernel
theorem dX10_init_98 : decode cX10_init 98 = .ok (.dup, 1) := by decide +kernel
theorem dX10_init_99 : decode cX10_init 99 = .ok (.iconst 3, 1) := by decide +kernel
theorem dX10_init_100 : decode cX10_init 100 = .ok (.iconst (-1), 1) := by decide +kernel
theorem dX10_init_101 : decode cX10_init 101 = .ok (.iastore, 1) := by decide +kernel
theorem dX10_init_102 : decode cX10_init 102 = .ok (.putfield 40, 3) := by decide +kernel
theorem dX10_init_105 : decode cX10_init 105 = .ok (.aload_n 0, 1) := by decide +kernel
theorem dX10_init_106 : decode cX10_init 106 = .ok (.iconst 4, 1) := by decide +kernel
theorem dX10_init_107 : decode cX10_init 107 = .ok (.newarray .int, 2) := by decide +kernel
theorem dX10_init_109 : decode cX10_init 109 = .ok (.putfield 43, 3) := by decide +kernel
theorem dX10_init_112 : decode cX10_init 112 = .ok (.aload_n 0, 1) := by decide +kernel
theorem dX10_init_113 : decode cX10_init 113 = .ok (.sipush 160, 3) := by decide +kernel
theorem dX10_init_116 : decode cX10_init 116 = .ok (.newarray .int, 2) := by decide +kernel
theorem dX10_init_118 : decode cX10_init 118 = .ok (.putfield 46, 3) := by decide +kernel
theorem dX10_init_121 : decode cX10_init 121 = .ok (.aload_n 0, 1) := by decide +kernel
theorem dX10_init_122 : decode cX10_init 122 = .ok (.bipush 70, 2) := by decide +kernel
theorem dX10_init_124 : decode cX10_init 124 = .ok (.newarray .int, 2) := by decide +kernel
theorem dX10_init_126 : decode cX10_init 126 = .ok (.dup, 1) := by decide +kernel
theorem dX10_init_127 : decode cX10_init 127 = .ok (.iconst 0, 1) := by decide +kernel
theorem dX10_init_128 : decode cX10_init 128 = .ok (.bipush 119, 2) := by decide +kernel
theorem dX10_init_130 : decode cX10_init 130 = .ok (.iastore, 1) := by decide +kernel
theorem dX10_init_131 : decode cX10_init 131 = .ok (.dup, 1) := by decide +kernel
theorem dX10_init_132 : decode cX10_init 132 = .ok (.iconst 1, 1) := by decide +kernel
theorem dX10_init_133 : decode cX10_init 133 = .ok (.bipush 97, 2) := by decide +kernel
theorem dX10_init_135 : decode cX10_init 135 = .ok (.iastore, 1) := by decide +kernel
theorem dX10_init_136 : decode cX10_init 136 = .ok (.dup, 1) := by decide +kernel
theorem dX10_init_137 : decode cX10_init 137 = .ok (.iconst 2, 1) := by decide +kernel
theorem dX10_init_138 : decode cX10_init 138 = .ok (.bipush 114, 2) := by decide +kernel
theorem dX10_init_140 : decode cX10_init 140 = .ok (.iastore, 1) := by decide +kernel
theorem dX10_init_141 : decode cX10_init 141 = .ok (.dup, 1) := by decide +kernel
theorem dX10_init_142 : decode cX10_init 142 = .ok (.iconst 3, 1) := by decide +kernel
theorem dX10_init_143 : decode cX10_init 143 = .ok (.bipush 109, 2) := by decide +kernel
theorem dX10_init_145 : decode cX10_init 145 = .ok (.iastore, 1) := by decide +kernel
theorem dX10_init_146 : decode cX10_init 146 = .ok (.dup, 1) := by decide +kernel
theorem dX10_init_147 : decode cX10_init 147 = .ok (.iconst 4, 1) := by decide +kernel
theorem dX10_init_148 : decode cX10_init 148 = .ok (.bipush 115, 2) := by decide +kernel
theorem dX10_init_150 : decode cX10_init 150 = .ok (.iastore, 1) := by decide +kernel
theorem dX10_init_151 : decode cX10_init 151 = .ok (.dup, 1) := by decide +kernel
theorem dX10_init_152 : decode cX10_init 152 = .ok (.iconst 5, 1) := by decide +kernel
theorem dX10_init_153 : decode cX10_init 153 = .ok (.bipush 32, 2) := by decide +kernel
theorem dX10_init_155 : decode cX10_init 155 = .ok (.iastore, 1) := by decide +kernel
theorem dX10_init_156 : decode cX10_init 156 = .ok (.dup, 1) := by decide +kernel
theorem dX10_init_157 : decode cX10_init 157 = .ok (.bipush 6, 2) := by decide +kernel
theorem dX10_init_159 : decode cX10_init 159 = .ok (.bipush 103, 2) := by decide +kernel
theorem dX10_init_161 : decode cX10_init 161 = .ok (.iastore, 1) := by decide +kernel
theorem dX10_init_162 : decode cX10_init 162 = .ok (.dup, 1) := by decide +kernel
theorem dX10_init_163 : decode cX10_init 163 = .ok (.bipush 7, 2) := by decide +kernel
theorem dX10_init_165 : decode cX10_init 165 = .ok (.bipush 108, 2) := by decide +kernel
theorem dX10_init_167 : decode cX10_init 167 = .ok (.iastore, 1) := by decide +kernel
theorem dX10_init_168 : decode cX10_init 168 = .ok (.dup, 1) := by decide +kernel
theorem dX10_init_169 : decode cX10_init 169 = .ok (.bipush 8, 2) := by decide +kernel
theorem dX10_init_171 : decode cX10_init 171 = .ok (.bipush 97, 2) := by decide +kernel
theorem dX10_init_173 : decode cX10_init 173 = .ok (.iastore, 1) := by decide +kernel
theorem dX10_init_174 : decode cX10_init 174 = .ok (.dup, 1) := by decide +kernel
theorem dX10_init_175 : decode cX10_init 175 = .ok (.bipush 9, 2) := by decide +kernel
theorem dX10_init_177 : decode cX10_init 177 = .ok (.bipush 110, 2) := by decide +kernel
theorem dX10_init_179 : decode cX10_init 179 = .ok (.iastore, 1) := by decide +kernel
theorem dX10_init_180 : decode cX10_init 180 = .ok (.dup, 1) := by decide +kernel
theorem dX10_init_181 : decode cX10_init 181 = .ok (.bipush 10, 2) := by decide +kernel
theorem dX10_init_183 : decode cX10_init 183 = .ok (.bipush 99, 2) := by decide +kernel
theorem dX10_init_185 : decode cX10_init 185 = .ok (.iastore, 1) := by decide +kernel
theorem dX10_init_186 : decode cX10_init 186 = .ok (.dup, 1) := by decide +kernel
theorem dX10_init_187 : decode cX10_init 187 = .ok (.bipush 11, 2) := by decide +kernel
theorem dX10_init_189 : decode cX10_init 189 = .ok (.bipush 101, 2) := by decide +kernel
theorem dX10_init_191 : decode cX10_init 191 = .ok (.iastore, 1) := by decide +kernel
theorem dX10_init_192 : decode cX10_init 192 = .ok (.dup, 1) := by decide +kernel
theorem dX10_init_193 : decode cX10_init 193 = .ok (.bipush 12, 2) := by decide +kernel
theorem dX10_init_195 : decode cX10_init 195 = .ok (.bipush 115, 2) := by decide +kernel
theorem dX10_init_197 : decode cX10_init 197 = .ok (.iastore, 1) := by decide +kernel
theorem dX10_init_198 : decode cX10_init 198 = .ok (.dup, 1) := by decide +kernel
theorem dX10_init_199 : decode cX10_init 199 = .ok (.bipush 13, 2) := by decide +kernel
theorem dX10_init_201 : decode cX10_init 201 = .ok (.bipush 32, 2) := by decide +kernel
theorem dX10_init_203 : decode cX10_init 203 = .ok (.iastore, 1) := by decide +kernel
theorem dX10_init_204 : decode cX10_init 204 = .ok (.dup, 1) := by decide +kernel
theorem dX10_init_205 : decode cX10_init 205 = .ok (.bipush 14, 2) := by decide +kernel
theorem dX10_init_207 : decode cX10_init 207 = .ok (.bipush 42, 2) := by decide +kernel
theorem dX10_init_209 : decode cX10_init 209 = .ok (.iastore, 1) := by decide +kernel
theorem dX10_init_210 : decode cX10_init 210 = .ok (.dup, 1) := by decide +kernel
theorem dX10_init_211 : decode cX10_init 211 = .ok (.bipush 15, 2) := by decide +kernel
theorem dX10_init_213 : decode cX10_init 213 = .ok (.bipush 32, 2) := by decide +kernel
theorem dX10_init_215 : decode cX10_init 215 = .ok (.iastore, 1) := by decide +kernel
theorem dX10_init_216 : decode cX10_init 216 = .ok (.dup, 1) := by decide +kernel
theorem dX10_init_217 : decode cX10_init 217 = .ok (.bipush 16, 2) := by decide +kernel
theorem dX10_init_219 : decode cX10_init 219 = .ok (.bipush 52, 2) := by decide +kernel
theorem dX10_init_221 : decode cX10_init 221 = .ok (.iastore, 1) := by decide +kernel
theorem dX10_init_222 : decode cX10_init 222 = .ok (.dup, 1) := by decide +kernel
theorem dX10_init_223 : decode cX10_init 223 = .ok (.bipush 17, 2) := by decide +kernel
theorem dX10_init_225 : decode cX10_init 225 = .ok (.bipush 32, 2) := by decide +kernel
theorem dX10_init_227 : decode cX10_init 227 = .ok (.iastore, 1) := by decide +kernel
theorem dX10_init_228 : decode cX10_init 228 = .ok (.dup, 1) := by decide +kernel
theorem dX10_init_229 : decode cX10_init 229 = .ok (.bipush 18, 2) := by decide +kernel
theorem dX10_init_231 : decode cX10_init 231 = .ok (.bipush 43, 2) := by decide +kernel
theorem dX10_init_233 : decode cX10_init 233 = .ok (.iastore, 1) := by decide +kernel
theorem dX10_init_234 : decode cX10_init 234 = .ok (.dup, 1) := by decide +kernel
theorem dX10_init_235 : decode cX10_init 235 = .ok (.bipush 19, 2) := by decide +kernel
theorem dX10_init_237 : decode cX10_init 237 = .ok (.bipush 32, 2) := by decide +kernel
theorem dX10_init_239 : decode cX10_init 239 = .ok (.iastore, 1) := by decide +kernel
theorem dX10_init_240 : decode cX10_init 240 = .ok (.dup, 1) := by decide +kernel
theorem dX10_init_241 : decode cX10_init 241 = .ok (.bipush 20, 2) := by decide +kernel
theorem dX10_init_243 : decode cX10_init 243 = .ok (.bipush 115, 2) := by decide +kernel
theorem dX10_init_245 : decode cX10_init 245 = .ok (.iastore, 1) := by decide +kernel
theorem dX10_init_246 : decode cX10_init 246 = .ok (.dup, 1) := by decide +kernel
theorem dX10_init_247 : decode cX10_init 247 = .ok (.bipush 21, 2) := by decide +kernel
theorem dX10_init_249 : decode cX10_init 249 = .ok (.bipush 101, 2) := by decide +kernel
theorem dX10_init_251 : decode cX10_init 251 = .ok (.iastore, 1) := by decide +kernel
theorem dX10_init_252 : decode cX10_init 252 = .ok (.dup, 1) := by decide +kernel
theorem dX10_init_253 : decode cX10_init 253 = .ok (.bipush 22, 2) := by decide +kernel
theorem dX10_init_255 : decode cX10_init 255 = .ok (.bipush 101, 2) := by decide +kernel
theorem dX10_init_257 : decode cX10_init 257 = .ok (.iastore, 1) := by decide +kernel
theorem dX10_init_258 : decode cX10_init 258 = .ok (.dup, 1) := by decide +kernel
theorem dX10_init_259 : decode cX10_init 259 = .ok (.bipush 23, 2) := by decide +kernel
theorem dX10_init_261 : decode cX10_init 261 = .ok (.bipush 110, 2) := by decide +kernel
theorem dX10_init_263 : decode cX10_init 263 = .ok (.iastore, 1) := by decide +kernel
theorem dX10_init_264 : decode cX10_init 264 = .ok (.dup, 1) := by decide +kernel
theorem dX10_init_265 : decode cX10_init 265 = .ok (.bipush 24, 2) := by decide +kernel
theorem dX10_init_267 : decode cX10_init 267 = .ok (.bipush 32, 2) := by decide +kernel
theorem dX10_init_269 : decode cX10_init 269 = .ok (.iastore, 1) := by decide +kernel
theorem dX10_init_270 : decode cX10_init 270 = .ok (.dup, 1) := by decide +kernel
theorem dX10_init_271 : decode cX10_init 271 = .ok (.bipush 25, 2) := by decide +kernel
theorem dX10_init_273 : decode cX10_init 273 = .ok (.bipush 42, 2) := by decide +kernel
theorem dX10_init_275 : decode cX10_init 275 = .ok (.iastore, 1) := by decide +kernel
theorem dX10_init_276 : decode cX10_init 276 = .ok (.dup, 1) := by decide +kernel
theorem dX10_init_277 : decode cX10_init 277 = .ok (.bipush 26, 2) := by decide +kernel
theorem dX10_init_279 : decode cX10_init 279 = .ok (.bipush 32, 2) := by decide +kernel
theorem dX10_init_281 : decode cX10_init 281 = .ok (.iastore, 1) := by decide +kernel
theorem dX10_init_282 : decode cX10_init 282 = .ok (.dup, 1) := by decide +kernel
theorem dX10_init_283 : decode cX10_init 283 = .ok (.bipush 27, 2) := by decide +kernel
theorem dX10_init_285 : decode cX10_init 285 = .ok (.bipush 51, 2) := by decide +kernel
theorem dX10_init_287 : decode cX10_init 287 = .ok (.iastore, 1) := by decide +kernel
theorem dX10_init_288 : decode cX10_init 288 = .ok (.dup, 1) := by decide +kernel
theorem dX10_init_289 : decode cX10_init 289 = .ok (.bipush 28, 2) := by decide +kernel
theorem dX10_init_291 : decode cX10_init 291 = .ok (.bipush 32, 2) := by decide +kernel
theorem dX10_init_293 : decode cX10_init 293 = .ok (.iastore, 1) := by decide +kernel
theorem dX10_init_294 : decode cX10_init 294 = .ok (.dup, 1) := by decide +kernel
theorem dX10_init_295 : decode cX10_init 295 = .ok (.bipush 29, 2) := by decide +kernel
theorem dX10_init_297 : decode cX10_init 297 = .ok (.bipush 59, 2) := by decide +kernel
theorem dX10_init_299 : decode cX10_init 299 = .ok (.iastore, 1) := by decide +kernel
theorem dX10_init_300 : decode cX10_init 300 = .ok (.dup, 1) := by decide +kernel
theorem dX10_init_301 : decode cX10_init 301 = .ok (.bipush 30, 2) := by decide +kernel
theorem dX10_init_303 : decode cX10_init 303 = .ok (.bipush 32, 2) := by decide +kernel
theorem dX10_init_305 : decode cX10_init 305 = .ok (.iastore, 1) := by decide +kernel
theorem dX10_init_306 : decode cX10_init 306 = .ok (.dup, 1) := by decide +kernel
theorem dX10_init_307 : decode cX10_init 307 = .ok (.bipush 31, 2) := by decide +kernel
theorem dX10_init_309 : decode cX10_init 309 = .ok (.bipush 99, 2) := by decide +kernel
theorem dX10_init_311 : decode cX10_init 311 = .ok (.iastore, 1) := by decide +kernel
theorem dX10_init_312 : decode cX10_init 312 = .ok (.dup, 1) := by decide +kernel
theorem dX10_init_313 : decode cX10_init 313 = .ok (.bipush 32, 2) := by decide +kernel
theorem dX10_init_315 : decode cX10_init 315 = .ok (.bipush 111, 2) := by decide +kernel
theorem dX10_init_317 : decode cX10_init 317 = .ok (.iastore, 1) := by decide +kernel
theorem dX10_init_318 : decode cX10_init 318 = .ok (.dup, 1) := by decide +kernel
theorem dX10_init_319 : decode cX10_init 319 = .ok (.bipush 33, 2) := by decide +kernel
theorem dX10_init_321 : decode cX10_init 321 = .ok (.bipush 111, 2) := by decide +kernel
theorem dX10_init_323 : decode cX10_init 323 = .ok (.iastore, 1) := by decide +kernel
theorem dX10_init_324 : decode cX10_init 324 = .ok (.dup, 1) := by decide +kernel
theorem dX10_init_325 : decode cX10_init 325 = .ok (.bipush 34, 2) := by decide +kernel
theorem dX10_init_327 : decode cX10_init 327 = .ok (.bipush 108, 2) := by decide +kernel
theorem dX10_init_329 : decode cX10_init 329 = .ok (.iastore, 1) := by decide +kernel
theorem dX10_init_330 : decode cX10_init 330 = .ok (.dup, 1) := by decide +kernel
theorem dX10_init_331 : decode cX10_init 331 = .ok (.bipush 35, 2) := by decide +kernel
theorem dX10_init_333 : decode cX10_init 333 = .ok (.bipush 115, 2) := by decide +kernel
theorem dX10_init_335 : decode cX10_init 335 = .ok (.iastore, 1) := by decide +kernel
theorem dX10_init_336 : decode cX10_init 336 = .ok (.dup, 1) := by decide +kernel
theorem dX10_init_337 : decode cX10_init 337 = .ok (.bipush 36, 2) := by decide +kernel
theorem dX10_init_339 : decode cX10_init 339 = .ok (.bipush 32, 2) := by decide +kernel
theorem dX10_init_341 : decode cX10_init 341 = .ok (.iastore, 1) := by decide +kernel
theorem dX10_init_342 : decode cX10_init 342 = .ok (.dup, 1) := by decide +kernel
theorem dX10_init_343 : decode cX10_init 343 = .ok (.bipush 37, 2) := by decide +kernel
theorem dX10_init_345 : decode cX10_init 345 = .ok (.bipush 51, 2) := by decide +kernel
theorem dX10_init_347 : decode cX10_init 347 = .ok (.iastore, 1) := by decide +kernel
theorem dX10_init_348 : decode cX10_init 348 = .ok (.dup, 1) := by decide +kernel
theorem dX10_init_349 : decode cX10_init 349 = .ok (.bipush 38, 2) := by decide +kernel
theorem dX10_init_351 : decode cX10_init 351 = .ok (.bipush 32, 2) := by decide +kernel
theorem dX10_init_353 : decode cX10_init 353 = .ok (.iastore, 1) := by decide +kernel
theorem dX10_init_354 : decode cX10_init 354 = .ok (.dup, 1) := by decide +kernel
theorem dX10_init_355 : decode cX10_init 355 = .ok (.bipush 39, 2) := by decide +kernel
theorem dX10_init_357 : decode cX10_init 357 = .ok (.bipush 59, 2) := by decide +kernel
theorem dX10_init_359 : decode cX10_init 359 = .ok (.iastore, 1) := by decide +kernel
theorem dX10_init_360 : decode cX10_init 360 = .ok (.dup, 1) := by decide +kernel
theorem dX10_init_361 : decode cX10_init 361 = .ok (.bipush 40, 2) := by decide +kernel
theorem dX10_init_363 : decode cX10_init 363 = .ok (.bipush 32, 2) := by decide +kernel
theorem dX10_init_365 : decode cX10_init 365 = .ok (.iastore, 1) := by decide +kernel
theorem dX10_init_366 : decode cX10_init 366 = .ok (.dup, 1) := by decide +kernel
theorem dX10_init_367 : decode cX10_init 367 = .ok (.bipush 41, 2) := by decide +kernel
theorem dX10_init_369 : decode cX10_init 369 = .ok (.bipush 108, 2) := by decide +kernel
theorem dX10_init_371 : decode cX10_init 371 = .ok (.iastore, 1) := by decide +kernel
theorem dX10_init_372 : decode cX10_init 372 = .ok (.dup, 1) := by decide +kernel
theorem dX10_init_373 : decode cX10_init 373 = .ok (.bipush 42, 2) := by decide +kernel
theorem dX10_init_375 : decode cX10_init 375 = .ok (.bipush 111, 2) := by decide +kernel
theorem dX10_init_377 : decode cX10_init 377 = .ok (.iastore, 1) := by decide +kernel
theorem dX10_init_378 : decode cX10_init 378 = .ok (.dup, 1) := by decide +kernel
theorem dX10_init_379 : decode cX10_init 379 = .ok (.bipush 43, 2) := by decide +kernel
theorem dX10_init_381 : decode cX10_init 381 = .ok (.bipush 111, 2) := by decide +kernel
theorem dX10_init_383 : decode cX10_init 383 = .ok (.iastore, 1) := by decide +kernel
theorem dX10_init_384 : decode cX10_init 384 = .ok (.dup, 1) := by decide +kernel
theorem dX10_init_385 : decode cX10_init 385 = .ok (.bipush 44, 2) := by decide +kernel
theorem dX10_init_387 : decode cX10_init 387 = .ok (.bipush 107, 2) := by decide +kernel
theorem dX10_init_389 : decode cX10_init 389 = .ok (.iastore, 1) := by decide +kernel
theorem dX10_init_390 : decode cX10_init 390 = .ok (.dup, 1) := by decide +kernel
theorem dX10_init_391 : decode cX10_init 391 = .ok (.bipush 45, 2) := by decide +kernel
theorem dX10_init_393 : decode cX10_init 393 = .ok (.bipush 115, 2) := by decide +kernel
theorem dX10_init_395 : decode cX10_init 395 = .ok (.iastore, 1) := by decide +kernel
theorem dX10_init_396 : decode cX10_init 396 = .ok (.dup, 1) := by decide +kernel
theorem dX10_init_397 : decode cX10_init 397 = .ok (.bipush 46, 2) := by decide +kernel
theorem dX10_init_399 : decode cX10_init 399 = .ok (.bipush 32, 2) := by decide +kernel
theorem dX10_init_401 : decode cX10_init 401 = .ok (.iastore, 1) := by decide +kernel
theorem dX10_init_402 : decode cX10_init 402 = .ok (.dup, 1) := by decide +kernel
theorem dX10_init_403 : decode cX10_init 403 = .ok (.bipush 47, 2) := by decide +kernel
theorem dX10_init_405 : decode cX10_init 405 = .ok (.bipush 115, 2) := by decide +kernel
theorem dX10_init_407 : decode cX10_init 407 = .ok (.iastore, 1) := by decide +kernel
theorem dX10_init_408 : decode cX10_init 408 = .ok (.dup, 1) := by decide +kernel
theorem dX10_init_409 : decode cX10_init 409 = .ok (.bipush 48, 2) := by decide +kernel
theorem dX10_init_411 : decode cX10_init 411 = .ok (.bipush 101, 2) := by decide +kernel
theorem dX10_init_413 : decode cX10_init 413 = .ok (.iastore, 1) := by decide +kernel
theorem dX10_init_414 : decode cX10_init 414 = .ok (.dup, 1) := by decide +kernel
theorem dX10_init_415 : decode cX10_init 415 = .ok (.bipush 49, 2) := by decide +kernel
theorem dX10_init_417 : decode cX10_init 417 = .ok (.bipush 101, 2) := by decide +kernel
theorem dX10_init_419 : decode cX10_init 419 = .ok (.iastore, 1) := by decide +kernel
theorem dX10_init_420 : decode cX10_init 420 = .ok (.dup, 1) := by decide +kernel
theorem dX10_init_421 : decode cX10_init 421 = .ok (.bipush 50, 2) := by decide +kernel
theorem dX10_init_423 : decode cX10_init 423 = .ok (.bipush 110, 2) := by decide +kernel
theorem dX10_init_425 : decode cX10_init 425 = .ok (.iastore, 1) := by decide +kernel
theorem dX10_init_426 : decode cX10_init 426 = .ok (.dup, 1) := by decide +kernel
theorem dX10_init_427 : decode cX10_init 427 = .ok (.bipush 51, 2) := by decide +kernel
theorem dX10_init_429 : decode cX10_init 429 = .ok (.bipush 32, 2) := by decide +kernel
theorem dX10_init_431 : decode cX10_init 431 = .ok (.iastore, 1) := by decide +kernel
theorem dX10_init_432 : decode cX10_init 432 = .ok (.dup, 1) := by decide +kernel
theorem dX10_init_433 : decode cX10_init 433 = .ok (.bipush 52, 2) := by decide +kernel
theorem dX10_init_435 : decode cX10_init 435 = .ok (.bipush 111, 2) := by decide +kernel
theorem dX10_init_437 : decode cX10_init 437 = .ok (.iastore, 1) := by decide +kernel
theorem dX10_init_438 : decode cX10_init 438 = .ok (.dup, 1) := by decide +kernel
theorem dX10_init_439 : decode cX10_init 439 = .ok (.bipush 53, 2) := by decide +kernel
theorem dX10_init_441 : decode cX10_init 441 = .ok (.bipush 114, 2) := by decide +kernel
theorem dX10_init_443 : decode cX10_init 443 = .ok (.iastore, 1) := by decide +kernel
theorem dX10_init_444 : decode cX10_init 444 = .ok (.dup, 1) := by decide +kernel
theorem dX10_init_445 : decode cX10_init 445 = .ok (.bipush 54, 2) := by decide +kernel
theorem dX10_init_447 : decode cX10_init 447 = .ok (.bipush 32, 2) := by decide +kernel
theorem dX10_init_449 : decode cX10_init 449 = .ok (.iastore, 1) := by decide +kernel
theorem dX10_init_450 : decode cX10_init 450 = .ok (.dup, 1) := by decide +kernel
theorem dX10_init_451 : decode cX10_init 451 = .ok (.bipush 55, 2) := by decide +kernel
theorem dX10_init_453 : decode cX10_init 453 = .ok (.bipush 115, 2) := by decide +kernel
theorem dX10_init_455 : decode cX10_init 455 = .ok (.iastore, 1) := by decide +kernel
theorem dX10_init_456 : decode cX10_init 456 = .ok (.dup, 1) := by decide +kernel
theorem dX10_init_457 : decode cX10_init 457 = .ok (.bipush 56, 2) := by decide +kernel
theorem dX10_init_459 : decode cX10_init 459 = .ok (.bipush 101, 2) := by decide +kernel
theorem dX10_init_461 : decode cX10_init 461 = .ok (.iastore, 1) := by decide +kernel
theorem dX10_init_462 : decode cX10_init 462 = .ok (.dup, 1) := by decide +kernel
theorem dX10_init_463 : decode cX10_init 463 = .ok (.bipush 57, 2) := by decide +kernel
theorem dX10_init_465 : decode cX10_init 465 = .ok (.bipush 99, 2) := by decide +kernel
theorem dX10_init_467 : decode cX10_init 467 = .ok (.iastore, 1) := by decide +kernel
theorem dX10_init_468 : decode cX10_init 468 = .ok (.dup, 1) := by decide +kernel
theorem dX10_init_469 : decode cX10_init 469 = .ok (.bipush 58, 2) := by decide +kernel
theorem dX10_init_471 : decode cX10_init 471 = .ok (.bipush 111, 2) := by decide +kernel
theorem dX10_init_473 : decode cX10_init 473 = .ok (.iastore, 1) := by decide +kernel
theorem dX10_init_474 : decode cX10_init 474 = .ok (.dup, 1) := by decide +kernel
theorem dX10_init_475 : decode cX10_init 475 = .ok (.bipush 59, 2) := by decide +kernel
theorem dX10_init_477 : decode cX10_init 477 = .ok (.bipush 110, 2) := by decide +kernel
theorem dX10_init_479 : decode cX10_init 479 = .ok (.iastore, 1) := by decide +kernel
theorem dX10_init_480 : decode cX10_init 480 = .ok (.dup, 1) := by decide +kernel
theorem dX10_init_481 : decode cX10_init 481 = .ok (.bipush 60, 2) := by decide +kernel
theorem dX10_init_483 : decode cX10_init 483 = .ok (.bipush 100, 2) := by decide +kernel
theorem dX10_init_485 : decode cX10_init 485 = .ok (.iastore, 1) := by decide +kernel
theorem dX10_init_486 : decode cX10_init 486 = .ok (.dup, 1) := by decide +kernel
theorem dX10_init_487 : decode cX10_init 487 = .ok (.bipush 61, 2) := by decide +kernel
theorem dX10_init_489 : decode cX10_init 489 = .ok (.bipush 32, 2) := by decide +kernel
theorem dX10_init_491 : decode cX10_init 491 = .ok (.iastore, 1) := by decide +kernel
theorem dX10_init_492 : decode cX10_init 492 = .ok (.dup, 1) := by decide +kernel
theorem dX10_init_493 : decode cX10_init 493 = .ok (.bipush 62, 2) := by decide +kernel
theorem dX10_init_495 : decode cX10_init 495 = .ok (.bipush 60, 2) := by decide +kernel
theorem dX10_init_497 : decode cX10_init 497 = .ok (.iastore, 1) := by decide +kernel
theorem dX10_init_498 : decode cX10_init 498 = .ok (.dup, 1) := by decide +kernel
theorem dX10_init_499 : decode cX10_init 499 = .ok (.bipush 63, 2) := by decide +kernel
theorem dX10_init_501 : decode cX10_init 501 = .ok (.bipush 32, 2) := by decide +kernel
theorem dX10_init_503 : decode cX10_init 503 = .ok (.iastore, 1) := by decide +kernel
theorem dX10_init_504 : decode cX10_init 504 = .ok (.dup, 1) := by decide +kernel
theorem dX10_init_505 : decode cX10_init 505 = .ok (.bipush 64, 2) := by decide +kernel
theorem dX10_init_507 : decode cX10_init 507 = .ok (.bipush 109, 2) := by decide +kernel
theorem dX10_init_509 : decode cX10_init 509 = .ok (.iastore, 1) := by decide +kernel
theorem dX10_init_510 : decode cX10_init 510 = .ok (.dup, 1) := by decide +kernel
theorem dX10_init_511 : decode cX10_init 511 = .ok (.bipush 65, 2) := by decide +kernel
theorem dX10_init_513 : decode cX10_init 513 = .ok (.bipush 111, 2) := by decide +kernel
theorem dX10_init_515 : decode cX10_init 515 = .ok (.iastore, 1) := by decide +kernel
theorem dX10_init_516 : decode cX10_init 516 = .ok (.dup, 1) := by decide +kernel
theorem dX10_init_517 : decode cX10_init 517 = .ok (.bipush 66, 2) := by decide +kernel
theorem dX10_init_519 : decode cX10_init 519 = .ok (.bipush 114, 2) := by decide +kernel
theorem dX10_init_521 : decode cX10_init 521 = .ok (.iastore, 1) := by decide +kernel
theorem dX10_init_522 : decode cX10_init 522 = .ok (.dup, 1) := by decide +kernel
theorem dX10_init_523 : decode cX10_init 523 = .ok (.bipush 67, 2) := by decide +kernel
theorem dX10_init_525 : decode cX10_init 525 = .ok (.bipush 101, 2) := by decide +kernel
theorem dX10_init_527 : decode cX10_init 527 = .ok (.iastore, 1) := by decide +kernel
theorem dX10_init_528 : decode cX10_init 528 = .ok (.dup, 1) := by decide +kernel
theorem dX10_init_529 : decode cX10_init 529 = .ok (.bipush 68, 2) := by decide +kernel
theorem dX10_init_531 : decode cX10_init 531 = .ok (.bipush 32, 2) := by decide +kernel
theorem dX10_init_533 : decode cX10_init 533 = .ok (.iastore, 1) := by decide +kernel
theorem dX10_init_534 : decode cX10_init 534 = .ok (.dup, 1) := by decide +kernel
theorem dX10_init_535 : decode cX10_init 535 = .ok (.bipush 69, 2) := by decide +kernel
theorem dX10_init_537 : decode cX10_init 537 = .ok (.bipush 59, 2) := by decide +kernel
theorem dX10_init_539 : decode cX10_init 539 = .ok (.iastore, 1) := by decide +kernel
theorem dX10_init_540 : decode cX10_init 540 = .ok (.putfield 49, 3) := by decide +kernel
theorem dX10_init_543 : decode cX10_init 543 = .ok (.aload_n 0, 1) := by decide +kernel
theorem dX10_init_544 : decode cX10_init 544 = .ok (.bipush 96, 2) := by decide +kernel
theorem dX10_init_546 : decode cX10_init 546 = .ok (.newarray .int, 2) := by decide +kernel
theorem dX10_init_548 : decode cX10_init 548 = .ok (.dup, 1) := by decide +kernel
theorem dX10_init_549 : decode cX10_init 549 = .ok (.iconst 0, 1) := by decide +kernel
theorem dX10_init_550 : decode cX10_init 550 = .ok (.bipush 119, 2) := by decide +kernel
theorem dX10_init_552 : decode cX10_init 552 = .ok (.iastore, 1) := by decide +kernel
theorem dX10_init_553 : decode cX10_init 553 = .ok (.dup, 1) := by decide +kernel
theorem dX10_init_554 : decode cX10_init 554 = .ok (.iconst 1, 1) := by decide +kernel
theorem dX10_init_555 : decode cX10_init 555 = .ok (.bipush 97, 2) := by decide +kernel
theorem dX10_init_557 : decode cX10_init 557 = .ok (.iastore, 1) := by decide +kernel
theorem dX10_init_558 : decode cX10_init 558 = .ok (.dup, 1) := by decide +kernel
theorem dX10_init_559 : decode cX10_init 559 = .ok (.iconst 2, 1) := by decide +kernel
theorem dX10_init_560 : decode cX10_init 560 = .ok (.bipush 114, 2) := by decide +kernel
theorem dX10_init_562 : decode cX10_init 562 = .ok (.iastore, 1) := by decide +kernel
theorem dX10_init_563 : decode cX10_init 563 = .ok (.dup, 1) := by decide +kernel
theorem dX10_init_564 : decode cX10_init 564 = .ok (.iconst 3, 1) := by decide +kernel
theorem dX10_init_565 : decode cX10_init 565 = .ok (.bipush 109, 2) := by decide +kernel
theorem dX10_init_567 : decode cX10_init 567 = .ok (.iastore, 1) := by decide +kernel
theorem dX10_init_568 : decode cX10_init 568 = .ok (.dup, 1) := by decide +kernel
theorem dX10_init_569 : decode cX10_init 569 = .ok (.iconst 4, 1) := by decide +kernel
theorem dX10_init_570 : decode cX10_init 570 = .ok (.bipush 115, 2) := by decide +kernel
theorem dX10_init_572 : decode cX10_init 572 = .ok (.iastore, 1) := by decide +kernel
theorem dX10_init_573 : decode cX10_init 573 = .ok (.dup, 1) := by decide +kernel
theorem dX10_init_574 : decode cX10_init 574 = .ok (.iconst 5, 1) := by decide +kernel
theorem dX10_init_575 : decode cX10_init 575 = .ok (.bipush 32, 2) := by decide +kernel
theorem dX10_init_577 : decode cX10_init 577 = .ok (.iastore, 1) := by decide +kernel
theorem dX10_init_578 : decode cX10_init 578 = .ok (.dup, 1) := by decide +kernel
theorem dX10_init_579 : decode cX10_init 579 = .ok (.bipush 6, 2) := by decide +kernel
theorem dX10_init_581 : decode cX10_init 581 = .ok (.bipush 32, 2) := by decide +kernel
theorem dX10_init_583 : decode cX10_init 583 = .ok (.iastore, 1) := by decide +kernel
theorem dX10_init_584 : decode cX10_init 584 = .ok (.dup, 1) := by decide +kernel
theorem dX10_init_585 : decode cX10_init 585 = .ok (.bipush 7, 2) := by decide +kernel
theorem dX10_init_587 : decode cX10_init 587 = .ok (.bipush 32, 2) := by decide +kernel
theorem dX10_init_589 : decode cX10_init 589 = .ok (.iastore, 1) := by decide +kernel
theorem dX10_init_590 : decode cX10_init 590 = .ok (.dup, 1) := by decide +kernel
theorem dX10_init_591 : decode cX10_init 591 = .ok (.bipush 8, 2) := by decide +kernel
theorem dX10_init_593 : decode cX10_init 593 = .ok (.bipush 99, 2) := by decide +kernel
theorem dX10_init_595 : decode cX10_init 595 = .ok (.iastore, 1) := by decide +kernel
theorem dX10_init_596 : decode cX10_init 596 = .ok (.dup, 1) := by decide +kernel
theorem dX10_init_597 : decode cX10_init 597 = .ok (.bipush 9, 2) := by decide +kernel
theorem dX10_init_599 : decode cX10_init 599 = .ok (.bipush 111, 2) := by decide +kernel
theorem dX10_init_601 : decode cX10_init 601 = .ok (.iastore, 1) := by decide +kernel
theorem dX10_init_602 : decode cX10_init 602 = .ok (.dup, 1) := by decide +kernel
theorem dX10_init_603 : decode cX10_init 603 = .ok (.bipush 10, 2) := by decide +kernel
theorem dX10_init_605 : decode cX10_init 605 = .ok (.bipush 111, 2) := by decide +kernel
theorem dX10_init_607 : decode cX10_init 607 = .ok (.iastore, 1) := by decide +kernel
theorem dX10_init_608 : decode cX10_init 608 = .ok (.dup, 1) := by decide +kernel
theorem dX10_init_609 : decode cX10_init 609 = .ok (.bipush 11, 2) := by decide +kernel
theorem dX10_init_611 : decode cX10_init 611 = .ok (.bipush 108, 2) := by decide +kernel
theorem dX10_init_613 : decode cX10_init 613 = .ok (.iastore, 1) := by decide +kernel
theorem dX10_init_614 : decode cX10_init 614 = .ok (.dup, 1) := by decide +kernel
theorem dX10_init_615 : decode cX10_init 615 = .ok (.bipush 12, 2) := by decide +kernel
theorem dX10_init_617 : decode cX10_init 617 = .ok (.bipush 115, 2) := by decide +kernel
theorem dX10_init_619 : decode cX10_init 619 = .ok (.iastore, 1) := by decide +kernel
theorem dX10_init_620 : decode cX10_init 620 = .ok (.dup, 1) := by decide +kernel
theorem dX10_init_621 : decode cX10_init 621 = .ok (.bipush 13, 2) := by decide +kernel
theorem dX10_init_623 : decode cX10_init 623 = .ok (.bipush 32, 2) := by decide +kernel
theorem dX10_init_625 : decode cX10_init 625 = .ok (.iastore, 1) := by decide +kernel
theorem dX10_init_626 : decode cX10_init 626 = .ok (.dup, 1) := by decide +kernel
theorem dX10_init_627 : decode cX10_init 627 = .ok (.bipush 14, 2) := by decide +kernel
theorem dX10_init_629 : decode cX10_init 629 = .ok (.bipush 32, 2) := by decide +kernel
theorem dX10_init_631 : decode cX10_init 631 = .ok (.iastore, 1) := by decide +kernel
theorem dX10_init_632 : decode cX10_init 632 = .ok (.dup, 1) := by decide +kernel
theorem dX10_init_633 : decode cX10_init 633 = .ok (.bipush 15, 2) := by decide +kernel
theorem dX10_init_635 : decode cX10_init 635 = .ok (.bipush 32, 2) := by decide +kernel
theorem dX10_init_637 : decode cX10_init 637 = .ok (.iastore, 1) := by decide +kernel
theorem dX10_init_638 : decode cX10_init 638 = .ok (.dup, 1) := by decide +kernel
theorem dX10_init_639 : decode cX10_init 639 = .ok (.bipush 16, 2) := by decide +kernel
theorem dX10_init_641 : decode cX10_init 641 = .ok (.bipush 108, 2) := by decide +kernel
theorem dX10_init_643 : decode cX10_init 643 = .ok (.iastore, 1) := by decide +kernel
theorem dX10_init_644 : decode cX10_init 644 = .ok (.dup, 1) := by decide +kernel
theorem dX10_init_645 : decode cX10_init 645 = .ok (.bipush 17, 2) := by decide +kernel
theorem dX10_init_647 : decode cX10_init 647 = .ok (.bipush 111, 2) := by decide +kernel
theorem dX10_init_649 : decode cX10_init 649 = .ok (.iastore, 1) := by decide +kernel
theorem dX10_init_650 : decode cX10_init 650 = .ok (.dup, 1) := by decide +kernel
theorem dX10_init_651 : decode cX10_init 651 = .ok (.bipush 18, 2) := by decide +kernel
theorem dX10_init_653 : decode cX10_init 653 = .ok (.bipush 111, 2) := by decide +kernel
theorem dX10_init_655 : decode cX10_init 655 = .ok (.iastore, 1) := by decide +kernel
theorem dX10_init_656 : decode cX10_init 656 = .ok (.dup, 1) := by decide +kernel
theorem dX10_init_657 : decode cX10_init 657 = .ok (.bipush 19, 2) := by decide +kernel
theorem dX10_init_659 : decode cX10_init 659 = .ok (.bipush 107, 2) := by decide +kernel
theorem dX10_init_661 : decode cX10_init 661 = .ok (.iastore, 1) := by decide +kernel
theorem dX10_init_662 : decode cX10_init 662 = .ok (.dup, 1) := by decide +kernel
theorem dX10_init_663 : decode cX10_init 663 = .ok (.bipush 20, 2) := by decide +kernel
theorem dX10_init_665 : decode cX10_init 665 = .ok (.bipush 115, 2) := by decide +kernel
theorem dX10_init_667 : decode cX10_init 667 = .ok (.iastore, 1) := by decide +kernel
theorem dX10_init_668 : decode cX10_init 668 = .ok (.dup, 1) := by decide +kernel
theorem dX10_init_669 : decode cX10_init 669 = .ok (.bipush 21, 2) := by decide +kernel
theorem dX10_init_671 : decode cX10_init 671 = .ok (.bipush 32, 2) := by decide +kernel
theorem dX10_init_673 : decode cX10_init 673 = .ok (.iastore, 1) := by decide +kernel
theorem dX10_init_674 : decode cX10_init 674 = .ok (.dup, 1) := by decide +kernel
theorem dX10_init_675 : decode cX10_init 675 = .ok (.bipush 22, 2) := by decide +kernel
theorem dX10_init_677 : decode cX10_init 677 = .ok (.bipush 32, 2) := by decide +kernel
theorem dX10_init_679 : decode cX10_init 679 = .ok (.iastore, 1) := by decide +kernel
theorem dX10_init_680 : decode cX10_init 680 = .ok (.dup, 1) := by decide +kernel
theorem dX10_init_681 : decode cX10_init 681 = .ok (.bipush 23, 2) := by decide +kernel
theorem dX10_init_683 : decode cX10_init 683 = .ok (.bipush 32, 2) := by decide +kernel
theorem dX10_init_685 : decode cX10_init 685 = .ok (.iastore, 1) := by decide +kernel
theorem dX10_init_686 : decode cX10_init 686 = .ok (.dup, 1) := by decide +kernel
theorem dX10_init_687 : decode cX10_init 687 = .ok (.bipush 24, 2) := by decide +kernel
theorem dX10_init_689 : decode cX10_init 689 = .ok (.bipush 119, 2) := by decide +kernel
theorem dX10_init_691 : decode cX10_init 691 = .ok (.iastore, 1) := by decide +kernel
theorem dX10_init_692 : decode cX10_init 692 = .ok (.dup, 1) := by decide +kernel
theorem dX10_init_693 : decode cX10_init 693 = .ok (.bipush 25, 2) := by decide +kernel
theorem dX10_init_695 : decode cX10_init 695 = .ok (.bipush 97, 2) := by decide +kernel
theorem dX10_init_697 : decode cX10_init 697 = .ok (.iastore, 1) := by decide +kernel
theorem dX10_init_698 : decode cX10_init 698 = .ok (.dup, 1) := by decide +kernel
theorem dX10_init_699 : decode cX10_init 699 = .ok (.bipush 26, 2) := by decide +kernel
theorem dX10_init_701 : decode cX10_init 701 = .ok (.bipush 114, 2) := by decide +kernel
theorem dX10_init_703 : decode cX10_init 703 = .ok (.iastore, 1) := by decide +kernel
theorem dX10_init_704 : decode cX10_init 704 = .ok (.dup, 1) := by decide +kernel
theorem dX10_init_705 : decode cX10_init 705 = .ok (.bipush 27, 2) := by decide +kernel
theorem dX10_init_707 : decode cX10_init 707 = .ok (.bipush 109, 2) := by decide +kernel
theorem dX10_init_709 : decode cX10_init 709 = .ok (.iastore, 1) := by decide +kernel
theorem dX10_init_710 : decode cX10_init 710 = .ok (.dup, 1) := by decide +kernel
theorem dX10_init_711 : decode cX10_init 711 = .ok (.bipush 28, 2) := by decide +kernel
theorem dX10_init_713 : decode cX10_init 713 = .ok (.bipush 116, 2) := by decide +kernel
theorem dX10_init_715 : decode cX10_init 715 = .ok (.iastore, 1) := by decide +kernel
theorem dX10_init_716 : decode cX10_init 716 = .ok (.dup, 1) := by decide +kernel
theorem dX10_init_717 : decode cX10_init 717 = .ok (.bipush 29, 2) := by decide +kernel
theorem dX10_init_719 : decode cX10_init 719 = .ok (.bipush 104, 2) := by decide +kernel
theorem dX10_init_721 : decode cX10_init 721 = .ok (.iastore, 1) := by decide +kernel
theorem dX10_init_722 : decode cX10_init 722 = .ok (.dup, 1) := by decide +kernel
theorem dX10_init_723 : decode cX10_init 723 = .ok (.bipush 30, 2) := by decide +kernel
theorem dX10_init_725 : decode cX10_init 725 = .ok (.bipush 32, 2) := by decide +kernel
theorem dX10_init_727 : decode cX10_init 727 = .ok (.iastore, 1) := by decide +kernel
theorem dX10_init_728 : decode cX10_init 728 = .ok (.dup, 1) := by decide +kernel
theorem dX10_init_729 : decode cX10_init 729 = .ok (.bipush 31, 2) := by decide +kernel
theorem dX10_init_731 : decode cX10_init 731 = .ok (.bipush 32, 2) := by decide +kernel
theorem dX10_init_733 : decode cX10_init 733 = .ok (.iastore, 1) := by decide +kernel
theorem dX10_init_734 : decode cX10_init 734 = .ok (.dup, 1) := by decide +kernel
theorem dX10_init_735 : decode cX10_init 735 = .ok (.bipush 32, 2) := by decide +kernel
theorem dX10_init_737 : decode cX10_init 737 = .ok (.bipush 103, 2) := by decide +kernel
theorem dX10_init_739 : decode cX10_init 739 = .ok (.iastore, 1) := by decide +kernel
theorem dX10_init_740 : decode cX10_init 740 = .ok (.dup, 1) := by decide +kernel
theorem dX10_init_741 : decode cX10_init 741 = .ok (.bipush 33, 2) := by decide +kernel
theorem dX10_init_743 : decode cX10_init 743 = .ok (.bipush 108, 2) := by decide +kernel
theorem dX10_init_745 : decode cX10_init 745 = .ok (.iastore, 1) := by decide +kernel
theorem dX10_init_746 : decode cX10_init 746 = .ok (.dup, 1) := by decide +kernel
theorem dX10_init_747 : decode cX10_init 747 = .ok (.bipush 34, 2) := by decide +kernel
theorem dX10_init_749 : decode cX10_init 749 = .ok (.bipush 97, 2) := by decide +kernel
theorem dX10_init_751 : decode cX10_init 751 = .ok (.iastore, 1) := by decide +kernel
theorem dX10_init_752 : decode cX10_init 752 = .ok (.dup, 1) := by decide +kernel
theorem dX10_init_753 : decode cX10_init 753 = .ok (.bipush 35, 2) := by decide +kernel
theorem dX10_init_755 : decode cX10_init 755 = .ok (.bipush 110, 2) := by decide +kernel
theorem dX10_init_757 : decode cX10_init 757 = .ok (.iastore, 1) := by decide +kernel
theorem dX10_init_758 : decode cX10_init 758 = .ok (.dup, 1) := by decide +kernel
theorem dX10_init_759 : decode cX10_init 759 = .ok (.bipush 36, 2) := by decide +kernel
theorem dX10_init_761 : decode cX10_init 761 = .ok (.bipush 99, 2) := by decide +kernel
theorem dX10_init_763 : decode cX10_init 763 = .ok (.iastore, 1) := by decide +kernel
theorem dX10_init_764 : decode cX10_init 764 = .ok (.dup, 1) := by decide +kernel
theorem dX10_init_765 : decode cX10_init 765 = .ok (.bipush 37, 2) := by decide +kernel
theorem dX10_init_767 : decode cX10_init 767 = .ok (.bipush 101, 2) := by decide +kernel
theorem dX10_init_769 : decode cX10_init 769 = .ok (.iastore, 1) := by decide +kernel
theorem dX10_init_770 : decode cX10_init 770 = .ok (.dup, 1) := by decide +kernel
theorem dX10_init_771 : decode cX10_init 771 = .ok (.bipush 38, 2) := by decide +kernel
theorem dX10_init_773 : decode cX10_init 773 = .ok (.bipush 115, 2) := by decide +kernel
theorem dX10_init_775 : decode cX10_init 775 = .ok (.iastore, 1) := by decide +kernel
theorem dX10_init_776 : decode cX10_init 776 = .ok (.dup, 1) := by decide +kernel
theorem dX10_init_777 : decode cX10_init 777 = .ok (.bipush 39, 2) := by decide +kernel
theorem dX10_init_779 : decode cX10_init 779 = .ok (.bipush 32, 2) := by decide +kernel
theorem dX10_init_781 : decode cX10_init 781 = .ok (.iastore, 1) := by decide +kernel
theorem dX10_init_782 : decode cX10_init 782 = .ok (.dup, 1) := by decide +kernel
theorem dX10_init_783 : decode cX10_init 783 = .ok (.bipush 40, 2) := by decide +kernel
theorem dX10_init_785 : decode cX10_init 785 = .ok (.bipush 108, 2) := by decide +kernel
theorem dX10_init_787 : decode cX10_init 787 = .ok (.iastore, 1) := by decide +kernel
theorem dX10_init_788 : decode cX10_init 788 = .ok (.dup, 1) := by decide +kernel
theorem dX10_init_789 : decode cX10_init 789 = .ok (.bipush 41, 2) := by decide +kernel
theorem dX10_init_791 : decode cX10_init 791 = .ok (.bipush 105, 2) := by decide +kernel
theorem dX10_init_793 : decode cX10_init 793 = .ok (.iastore, 1) := by decide +kernel
theorem dX10_init_794 : decode cX10_init 794 = .ok (.dup, 1) := by decide +kernel
theorem dX10_init_795 : decode cX10_init 795 = .ok (.bipush 42, 2) := by decide +kernel
theorem dX10_init_797 : decode cX10_init 797 = .ok (.bipush 103, 2) := by decide +kernel
theorem dX10_init_799 : decode cX10_init 799 = .ok (.iastore, 1) := by decide +kernel
theorem dX10_init_800 : decode cX10_init 800 = .ok (.dup, 1) := by decide +kernel
theorem dX10_init_801 : decode cX10_init 801 = .ok (.bipush 43, 2) := by decide +kernel
theorem dX10_init_803 : decode cX10_init 803 = .ok (.bipush 104, 2) := by decide +kernel
theorem dX10_init_805 : decode cX10_init 805 = .ok (.iastore, 1) := by decide +kernel
theorem dX10_init_806 : decode cX10_init 806 = .ok (.dup, 1) := by decide +kernel
theorem dX10_init_807 : decode cX10_init 807 = .ok (.bipush 44, 2) := by decide +kernel
theorem dX10_init_809 : decode cX10_init 809 = .ok (.bipush 116, 2) := by decide +kernel
theorem dX10_init_811 : decode cX10_init 811 = .ok (.iastore, 1) := by decide +kernel
theorem dX10_init_812 : decode cX10_init 812 = .ok (.dup, 1) := by decide +kernel
theorem dX10_init_813 : decode cX10_init 813 = .ok (.bipush 45, 2) := by decide +kernel
theorem dX10_init_815 : decode cX10_init 815 = .ok (.bipush 32, 2) := by decide +kernel
theorem dX10_init_817 : decode cX10_init 817 = .ok (.iastore, 1) := by decide +kernel
theorem dX10_init_818 : decode cX10_init 818 = .ok (.dup, 1) := by decide +kernel
theorem dX10_init_819 : decode cX10_init 819 = .ok (.bipush 46, 2) := by decide +kernel
theorem dX10_init_821 : decode cX10_init 821 = .ok (.bipush 32, 2) := by decide +kernel
theorem dX10_init_823 : decode cX10_init 823 = .ok (.iastore, 1) := by decide +kernel
theorem dX10_init_824 : decode cX10_init 824 = .ok (.dup, 1) := by decide +kernel
theorem dX10_init_825 : decode cX10_init 825 = .ok (.bipush 47, 2) := by decide +kernel
theorem dX10_init_827 : decode cX10_init 827 = .ok (.bipush 32, 2) := by decide +kernel
theorem dX10_init_829 : decode cX10_init 829 = .ok (.iastore, 1) := by decide +kernel
theorem dX10_init_830 : decode cX10_init 830 = .ok (.dup, 1) := by decide +kernel
theorem dX10_init_831 : decode cX10_init 831 = .ok (.bipush 48, 2) := by decide +kernel
theorem dX10_init_833 : decode cX10_init 833 = .ok (.bipush 115, 2) := by decide +kernel
theorem dX10_init_835 : decode cX10_init 835 = .ok (.iastore, 1) := by decide +kernel
theorem dX10_init_836 : decode cX10_init 836 = .ok (.dup, 1) := by decide +kernel
theorem dX10_init_837 : decode cX10_init 837 = .ok (.bipush 49, 2) := by decide +kernel
theorem dX10_init_839 : decode cX10_init 839 = .ok (.bipush 101, 2) := by decide +kernel
theorem dX10_init_841 : decode cX10_init 841 = .ok (.iastore, 1) := by decide +kernel
theorem dX10_init_842 : decode cX10_init 842 = .ok (.dup, 1) := by decide +kernel
theorem dX10_init_843 : decode cX10_init 843 = .ok (.bipush 50, 2) := by decide +kernel
theorem dX10_init_845 : decode cX10_init 845 = .ok (.bipush 99, 2) := by decide +kernel
theorem dX10_init_847 : decode cX10_init 847 = .ok (.iastore, 1) := by decide +kernel
theorem dX10_init_848 : decode cX10_init 848 = .ok (.dup, 1) := by decide +kernel
theorem dX10_init_849 : decode cX10_init 849 = .ok (.bipush 51, 2) := by decide +kernel
theorem dX10_init_851 : decode cX10_init 851 = .ok (.bipush 111, 2) := by decide +kernel
theorem dX10_init_853 : decode cX10_init 853 = .ok (.iastore, 1) := by decide +kernel
theorem dX10_init_854 : decode cX10_init 854 = .ok (.dup, 1) := by decide +kernel
theorem dX10_init_855 : decode cX10_init 855 = .ok (.bipush 52, 2) := by decide +kernel
theorem dX10_init_857 : decode cX10_init 857 = .ok (.bipush 110, 2) := by decide +kernel
theorem dX10_init_859 : decode cX10_init 859 = .ok (.iastore, 1) := by decide +kernel
theorem dX10_init_860 : decode cX10_init 860 = .ok (.dup, 1) := by decide +kernel
theorem dX10_init_861 : decode cX10_init 861 = .ok (.bipush 53, 2) := by decide +kernel
theorem dX10_init_863 : decode cX10_init 863 = .ok (.bipush 100, 2) := by decide +kernel
theorem dX10_init_865 : decode cX10_init 865 = .ok (.iastore, 1) := by decide +kernel
theorem dX10_init_866 : decode cX10_init 866 = .ok (.dup, 1) := by decide +kernel
theorem dX10_init_867 : decode cX10_init 867 = .ok (.bipush 54, 2) := by decide +kernel
theorem dX10_init_869 : decode cX10_init 869 = .ok (.bipush 32, 2) := by decide +kernel
theorem dX10_init_871 : decode cX10_init 871 = .ok (.iastore, 1) := by decide +kernel
theorem dX10_init_872 : decode cX10_init 872 = .ok (.dup, 1) := by decide +kernel
theorem dX10_init_873 : decode cX10_init 873 = .ok (.bipush 55, 2) := by decide +kernel
theorem dX10_init_875 : decode cX10_init 875 = .ok (.bipush 32, 2) := by decide +kernel
theorem dX10_init_877 : decode cX10_init 877 = .ok (.iastore, 1) := by decide +kernel
theorem dX10_init_878 : decode cX10_init 878 = .ok (.dup, 1) := by decide +kernel
theorem dX10_init_879 : decode cX10_init 879 = .ok (.bipush 56, 2) := by decide +kernel
theorem dX10_init_881 : decode cX10_init 881 = .ok (.bipush 115, 2) := by decide +kernel
theorem dX10_init_883 : decode cX10_init 883 = .ok (.iastore, 1) := by decide +kernel
theorem dX10_init_884 : decode cX10_init 884 = .ok (.dup, 1) := by decide +kernel
theorem dX10_init_885 : decode cX10_init 885 = .ok (.bipush 57, 2) := by decide +kernel
theorem dX10_init_887 : decode cX10_init 887 = .ok (.bipush 101, 2) := by decide +kernel
theorem dX10_init_889 : decode cX10_init 889 = .ok (.iastore, 1) := by decide +kernel
theorem dX10_init_890 : decode cX10_init 890 = .ok (.dup, 1) := by decide +kernel
theorem dX10_init_891 : decode cX10_init 891 = .ok (.bipush 58, 2) := by decide +kernel
theorem dX10_init_893 : decode cX10_init 893 = .ok (.bipush 101, 2) := by decide +kernel
theorem dX10_init_895 : decode cX10_init 895 = .ok (.iastore, 1) := by decide +kernel
theorem dX10_init_896 : decode cX10_init 896 = .ok (.dup, 1) := by decide +kernel
theorem dX10_init_897 : decode cX10_init 897 = .ok (.bipush 59, 2) := by decide +kernel
theorem dX10_init_899 : decode cX10_init 899 = .ok (.bipush 110, 2) := by decide +kernel
theorem dX10_init_901 : decode cX10_init 901 = .ok (.iastore, 1) := by decide +kernel
theorem dX10_init_902 : decode cX10_init 902 = .ok (.dup, 1) := by decide +kernel
theorem dX10_init_903 : decode cX10_init 903 = .ok (.bipush 60, 2) := by decide +kernel
theorem dX10_init_905 : decode cX10_init 905 = .ok (.bipush 32, 2) := by decide +kernel
theorem dX10_init_907 : decode cX10_init 907 = .ok (.iastore, 1) := by decide +kernel
theorem dX10_init_908 : decode cX10_init 908 = .ok (.dup, 1) := by decide +kernel
theorem dX10_init_909 : decode cX10_init 909 = .ok (.bipush 61, 2) := by decide +kernel
theorem dX10_init_911 : decode cX10_init 911 = .ok (.bipush 32, 2) := by decide +kernel
theorem dX10_init_913 : decode cX10_init 913 = .ok (.iastore, 1) := by decide +kernel
theorem dX10_init_914 : decode cX10_init 914 = .ok (.dup, 1) := by decide +kernel
theorem dX10_init_915 : decode cX10_init 915 = .ok (.bipush 62, 2) := by decide +kernel
theorem dX10_init_917 : decode cX10_init 917 = .ok (.bipush 32, 2) := by decide +kernel
theorem dX10_init_919 : decode cX10_init 919 = .ok (.iastore, 1) := by decide +kernel
theorem dX10_init_920 : decode cX10_init 920 = .ok (.dup, 1) := by decide +kernel
theorem dX10_init_921 : decode cX10_init 921 = .ok (.bipush 63, 2) := by decide +kernel
theorem dX10_init_923 : decode cX10_init 923 = .ok (.bipush 32, 2) := by decide +kernel
theorem dX10_init_925 : decode cX10_init 925 = .ok (.iastore, 1) := by decide +kernel
theorem dX10_init_926 : decode cX10_init 926 = .ok (.dup, 1) := by decide +kernel
theorem dX10_init_927 : decode cX10_init 927 = .ok (.bipush 64, 2) := by decide +kernel
theorem dX10_init_929 : decode cX10_init 929 = .ok (.bipush 109, 2) := by decide +kernel
theorem dX10_init_931 : decode cX10_init 931 = .ok (.iastore, 1) := by decide +kernel
theorem dX10_init_932 : decode cX10_init 932 = .ok (.dup, 1) := by decide +kernel
theorem dX10_init_933 : decode cX10_init 933 = .ok (.bipush 65, 2) := by decide +kernel
theorem dX10_init_935 : decode cX10_init 935 = .ok (.bipush 111, 2) := by decide +kernel
theorem dX10_init_937 : decode cX10_init 937 = .ok (.iastore, 1) := by decide +kernel
theorem dX10_init_938 : decode cX10_init 938 = .ok (.dup, 1) := by decide +kernel
theorem dX10_init_939 : decode cX10_init 939 = .ok (.bipush 66, 2) := by decide +kernel
theorem dX10_init_941 : decode cX10_init 941 = .ok (.bipush 114, 2) := by decide +kernel
theorem dX10_init_943 : decode cX10_init 943 = .ok (.iastore, 1) := by decide +kernel
theorem dX10_init_944 : decode cX10_init 944 = .ok (.dup, 1) := by decide +kernel
theorem dX10_init_945 : decode cX10_init 945 = .ok (.bipush 67, 2) := by decide +kernel
theorem dX10_init_947 : decode cX10_init 947 = .ok (.bipush 101, 2) := by decide +kernel
theorem dX10_init_949 : decode cX10_init 949 = .ok (.iastore, 1) := by decide +kernel
theorem dX10_init_950 : decode cX10_init 950 = .ok (.dup, 1) := by decide +kernel
theorem dX10_init_951 : decode cX10_init 951 = .ok (.bipush 68, 2) := by decide +kernel
theorem dX10_init_953 : decode cX10_init 953 = .ok (.bipush 32, 2) := by decide +kernel
theorem dX10_init_955 : decode cX10_init 955 = .ok (.iastore, 1) := by decide +kernel
theorem dX10_init_956 : decode cX10_init 956 = .ok (.dup, 1) := by decide +kernel
theorem dX10_init_957 : decode cX10_init 957 = .ok (.bipush 69, 2) := by decide +kernel
theorem dX10_init_959 : decode cX10_init 959 = .ok (.bipush 32, 2) := by decide +kernel
theorem dX10_init_961 : decode cX10_init 961 = .ok (.iastore, 1) := by decide +kernel
theorem dX10_init_962 : decode cX10_init 962 = .ok (.dup, 1) := by decide +kernel
theorem dX10_init_963 : decode cX10_init 963 = .ok (.bipush 70, 2) := by decide +kernel
theorem dX10_init_965 : decode cX10_init 965 = .ok (.bipush 32, 2) := by decide +kernel
theorem dX10_init_967 : decode cX10_init 967 = .ok (.iastore, 1) := by decide +kernel
theorem dX10_init_968 : decode cX10_init 968 = .ok (.dup, 1) := by decide +kernel
theorem dX10_init_969 : decode cX10_init 969 = .ok (.bipush 71, 2) := by decide +kernel
theorem dX10_init_971 : decode cX10_init 971 = .ok (.bipush 32, 2) := by decide +kernel
theorem dX10_init_973 : decode cX10_init 973 = .ok (.iastore, 1) := by decide +kernel
theorem dX10_init_974 : decode cX10_init 974 = .ok (.dup, 1) := by decide +kernel
theorem dX10_init_975 : decode cX10_init 975 = .ok (.bipush 72, 2) := by decide +kernel
theorem dX10_init_977 : decode cX10_init 977 = .ok (.bipush 111, 2) := by decide +kernel
theorem dX10_init_979 : decode cX10_init 979 = .ok (.iastore, 1) := by decide +kernel
theorem dX10_init_980 : decode cX10_init 980 = .ok (.dup, 1) := by decide +kernel
theorem dX10_init_981 : decode cX10_init 981 = .ok (.bipush 73, 2) := by decide +kernel
theorem dX10_init_983 : decode cX10_init 983 = .ok (.bipush 114, 2) := by decide +kernel
theorem dX10_init_985 : decode cX10_init 985 = .ok (.iastore, 1) := by decide +kernel
theorem dX10_init_986 : decode cX10_init 986 = .ok (.dup, 1) := by decide +kernel
theorem dX10_init_987 : decode cX10_init 987 = .ok (.bipush 74, 2) := by decide +kernel
theorem dX10_init_989 : decode cX10_init 989 = .ok (.bipush 32, 2) := by decide +kernel
theorem dX10_init_991 : decode cX10_init 991 = .ok (.iastore, 1) := by decide +kernel
theorem dX10_init_992 : decode cX10_init 992 = .ok (.dup, 1) := by decide +kernel
theorem dX10_init_993 : decode cX10_init 993 = .ok (.bipush 75, 2) := by decide +kernel
theorem dX10_init_995 : decode cX10_init 995 = .ok (.bipush 32, 2) := by decide +kernel
theorem dX10_init_997 : decode cX10_init 997 = .ok (.iastore, 1) := by decide +kernel
theorem dX10_init_998 : decode cX10_init 998 = .ok (.dup, 1) := by decide +kernel
theorem dX10_init_999 : decode cX10_init 999 = .ok (.bipush 76, 2) := by decide +kernel
theorem dX10_init_1001 : decode cX10_init 1001 = .ok (.bipush 32, 2) := by decide +kernel
theorem dX10_init_1003 : decode cX10_init 1003 = .ok (.iastore, 1) := by decide +kernel
theorem dX10_init_1004 : decode cX10_init 1004 = .ok (.dup, 1) := by decide +kernel
theorem dX10_init_1005 : decode cX10_init 1005 = .ok (.bipush 77, 2) := by decide +kernel
theorem dX10_init_1007 : decode cX10_init 1007 = .ok (.bipush 32, 2) := by decide +kernel
theorem dX10_init_1009 : decode cX10_init 1009 = .ok (.iastore, 1) := by decide +kernel
theorem dX10_init_1010 : decode cX10_init 1010 = .ok (.dup, 1) := by decide +kernel
theorem dX10_init_1011 : decode cX10_init 1011 = .ok (.bipush 78, 2) := by decide +kernel
theorem dX10_init_1013 : decode cX10_init 1013 = .ok (.bipush 32, 2) := by decide +kernel
theorem dX10_init_1015 : decode cX10_init 1015 = .ok (.iastore, 1) := by decide +kernel
theorem dX10_init_1016 : decode cX10_init 1016 = .ok (.dup, 1) := by decide +kernel
theorem dX10_init_1017 : decode cX10_init 1017 = .ok (.bipush 79, 2) := by decide +kernel
theorem dX10_init_1019 : decode cX10_init 1019 = .ok (.bipush 32, 2) := by decide +kernel
theorem dX10_init_1021 : decode cX10_init 1021 = .ok (.iastore, 1) := by decide +kernel
theorem dX10_init_1022 : decode cX10_init 1022 = .ok (.dup, 1) := by decide +kernel
theorem dX10_init_1023 : decode cX10_init 1023 = .ok (.bipush 80, 2) := by decide +kernel
theorem dX10_init_1025 : decode cX10_init 1025 = .ok (.bipush 97, 2) := by decide +kernel
theorem dX10_init_1027 : decode cX10_init 1027 = .ok (.iastore, 1) := by decide +kernel
theorem dX10_init_1028 : decode cX10_init 1028 = .ok (.dup, 1) := by decide +kernel
theorem dX10_init_1029 : decode cX10_init 1029 = .ok (.bipush 81, 2) := by decide +kernel
theorem dX10_init_1031 : decode cX10_init 1031 = .ok (.bipush 110, 2) := by decide +kernel
theorem dX10_init_1033 : decode cX10_init 1033 = .ok (.iastore, 1) := by decide +kernel
theorem dX10_init_1034 : decode cX10_init 1034 = .ok (.dup, 1) := by decide +kernel
theorem dX10_init_1035 : decode cX10_init 1035 = .ok (.bipush 82, 2) := by decide +kernel
theorem dX10_init_1037 : decode cX10_init 1037 = .ok (.bipush 100, 2) := by decide +kernel
theorem dX10_init_1039 : decode cX10_init 1039 = .ok (.iastore, 1) := by decide +kernel
theorem dX10_init_1040 : decode cX10_init 1040 = .ok (.dup, 1) := by decide +kernel
theorem dX10_init_1041 : decode cX10_init 1041 = .ok (.bipush 83, 2) := by decide +kernel
theorem dX10_init_1043 : decode cX10_init 1043 = .ok (.bipush 32, 2) := by decide +kernel
theorem dX10_init_1045 : decode cX10_init 1045 = .ok (.iastore, 1) := by decide +kernel
theorem dX10_init_1046 : decode cX10_init 1046 = .ok (.dup, 1) := by decide +kernel
theorem dX10_init_1047 : decode cX10_init 1047 = .ok (.bipush 84, 2) := by decide +kernel
theorem dX10_init_1049 : decode cX10_init 1049 = .ok (.bipush 32, 2) := by decide +kernel
theorem dX10_init_1051 : decode cX10_init 1051 = .ok (.iastore, 1) := by decide +kernel
theorem dX10_init_1052 : decode cX10_init 1052 = .ok (.dup, 1) := by decide +kernel
theorem dX10_init_1053 : decode cX10_init 1053 = .ok (.bipush 85, 2) := by decide +kernel
theorem dX10_init_1055 : decode cX10_init 1055 = .ok (.bipush 32, 2) := by decide +kernel
theorem dX10_init_1057 : decode cX10_init 1057 = .ok (.iastore, 1) := by decide +kernel
theorem dX10_init_1058 : decode cX10_init 1058 = .ok (.dup, 1) := by decide +kernel
theorem dX10_init_1059 : decode cX10_init 1059 = .ok (.bipush 86, 2) := by decide +kernel
theorem dX10_init_1061 : decode cX10_init 1061 = .ok (.bipush 32, 2) := by decide +kernel
theorem dX10_init_1063 : decode cX10_init 1063 = .ok (.iastore, 1) := by decide +kernel
theorem dX10_init_1064 : decode cX10_init 1064 = .ok (.dup, 1) := by decide +kernel
theorem dX10_init_1065 : decode cX10_init 1065 = .ok (.bipush 87, 2) := by decide +kernel
theorem dX10_init_1067 : decode cX10_init 1067 = .ok (.bipush 32, 2) := by decide +kernel
theorem dX10_init_1069 : decode cX10_init 1069 = .ok (.iastore, 1) := by decide +kernel
theorem dX10_init_1070 : decode cX10_init 1070 = .ok (.dup, 1) := by decide +kernel
theorem dX10_init_1071 : decode cX10_init 1071 = .ok (.bipush 88, 2) := by decide +kernel
theorem dX10_init_1073 : decode cX10_init 1073 = .ok (.bipush 110, 2) := by decide +kernel
theorem dX10_init_1075 : decode cX10_init 1075 = .ok (.iastore, 1) := by decide +kernel
theorem dX10_init_1076 : decode cX10_init 1076 = .ok (.dup, 1) := by decide +kernel
theorem dX10_init_1077 : decode cX10_init 1077 = .ok (.bipush 89, 2) := by decide +kernel
theorem dX10_init_1079 : decode cX10_init 1079 = .ok (.bipush 111, 2) := by decide +kernel
theorem dX10_init_1081 : decode cX10_init 1081 = .ok (.iastore, 1) := by decide +kernel
theorem dX10_init_1082 : decode cX10_init 1082 = .ok (.dup, 1) := by decide +kernel
theorem dX10_init_1083 : decode cX10_init 1083 = .ok (.bipush 90, 2) := by decide +kernel
theorem dX10_init_1085 : decode cX10_init 1085 = .ok (.bipush 116, 2) := by decide +kernel
theorem dX10_init_1087 : decode cX10_init 1087 = .ok (.iastore, 1) := by decide +kernel
theorem dX10_init_1088 : decode cX10_init 1088 = .ok (.dup, 1) := by decide +kernel
theorem dX10_init_1089 : decode cX10_init 1089 = .ok (.bipush 91, 2) := by decide +kernel
theorem dX10_init_1091 : decode cX10_init 1091 = .ok (.bipush 32, 2) := by decide +kernel
theorem dX10_init_1093 : decode cX10_init 1093 = .ok (.iastore, 1) := by decide +kernel
theorem dX10_init_1094 : decode cX10_init 1094 = .ok (.dup, 1) := by decide +kernel
theorem dX10_init_1095 : decode cX10_init 1095 = .ok (.bipush 92, 2) := by decide +kernel
theorem dX10_init_1097 : decode cX10_init 1097 = .ok (.bipush 32, 2) := by decide +kernel
theorem dX10_init_1099 : decode cX10_init 1099 = .ok (.iastore, 1) := by decide +kernel
theorem dX10_init_1100 : decode cX10_init 1100 = .ok (.dup, 1) := by decide +kernel
theorem dX10_init_1101 : decode cX10_init 1101 = .ok (.bipush 93, 2) := by decide +kernel
theorem dX10_init_1103 : decode cX10_init 1103 = .ok (.bipush 32, 2) := by decide +kernel
theorem dX10_init_1105 : decode cX10_init 1105 = .ok (.iastore, 1) := by decide +kernel
theorem dX10_init_1106 : decode cX10_init 1106 = .ok (.dup, 1) := by decide +kernel
theorem dX10_init_1107 : decode cX10_init 1107 = .ok (.bipush 94, 2) := by decide +kernel
theorem dX10_init_1109 : decode cX10_init 1109 = .ok (.bipush 32, 2) := by decide +kernel
theorem dX10_init_1111 : decode cX10_init 1111 = .ok (.iastore, 1) := by decide +kernel
theorem dX10_init_1112 : decode cX10_init 1112 = .ok (.dup, 1) := by decide +kernel
theorem dX10_init_1113 : decode cX10_init 1113 = .ok (.bipush 95, 2) := by decide +kernel
theorem dX10_init_1115 : decode cX10_init 1115 = .ok (.bipush 32, 2) := by decide +kernel
theorem dX10_init_1117 : decode cX10_init 1117 = .ok (.iastore, 1) := by decide +kernel
theorem dX10_init_1118 : decode cX10_init 1118 = .ok (.putfield 52, 3) := by decide +kernel
theorem dX10_init_1121 : decode cX10_init 1121 = .ok (.aload_n 0, 1) := by decide +kernel
theorem dX10_init_1122 : decode cX10_init 1122 = .ok (.sipush 200, 3) := by decide +kernel
theorem dX10_init_1125 : decode cX10_init 1125 = .ok (.newarray .int, 2) := by decide +kernel
theorem dX10_init_1127 : decode cX10_init 1127 = .ok (.putfield 55, 3) := by decide +kernel
theorem dX10_init_1130 : decode cX10_init 1130 = .ok (.aload_n 0, 1) := by decide +kernel
theorem dX10_init_1131 : decode cX10_init 1131 = .ok (.sipush 200, 3) := by decide +kernel
theorem dX10_init_1134 : decode cX10_init 1134 = .ok (.newarray .int, 2) := by decide +kernel
theorem dX10_init_1136 : decode cX10_init 1136 = .ok (.putfield 58, 3) := by decide +kernel
theorem dX10_init_1139 : decode cX10_init 1139 = .ok (.aload_n 0, 1) := by decide +kernel
theorem dX10_init_1140 : decode cX10_init 1140 = .ok (.bipush 6, 2) := by decide +kernel
theorem dX10_init_1142 : decode cX10_init 1142 = .ok (.newarray .int, 2) := by decide +kernel
theorem dX10_init_1144 : decode cX10_init 1144 = .ok (.putfield 61, 3) := by decide +kernel
theorem dX10_init_1147 : decode cX10_init 1147 = .ok (.aload_n 0, 1) := by decide +kernel
theorem dX10_init_1148 : decode cX10_init 1148 = .ok (.iconst 5, 1) := by decide +kernel
theorem dX10_init_1149 : decode cX10_init 1149 = .ok (.newarray .int, 2) := by decide +kernel
theorem dX10_init_1151 : decode cX10_init 1151 = .ok (.putfield 64, 3) := by decide +kernel
theorem dX10_init_1154 : decode cX10_init 1154 = .ok (.aload_n 0, 1) := by decide +kernel
theorem dX10_init_1155 : decode cX10_init 1155 = .ok (.iconst 5, 1) := by decide +kernel
theorem dX10_init_1156 : decode cX10_init 1156 = .ok (.newarray .int, 2) := by decide +kernel
theorem dX10_init_1158 : decode cX10_init 1158 = .ok (.putfield 67, 3) := by decide +kernel
theorem dX10_init_1161 : decode cX10_init 1161 = .ok (.aload_n 0, 1) := by decide +kernel
theorem dX10_init_1162 : decode cX10_init 1162 = .ok (.iconst 5, 1) := by decide +kernel
theorem dX10_init_1163 : decode cX10_init 1163 = .ok (.newarray .int, 2) := by decide +kernel
theorem dX10_init_1165 : decode cX10_init 1165 = .ok (.putfield 70, 3) := by decide +kernel
theorem dX10_init_1168 : decode cX10_init 1168 = .ok (.aload_n 0, 1) := by decide +kernel
theorem dX10_init_1169 : decode cX10_init 1169 = .ok (.iconst 5, 1) := by decide +kernel
theorem dX10_init_1170 : decode cX10_init 1170 = .ok (.newarray .int, 2) := by decide +kernel
theorem dX10_init_1172 : decode cX10_init 1172 = .ok (.putfield 73, 3) := by decide +kernel
theorem dX10_init_1175 : decode cX10_init 1175 = .ok (.aload_n 0, 1) := by decide +kernel
theorem dX10_init_1176 : decode cX10_init 1176 = .ok (.sipush 200, 3) := by decide +kernel
theorem dX10_init_1179 : decode cX10_init 1179 = .ok (.newarray .int, 2) := by decide +kernel
theorem dX10_init_1181 : decode cX10_init 1181 = .ok (.putfield 76, 3) := by decide +kernel
theorem dX10_init_1184 : decode cX10_init 1184 = .ok (.aload_n 0, 1) := by decide +kernel
theorem dX10_init_1185 : decode cX10_init 1185 = .ok (.iconst (-1), 1) := by decide +kernel
theorem dX10_init_1186 : decode cX10_init 1186 = .ok (.putfield 79, 3) := by decide +kernel
theorem dX10_init_1189 : decode cX10_init 1189 = .ok (.aload_n 0, 1) := by decide +kernel
theorem dX10_init_1190 : decode cX10_init 1190 = .ok (.iconst (-1), 1) := by decide +kernel
theorem dX10_init_1191 : decode cX10_init 1191 = .ok (.putfield 83, 3) := by decide +kernel
theorem dX10_init_1194 : decode cX10_init 1194 = .ok (.aload_n 0, 1) := by decide +kernel
theorem dX10_init_1195 : decode cX10_init 1195 = .ok (.bipush (-2), 2) := by decide +kernel
theorem dX10_init_1197 : decode cX10_init 1197 = .ok (.putfield 86, 3) := by decide +kernel
theorem dX10_init_1200 : decode cX10_init 1200 = .ok (.aload_n 0, 1) := by decide +kernel
theorem dX10_init_1201 : decode cX10_init 1201 = .ok (.iconst 5, 1) := by decide +kernel
theorem dX10_init_1202 : decode cX10_init 1202 = .ok (.newarray .int, 2) := by decide +kernel
theorem dX10_init_1204 : decode cX10_init 1204 = .ok (.putfield 89, 3) := by decide +kernel
theorem dX10_init_1207 : decode cX10_init 1207 = .ok (.aload_n 0, 1) := by decide +kernel
theorem dX10_init_1208 : decode cX10_init 1208 = .ok (.iconst 5, 1) := by decide +kernel
theorem dX10_init_1209 : decode cX10_init 1209 = .ok (.newarray .int, 2) := by decide +kernel
theorem dX10_init_1211 : decode cX10_init 1211 = .ok (.dup, 1) := by decide +kernel
theorem dX10_init_1212 : decode cX10_init 1212 = .ok (.iconst 0, 1) := by decide +kernel
theorem dX10_init_1213 : decode cX10_init 1213 = .ok (.iconst (-1), 1) := by decide +kernel
theorem dX10_init_1214 : decode cX10_init 1214 = .ok (.iastore, 1) := by decide +kernel
theorem dX10_init_1215 : decode cX10_init 1215 = .ok (.dup, 1) := by decide +kernel
theorem dX10_init_1216 : decode cX10_init 1216 = .ok (.iconst 1, 1) := by decide +kernel
theorem dX10_init_1217 : decode cX10_init 1217 = .ok (.iconst (-1), 1) := by decide +kernel
theorem dX10_init_1218 : decode cX10_init 1218 = .ok (.iastore, 1) := by decide +kernel
theorem dX10_init_1219 : decode cX10_init 1219 = .ok (.dup, 1) := by decide +kernel
theorem dX10_init_1220 : decode cX10_init 1220 = .ok (.iconst 2, 1) := by decide +kernel
theorem dX10_init_1221 : decode cX10_init 1221 = .ok (.iconst (-1), 1) := by decide +kernel
theorem dX10_init_1222 : decode cX10_init 1222 = .ok (.iastore, 1) := by decide +kernel
theorem dX10_init_1223 : decode cX10_init 1223 = .ok (.dup, 1) := by decide +kernel
theorem dX10_init_1224 : decode cX10_init 1224 = .ok (.iconst 3, 1) := by decide +kernel
theorem dX10_init_1225 : decode cX10_init 1225 = .ok (.iconst (-1), 1) := by decide +kernel
theorem dX10_init_1226 : decode cX10_init 1226 = .ok (.iastore, 1) := by decide +kernel
theorem dX10_init_1227 : decode cX10_init 1227 = .ok (.dup, 1) := by decide +kernel
theorem dX10_init_1228 : decode cX10_init 1228 = .ok (.iconst 4, 1) := by decide +kernel
theorem dX10_init_1229 : decode cX10_init 1229 = .ok (.iconst (-1), 1) := by decide +kernel
theorem dX10_init_1230 : decode cX10_init 1230 = .ok (.iastore, 1) := by decide +kernel
theorem dX10_init_1231 : decode cX10_init 1231 = .ok (.putfield 92, 3) := by decide +kernel
theorem dX10_init_1234 : decode cX10_init 1234 = .ok (.aload_n 0, 1) := by decide +kernel
theorem dX10_init_1235 : decode cX10_init 1235 = .ok (.iconst 5, 1) := by decide +kernel
theorem dX10_init_1236 : decode cX10_init 1236 = .ok (.newarray .int, 2) := by decide +kernel
theorem dX10_init_1238 : decode cX10_init 1238 = .ok (.putfield 95, 3) := by decide +kernel
theorem dX10_init_1241 : decode cX10_init 1241 = .ok (.iconst 0, 1) := by decide +kernel
theorem dX10_init_1242 : decode cX10_init 1242 = .ok (.istore_n 1, 1) := by decide +kernel
theorem dX10_init_1243 : decode cX10_init 1243 = .ok (.iload_n 1, 1) := by decide +kernel
theorem dX10_init_1244 : decode cX10_init 1244 = .ok (.bipush 70, 2) := by decide +kernel
theorem dX10_init_1246 : decode cX10_init 1246 = .ok (.if_icmp .ge 21, 3) := by decide +kernel
theorem dX10_init_1249 : decode cX10_init 1249 = .ok (.aload_n 0, 1) := by decide +kernel
theorem dX10_init_1250 : decode cX10_init 1250 = .ok (.getfield 28, 3) := by decide +kernel
theorem dX10_init_1253 : decode cX10_init 1253 = .ok (.iload_n 1, 1) := by decide +kernel
theorem dX10_init_1254 : decode cX10_init 1254 = .ok (.aload_n 0, 1) := by decide +kernel
theorem dX10_init_1255 : decode cX10_init 1255 = .ok (.getfield 49, 3) := by decide +kernel
theorem dX10_init_1258 : decode cX10_init 1258 = .ok (.iload_n 1, 1) := by decide +kernel
theorem dX10_init_1259 : decode cX10_init 1259 = .ok (.iaload, 1) := by decide +kernel
theorem dX10_init_1260 : decode cX10_init 1260 = .ok (.iastore, 1) := by decide +kernel
theorem dX10_init_1261 : decode cX10_init 1261 = .ok (.iinc 1 1, 3) := by decide +kernel
theorem dX10_init_1264 : decode cX10_init 1264 = .ok (.goto (-21), 3) := by decide +kernel
theorem dX10_init_1267 : decode cX10_init 1267 = .ok (.aload_n 0, 1) := by decide +kernel
theorem dX10_init_1268 : decode cX10_init 1268 = .ok (.bipush 70, 2) := by decide +kernel
theorem dX10_init_1270 : decode cX10_init 1270 = .ok (.putfield 98, 3) := by decide +kernel
theorem dX10_init_1273 : decode cX10_init 1273 = .ok (.aload_n 0, 1) := by decide +kernel
theorem dX10_init_1274 : decode cX10_init 1274 = .ok (.invokevirtual 101, 3) := by decide +kernel
theorem dX10_init_1277 : decode cX10_init 1277 = .ok (.pop, 1) := by decide +kernel
theorem dX10_init_1278 : decode cX10_init 1278 = .ok (.return_, 1) := by decide +kernel
theorem dX10_in_0 : decode cX10_in 0 = .ok (.iload_n 0, 1) := by decide +kernel
theorem dX10_in_1 : decode cX10_in 1 = .ok (.iload_n 1, 1) := by decide +kernel
theorem dX10_in_2 : decode cX10_in 2 = .ok (.if_icmp .lt 12, 3) := by decide +kernel
theorem dX10_in_5 : decode cX10_in 5 = .ok (.iload_n 0, 1) := by decide +kernel
theorem dX10_in_6 : decode cX10_in 6 = .ok (.iload_n 2, 1) := by decide +kernel
theorem dX10_in_7 : decode cX10_in 7 = .ok (.if_icmp .gt 7, 3) := by decide +kernel
theorem dX10_in_10 : decode cX10_in 10 = .ok (.iconst 1, 1) := by decide +kernel
theorem dX10_in_11 : decode cX10_in 11 = .ok (.goto 4, 3) := by decide +kernel
theorem dX10_in_14 : decode cX10_in 14 = .ok (.iconst 0, 1) := by decide +kernel
theorem dX10_in_15 : decode cX10_in 15 = .ok (.ireturn, 1) := by decide +kernel
theorem dX10_within_0 : decode cX10_within 0 = .ok (.iload_n 0, 1) := by decide +kernel
theorem dX10_within_1 : decode cX10_within 1 = .ok (.iload_n 1, 1) := by decide +kernel
theorem dX10_within_2 : decode cX10_within 2 = .ok (.if_icmp .ge 7, 3) := by decide +kernel
theorem dX10_within_5 : decode cX10_within 5 = .ok (.iload_n 1, 1) := by decide +kernel
theorem dX10_within_6 : decode cX10_within 6 = .ok (.goto 13, 3) := by decide +kernel
theorem dX10_within_9 : decode cX10_within 9 = .ok (.iload_n 0, 1) := by decide +kernel
theorem dX10_within_10 : decode cX10_within 10 = .ok (.iload_n 2, 1) := by decide +kernel
theorem dX10_within_11 : decode cX10_within 11 = .ok (.if_icmp .le 7, 3) := by decide +kernel
theorem dX10_within_14 : decode cX10_within 14 = .ok (.iload_n 2, 1) := by decide +kernel
theorem dX10_within_15 : decode cX10_within 15 = .ok (.goto 4, 3) := by decide +kernel
theorem dX10_within_18 : decode cX10_within 18 = .ok (.iload_n 0, 1) := by decide +kernel
theorem dX10_within_19 : decode cX10_within 19 = .ok (.ireturn, 1) := by decide +kernel
theorem dX10_isFace_0 : decode cX10_isFace 0 = .ok (.iload_n 1, 1) := by decide +kernel
theorem dX10_isFace_1 : decode cX10_isFace 1 = .ok (.iconst 0, 1) := by decide +kernel
theorem dX10_isFace_2 : decode cX10_isFace 2 = .ok (.aload_n 0, 1) := by decide +kernel
theorem dX10_isFace_3 : decode cX10_isFace 3 = .ok (.getfield 105, 3) := by decide +kernel
theorem dX10_isFace_6 : decode cX10_isFace 6 = .ok (.iconst 1, 1) := by decide +kernel
theorem dX10_isFace_7 : decode cX10_isFace 7 = .ok (.isub, 1) := by decide +kernel
theorem dX10_isFace_8 : decode cX10_isFace 8 = .ok (.invokestatic 108, 3) := by decide +kernel
theorem dX10_isFace_11 : decode cX10_isFace 11 = .ok (.ireturn, 1) := by decide +kernel
theorem dX10_isSeat_0 : decode cX10_isSeat 0 = .ok (.iload_n 0, 1) := by decide +kernel
theorem dX10_isSeat_1 : decode cX10_isSeat 1 = .ok (.iconst 0, 1) := by decide +kernel
theorem dX10_isSeat_2 : decode cX10_isSeat 2 = .ok (.bipush 7, 2) := by decide +kernel
theorem dX10_isSeat_4 : decode cX10_isSeat 4 = .ok (.invokestatic 108, 3) := by decide +kernel
theorem dX10_isSeat_7 : decode cX10_isSeat 7 = .ok (.ireturn, 1) := by decide +kernel
theorem dX10_isMuch_0 : decode cX10_isMuch 0 = .ok (.iload_n 0, 1) := by decide +kernel
theorem dX10_isMuch_1 : decode cX10_isMuch 1 = .ok (.iconst 0, 1) := by decide +kernel
theorem dX10_isMuch_2 : decode cX10_isMuch 2 = .ok (.sipush 400, 3) := by decide +kernel
theorem dX10_isMuch_5 : decode cX10_isMuch 5 = .ok (.invokestatic 108, 3) := by decide +kernel
theorem dX10_isMuch_8 : decode cX10_isMuch 8 = .ok (.ireturn, 1) := by decide +kernel
theorem dX10_count_0 : decode cX10_count 0 = .ok (.iload_n 1, 1) := by decide +kernel
theorem dX10_count_1 : decode cX10_count 1 = .ok (.tableswitch 60 0 4 #[35, 40, 45, 50, 55], 35) := by decide +kernel
theorem dX10_count_36 : decode cX10_count 36 = .ok (.aload_n 0, 1) := by decide +kernel
theorem dX10_count_37 : decode cX10_count 37 = .ok (.getfield 105, 3) := by decide +kernel
theorem dX10_count_40 : decode cX10_count 40 = .ok (.ireturn, 1) := by decide +kernel
theorem dX10_count_41 : decode cX10_count 41 = .ok (.aload_n 0, 1) := by decide +kernel
theorem dX10_count_42 : decode cX10_count 42 = .ok (.getfield 112, 3) := by decide +kernel
theorem dX10_count_45 : decode cX10_count 45 = .ok (.ireturn, 1) := by decide +kernel
theorem dX10_count_46 : decode cX10_count 46 = .ok (.aload_n 0, 1) := by decide +kernel
theorem dX10_count_47 : decode cX10_count 47 = .ok (.getfield 115, 3) := by decide +kernel
theorem dX10_count_50 : decode cX10_count 50 = .ok (.ireturn, 1) := by decide +kernel
theorem dX10_count_51 : decode cX10_count 51 = .ok (.aload_n 0, 1) := by decide +kernel
theorem dX10_count_52 : decode cX10_count 52 = .ok (.getfield 118, 3) := by decide +kernel
theorem dX10_count_55 : decode cX10_count 55 = .ok (.ireturn, 1) := by decide +kernel
theorem dX10_count_56 : decode cX10_count 56 = .ok (.aload_n 0, 1) := by decide +kernel
theorem dX10_count_57 : decode cX10_count 57 = .ok (.getfield 98, 3) := by decide +kernel
theorem dX10_count_60 : decode cX10_count 60 = .ok (.ireturn, 1) := by decide +kernel
theorem dX10_count_61 : decode cX10_count 61 = .ok (.bipush (-2), 2) := by decide +kernel
theorem dX10_count_63 : decode cX10_count 63 = .ok (.ireturn, 1) := by decide +kernel
theorem dX10_isByte_0 : decode cX10_isByte 0 = .ok (.iload_n 0, 1) := by decide +kernel
theorem dX10_isByte_1 : decode cX10_isByte 1 = .ok (.iconst 0, 1) := by decide +kernel
theorem dX10_isByte_2 : decode cX10_isByte 2 = .ok (.sipush 255, 3) := by decide +kernel
theorem dX10_isByte_5 : decode cX10_isByte 5 = .ok (.invokestatic 108, 3) := by decide +kernel
theorem dX10_isByte_8 : decode cX10_isByte 8 = .ok (.ireturn, 1) := by decide +kernel
theorem dX10_feed_0 : decode cX10_feed 0 = .ok (.iload_n 1, 1) := by decide +kernel
theorem dX10_feed_1 : decode cX10_feed 1 = .ok (.iconst 1, 1) := by decide +kernel
theorem dX10_feed_2 : decode cX10_feed 2 = .ok (.iconst 5, 1) := by decide +kernel
theorem dX10_feed_3 : decode cX10_feed 3 = .ok (.invokestatic 108, 3) := by decide +kernel
theorem dX10_feed_6 : decode cX10_feed 6 = .ok (.ifCond .eq 41, 3) := by decide +kernel
theorem dX10_feed_9 : decode cX10_feed 9 = .ok (.iload_n 2, 1) := by decide +kernel
theorem dX10_feed_10 : decode cX10_feed 10 = .ok (.invokestatic 121, 3) := by decide +kernel
theorem dX10_feed_13 : decode cX10_feed 13 = .ok (.ifCond .eq 34, 3) := by decide +kernel
theorem dX10_feed_16 : decode cX10_feed 16 = .ok (.iload_n 3, 1) := by decide +kernel
theorem dX10_feed_17 : decode cX10_feed 17 = .ok (.invokestatic 121, 3) := by decide +kernel
theorem dX10_feed_20 : decode cX10_feed 20 = .ok (.ifCond .eq 27, 3) := by decide +kernel
theorem dX10_feed_23 : decode cX10_feed 23 = .ok (.iload 4, 2) := by decide +kernel
theorem dX10_feed_25 : decode cX10_feed 25 = .ok (.invokestatic 121, 3) := by decide +kernel
theorem dX10_feed_28 : decode cX10_feed 28 = .ok (.ifCond .eq 19, 3) := by decide +kernel
theorem dX10_feed_31 : decode cX10_feed 31 = .ok (.iload 5, 2) := by decide +kernel
theorem dX10_feed_33 : decode cX10_feed 33 = .ok (.invokestatic 121, 3) := by decide +kernel
theorem dX10_feed_36 : decode cX10_feed 36 = .ok (.ifCond .eq 11, 3) := by decide +kernel
theorem dX10_feed_39 : decode cX10_feed 39 = .ok (.iload 6, 2) := by decide +kernel
theorem dX10_feed_41 : decode cX10_feed 41 = .ok (.invokestatic 121, 3) := by decide +kernel
theorem dX10_feed_44 : decode cX10_feed 44 = .ok (.ifCond .ne 6, 3) := by decide +kernel
theorem dX10_feed_47 : decode cX10_feed 47 = .ok (.bipush (-2), 2) := by decide +kernel
theorem dX10_feed_49 : decode cX10_feed 49 = .ok (.ireturn, 1) := by decide +kernel
theorem dX10_feed_50 : decode cX10_feed 50 = .ok (.aload_n 0, 1) := by decide +kernel
theorem dX10_feed_51 : decode cX10_feed 51 = .ok (.getfield 98, 3) := by decide +kernel
theorem dX10_feed_54 : decode cX10_feed 54 = .ok (.iload_n 1, 1) := by decide +kernel
theorem dX10_feed_55 : decode cX10_feed 55 = .ok (.iadd, 1) := by decide +kernel
theorem dX10_feed_56 : decode cX10_feed 56 = .ok (.sipush 160, 3) := by decide +kernel
theorem dX10_feed_59 : decode cX10_feed 59 = .ok (.if_icmp .le 6, 3) := by decide +kernel
theorem dX10_feed_62 : decode cX10_feed 62 = .ok (.bipush (-4), 2) := by decide +kernel
theorem dX10_feed_64 : decode cX10_feed 64 = .ok (.ireturn, 1) := by decide +kernel
theorem dX10_feed_65 : decode cX10_feed 65 = .ok (.iconst 0, 1) := by decide +kernel
theorem dX10_feed_66 : decode cX10_feed 66 = .ok (.istore 7, 2) := by decide +kernel
theorem dX10_feed_68 : decode cX10_feed 68 = .ok (.iload 7, 2) := by decide +kernel
theorem dX10_feed_70 : decode cX10_feed 70 = .ok (.iload_n 1, 1) := by decide +kernel
theorem dX10_feed_71 : decode cX10_feed 71 = .ok (.if_icmp .ge 71, 3) := by decide +kernel
theorem dX10_feed_74 : decode cX10_feed 74 = .ok (.aload_n 0, 1) := by decide +kernel
theorem dX10_feed_75 : decode cX10_feed 75 = .ok (.getfield 28, 3) := by decide +kernel
theorem dX10_feed_78 : decode cX10_feed 78 = .ok (.aload_n 0, 1) := by decide +kernel
theorem dX10_feed_79 : decode cX10_feed 79 = .ok (.getfield 98, 3) := by decide +kernel
theorem dX10_feed_82 : decode cX10_feed 82 = .ok (.iload 7, 2) := by decide +kernel
theorem dX10_feed_84 : decode cX10_feed 84 = .ok (.ifCond .ne 7, 3) := by decide +kernel
theorem dX10_feed_87 : decode cX10_feed 87 = .ok (.iload_n 2, 1) := by decide +kernel
theorem dX10_feed_88 : decode cX10_feed 88 = .ok (.goto 37, 3) := by decide +kernel
theorem dX10_feed_91 : decode cX10_feed 91 = .ok (.iload 7, 2) := by decide +kernel
theorem dX10_feed_93 : decode cX10_feed 93 = .ok (.iconst 1, 1) := by decide +kernel
theorem dX10_feed_94 : decode cX10_feed 94 = .ok (.if_icmp .ne 7, 3) := by decide +kernel
theorem dX10_feed_97 : decode cX10_feed 97 = .ok (.iload_n 3, 1) := by decide +kernel
theorem dX10_feed_98 : decode cX10_feed 98 = .ok (.goto 27, 3) := by decide +kernel
theorem dX10_feed_101 : decode cX10_feed 101 = .ok (.iload 7, 2) := by decide +kernel
theorem dX10_feed_103 : decode cX10_feed 103 = .ok (.iconst 2, 1) := by decide +kernel
theorem dX10_feed_104 : decode cX10_feed 104 = .ok (.if_icmp .ne 8, 3) := by decide +kernel
theorem dX10_feed_107 : decode cX10_feed 107 = .ok (.iload 4, 2) := by decide +kernel
theorem dX10_feed_109 : decode cX10_feed 109 = .ok (.goto 16, 3) := by decide +kernel
theorem dX10_feed_112 : decode cX10_feed 112 = .ok (.iload 7, 2) := by decide +kernel
theorem dX10_feed_114 : decode cX10_feed 114 = .ok (.iconst 3, 1) := by decide +kernel
theorem dX10_feed_115 : decode cX10_feed 115 = .ok (.if_icmp .ne 8, 3) := by decide +kernel
theorem dX10_feed_118 : decode cX10_feed 118 = .ok (.iload 5, 2) := by decide +kernel
theorem dX10_feed_120 : decode cX10_feed 120 = .ok (.goto 5, 3) := by decide +kernel
theorem dX10_feed_123 : decode cX10_feed 123 = .ok (.iload 6, 2) := by decide +kernel
theorem dX10_feed_125 : decode cX10_feed 125 = .ok (.iastore, 1) := by decide +kernel
theorem dX10_feed_126 : decode cX10_feed 126 = .ok (.aload_n 0, 1) := by decide +kernel
theorem dX10_feed_127 : decode cX10_feed 127 = .ok (.dup, 1) := by decide +kernel
theorem dX10_feed_128 : decode cX10_feed 128 = .ok (.getfield 98, 3) := by decide +kernel
theorem dX10_feed_131 : decode cX10_feed 131 = .ok (.iconst 1, 1) := by decide +kernel
theorem dX10_feed_132 : decode cX10_feed 132 = .ok (.iadd, 1) := by decide +kernel
theorem dX10_feed_133 : decode cX10_feed 133 = .ok (.putfield 98, 3) := by decide +kernel
theorem dX10_feed_136 : decode cX10_feed 136 = .ok (.iinc 7 1, 3) := by decide +kernel
theorem dX10_feed_139 : decode cX10_feed 139 = .ok (.goto (-71), 3) := by decide +kernel
theorem dX10_feed_142 : decode cX10_feed 142 = .ok (.aload_n 0, 1) := by decide +kernel
theorem dX10_feed_143 : decode cX10_feed 143 = .ok (.getfield 98, 3) := by decide +kernel
theorem dX10_feed_146 : decode cX10_feed 146 = .ok (.ireturn, 1) := by decide +kernel
theorem dX10_wordFrom_0 : decode cX10_wordFrom 0 = .ok (.iconst 0, 1) := by decide +kernel
theorem dX10_wordFrom_1 : decode cX10_wordFrom 1 = .ok (.istore_n 3, 1) := by decide +kernel
theorem dX10_wordFrom_2 : decode cX10_wordFrom 2 = .ok (.iload_n 3, 1) := by decide +kernel
theorem dX10_wordFrom_3 : decode cX10_wordFrom 3 = .ok (.bipush 12, 2) := by decide +kernel
theorem dX10_wordFrom_5 : decode cX10_wordFrom 5 = .ok (.if_icmp .ge 96, 3) := by decide +kernel
theorem dX10_wordFrom_8 : decode cX10_wordFrom 8 = .ok (.iload_n 2, 1) := by decide +kernel
theorem dX10_wordFrom_9 : decode cX10_wordFrom 9 = .ok (.iload_n 1, 1) := by decide +kernel
theorem dX10_wordFrom_10 : decode cX10_wordFrom 10 = .ok (.isub, 1) := by decide +kernel
theorem dX10_wordFrom_11 : decode cX10_wordFrom 11 = .ok (.bipush 8, 2) := by decide +kernel
theorem dX10_wordFrom_13 : decode cX10_wordFrom 13 = .ok (.if_icmp .gt 7, 3) := by decide +kernel
theorem dX10_wordFrom_16 : decode cX10_wordFrom 16 = .ok (.iconst 1, 1) := by decide +kernel
theorem dX10_wordFrom_17 : decode cX10_wordFrom 17 = .ok (.goto 4, 3) := by decide +kernel
theorem dX10_wordFrom_20 : decode cX10_wordFrom 20 = .ok (.iconst 0, 1) := by decide +kernel
theorem dX10_wordFrom_21 : decode cX10_wordFrom 21 = .ok (.istore 4, 2) := by decide +kernel
theorem dX10_wordFrom_23 : decode cX10_wordFrom 23 = .ok (.iconst 0, 1) := by decide +kernel
theorem dX10_wordFrom_24 : decode cX10_wordFrom 24 = .ok (.istore 5, 2) := by decide +kernel
theorem dX10_wordFrom_26 : decode cX10_wordFrom 26 = .ok (.iload 5, 2) := by decide +kernel
theorem dX10_wordFrom_28 : decode cX10_wordFrom 28 = .ok (.bipush 8, 2) := by decide +kernel
theorem dX10_wordFrom_30 : decode cX10_wordFrom 30 = .ok (.if_icmp .ge 58, 3) := by decide +kernel
theorem dX10_wordFrom_33 : decode cX10_wordFrom 33 = .ok (.iload 4, 2) := by decide +kernel
theorem dX10_wordFrom_35 : decode cX10_wordFrom 35 = .ok (.ifCond .eq 53, 3) := by decide +kernel
theorem dX10_wordFrom_38 : decode cX10_wordFrom 38 = .ok (.aload_n 0, 1) := by decide +kernel
theorem dX10_wordFrom_39 : decode cX10_wordFrom 39 = .ok (.getfield 52, 3) := by decide +kernel
theorem dX10_wordFrom_42 : decode cX10_wordFrom 42 = .ok (.bipush 8, 2) := by decide +kernel
theorem dX10_wordFrom_44 : decode cX10_wordFrom 44 = .ok (.iload_n 3, 1) := by decide +kernel
theorem dX10_wordFrom_45 : decode cX10_wordFrom 45 = .ok (.imul, 1) := by decide +kernel
theorem dX10_wordFrom_46 : decode cX10_wordFrom 46 = .ok (.iload 5, 2) := by decide +kernel
theorem dX10_wordFrom_48 : decode cX10_wordFrom 48 = .ok (.iadd, 1) := by decide +kernel
theorem dX10_wordFrom_49 : decode cX10_wordFrom 49 = .ok (.iaload, 1) := by decide +kernel
theorem dX10_wordFrom_50 : decode cX10_wordFrom 50 = .ok (.iload_n 1, 1) := by decide +kernel
theorem dX10_wordFrom_51 : decode cX10_wordFrom 51 = .ok (.iload 5, 2) := by decide +kernel
theorem dX10_wordFrom_53 : decode cX10_wordFrom 53 = .ok (.iadd, 1) := by decide +kernel
theorem dX10_wordFrom_54 : decode cX10_wordFrom 54 = .ok (.iload_n 2, 1) := by decide +kernel
theorem dX10_wordFrom_55 : decode cX10_wordFrom 55 = .ok (.if_icmp .ge 15, 3) := by decide +kernel
theorem dX10_wordFrom_58 : decode cX10_wordFrom 58 = .ok (.aload_n 0, 1) := by decide +kernel
theorem dX10_wordFrom_59 : decode cX10_wordFrom 59 = .ok (.getfield 28, 3) := by decide +kernel
theorem dX10_wordFrom_62 : decode cX10_wordFrom 62 = .ok (.iload_n 1, 1) := by decide +kernel
theorem dX10_wordFrom_63 : decode cX10_wordFrom 63 = .ok (.iload 5, 2) := by decide +kernel
theorem dX10_wordFrom_65 : decode cX10_wordFrom 65 = .ok (.iadd, 1) := by decide +kernel
theorem dX10_wordFrom_66 : decode cX10_wordFrom 66 = .ok (.iaload, 1) := by decide +kernel
theorem dX10_wordFrom_67 : decode cX10_wordFrom 67 = .ok (.goto 5, 3) := by decide +kernel
theorem dX10_wordFrom_70 : decode cX10_wordFrom 70 = .ok (.bipush 32, 2) := by decide +kernel
theorem dX10_wordFrom_72 : decode cX10_wordFrom 72 = .ok (.if_icmp .ne 7, 3) := by decide +kernel
theorem dX10_wordFrom_75 : decode cX10_wordFrom 75 = .ok (.iconst 1, 1) := by decide +kernel
theorem dX10_wordFrom_76 : decode cX10_wordFrom 76 = .ok (.goto 4, 3) := by decide +kernel
theorem dX10_wordFrom_79 : decode cX10_wordFrom 79 = .ok (.iconst 0, 1) := by decide +kernel
theorem dX10_wordFrom_80 : decode cX10_wordFrom 80 = .ok (.istore 4, 2) := by decide +kernel
theorem dX10_wordFrom_82 : decode cX10_wordFrom 82 = .ok (.iinc 5 1, 3) := by decide +kernel
theorem dX10_wordFrom_85 : decode cX10_wordFrom 85 = .ok (.goto (-59), 3) := by decide +kernel
theorem dX10_wordFrom_88 : decode cX10_wordFrom 88 = .ok (.iload 4, 2) := by decide +kernel
theorem dX10_wordFrom_90 : decode cX10_wordFrom 90 = .ok (.ifCond .eq 5, 3) := by decide +kernel
theorem dX10_wordFrom_93 : decode cX10_wordFrom 93 = .ok (.iload_n 3, 1) := by decide +kernel
theorem dX10_wordFrom_94 : decode cX10_wordFrom 94 = .ok (.ireturn, 1) := by decide +kernel
theorem dX10_wordFrom_95 : decode cX10_wordFrom 95 = .ok (.iinc 3 1, 3) := by decide +kernel
theorem dX10_wordFrom_98 : decode cX10_wordFrom 98 = .ok (.goto (-96), 3) := by decide +kernel
theorem dX10_wordFrom_101 : decode cX10_wordFrom 101 = .ok (.bipush 12, 2) := by decide +kernel
theorem dX10_wordFrom_103 : decode cX10_wordFrom 103 = .ok (.ireturn, 1) := by decide +kernel
theorem dX10_next_0 : decode cX10_next 0 = .ok (.aload_n 0, 1) := by decide +kernel
theorem dX10_next_1 : decode cX10_next 1 = .ok (.getfield 125, 3) := by decide +kernel
theorem dX10_next_4 : decode cX10_next 4 = .ok (.aload_n 0, 1) := by decide +kernel
theorem dX10_next_5 : decode cX10_next 5 = .ok (.getfield 98, 3) := by decide +kernel
theorem dX10_next_8 : decode cX10_next 8 = .ok (.if_icmp .ge 44, 3) := by decide +kernel
theorem dX10_next_11 : decode cX10_next 11 = .ok (.aload_n 0, 1) := by decide +kernel
theorem dX10_next_12 : decode cX10_next 12 = .ok (.getfield 28, 3) := by decide +kernel
theorem dX10_next_15 : decode cX10_next 15 = .ok (.aload_n 0, 1) := by decide +kernel
theorem dX10_next_16 : decode cX10_next 16 = .ok (.getfield 125, 3) := by decide +kernel
theorem dX10_next_19 : decode cX10_next 19 = .ok (.iaload, 1) := by decide +kernel
theorem dX10_next_20 : decode cX10_next 20 = .ok (.bipush 32, 2) := by decide +kernel
theorem dX10_next_22 : decode cX10_next 22 = .ok (.if_icmp .eq 17, 3) := by decide +kernel
theorem dX10_next_25 : decode cX10_next 25 = .ok (.aload_n 0, 1) := by decide +kernel
theorem dX10_next_26 : decode cX10_next 26 = .ok (.getfield 28, 3) := by decide +kernel
theorem dX10_next_29 : decode cX10_next 29 = .ok (.aload_n 0, 1) := by decide +kernel
theorem dX10_next_30 : decode cX10_next 30 = .ok (.getfield 125, 3) := by decide +kernel
theorem dX10_next_33 : decode cX10_next 33 = .ok (.iaload, 1) := by decide +kernel
theorem dX10_next_34 : decode cX10_next 34 = .ok (.bipush 10, 2) := by decide +kernel
theorem dX10_next_36 : decode cX10_next 36 = .ok (.if_icmp .ne 16, 3) := by decide +kernel
theorem dX10_next_39 : decode cX10_next 39 = .ok (.aload_n 0, 1) := by decide +kernel
theorem dX10_next_40 : decode cX10_next 40 = .ok (.dup, 1) := by decide +kernel
theorem dX10_next_41 : decode cX10_next 41 = .ok (.getfield 125, 3) := by decide +kernel
theorem dX10_next_44 : decode cX10_next 44 = .ok (.iconst 1, 1) := by decide +kernel
theorem dX10_next_45 : decode cX10_next 45 = .ok (.iadd, 1) := by decide +kernel
theorem dX10_next_46 : decode cX10_next 46 = .ok (.putfield 125, 3) := by decide +kernel
theorem dX10_next_49 : decode cX10_next 49 = .ok (.goto (-49), 3) := by decide +kernel
theorem dX10_next_52 : decode cX10_next 52 = .ok (.aload_n 0, 1) := by decide +kernel
theorem dX10_next_53 : decode cX10_next 53 = .ok (.aload_n 0, 1) := by decide +kernel
theorem dX10_next_54 : decode cX10_next 54 = .ok (.getfield 125, 3) := by decide +kernel
theorem dX10_next_57 : decode cX10_next 57 = .ok (.putfield 128, 3) := by decide +kernel
theorem dX10_next_60 : decode cX10_next 60 = .ok (.aload_n 0, 1) := by decide +kernel
theorem dX10_next_61 : decode cX10_next 61 = .ok (.iconst 0, 1) := by decide +kernel
theorem dX10_next_62 : decode cX10_next 62 = .ok (.putfield 131, 3) := by decide +kernel
theorem dX10_next_65 : decode cX10_next 65 = .ok (.aload_n 0, 1) := by decide +kernel
theorem dX10_next_66 : decode cX10_next 66 = .ok (.iconst 0, 1) := by decide +kernel
theorem dX10_next_67 : decode cX10_next 67 = .ok (.putfield 134, 3) := by decide +kernel
theorem dX10_next_70 : decode cX10_next 70 = .ok (.aload_n 0, 1) := by decide +kernel
theorem dX10_next_71 : decode cX10_next 71 = .ok (.getfield 125, 3) := by decide +kernel
theorem dX10_next_74 : decode cX10_next 74 = .ok (.aload_n 0, 1) := by decide +kernel
theorem dX10_next_75 : decode cX10_next 75 = .ok (.getfield 98, 3) := by decide +kernel
theorem dX10_next_78 : decode cX10_next 78 = .ok (.if_icmp .ne 4, 3) := by decide +kernel
theorem dX10_next_81 : decode cX10_next 81 = .ok (.return_, 1) := by decide +kernel
theorem dX10_next_82 : decode cX10_next 82 = .ok (.aload_n 0, 1) := by decide +kernel
theorem dX10_next_83 : decode cX10_next 83 = .ok (.getfield 28, 3) := by decide +kernel
theorem dX10_next_86 : decode cX10_next 86 = .ok (.aload_n 0, 1) := by decide +kernel
theorem dX10_next_87 : decode cX10_next 87 = .ok (.getfield 125, 3) := by decide +kernel
theorem dX10_next_90 : decode cX10_next 90 = .ok (.iaload, 1) := by decide +kernel
theorem dX10_next_91 : decode cX10_next 91 = .ok (.istore_n 1, 1) := by decide +kernel
theorem dX10_next_92 : decode cX10_next 92 = .ok (.iload_n 1, 1) := by decide +kernel
theorem dX10_next_93 : decode cX10_next 93 = .ok (.bipush 97, 2) := by decide +kernel
theorem dX10_next_95 : decode cX10_next 95 = .ok (.bipush 122, 2) := by decide +kernel
theorem dX10_next_97 : decode cX10_next 97 = .ok (.invokestatic 108, 3) := by decide +kernel
theorem dX10_next_100 : decode cX10_next 100 = .ok (.ifCond .eq 117, 3) := by decide +kernel
theorem dX10_next_103 : decode cX10_next 103 = .ok (.aload_n 0, 1) := by decide +kernel
theorem dX10_next_104 : decode cX10_next 104 = .ok (.getfield 125, 3) := by decide +kernel
theorem dX10_next_107 : decode cX10_next 107 = .ok (.aload_n 0, 1) := by decide +kernel
theorem dX10_next_108 : decode cX10_next 108 = .ok (.getfield 98, 3) := by decide +kernel
theorem dX10_next_111 : decode cX10_next 111 = .ok (.if_icmp .ge 35, 3) := by decide +kernel
theorem dX10_next_114 : decode cX10_next 114 = .ok (.aload_n 0, 1) := by decide +kernel
theorem dX10_next_115 : decode cX10_next 115 = .ok (.getfield 28, 3) := by decide +kernel
theorem dX10_next_118 : decode cX10_next 118 = .ok (.aload_n 0, 1) := by decide +kernel
theorem dX10_next_119 : decode cX10_next 119 = .ok (.getfield 125, 3) := by decide +kernel
theorem dX10_next_122 : decode cX10_next 122 = .ok (.iaload, 1) := by decide +kernel
theorem dX10_next_123 : decode cX10_next 123 = .ok (.bipush 97, 2) := by decide +kernel
theorem dX10_next_125 : decode cX10_next 125 = .ok (.bipush 122, 2) := by decide +kernel
theorem dX10_next_127 : decode cX10_next 127 = .ok (.invokestatic 108, 3) := by decide +kernel
theorem dX10_next_130 : decode cX10_next 130 = .ok (.ifCond .eq 16, 3) := by decide +kernel
theorem dX10_next_133 : decode cX10_next 133 = .ok (.aload_n 0, 1) := by decide +kernel
theorem dX10_next_134 : decode cX10_next 134 = .ok (.dup, 1) := by decide +kernel
theorem dX10_next_135 : decode cX10_next 135 = .ok (.getfield 125, 3) := by decide +kernel
theorem dX10_next_138 : decode cX10_next 138 = .ok (.iconst 1, 1) := by decide +kernel
theorem dX10_next_139 : decode cX10_next 139 = .ok (.iadd, 1) := by decide +kernel
theorem dX10_next_140 : decode cX10_next 140 = .ok (.putfield 125, 3) := by decide +kernel
theorem dX10_next_143 : decode cX10_next 143 = .ok (.goto (-40), 3) := by decide +kernel
theorem dX10_next_146 : decode cX10_next 146 = .ok (.aload_n 0, 1) := by decide +kernel
theorem dX10_next_147 : decode cX10_next 147 = .ok (.aload_n 0, 1) := by decide +kernel
theorem dX10_next_148 : decode cX10_next 148 = .ok (.getfield 128, 3) := by decide +kernel
theorem dX10_next_151 : decode cX10_next 151 = .ok (.aload_n 0, 1) := by decide +kernel
theorem dX10_next_152 : decode cX10_next 152 = .ok (.getfield 125, 3) := by decide +kernel
theorem dX10_next_155 : decode cX10_next 155 = .ok (.invokevirtual 137, 3) := by decide +kernel
theorem dX10_next_158 : decode cX10_next 158 = .ok (.istore_n 2, 1) := by decide +kernel
theorem dX10_next_159 : decode cX10_next 159 = .ok (.aload_n 0, 1) := by decide +kernel
theorem dX10_next_160 : decode cX10_next 160 = .ok (.iload_n 2, 1) := by decide +kernel
theorem dX10_next_161 : decode cX10_next 161 = .ok (.iconst 3, 1) := by decide +kernel
theorem dX10_next_162 : decode cX10_next 162 = .ok (.if_icmp .ge 7, 3) := by decide +kernel
theorem dX10_next_165 : decode cX10_next 165 = .ok (.iconst 3, 1) := by decide +kernel
theorem dX10_next_166 : decode cX10_next 166 = .ok (.goto 29, 3) := by decide +kernel
theorem dX10_next_169 : decode cX10_next 169 = .ok (.iload_n 2, 1) := by decide +kernel
theorem dX10_next_170 : decode cX10_next 170 = .ok (.bipush 9, 2) := by decide +kernel
theorem dX10_next_172 : decode cX10_next 172 = .ok (.if_icmp .ge 7, 3) := by decide +kernel
theorem dX10_next_175 : decode cX10_next 175 = .ok (.iconst 2, 1) := by decide +kernel
theorem dX10_next_176 : decode cX10_next 176 = .ok (.goto 19, 3) := by decide +kernel
theorem dX10_next_179 : decode cX10_next 179 = .ok (.iload_n 2, 1) := by decide +kernel
theorem dX10_next_180 : decode cX10_next 180 = .ok (.bipush 12, 2) := by decide +kernel
theorem dX10_next_182 : decode cX10_next 182 = .ok (.if_icmp .ne 7, 3) := by decide +kernel
theorem dX10_next_185 : decode cX10_next 185 = .ok (.iconst (-1), 1) := by decide +kernel
theorem dX10_next_186 : decode cX10_next 186 = .ok (.goto 9, 3) := by decide +kernel
theorem dX10_next_189 : decode cX10_next 189 = .ok (.iconst 4, 1) := by decide +kernel
theorem dX10_next_190 : decode cX10_next 190 = .ok (.iload_n 2, 1) := by decide +kernel
theorem dX10_next_191 : decode cX10_next 191 = .ok (.iadd, 1) := by decide +kernel
theorem dX10_next_192 : decode cX10_next 192 = .ok (.bipush 9, 2) := by decide +kernel
theorem dX10_next_194 : decode cX10_next 194 = .ok (.isub, 1) := by decide +kernel
theorem dX10_next_195 : decode cX10_next 195 = .ok (.putfield 131, 3) := by decide +kernel
theorem dX10_next_198 : decode cX10_next 198 = .ok (.aload_n 0, 1) := by decide +kernel
theorem dX10_next_199 : decode cX10_next 199 = .ok (.iload_n 2, 1) := by decide +kernel
theorem dX10_next_200 : decode cX10_next 200 = .ok (.iconst 3, 1) := by decide +kernel
theorem dX10_next_201 : decode cX10_next 201 = .ok (.if_icmp .ge 7, 3) := by decide +kernel
theorem dX10_next_204 : decode cX10_next 204 = .ok (.iload_n 2, 1) := by decide +kernel
theorem dX10_next_205 : decode cX10_next 205 = .ok (.goto 6, 3) := by decide +kernel
theorem dX10_next_208 : decode cX10_next 208 = .ok (.iload_n 2, 1) := by decide +kernel
theorem dX10_next_209 : decode cX10_next 209 = .ok (.iconst 3, 1) := by decide +kernel
theorem dX10_next_210 : decode cX10_next 210 = .ok (.isub, 1) := by decide +kernel
theorem dX10_next_211 : decode cX10_next 211 = .ok (.putfield 134, 3) := by decide +kernel
theorem dX10_next_214 : decode cX10_next 214 = .ok (.goto 189, 3) := by decide +kernel
theorem dX10_next_217 : decode cX10_next 217 = .ok (.iload_n 1, 1) := by decide +kernel
theorem dX10_next_218 : decode cX10_next 218 = .ok (.bipush 48, 2) := by decide +kernel
theorem dX10_next_220 : decode cX10_next 220 = .ok (.bipush 57, 2) := by decide +kernel
theorem dX10_next_222 : decode cX10_next 222 = .ok (.invokestatic 108, 3) := by decide +kernel
theorem dX10_next_225 : decode cX10_next 225 = .ok (.ifCond .eq 101, 3) := by decide +kernel
theorem dX10_next_228 : decode cX10_next 228 = .ok (.iconst 0, 1) := by decide +kernel
theorem dX10_next_229 : decode cX10_next 229 = .ok (.istore_n 2, 1) := by decide +kernel
theorem dX10_next_230 : decode cX10_next 230 = .ok (.aload_n 0, 1) := by decide +kernel
theorem dX10_next_231 : decode cX10_next 231 = .ok (.getfield 125, 3) := by decide +kernel
theorem dX10_next_234 : decode cX10_next 234 = .ok (.aload_n 0, 1) := by decide +kernel
theorem dX10_next_235 : decode cX10_next 235 = .ok (.getfield 98, 3) := by decide +kernel
theorem dX10_next_238 : decode cX10_next 238 = .ok (.if_icmp .ge 71, 3) := by decide +kernel
theorem dX10_next_241 : decode cX10_next 241 = .ok (.aload_n 0, 1) := by decide +kernel
theorem dX10_next_242 : decode cX10_next 242 = .ok (.getfield 28, 3) := by decide +kernel
theorem dX10_next_245 : decode cX10_next 245 = .ok (.aload_n 0, 1) := by decide +kernel
theorem dX10_next_246 : decode cX10_next 246 = .ok (.getfield 125, 3) := by decide +kernel
theorem dX10_next_249 : decode cX10_next 249 = .ok (.iaload, 1) := by decide +kernel
theorem dX10_next_250 : decode cX10_next 250 = .ok (.bipush 48, 2) := by decide +kernel
theorem dX10_next_252 : decode cX10_next 252 = .ok (.bipush 57, 2) := by decide +kernel
theorem dX10_next_254 : decode cX10_next 254 = .ok (.invokestatic 108, 3) := by decide +kernel
theorem dX10_next_257 : decode cX10_next 257 = .ok (.ifCond .eq 52, 3) := by decide +kernel
theorem dX10_next_260 : decode cX10_next 260 = .ok (.aload_n 0, 1) := by decide +kernel
theorem dX10_next_261 : decode cX10_next 261 = .ok (.iload_n 2, 1) := by decide +kernel
theorem dX10_next_262 : decode cX10_next 262 = .ok (.iconst 4, 1) := by decide +kernel
theorem dX10_next_263 : decode cX10_next 263 = .ok (.if_icmp .ge 26, 3) := by decide +kernel
theorem dX10_next_266 : decode cX10_next 266 = .ok (.bipush 10, 2) := by decide +kernel
theorem dX10_next_268 : decode cX10_next 268 = .ok (.aload_n 0, 1) := by decide +kernel
theorem dX10_next_269 : decode cX10_next 269 = .ok (.getfield 134, 3) := by decide +kernel
theorem dX10_next_272 : decode cX10_next 272 = .ok (.imul, 1) := by decide +kernel
theorem dX10_next_273 : decode cX10_next 273 = .ok (.aload_n 0, 1) := by decide +kernel
theorem dX10_next_274 : decode cX10_next 274 = .ok (.getfield 28, 3) := by decide +kernel
theorem dX10_next_277 : decode cX10_next 277 = .ok (.aload_n 0, 1) := by decide +kernel
theorem dX10_next_278 : decode cX10_next 278 = .ok (.getfield 125, 3) := by decide +kernel
theorem dX10_next_281 : decode cX10_next 281 = .ok (.iaload, 1) := by decide +kernel
theorem dX10_next_282 : decode cX10_next 282 = .ok (.iadd, 1) := by decide +kernel
theorem dX10_next_283 : decode cX10_next 283 = .ok (.bipush 48, 2) := by decide +kernel
theorem dX10_next_285 : decode cX10_next 285 = .ok (.isub, 1) := by decide +kernel
theorem dX10_next_286 : decode cX10_next 286 = .ok (.goto 4, 3) := by decide +kernel
theorem dX10_next_289 : decode cX10_next 289 = .ok (.iconst 0, 1) := by decide +kernel
theorem dX10_next_290 : decode cX10_next 290 = .ok (.putfield 134, 3) := by decide +kernel
theorem dX10_next_293 : decode cX10_next 293 = .ok (.iinc 2 1, 3) := by decide +kernel
theorem dX10_next_296 : decode cX10_next 296 = .ok (.aload_n 0, 1) := by decide +kernel
theorem dX10_next_297 : decode cX10_next 297 = .ok (.dup, 1) := by decide +kernel
theorem dX10_next_298 : decode cX10_next 298 = .ok (.getfield 125, 3) := by decide +kernel
theorem dX10_next_301 : decode cX10_next 301 = .ok (.iconst 1, 1) := by decide +kernel
theorem dX10_next_302 : decode cX10_next 302 = .ok (.iadd, 1) := by decide +kernel
theorem dX10_next_303 : decode cX10_next 303 = .ok (.putfield 125, 3) := by decide +kernel
theorem dX10_next_306 : decode cX10_next 306 = .ok (.goto (-76), 3) := by decide +kernel
theorem dX10_next_309 : decode cX10_next 309 = .ok (.aload_n 0, 1) := by decide +kernel
theorem dX10_next_310 : decode cX10_next 310 = .ok (.iload_n 2, 1) := by decide +kernel
theorem dX10_next_311 : decode cX10_next 311 = .ok (.iconst 4, 1) := by decide +kernel
theorem dX10_next_312 : decode cX10_next 312 = .ok (.if_icmp .le 7, 3) := by decide +kernel
theorem dX10_next_315 : decode cX10_next 315 = .ok (.iconst (-1), 1) := by decide +kernel
theorem dX10_next_316 : decode cX10_next 316 = .ok (.goto 4, 3) := by decide +kernel
theorem dX10_next_319 : decode cX10_next 319 = .ok (.iconst 1, 1) := by decide +kernel
theorem dX10_next_320 : decode cX10_next 320 = .ok (.putfield 131, 3) := by decide +kernel
theorem dX10_next_323 : decode cX10_next 323 = .ok (.goto 80, 3) := by decide +kernel
theorem dX10_next_326 : decode cX10_next 326 = .ok (.iload_n 1, 1) := by decide +kernel
theorem dX10_next_327 : decode cX10_next 327 = .ok (.bipush 40, 2) := by decide +kernel
theorem dX10_next_329 : decode cX10_next 329 = .ok (.if_icmp .eq 45, 3) := by decide +kernel
theorem dX10_next_332 : decode cX10_next 332 = .ok (.iload_n 1, 1) := by decide +kernel
theorem dX10_next_333 : decode cX10_next 333 = .ok (.bipush 41, 2) := by decide +kernel
theorem dX10_next_335 : decode cX10_next 335 = .ok (.if_icmp .eq 39, 3) := by decide +kernel
theorem dX10_next_338 : decode cX10_next 338 = .ok (.iload_n 1, 1) := by decide +kernel
theorem dX10_next_339 : decode cX10_next 339 = .ok (.bipush 59, 2) := by decide +kernel
theorem dX10_next_341 : decode cX10_next 341 = .ok (.if_icmp .eq 33, 3) := by decide +kernel
theorem dX10_next_344 : decode cX10_next 344 = .ok (.iload_n 1, 1) := by decide +kernel
theorem dX10_next_345 : decode cX10_next 345 = .ok (.bipush 43, 2) := by decide +kernel
theorem dX10_next_347 : decode cX10_next 347 = .ok (.if_icmp .eq 27, 3) := by decide +kernel
theorem dX10_next_350 : decode cX10_next 350 = .ok (.iload_n 1, 1) := by decide +kernel
theorem dX10_next_351 : decode cX10_next 351 = .ok (.bipush 45, 2) := by decide +kernel
theorem dX10_next_353 : decode cX10_next 353 = .ok (.if_icmp .eq 21, 3) := by decide +kernel
theorem dX10_next_356 : decode cX10_next 356 = .ok (.iload_n 1, 1) := by decide +kernel
theorem dX10_next_357 : decode cX10_next 357 = .ok (.bipush 42, 2) := by decide +kernel
theorem dX10_next_359 : decode cX10_next 359 = .ok (.if_icmp .eq 15, 3) := by decide +kernel
theorem dX10_next_362 : decode cX10_next 362 = .ok (.iload_n 1, 1) := by decide +kernel
theorem dX10_next_363 : decode cX10_next 363 = .ok (.bipush 60, 2) := by decide +kernel
theorem dX10_next_365 : decode cX10_next 365 = .ok (.if_icmp .eq 9, 3) := by decide +kernel
theorem dX10_next_368 : decode cX10_next 368 = .ok (.iload_n 1, 1) := by decide +kernel
theorem dX10_next_369 : decode cX10_next 369 = .ok (.bipush 61, 2) := by decide +kernel
theorem dX10_next_371 : decode cX10_next 371 = .ok (.if_icmp .ne 7, 3) := by decide +kernel
theorem dX10_next_374 : decode cX10_next 374 = .ok (.iconst 1, 1) := by decide +kernel
theorem dX10_next_375 : decode cX10_next 375 = .ok (.goto 4, 3) := by decide +kernel
theorem dX10_next_378 : decode cX10_next 378 = .ok (.iconst 0, 1) := by decide +kernel
theorem dX10_next_379 : decode cX10_next 379 = .ok (.istore_n 2, 1) := by decide +kernel
theorem dX10_next_380 : decode cX10_next 380 = .ok (.aload_n 0, 1) := by decide +kernel
theorem dX10_next_381 : decode cX10_next 381 = .ok (.iload_n 2, 1) := by decide +kernel
theorem dX10_next_382 : decode cX10_next 382 = .ok (.ifCond .eq 7, 3) := by decide +kernel
theorem dX10_next_385 : decode cX10_next 385 = .ok (.iload_n 1, 1) := by decide +kernel
theorem dX10_next_386 : decode cX10_next 386 = .ok (.goto 4, 3) := by decide +kernel
theorem dX10_next_389 : decode cX10_next 389 = .ok (.iconst (-1), 1) := by decide +kernel
theorem dX10_next_390 : decode cX10_next 390 = .ok (.putfield 131, 3) := by decide +kernel
theorem dX10_next_393 : decode cX10_next 393 = .ok (.aload_n 0, 1) := by decide +kernel
theorem dX10_next_394 : decode cX10_next 394 = .ok (.dup, 1) := by decide +kernel
theorem dX10_next_395 : decode cX10_next 395 = .ok (.getfield 125, 3) := by decide +kernel
theorem dX10_next_398 : decode cX10_next 398 = .ok (.iconst 1, 1) := by decide +kernel
theorem dX10_next_399 : decode cX10_next 399 = .ok (.iadd, 1) := by decide +kernel
theorem dX10_next_400 : decode cX10_next 400 = .ok (.putfield 125, 3) := by decide +kernel
theorem dX10_next_403 : decode cX10_next 403 = .ok (.return_, 1) := by decide +kernel
theorem dX10_rank_0 : decode cX10_rank 0 = .ok (.iload_n 0, 1) := by decide +kernel
theorem dX10_rank_1 : decode cX10_rank 1 = .ok (.ifCond .ne 7, 3) := by decide +kernel
theorem dX10_rank_4 : decode cX10_rank 4 = .ok (.iconst 0, 1) := by decide +kernel
theorem dX10_rank_5 : decode cX10_rank 5 = .ok (.goto 66, 3) := by decide +kernel
theorem dX10_rank_8 : decode cX10_rank 8 = .ok (.iload_n 0, 1) := by decide +kernel
theorem dX10_rank_9 : decode cX10_rank 9 = .ok (.bipush 11, 2) := by decide +kernel
theorem dX10_rank_11 : decode cX10_rank 11 = .ok (.if_icmp .ne 7, 3) := by decide +kernel
theorem dX10_rank_14 : decode cX10_rank 14 = .ok (.iconst 1, 1) := by decide +kernel
theorem dX10_rank_15 : decode cX10_rank 15 = .ok (.goto 56, 3) := by decide +kernel
theorem dX10_rank_18 : decode cX10_rank 18 = .ok (.iload_n 0, 1) := by decide +kernel
theorem dX10_rank_19 : decode cX10_rank 19 = .ok (.bipush 12, 2) := by decide +kernel
theorem dX10_rank_21 : decode cX10_rank 21 = .ok (.if_icmp .ne 7, 3) := by decide +kernel
theorem dX10_rank_24 : decode cX10_rank 24 = .ok (.iconst 2, 1) := by decide +kernel
theorem dX10_rank_25 : decode cX10_rank 25 = .ok (.goto 46, 3) := by decide +kernel
theorem dX10_rank_28 : decode cX10_rank 28 = .ok (.iload_n 0, 1) := by decide +kernel
theorem dX10_rank_29 : decode cX10_rank 29 = .ok (.bipush 13, 2) := by decide +kernel
theorem dX10_rank_31 : decode cX10_rank 31 = .ok (.if_icmp .ne 7, 3) := by decide +kernel
theorem dX10_rank_34 : decode cX10_rank 34 = .ok (.iconst 3, 1) := by decide +kernel
theorem dX10_rank_35 : decode cX10_rank 35 = .ok (.goto 36, 3) := by decide +kernel
theorem dX10_rank_38 : decode cX10_rank 38 = .ok (.iload_n 0, 1) := by decide +kernel
theorem dX10_rank_39 : decode cX10_rank 39 = .ok (.bipush 15, 2) := by decide +kernel
theorem dX10_rank_41 : decode cX10_rank 41 = .ok (.if_icmp .gt 7, 3) := by decide +kernel
theorem dX10_rank_44 : decode cX10_rank 44 = .ok (.iconst 4, 1) := by decide +kernel
theorem dX10_rank_45 : decode cX10_rank 45 = .ok (.goto 26, 3) := by decide +kernel
theorem dX10_rank_48 : decode cX10_rank 48 = .ok (.iload_n 0, 1) := by decide +kernel
theorem dX10_rank_49 : decode cX10_rank 49 = .ok (.bipush 17, 2) := by decide +kernel
theorem dX10_rank_51 : decode cX10_rank 51 = .ok (.if_icmp .gt 7, 3) := by decide +kernel
theorem dX10_rank_54 : decode cX10_rank 54 = .ok (.iconst 5, 1) := by decide +kernel
theorem dX10_rank_55 : decode cX10_rank 55 = .ok (.goto 16, 3) := by decide +kernel
theorem dX10_rank_58 : decode cX10_rank 58 = .ok (.iload_n 0, 1) := by decide +kernel
theorem dX10_rank_59 : decode cX10_rank 59 = .ok (.bipush 18, 2) := by decide +kernel
theorem dX10_rank_61 : decode cX10_rank 61 = .ok (.if_icmp .ne 8, 3) := by decide +kernel
theorem dX10_rank_64 : decode cX10_rank 64 = .ok (.bipush 6, 2) := by decide +kernel
theorem dX10_rank_66 : decode cX10_rank 66 = .ok (.goto 5, 3) := by decide +kernel
theorem dX10_rank_69 : decode cX10_rank 69 = .ok (.bipush 7, 2) := by decide +kernel
theorem dX10_rank_71 : decode cX10_rank 71 = .ok (.ireturn, 1) := by decide +kernel
theorem dX10_puts_0 : decode cX10_puts 0 = .ok (.aload_n 0, 1) := by decide +kernel
theorem dX10_puts_1 : decode cX10_puts 1 = .ok (.getfield 31, 3) := by decide +kernel
theorem dX10_puts_4 : decode cX10_puts 4 = .ok (.sipush 200, 3) := by decide +kernel
theorem dX10_puts_7 : decode cX10_puts 7 = .ok (.aload_n 0, 1) := by decide +kernel
theorem dX10_puts_8 : decode cX10_puts 8 = .ok (.getfield 115, 3) := by decide +kernel
theorem dX10_puts_11 : decode cX10_puts 11 = .ok (.imul, 1) := by decide +kernel
theorem dX10_puts_12 : decode cX10_puts 12 = .ok (.aload_n 0, 1) := by decide +kernel
theorem dX10_puts_13 : decode cX10_puts 13 = .ok (.getfield 141, 3) := by decide +kernel
theorem dX10_puts_16 : decode cX10_puts 16 = .ok (.iadd, 1) := by decide +kernel
theorem dX10_puts_17 : decode cX10_puts 17 = .ok (.iload_n 1, 1) := by decide +kernel
theorem dX10_puts_18 : decode cX10_puts 18 = .ok (.iastore, 1) := by decide +kernel
theorem dX10_puts_19 : decode cX10_puts 19 = .ok (.aload_n 0, 1) := by decide +kernel
theorem dX10_puts_20 : decode cX10_puts 20 = .ok (.dup, 1) := by decide +kernel
theorem dX10_puts_21 : decode cX10_puts 21 = .ok (.getfield 141, 3) := by decide +kernel
theorem dX10_puts_24 : decode cX10_puts 24 = .ok (.iconst 1, 1) := by decide +kernel
theorem dX10_puts_25 : decode cX10_puts 25 = .ok (.iadd, 1) := by decide +kernel
theorem dX10_puts_26 : decode cX10_puts 26 = .ok (.putfield 141, 3) := by decide +kernel
theorem dX10_puts_29 : decode cX10_puts 29 = .ok (.return_, 1) := by decide +kernel
theorem dX10_unwinds_0 : decode cX10_unwinds 0 = .ok (.aload_n 0, 1) := by decide +kernel
theorem dX10_unwinds_1 : decode cX10_unwinds 1 = .ok (.getfield 144, 3) := by decide +kernel
theorem dX10_unwinds_4 : decode cX10_unwinds 4 = .ok (.ifCond .le 75, 3) := by decide +kernel
theorem dX10_unwinds_7 : decode cX10_unwinds 7 = .ok (.aload_n 0, 1) := by decide +kernel
theorem dX10_unwinds_8 : decode cX10_unwinds 8 = .ok (.getfield 55, 3) := by decide +kernel
theorem dX10_unwinds_11 : decode cX10_unwinds 11 = .ok (.aload_n 0, 1) := by decide +kernel
theorem dX10_unwinds_12 : decode cX10_unwinds 12 = .ok (.getfield 144, 3) := by decide +kernel
theorem dX10_unwinds_15 : decode cX10_unwinds 15 = .ok (.iconst 1, 1) := by decide +kernel
theorem dX10_unwinds_16 : decode cX10_unwinds 16 = .ok (.isub, 1) := by decide +kernel
theorem dX10_unwinds_17 : decode cX10_unwinds 17 = .ok (.iaload, 1) := by decide +kernel
theorem dX10_unwinds_18 : decode cX10_unwinds 18 = .ok (.invokestatic 147, 3) := by decide +kernel
theorem dX10_unwinds_21 : decode cX10_unwinds 21 = .ok (.iload_n 1, 1) := by decide +kernel
theorem dX10_unwinds_22 : decode cX10_unwinds 22 = .ok (.if_icmp .lt 57, 3) := by decide +kernel
theorem dX10_unwinds_25 : decode cX10_unwinds 25 = .ok (.aload_n 0, 1) := by decide +kernel
theorem dX10_unwinds_26 : decode cX10_unwinds 26 = .ok (.dup, 1) := by decide +kernel
theorem dX10_unwinds_27 : decode cX10_unwinds 27 = .ok (.getfield 144, 3) := by decide +kernel
theorem dX10_unwinds_30 : decode cX10_unwinds 30 = .ok (.iconst 1, 1) := by decide +kernel
theorem dX10_unwinds_31 : decode cX10_unwinds 31 = .ok (.isub, 1) := by decide +kernel
theorem dX10_unwinds_32 : decode cX10_unwinds 32 = .ok (.putfield 144, 3) := by decide +kernel
theorem dX10_unwinds_35 : decode cX10_unwinds 35 = .ok (.aload_n 0, 1) := by decide +kernel
theorem dX10_unwinds_36 : decode cX10_unwinds 36 = .ok (.getfield 55, 3) := by decide +kernel
theorem dX10_unwinds_39 : decode cX10_unwinds 39 = .ok (.aload_n 0, 1) := by decide +kernel
theorem dX10_unwinds_40 : decode cX10_unwinds 40 = .ok (.getfield 144, 3) := by decide +kernel
theorem dX10_unwinds_43 : decode cX10_unwinds 43 = .ok (.iaload, 1) := by decide +kernel
theorem dX10_unwinds_44 : decode cX10_unwinds 44 = .ok (.istore_n 2, 1) := by decide +kernel
theorem dX10_unwinds_45 : decode cX10_unwinds 45 = .ok (.aload_n 0, 1) := by decide +kernel
theorem dX10_unwinds_46 : decode cX10_unwinds 46 = .ok (.dup, 1) := by decide +kernel
theorem dX10_unwinds_47 : decode cX10_unwinds 47 = .ok (.getfield 151, 3) := by decide +kernel
theorem dX10_unwinds_50 : decode cX10_unwinds 50 = .ok (.iload_n 2, 1) := by decide +kernel
theorem dX10_unwinds_51 : decode cX10_unwinds 51 = .ok (.bipush 13, 2) := by decide +kernel
theorem dX10_unwinds_53 : decode cX10_unwinds 53 = .ok (.if_icmp .eq 9, 3) := by decide +kernel
theorem dX10_unwinds_56 : decode cX10_unwinds 56 = .ok (.iload_n 2, 1) := by decide +kernel
theorem dX10_unwinds_57 : decode cX10_unwinds 57 = .ok (.bipush 19, 2) := by decide +kernel
theorem dX10_unwinds_59 : decode cX10_unwinds 59 = .ok (.if_icmp .ne 7, 3) := by decide +kernel
theorem dX10_unwinds_62 : decode cX10_unwinds 62 = .ok (.iconst 1, 1) := by decide +kernel
theorem dX10_unwinds_63 : decode cX10_unwinds 63 = .ok (.goto 4, 3) := by decide +kernel
theorem dX10_unwinds_66 : decode cX10_unwinds 66 = .ok (.iconst 0, 1) := by decide +kernel
theorem dX10_unwinds_67 : decode cX10_unwinds 67 = .ok (.isub, 1) := by decide +kernel
theorem dX10_unwinds_68 : decode cX10_unwinds 68 = .ok (.putfield 151, 3) := by decide +kernel
theorem dX10_unwinds_71 : decode cX10_unwinds 71 = .ok (.aload_n 0, 1) := by decide +kernel
theorem dX10_unwinds_72 : decode cX10_unwinds 72 = .ok (.iload_n 2, 1) := by decide +kernel
theorem dX10_unwinds_73 : decode cX10_unwinds 73 = .ok (.invokevirtual 154, 3) := by decide +kernel
theorem dX10_unwinds_76 : decode cX10_unwinds 76 = .ok (.goto (-76), 3) := by decide +kernel
theorem dX10_unwinds_79 : decode cX10_unwinds 79 = .ok (.return_, 1) := by decide +kernel
theorem dX10_holds_0 : decode cX10_holds 0 = .ok (.aload_n 0, 1) := by decide +kernel
theorem dX10_holds_1 : decode cX10_holds 1 = .ok (.getfield 55, 3) := by decide +kernel
theorem dX10_holds_4 : decode cX10_holds 4 = .ok (.aload_n 0, 1) := by decide +kernel
theorem dX10_holds_5 : decode cX10_holds 5 = .ok (.getfield 144, 3) := by decide +kernel
theorem dX10_holds_8 : decode cX10_holds 8 = .ok (.iload_n 1, 1) := by decide +kernel
theorem dX10_holds_9 : decode cX10_holds 9 = .ok (.iastore, 1) := by decide +kernel
theorem dX10_holds_10 : decode cX10_holds 10 = .ok (.aload_n 0, 1) := by decide +kernel
theorem dX10_holds_11 : decode cX10_holds 11 = .ok (.dup, 1) := by decide +kernel
theorem dX10_holds_12 : decode cX10_holds 12 = .ok (.getfield 144, 3) := by decide +kernel
theorem dX10_holds_15 : decode cX10_holds 15 = .ok (.iconst 1, 1) := by decide +kernel
theorem dX10_holds_16 : decode cX10_holds 16 = .ok (.iadd, 1) := by decide +kernel
theorem dX10_holds_17 : decode cX10_holds 17 = .ok (.putfield 144, 3) := by decide +kernel
theorem dX10_holds_20 : decode cX10_holds 20 = .ok (.return_, 1) := by decide +kernel
theorem dX10_opensOne_0 : decode cX10_opensOne 0 = .ok (.aload_n 0, 1) := by decide +kernel
theorem dX10_opensOne_1 : decode cX10_opensOne 1 = .ok (.getfield 151, 3) := by decide +kernel
theorem dX10_opensOne_4 : decode cX10_opensOne 4 = .ok (.iconst 5, 1) := by decide +kernel
theorem dX10_opensOne_5 : decode cX10_opensOne 5 = .ok (.if_icmp .ne 5, 3) := by decide +kernel
theorem dX10_opensOne_8 : decode cX10_opensOne 8 = .ok (.iconst 0, 1) := by decide +kernel
theorem dX10_opensOne_9 : decode cX10_opensOne 9 = .ok (.ireturn, 1) := by decide +kernel
theorem dX10_opensOne_10 : decode cX10_opensOne 10 = .ok (.aload_n 0, 1) := by decide +kernel
theorem dX10_opensOne_11 : decode cX10_opensOne 11 = .ok (.dup, 1) := by decide +kernel
theorem dX10_opensOne_12 : decode cX10_opensOne 12 = .ok (.getfield 151, 3) := by decide +kernel
theorem dX10_opensOne_15 : decode cX10_opensOne 15 = .ok (.iconst 1, 1) := by decide +kernel
theorem dX10_opensOne_16 : decode cX10_opensOne 16 = .ok (.iadd, 1) := by decide +kernel
theorem dX10_opensOne_17 : decode cX10_opensOne 17 = .ok (.putfield 151, 3) := by decide +kernel
theorem dX10_opensOne_20 : decode cX10_opensOne 20 = .ok (.aload_n 0, 1) := by decide +kernel
theorem dX10_opensOne_21 : decode cX10_opensOne 21 = .ok (.iload_n 1, 1) := by decide +kernel
theorem dX10_opensOne_22 : decode cX10_opensOne 22 = .ok (.invokevirtual 158, 3) := by decide +kernel
theorem dX10_opensOne_25 : decode cX10_opensOne 25 = .ok (.iconst 1, 1) := by decide +kernel
theorem dX10_opensOne_26 : decode cX10_opensOne 26 = .ok (.ireturn, 1) := by decide +kernel
theorem dX10_between_0 : decode cX10_between 0 = .ok (.aload_n 0, 1) := by decide +kernel
theorem dX10_between_1 : decode cX10_between 1 = .ok (.iload_n 1, 1) := by decide +kernel
theorem dX10_between_2 : decode cX10_between 2 = .ok (.invokestatic 147, 3) := by decide +kernel
theorem dX10_between_5 : decode cX10_between 5 = .ok (.iconst 4, 1) := by decide +kernel
theorem dX10_between_6 : decode cX10_between 6 = .ok (.if_icmp .ne 7, 3) := by decide +kernel
theorem dX10_between_9 : decode cX10_between 9 = .ok (.iconst 5, 1) := by decide +kernel
theorem dX10_between_10 : decode cX10_between 10 = .ok (.goto 7, 3) := by decide +kernel
theorem dX10_between_13 : decode cX10_between 13 = .ok (.iload_n 1, 1) := by decide +kernel
theorem dX10_between_14 : decode cX10_between 14 = .ok (.invokestatic 147, 3) := by decide +kernel
theorem dX10_between_17 : decode cX10_between 17 = .ok (.invokevirtual 161, 3) := by decide +kernel
theorem dX10_between_20 : decode cX10_between 20 = .ok (.iload_n 1, 1) := by decide +kernel
theorem dX10_between_21 : decode cX10_between 21 = .ok (.invokestatic 147, 3) := by decide +kernel
theorem dX10_between_24 : decode cX10_between 24 = .ok (.iconst 4, 1) := by decide +kernel
theorem dX10_between_25 : decode cX10_between 25 = .ok (.if_icmp .ne 30, 3) := by decide +kernel
theorem dX10_between_28 : decode cX10_between 28 = .ok (.aload_n 0, 1) := by decide +kernel
theorem dX10_between_29 : decode cX10_between 29 = .ok (.getfield 144, 3) := by decide +kernel
theorem dX10_between_32 : decode cX10_between 32 = .ok (.ifCond .le 23, 3) := by decide +kernel
theorem dX10_between_35 : decode cX10_between 35 = .ok (.aload_n 0, 1) := by decide +kernel
theorem dX10_between_36 : decode cX10_between 36 = .ok (.getfield 55, 3) := by decide +kernel
theorem dX10_between_39 : decode cX10_between 39 = .ok (.aload_n 0, 1) := by decide +kernel
theorem dX10_between_40 : decode cX10_between 40 = .ok (.getfield 144, 3) := by decide +kernel
theorem dX10_between_43 : decode cX10_between 43 = .ok (.iconst 1, 1) := by decide +kernel
theorem dX10_between_44 : decode cX10_between 44 = .ok (.isub, 1) := by decide +kernel
theorem dX10_between_45 : decode cX10_between 45 = .ok (.iaload, 1) := by decide +kernel
theorem dX10_between_46 : decode cX10_between 46 = .ok (.invokestatic 147, 3) := by decide +kernel
theorem dX10_between_49 : decode cX10_between 49 = .ok (.iconst 4, 1) := by decide +kernel
theorem dX10_between_50 : decode cX10_between 50 = .ok (.if_icmp .ne 5, 3) := by decide +kernel
theorem dX10_between_53 : decode cX10_between 53 = .ok (.iconst 0, 1) := by decide +kernel
theorem dX10_between_54 : decode cX10_between 54 = .ok (.ireturn, 1) := by decide +kernel
theorem dX10_between_55 : decode cX10_between 55 = .ok (.aload_n 0, 1) := by decide +kernel
theorem dX10_between_56 : decode cX10_between 56 = .ok (.iload_n 1, 1) := by decide +kernel
theorem dX10_between_57 : decode cX10_between 57 = .ok (.invokevirtual 158, 3) := by decide +kernel
theorem dX10_between_60 : decode cX10_between 60 = .ok (.iconst 1, 1) := by decide +kernel
theorem dX10_between_61 : decode cX10_between 61 = .ok (.ireturn, 1) := by decide +kernel
theorem dX10_signOf_0 : decode cX10_signOf 0 = .ok (.aload_n 0, 1) := by decide +kernel
theorem dX10_signOf_1 : decode cX10_signOf 1 = .ok (.getfield 131, 3) := by decide +kernel
theorem dX10_signOf_4 : decode cX10_signOf 4 = .ok (.iconst 4, 1) := by decide +kernel
theorem dX10_signOf_5 : decode cX10_signOf 5 = .ok (.if_icmp .ne 8, 3) := by decide +kernel
theorem dX10_signOf_8 : decode cX10_signOf 8 = .ok (.bipush 11, 2) := by decide +kernel
theorem dX10_signOf_10 : decode cX10_signOf 10 = .ok (.goto 87, 3) := by decide +kernel
theorem dX10_signOf_13 : decode cX10_signOf 13 = .ok (.aload_n 0, 1) := by decide +kernel
theorem dX10_signOf_14 : decode cX10_signOf 14 = .ok (.getfield 131, 3) := by decide +kernel
theorem dX10_signOf_17 : decode cX10_signOf 17 = .ok (.iconst 5, 1) := by decide +kernel
theorem dX10_signOf_18 : decode cX10_signOf 18 = .ok (.if_icmp .ne 8, 3) := by decide +kernel
theorem dX10_signOf_21 : decode cX10_signOf 21 = .ok (.bipush 12, 2) := by decide +kernel
theorem dX10_signOf_23 : decode cX10_signOf 23 = .ok (.goto 74, 3) := by decide +kernel
theorem dX10_signOf_26 : decode cX10_signOf 26 = .ok (.aload_n 0, 1) := by decide +kernel
theorem dX10_signOf_27 : decode cX10_signOf 27 = .ok (.getfield 131, 3) := by decide +kernel
theorem dX10_signOf_30 : decode cX10_signOf 30 = .ok (.bipush 60, 2) := by decide +kernel
theorem dX10_signOf_32 : decode cX10_signOf 32 = .ok (.if_icmp .ne 8, 3) := by decide +kernel
theorem dX10_signOf_35 : decode cX10_signOf 35 = .ok (.bipush 14, 2) := by decide +kernel
theorem dX10_signOf_37 : decode cX10_signOf 37 = .ok (.goto 60, 3) := by decide +kernel
theorem dX10_signOf_40 : decode cX10_signOf 40 = .ok (.aload_n 0, 1) := by decide +kernel
theorem dX10_signOf_41 : decode cX10_signOf 41 = .ok (.getfield 131, 3) := by decide +kernel
theorem dX10_signOf_44 : decode cX10_signOf 44 = .ok (.bipush 61, 2) := by decide +kernel
theorem dX10_signOf_46 : decode cX10_signOf 46 = .ok (.if_icmp .ne 8, 3) := by decide +kernel
theorem dX10_signOf_49 : decode cX10_signOf 49 = .ok (.bipush 15, 2) := by decide +kernel
theorem dX10_signOf_51 : decode cX10_signOf 51 = .ok (.goto 46, 3) := by decide +kernel
theorem dX10_signOf_54 : decode cX10_signOf 54 = .ok (.aload_n 0, 1) := by decide +kernel
theorem dX10_signOf_55 : decode cX10_signOf 55 = .ok (.getfield 131, 3) := by decide +kernel
theorem dX10_signOf_58 : decode cX10_signOf 58 = .ok (.bipush 43, 2) := by decide +kernel
theorem dX10_signOf_60 : decode cX10_signOf 60 = .ok (.if_icmp .ne 8, 3) := by decide +kernel
theorem dX10_signOf_63 : decode cX10_signOf 63 = .ok (.bipush 16, 2) := by decide +kernel
theorem dX10_signOf_65 : decode cX10_signOf 65 = .ok (.goto 32, 3) := by decide +kernel
theorem dX10_signOf_68 : decode cX10_signOf 68 = .ok (.aload_n 0, 1) := by decide +kernel
theorem dX10_signOf_69 : decode cX10_signOf 69 = .ok (.getfield 131, 3) := by decide +kernel
theorem dX10_signOf_72 : decode cX10_signOf 72 = .ok (.bipush 45, 2) := by decide +kernel
theorem dX10_signOf_74 : decode cX10_signOf 74 = .ok (.if_icmp .ne 8, 3) := by decide +kernel
theorem dX10_signOf_77 : decode cX10_signOf 77 = .ok (.bipush 17, 2) := by decide +kernel
theorem dX10_signOf_79 : decode cX10_signOf 79 = .ok (.goto 18, 3) := by decide +kernel
theorem dX10_signOf_82 : decode cX10_signOf 82 = .ok (.aload_n 0, 1) := by decide +kernel
theorem dX10_signOf_83 : decode cX10_signOf 83 = .ok (.getfield 131, 3) := by decide +kernel
theorem dX10_signOf_86 : decode cX10_signOf 86 = .ok (.bipush 42, 2) := by decide +kernel
theorem dX10_signOf_88 : decode cX10_signOf 88 = .ok (.if_icmp .ne 8, 3) := by decide +kernel
theorem dX10_signOf_91 : decode cX10_signOf 91 = .ok (.bipush 18, 2) := by decide +kernel
theorem dX10_signOf_93 : decode cX10_signOf 93 = .ok (.goto 4, 3) := by decide +kernel
theorem dX10_signOf_96 : decode cX10_signOf 96 = .ok (.iconst (-1), 1) := by decide +kernel
theorem dX10_signOf_97 : decode cX10_signOf 97 = .ok (.ireturn, 1) := by decide +kernel
theorem dX10_eRead_0 : decode cX10_eRead 0 = .ok (.aload_n 0, 1) := by decide +kernel
theorem dX10_eRead_1 : decode cX10_eRead 1 = .ok (.iconst 0, 1) := by decide +kernel
theorem dX10_eRead_2 : decode cX10_eRead 2 = .ok (.putfield 144, 3) := by decide +kernel
theorem dX10_eRead_5 : decode cX10_eRead 5 = .ok (.aload_n 0, 1) := by decide +kernel
theorem dX10_eRead_6 : decode cX10_eRead 6 = .ok (.iconst 0, 1) := by decide +kernel
theorem dX10_eRead_7 : decode cX10_eRead 7 = .ok (.putfield 151, 3) := by decide +kernel
theorem dX10_eRead_10 : decode cX10_eRead 10 = .ok (.iconst 1, 1) := by decide +kernel
theorem dX10_eRead_11 : decode cX10_eRead 11 = .ok (.istore_n 1, 1) := by decide +kernel
theorem dX10_eRead_12 : decode cX10_eRead 12 = .ok (.iconst 1, 1) := by decide +kernel
theorem dX10_eRead_13 : decode cX10_eRead 13 = .ok (.istore_n 2, 1) := by decide +kernel
theorem dX10_eRead_14 : decode cX10_eRead 14 = .ok (.aload_n 0, 1) := by decide +kernel
theorem dX10_eRead_15 : decode cX10_eRead 15 = .ok (.invokevirtual 164, 3) := by decide +kernel
theorem dX10_eRead_18 : decode cX10_eRead 18 = .ok (.iload_n 1, 1) := by decide +kernel
theorem dX10_eRead_19 : decode cX10_eRead 19 = .ok (.ifCond .eq 131, 3) := by decide +kernel
theorem dX10_eRead_22 : decode cX10_eRead 22 = .ok (.aload_n 0, 1) := by decide +kernel
theorem dX10_eRead_23 : decode cX10_eRead 23 = .ok (.getfield 131, 3) := by decide +kernel
theorem dX10_eRead_26 : decode cX10_eRead 26 = .ok (.iconst 1, 1) := by decide +kernel
theorem dX10_eRead_27 : decode cX10_eRead 27 = .ok (.if_icmp .eq 11, 3) := by decide +kernel
theorem dX10_eRead_30 : decode cX10_eRead 30 = .ok (.aload_n 0, 1) := by decide +kernel
theorem dX10_eRead_31 : decode cX10_eRead 31 = .ok (.getfield 131, 3) := by decide +kernel
theorem dX10_eRead_34 : decode cX10_eRead 34 = .ok (.iconst 2, 1) := by decide +kernel
theorem dX10_eRead_35 : decode cX10_eRead 35 = .ok (.if_icmp .ne 40, 3) := by decide +kernel
theorem dX10_eRead_38 : decode cX10_eRead 38 = .ok (.aload_n 0, 1) := by decide +kernel
theorem dX10_eRead_39 : decode cX10_eRead 39 = .ok (.aload_n 0, 1) := by decide +kernel
theorem dX10_eRead_40 : decode cX10_eRead 40 = .ok (.getfield 131, 3) := by decide +kernel
theorem dX10_eRead_43 : decode cX10_eRead 43 = .ok (.iconst 1, 1) := by decide +kernel
theorem dX10_eRead_44 : decode cX10_eRead 44 = .ok (.if_icmp .ne 13, 3) := by decide +kernel
theorem dX10_eRead_47 : decode cX10_eRead 47 = .ok (.ldc 167, 2) := by decide +kernel
theorem dX10_eRead_49 : decode cX10_eRead 49 = .ok (.aload_n 0, 1) := by decide +kernel
theorem dX10_eRead_50 : decode cX10_eRead 50 = .ok (.getfield 134, 3) := by decide +kernel
theorem dX10_eRead_53 : decode cX10_eRead 53 = .ok (.iadd, 1) := by decide +kernel
theorem dX10_eRead_54 : decode cX10_eRead 54 = .ok (.goto 7, 3) := by decide +kernel
theorem dX10_eRead_57 : decode cX10_eRead 57 = .ok (.aload_n 0, 1) := by decide +kernel
theorem dX10_eRead_58 : decode cX10_eRead 58 = .ok (.getfield 134, 3) := by decide +kernel
theorem dX10_eRead_61 : decode cX10_eRead 61 = .ok (.invokevirtual 154, 3) := by decide +kernel
theorem dX10_eRead_64 : decode cX10_eRead 64 = .ok (.aload_n 0, 1) := by decide +kernel
theorem dX10_eRead_65 : decode cX10_eRead 65 = .ok (.bipush 7, 2) := by decide +kernel
theorem dX10_eRead_67 : decode cX10_eRead 67 = .ok (.invokevirtual 161, 3) := by decide +kernel
theorem dX10_eRead_70 : decode cX10_eRead 70 = .ok (.iconst 0, 1) := by decide +kernel
theorem dX10_eRead_71 : decode cX10_eRead 71 = .ok (.istore_n 1, 1) := by decide +kernel
theorem dX10_eRead_72 : decode cX10_eRead 72 = .ok (.goto (-58), 3) := by decide +kernel
theorem dX10_eRead_75 : decode cX10_eRead 75 = .ok (.aload_n 0, 1) := by decide +kernel
theorem dX10_eRead_76 : decode cX10_eRead 76 = .ok (.getfield 131, 3) := by decide +kernel
theorem dX10_eRead_79 : decode cX10_eRead 79 = .ok (.bipush 6, 2) := by decide +kernel
theorem dX10_eRead_81 : decode cX10_eRead 81 = .ok (.if_icmp .ne 18, 3) := by decide +kernel
theorem dX10_eRead_84 : decode cX10_eRead 84 = .ok (.iload_n 2, 1) := by decide +kernel
theorem dX10_eRead_85 : decode cX10_eRead 85 = .ok (.ifCond .eq 14, 3) := by decide +kernel
theorem dX10_eRead_88 : decode cX10_eRead 88 = .ok (.aload_n 0, 1) := by decide +kernel
theorem dX10_eRead_89 : decode cX10_eRead 89 = .ok (.bipush 13, 2) := by decide +kernel
theorem dX10_eRead_91 : decode cX10_eRead 91 = .ok (.invokevirtual 168, 3) := by decide +kernel
theorem dX10_eRead_94 : decode cX10_eRead 94 = .ok (.ifCond .ne (-80), 3) := by decide +kernel
theorem dX10_eRead_97 : decode cX10_eRead 97 = .ok (.iconst 0, 1) := by decide +kernel
theorem dX10_eRead_98 : decode cX10_eRead 98 = .ok (.ireturn, 1) := by decide +kernel
theorem dX10_eRead_99 : decode cX10_eRead 99 = .ok (.aload_n 0, 1) := by decide +kernel
theorem dX10_eRead_100 : decode cX10_eRead 100 = .ok (.getfield 131, 3) := by decide +kernel
theorem dX10_eRead_103 : decode cX10_eRead 103 = .ok (.bipush 45, 2) := by decide +kernel
theorem dX10_eRead_105 : decode cX10_eRead 105 = .ok (.if_icmp .ne 19, 3) := by decide +kernel
theorem dX10_eRead_108 : decode cX10_eRead 108 = .ok (.aload_n 0, 1) := by decide +kernel
theorem dX10_eRead_109 : decode cX10_eRead 109 = .ok (.bipush 19, 2) := by decide +kernel
theorem dX10_eRead_111 : decode cX10_eRead 111 = .ok (.invokevirtual 168, 3) := by decide +kernel
theorem dX10_eRead_114 : decode cX10_eRead 114 = .ok (.ifCond .ne 5, 3) := by decide +kernel
theorem dX10_eRead_117 : decode cX10_eRead 117 = .ok (.iconst 0, 1) := by decide +kernel
theorem dX10_eRead_118 : decode cX10_eRead 118 = .ok (.ireturn, 1) := by decide +kernel
theorem dX10_eRead_119 : decode cX10_eRead 119 = .ok (.iconst 0, 1) := by decide +kernel
theorem dX10_eRead_120 : decode cX10_eRead 120 = .ok (.istore_n 2, 1) := by decide +kernel
theorem dX10_eRead_121 : decode cX10_eRead 121 = .ok (.goto (-107), 3) := by decide +kernel
theorem dX10_eRead_124 : decode cX10_eRead 124 = .ok (.aload_n 0, 1) := by decide +kernel
theorem dX10_eRead_125 : decode cX10_eRead 125 = .ok (.getfield 131, 3) := by decide +kernel
theorem dX10_eRead_128 : decode cX10_eRead 128 = .ok (.bipush 40, 2) := by decide +kernel
theorem dX10_eRead_130 : decode cX10_eRead 130 = .ok (.if_icmp .ne 18, 3) := by decide +kernel
theorem dX10_eRead_133 : decode cX10_eRead 133 = .ok (.aload_n 0, 1) := by decide +kernel
theorem dX10_eRead_134 : decode cX10_eRead 134 = .ok (.iconst 0, 1) := by decide +kernel
theorem dX10_eRead_135 : decode cX10_eRead 135 = .ok (.invokevirtual 168, 3) := by decide +kernel
theorem dX10_eRead_138 : decode cX10_eRead 138 = .ok (.ifCond .ne 5, 3) := by decide +kernel
theorem dX10_eRead_141 : decode cX10_eRead 141 = .ok (.iconst 0, 1) := by decide +kernel
theorem dX10_eRead_142 : decode cX10_eRead 142 = .ok (.ireturn, 1) := by decide +kernel
theorem dX10_eRead_143 : decode cX10_eRead 143 = .ok (.iconst 1, 1) := by decide +kernel
theorem dX10_eRead_144 : decode cX10_eRead 144 = .ok (.istore_n 2, 1) := by decide +kernel
theorem dX10_eRead_145 : decode cX10_eRead 145 = .ok (.goto (-131), 3) := by decide +kernel
theorem dX10_eRead_148 : decode cX10_eRead 148 = .ok (.iconst 0, 1) := by decide +kernel
theorem dX10_eRead_149 : decode cX10_eRead 149 = .ok (.ireturn, 1) := by decide +kernel
theorem dX10_eRead_150 : decode cX10_eRead 150 = .ok (.aload_n 0, 1) := by decide +kernel
theorem dX10_eRead_151 : decode cX10_eRead 151 = .ok (.getfield 131, 3) := by decide +kernel
theorem dX10_eRead_154 : decode cX10_eRead 154 = .ok (.bipush 59, 2) := by decide +kernel
theorem dX10_eRead_156 : decode cX10_eRead 156 = .ok (.if_icmp .ne 21, 3) := by decide +kernel
theorem dX10_eRead_159 : decode cX10_eRead 159 = .ok (.aload_n 0, 1) := by decide +kernel
theorem dX10_eRead_160 : decode cX10_eRead 160 = .ok (.iconst 1, 1) := by decide +kernel
theorem dX10_eRead_161 : decode cX10_eRead 161 = .ok (.invokevirtual 161, 3) := by decide +kernel
theorem dX10_eRead_164 : decode cX10_eRead 164 = .ok (.aload_n 0, 1) := by decide +kernel
theorem dX10_eRead_165 : decode cX10_eRead 165 = .ok (.getfield 144, 3) := by decide +kernel
theorem dX10_eRead_168 : decode cX10_eRead 168 = .ok (.ifCond .ne 7, 3) := by decide +kernel
theorem dX10_eRead_171 : decode cX10_eRead 171 = .ok (.iconst 1, 1) := by decide +kernel
theorem dX10_eRead_172 : decode cX10_eRead 172 = .ok (.goto 4, 3) := by decide +kernel
theorem dX10_eRead_175 : decode cX10_eRead 175 = .ok (.iconst 0, 1) := by decide +kernel
theorem dX10_eRead_176 : decode cX10_eRead 176 = .ok (.ireturn, 1) := by decide +kernel
theorem dX10_eRead_177 : decode cX10_eRead 177 = .ok (.aload_n 0, 1) := by decide +kernel
theorem dX10_eRead_178 : decode cX10_eRead 178 = .ok (.getfield 131, 3) := by decide +kernel
theorem dX10_eRead_181 : decode cX10_eRead 181 = .ok (.bipush 41, 2) := by decide +kernel
theorem dX10_eRead_183 : decode cX10_eRead 183 = .ok (.if_icmp .ne 46, 3) := by decide +kernel
theorem dX10_eRead_186 : decode cX10_eRead 186 = .ok (.aload_n 0, 1) := by decide +kernel
theorem dX10_eRead_187 : decode cX10_eRead 187 = .ok (.iconst 1, 1) := by decide +kernel
theorem dX10_eRead_188 : decode cX10_eRead 188 = .ok (.invokevirtual 161, 3) := by decide +kernel
theorem dX10_eRead_191 : decode cX10_eRead 191 = .ok (.aload_n 0, 1) := by decide +kernel
theorem dX10_eRead_192 : decode cX10_eRead 192 = .ok (.getfield 144, 3) := by decide +kernel
theorem dX10_eRead_195 : decode cX10_eRead 195 = .ok (.ifCond .ne 5, 3) := by decide +kernel
theorem dX10_eRead_198 : decode cX10_eRead 198 = .ok (.iconst 0, 1) := by decide +kernel
theorem dX10_eRead_199 : decode cX10_eRead 199 = .ok (.ireturn, 1) := by decide +kernel
theorem dX10_eRead_200 : decode cX10_eRead 200 = .ok (.aload_n 0, 1) := by decide +kernel
theorem dX10_eRead_201 : decode cX10_eRead 201 = .ok (.dup, 1) := by decide +kernel
theorem dX10_eRead_202 : decode cX10_eRead 202 = .ok (.getfield 144, 3) := by decide +kernel
theorem dX10_eRead_205 : decode cX10_eRead 205 = .ok (.iconst 1, 1) := by decide +kernel
theorem dX10_eRead_206 : decode cX10_eRead 206 = .ok (.isub, 1) := by decide +kernel
theorem dX10_eRead_207 : decode cX10_eRead 207 = .ok (.putfield 144, 3) := by decide +kernel
theorem dX10_eRead_210 : decode cX10_eRead 210 = .ok (.aload_n 0, 1) := by decide +kernel
theorem dX10_eRead_211 : decode cX10_eRead 211 = .ok (.dup, 1) := by decide +kernel
theorem dX10_eRead_212 : decode cX10_eRead 212 = .ok (.getfield 151, 3) := by decide +kernel
theorem dX10_eRead_215 : decode cX10_eRead 215 = .ok (.iconst 1, 1) := by decide +kernel
theorem dX10_eRead_216 : decode cX10_eRead 216 = .ok (.isub, 1) := by decide +kernel
theorem dX10_eRead_217 : decode cX10_eRead 217 = .ok (.putfield 151, 3) := by decide +kernel
theorem dX10_eRead_220 : decode cX10_eRead 220 = .ok (.aload_n 0, 1) := by decide +kernel
theorem dX10_eRead_221 : decode cX10_eRead 221 = .ok (.bipush 7, 2) := by decide +kernel
theorem dX10_eRead_223 : decode cX10_eRead 223 = .ok (.invokevirtual 161, 3) := by decide +kernel
theorem dX10_eRead_226 : decode cX10_eRead 226 = .ok (.goto (-212), 3) := by decide +kernel
theorem dX10_eRead_229 : decode cX10_eRead 229 = .ok (.aload_n 0, 1) := by decide +kernel
theorem dX10_eRead_230 : decode cX10_eRead 230 = .ok (.invokevirtual 171, 3) := by decide +kernel
theorem dX10_eRead_233 : decode cX10_eRead 233 = .ok (.istore_n 3, 1) := by decide +kernel
theorem dX10_eRead_234 : decode cX10_eRead 234 = .ok (.iload_n 3, 1) := by decide +kernel
theorem dX10_eRead_235 : decode cX10_eRead 235 = .ok (.iconst (-1), 1) := by decide +kernel
theorem dX10_eRead_236 : decode cX10_eRead 236 = .ok (.if_icmp .eq 11, 3) := by decide +kernel
theorem dX10_eRead_239 : decode cX10_eRead 239 = .ok (.aload_n 0, 1) := by decide +kernel
theorem dX10_eRead_240 : decode cX10_eRead 240 = .ok (.iload_n 3, 1) := by decide +kernel
theorem dX10_eRead_241 : decode cX10_eRead 241 = .ok (.invokevirtual 174, 3) := by decide +kernel
theorem dX10_eRead_244 : decode cX10_eRead 244 = .ok (.ifCond .ne 5, 3) := by decide +kernel
theorem dX10_eRead_247 : decode cX10_eRead 247 = .ok (.iconst 0, 1) := by decide +kernel
theorem dX10_eRead_248 : decode cX10_eRead 248 = .ok (.ireturn, 1) := by decide +kernel
theorem dX10_eRead_249 : decode cX10_eRead 249 = .ok (.iconst 1, 1) := by decide +kernel
theorem dX10_eRead_250 : decode cX10_eRead 250 = .ok (.istore_n 1, 1) := by decide +kernel
theorem dX10_eRead_251 : decode cX10_eRead 251 = .ok (.iload_n 3, 1) := by decide +kernel
theorem dX10_eRead_252 : decode cX10_eRead 252 = .ok (.bipush 12, 2) := by decide +kernel
theorem dX10_eRead_254 : decode cX10_eRead 254 = .ok (.if_icmp .gt 7, 3) := by decide +kernel
theorem dX10_eRead_257 : decode cX10_eRead 257 = .ok (.iconst 1, 1) := by decide +kernel
theorem dX10_eRead_258 : decode cX10_eRead 258 = .ok (.goto 4, 3) := by decide +kernel
theorem dX10_eRead_261 : decode cX10_eRead 261 = .ok (.iconst 0, 1) := by decide +kernel
theorem dX10_eRead_262 : decode cX10_eRead 262 = .ok (.istore_n 2, 1) := by decide +kernel
theorem dX10_eRead_263 : decode cX10_eRead 263 = .ok (.goto (-249), 3) := by decide +kernel
theorem dX10_text_0 : decode cX10_text 0 = .ok (.aload_n 0, 1) := by decide +kernel
theorem dX10_text_1 : decode cX10_text 1 = .ok (.getfield 115, 3) := by decide +kernel
theorem dX10_text_4 : decode cX10_text 4 = .ok (.bipush 6, 2) := by decide +kernel
theorem dX10_text_6 : decode cX10_text 6 = .ok (.if_icmp .ne 6, 3) := by decide +kernel
theorem dX10_text_9 : decode cX10_text 9 = .ok (.bipush (-4), 2) := by decide +kernel
theorem dX10_text_11 : decode cX10_text 11 = .ok (.ireturn, 1) := by decide +kernel
theorem dX10_text_12 : decode cX10_text 12 = .ok (.aload_n 0, 1) := by decide +kernel
theorem dX10_text_13 : decode cX10_text 13 = .ok (.iconst 0, 1) := by decide +kernel
theorem dX10_text_14 : decode cX10_text 14 = .ok (.putfield 125, 3) := by decide +kernel
theorem dX10_text_17 : decode cX10_text 17 = .ok (.aload_n 0, 1) := by decide +kernel
theorem dX10_text_18 : decode cX10_text 18 = .ok (.iconst 0, 1) := by decide +kernel
theorem dX10_text_19 : decode cX10_text 19 = .ok (.putfield 141, 3) := by decide +kernel
theorem dX10_text_22 : decode cX10_text 22 = .ok (.iconst 1, 1) := by decide +kernel
theorem dX10_text_23 : decode cX10_text 23 = .ok (.istore_n 1, 1) := by decide +kernel
theorem dX10_text_24 : decode cX10_text 24 = .ok (.iconst 0, 1) := by decide +kernel
theorem dX10_text_25 : decode cX10_text 25 = .ok (.istore_n 2, 1) := by decide +kernel
theorem dX10_text_26 : decode cX10_text 26 = .ok (.iload_n 2, 1) := by decide +kernel
theorem dX10_text_27 : decode cX10_text 27 = .ok (.iconst 3, 1) := by decide +kernel
theorem dX10_text_28 : decode cX10_text 28 = .ok (.if_icmp .ge 73, 3) := by decide +kernel
theorem dX10_text_31 : decode cX10_text 31 = .ok (.iload_n 1, 1) := by decide +kernel
theorem dX10_text_32 : decode cX10_text 32 = .ok (.ifCond .eq 69, 3) := by decide +kernel
theorem dX10_text_35 : decode cX10_text 35 = .ok (.aload_n 0, 1) := by decide +kernel
theorem dX10_text_36 : decode cX10_text 36 = .ok (.invokevirtual 164, 3) := by decide +kernel
theorem dX10_text_39 : decode cX10_text 39 = .ok (.aload_n 0, 1) := by decide +kernel
theorem dX10_text_40 : decode cX10_text 40 = .ok (.getfield 131, 3) := by decide +kernel
theorem dX10_text_43 : decode cX10_text 43 = .ok (.iconst 3, 1) := by decide +kernel
theorem dX10_text_44 : decode cX10_text 44 = .ok (.if_icmp .ne 15, 3) := by decide +kernel
theorem dX10_text_47 : decode cX10_text 47 = .ok (.aload_n 0, 1) := by decide +kernel
theorem dX10_text_48 : decode cX10_text 48 = .ok (.getfield 134, 3) := by decide +kernel
theorem dX10_text_51 : decode cX10_text 51 = .ok (.iload_n 2, 1) := by decide +kernel
theorem dX10_text_52 : decode cX10_text 52 = .ok (.if_icmp .ne 7, 3) := by decide +kernel
theorem dX10_text_55 : decode cX10_text 55 = .ok (.iconst 1, 1) := by decide +kernel
theorem dX10_text_56 : decode cX10_text 56 = .ok (.goto 4, 3) := by decide +kernel
theorem dX10_text_59 : decode cX10_text 59 = .ok (.iconst 0, 1) := by decide +kernel
theorem dX10_text_60 : decode cX10_text 60 = .ok (.istore_n 1, 1) := by decide +kernel
theorem dX10_text_61 : decode cX10_text 61 = .ok (.aload_n 0, 1) := by decide +kernel
theorem dX10_text_62 : decode cX10_text 62 = .ok (.getfield 34, 3) := by decide +kernel
theorem dX10_text_65 : decode cX10_text 65 = .ok (.iconst 4, 1) := by decide +kernel
theorem dX10_text_66 : decode cX10_text 66 = .ok (.aload_n 0, 1) := by decide +kernel
theorem dX10_text_67 : decode cX10_text 67 = .ok (.getfield 115, 3) := by decide +kernel
theorem dX10_text_70 : decode cX10_text 70 = .ok (.imul, 1) := by decide +kernel
theorem dX10_text_71 : decode cX10_text 71 = .ok (.iload_n 2, 1) := by decide +kernel
theorem dX10_text_72 : decode cX10_text 72 = .ok (.iadd, 1) := by decide +kernel
theorem dX10_text_73 : decode cX10_text 73 = .ok (.aload_n 0, 1) := by decide +kernel
theorem dX10_text_74 : decode cX10_text 74 = .ok (.getfield 141, 3) := by decide +kernel
theorem dX10_text_77 : decode cX10_text 77 = .ok (.iastore, 1) := by decide +kernel
theorem dX10_text_78 : decode cX10_text 78 = .ok (.iload_n 1, 1) := by decide +kernel
theorem dX10_text_79 : decode cX10_text 79 = .ok (.ifCond .eq 14, 3) := by decide +kernel
theorem dX10_text_82 : decode cX10_text 82 = .ok (.aload_n 0, 1) := by decide +kernel
theorem dX10_text_83 : decode cX10_text 83 = .ok (.invokevirtual 177, 3) := by decide +kernel
theorem dX10_text_86 : decode cX10_text 86 = .ok (.ifCond .eq 7, 3) := by decide +kernel
theorem dX10_text_89 : decode cX10_text 89 = .ok (.iconst 1, 1) := by decide +kernel
theorem dX10_text_90 : decode cX10_text 90 = .ok (.goto 4, 3) := by decide +kernel
theorem dX10_text_93 : decode cX10_text 93 = .ok (.iconst 0, 1) := by decide +kernel
theorem dX10_text_94 : decode cX10_text 94 = .ok (.istore_n 1, 1) := by decide +kernel
theorem dX10_text_95 : decode cX10_text 95 = .ok (.iinc 2 1, 3) := by decide +kernel
theorem dX10_text_98 : decode cX10_text 98 = .ok (.goto (-72), 3) := by decide +kernel
theorem dX10_text_101 : decode cX10_text 101 = .ok (.iload_n 1, 1) := by decide +kernel
theorem dX10_text_102 : decode cX10_text 102 = .ok (.ifCond .eq 20, 3) := by decide +kernel
theorem dX10_text_105 : decode cX10_text 105 = .ok (.aload_n 0, 1) := by decide +kernel
theorem dX10_text_106 : decode cX10_text 106 = .ok (.invokevirtual 164, 3) := by decide +kernel
theorem dX10_text_109 : decode cX10_text 109 = .ok (.aload_n 0, 1) := by decide +kernel
theorem dX10_text_110 : decode cX10_text 110 = .ok (.getfield 131, 3) := by decide +kernel
theorem dX10_text_113 : decode cX10_text 113 = .ok (.ifCond .ne 7, 3) := by decide +kernel
theorem dX10_text_116 : decode cX10_text 116 = .ok (.iconst 1, 1) := by decide +kernel
theorem dX10_text_117 : decode cX10_text 117 = .ok (.goto 4, 3) := by decide +kernel
theorem dX10_text_120 : decode cX10_text 120 = .ok (.iconst 0, 1) := by decide +kernel
theorem dX10_text_121 : decode cX10_text 121 = .ok (.istore_n 1, 1) := by decide +kernel
theorem dX10_text_122 : decode cX10_text 122 = .ok (.aload_n 0, 1) := by decide +kernel
theorem dX10_text_123 : decode cX10_text 123 = .ok (.getfield 34, 3) := by decide +kernel
theorem dX10_text_126 : decode cX10_text 126 = .ok (.iconst 4, 1) := by decide +kernel
theorem dX10_text_127 : decode cX10_text 127 = .ok (.aload_n 0, 1) := by decide +kernel
theorem dX10_text_128 : decode cX10_text 128 = .ok (.getfield 115, 3) := by decide +kernel
theorem dX10_text_131 : decode cX10_text 131 = .ok (.imul, 1) := by decide +kernel
theorem dX10_text_132 : decode cX10_text 132 = .ok (.iconst 3, 1) := by decide +kernel
theorem dX10_text_133 : decode cX10_text 133 = .ok (.iadd, 1) := by decide +kernel
theorem dX10_text_134 : decode cX10_text 134 = .ok (.aload_n 0, 1) := by decide +kernel
theorem dX10_text_135 : decode cX10_text 135 = .ok (.getfield 141, 3) := by decide +kernel
theorem dX10_text_138 : decode cX10_text 138 = .ok (.iastore, 1) := by decide +kernel
theorem dX10_text_139 : decode cX10_text 139 = .ok (.aload_n 0, 1) := by decide +kernel
theorem dX10_text_140 : decode cX10_text 140 = .ok (.iconst 0, 1) := by decide +kernel
theorem dX10_text_141 : decode cX10_text 141 = .ok (.putfield 98, 3) := by decide +kernel
theorem dX10_text_144 : decode cX10_text 144 = .ok (.iload_n 1, 1) := by decide +kernel
theorem dX10_text_145 : decode cX10_text 145 = .ok (.ifCond .ne 11, 3) := by decide +kernel
theorem dX10_text_148 : decode cX10_text 148 = .ok (.bipush (-100), 2) := by decide +kernel
theorem dX10_text_150 : decode cX10_text 150 = .ok (.aload_n 0, 1) := by decide +kernel
theorem dX10_text_151 : decode cX10_text 151 = .ok (.getfield 128, 3) := by decide +kernel
theorem dX10_text_154 : decode cX10_text 154 = .ok (.isub, 1) := by decide +kernel
theorem dX10_text_155 : decode cX10_text 155 = .ok (.ireturn, 1) := by decide +kernel
theorem dX10_text_156 : decode cX10_text 156 = .ok (.aload_n 0, 1) := by decide +kernel
theorem dX10_text_157 : decode cX10_text 157 = .ok (.dup, 1) := by decide +kernel
theorem dX10_text_158 : decode cX10_text 158 = .ok (.getfield 115, 3) := by decide +kernel
theorem dX10_text_161 : decode cX10_text 161 = .ok (.iconst 1, 1) := by decide +kernel
theorem dX10_text_162 : decode cX10_text 162 = .ok (.iadd, 1) := by decide +kernel
theorem dX10_text_163 : decode cX10_text 163 = .ok (.putfield 115, 3) := by decide +kernel
theorem dX10_text_166 : decode cX10_text 166 = .ok (.aload_n 0, 1) := by decide +kernel
theorem dX10_text_167 : decode cX10_text 167 = .ok (.getfield 115, 3) := by decide +kernel
theorem dX10_text_170 : decode cX10_text 170 = .ok (.iconst 1, 1) := by decide +kernel
theorem dX10_text_171 : decode cX10_text 171 = .ok (.isub, 1) := by decide +kernel
theorem dX10_text_172 : decode cX10_text 172 = .ok (.ireturn, 1) := by decide +kernel
theorem dX10_two_0 : decode cX10_two 0 = .ok (.iload_n 0, 1) := by decide +kernel
theorem dX10_two_1 : decode cX10_two 1 = .ok (.tableswitch 101 11 17 #[43, 57, 101, 71, 82, 93, 97], 43) := by decide +kernel
theorem dX10_two_44 : decode cX10_two 44 = .ok (.iload_n 1, 1) := by decide +kernel
theorem dX10_two_45 : decode cX10_two 45 = .ok (.ifCond .ne 7, 3) := by decide +kernel
theorem dX10_two_48 : decode cX10_two 48 = .ok (.iload_n 2, 1) := by decide +kernel
theorem dX10_two_49 : decode cX10_two 49 = .ok (.ifCond .eq 7, 3) := by decide +kernel
theorem dX10_two_52 : decode cX10_two 52 = .ok (.iconst 1, 1) := by decide +kernel
theorem dX10_two_53 : decode cX10_two 53 = .ok (.goto 4, 3) := by decide +kernel
theorem dX10_two_56 : decode cX10_two 56 = .ok (.iconst 0, 1) := by decide +kernel
theorem dX10_two_57 : decode cX10_two 57 = .ok (.ireturn, 1) := by decide +kernel
theorem dX10_two_58 : decode cX10_two 58 = .ok (.iload_n 1, 1) := by decide +kernel
theorem dX10_two_59 : decode cX10_two 59 = .ok (.ifCond .eq 11, 3) := by decide +kernel
theorem dX10_two_62 : decode cX10_two 62 = .ok (.iload_n 2, 1) := by decide +kernel
theorem dX10_two_63 : decode cX10_two 63 = .ok (.ifCond .eq 7, 3) := by decide +kernel
theorem dX10_two_66 : decode cX10_two 66 = .ok (.iconst 1, 1) := by decide +kernel
theorem dX10_two_67 : decode cX10_two 67 = .ok (.goto 4, 3) := by decide +kernel
theorem dX10_two_70 : decode cX10_two 70 = .ok (.iconst 0, 1) := by decide +kernel
theorem dX10_two_71 : decode cX10_two 71 = .ok (.ireturn, 1) := by decide +kernel
theorem dX10_two_72 : decode cX10_two 72 = .ok (.iload_n 1, 1) := by decide +kernel
theorem dX10_two_73 : decode cX10_two 73 = .ok (.iload_n 2, 1) := by decide +kernel
theorem dX10_two_74 : decode cX10_two 74 = .ok (.if_icmp .ge 7, 3) := by decide +kernel
theorem dX10_two_77 : decode cX10_two 77 = .ok (.iconst 1, 1) := by decide +kernel
theorem dX10_two_78 : decode cX10_two 78 = .ok (.goto 4, 3) := by decide +kernel
theorem dX10_two_81 : decode cX10_two 81 = .ok (.iconst 0, 1) := by decide +kernel
theorem dX10_two_82 : decode cX10_two 82 = .ok (.ireturn, 1) := by decide +kernel
theorem dX10_two_83 : decode cX10_two 83 = .ok (.iload_n 1, 1) := by decide +kernel
theorem dX10_two_84 : decode cX10_two 84 = .ok (.iload_n 2, 1) := by decide +kernel
theorem dX10_two_85 : decode cX10_two 85 = .ok (.if_icmp .ne 7, 3) := by decide +kernel
theorem dX10_two_88 : decode cX10_two 88 = .ok (.iconst 1, 1) := by decide +kernel
theorem dX10_two_89 : decode cX10_two 89 = .ok (.goto 4, 3) := by decide +kernel
theorem dX10_two_92 : decode cX10_two 92 = .ok (.iconst 0, 1) := by decide +kernel
theorem dX10_two_93 : decode cX10_two 93 = .ok (.ireturn, 1) := by decide +kernel
theorem dX10_two_94 : decode cX10_two 94 = .ok (.iload_n 1, 1) := by decide +kernel
theorem dX10_two_95 : decode cX10_two 95 = .ok (.iload_n 2, 1) := by decide +kernel
theorem dX10_two_96 : decode cX10_two 96 = .ok (.iadd, 1) := by decide +kernel
theorem dX10_two_97 : decode cX10_two 97 = .ok (.ireturn, 1) := by decide +kernel
theorem dX10_two_98 : decode cX10_two 98 = .ok (.iload_n 1, 1) := by decide +kernel
theorem dX10_two_99 : decode cX10_two 99 = .ok (.iload_n 2, 1) := by decide +kernel
theorem dX10_two_100 : decode cX10_two 100 = .ok (.isub, 1) := by decide +kernel
theorem dX10_two_101 : decode cX10_two 101 = .ok (.ireturn, 1) := by decide +kernel
theorem dX10_two_102 : decode cX10_two 102 = .ok (.iload_n 1, 1) := by decide +kernel
theorem dX10_two_103 : decode cX10_two 103 = .ok (.iload_n 2, 1) := by decide +kernel
theorem dX10_two_104 : decode cX10_two 104 = .ok (.imul, 1) := by decide +kernel
theorem dX10_two_105 : decode cX10_two 105 = .ok (.ireturn, 1) := by decide +kernel
theorem dX10_says_0 : decode cX10_says 0 = .ok (.iconst 0, 1) := by decide +kernel
theorem dX10_says_1 : decode cX10_says 1 = .ok (.istore_n 2, 1) := by decide +kernel
theorem dX10_says_2 : decode cX10_says 2 = .ok (.aload_n 0, 1) := by decide +kernel
theorem dX10_says_3 : decode cX10_says 3 = .ok (.getfield 34, 3) := by decide +kernel
theorem dX10_says_6 : decode cX10_says 6 = .ok (.iconst 4, 1) := by decide +kernel
theorem dX10_says_7 : decode cX10_says 7 = .ok (.aload_n 0, 1) := by decide +kernel
theorem dX10_says_8 : decode cX10_says 8 = .ok (.getfield 118, 3) := by decide +kernel
theorem dX10_says_11 : decode cX10_says 11 = .ok (.imul, 1) := by decide +kernel
theorem dX10_says_12 : decode cX10_says 12 = .ok (.iload_n 1, 1) := by decide +kernel
theorem dX10_says_13 : decode cX10_says 13 = .ok (.iadd, 1) := by decide +kernel
theorem dX10_says_14 : decode cX10_says 14 = .ok (.iaload, 1) := by decide +kernel
theorem dX10_says_15 : decode cX10_says 15 = .ok (.istore_n 3, 1) := by decide +kernel
theorem dX10_says_16 : decode cX10_says 16 = .ok (.iload_n 3, 1) := by decide +kernel
theorem dX10_says_17 : decode cX10_says 17 = .ok (.aload_n 0, 1) := by decide +kernel
theorem dX10_says_18 : decode cX10_says 18 = .ok (.getfield 34, 3) := by decide +kernel
theorem dX10_says_21 : decode cX10_says 21 = .ok (.iconst 4, 1) := by decide +kernel
theorem dX10_says_22 : decode cX10_says 22 = .ok (.aload_n 0, 1) := by decide +kernel
theorem dX10_says_23 : decode cX10_says 23 = .ok (.getfield 118, 3) := by decide +kernel
theorem dX10_says_26 : decode cX10_says 26 = .ok (.imul, 1) := by decide +kernel
theorem dX10_says_27 : decode cX10_says 27 = .ok (.iload_n 1, 1) := by decide +kernel
theorem dX10_says_28 : decode cX10_says 28 = .ok (.iadd, 1) := by decide +kernel
theorem dX10_says_29 : decode cX10_says 29 = .ok (.iconst 1, 1) := by decide +kernel
theorem dX10_says_30 : decode cX10_says 30 = .ok (.iadd, 1) := by decide +kernel
theorem dX10_says_31 : decode cX10_says 31 = .ok (.iaload, 1) := by decide +kernel
theorem dX10_says_32 : decode cX10_says 32 = .ok (.if_icmp .ge 165, 3) := by decide +kernel
theorem dX10_says_35 : decode cX10_says 35 = .ok (.aload_n 0, 1) := by decide +kernel
theorem dX10_says_36 : decode cX10_says 36 = .ok (.getfield 31, 3) := by decide +kernel
theorem dX10_says_39 : decode cX10_says 39 = .ok (.sipush 200, 3) := by decide +kernel
theorem dX10_says_42 : decode cX10_says 42 = .ok (.aload_n 0, 1) := by decide +kernel
theorem dX10_says_43 : decode cX10_says 43 = .ok (.getfield 118, 3) := by decide +kernel
theorem dX10_says_46 : decode cX10_says 46 = .ok (.imul, 1) := by decide +kernel
theorem dX10_says_47 : decode cX10_says 47 = .ok (.iload_n 3, 1) := by decide +kernel
theorem dX10_says_48 : decode cX10_says 48 = .ok (.iadd, 1) := by decide +kernel
theorem dX10_says_49 : decode cX10_says 49 = .ok (.iaload, 1) := by decide +kernel
theorem dX10_says_50 : decode cX10_says 50 = .ok (.istore 4, 2) := by decide +kernel
theorem dX10_says_52 : decode cX10_says 52 = .ok (.iload 4, 2) := by decide +kernel
theorem dX10_says_54 : decode cX10_says 54 = .ok (.ldc 167, 2) := by decide +kernel
theorem dX10_says_56 : decode cX10_says 56 = .ok (.if_icmp .ge 10, 3) := by decide +kernel
theorem dX10_says_59 : decode cX10_says 59 = .ok (.iload 4, 2) := by decide +kernel
theorem dX10_says_61 : decode cX10_says 61 = .ok (.bipush 11, 2) := by decide +kernel
theorem dX10_says_63 : decode cX10_says 63 = .ok (.if_icmp .ge 37, 3) := by decide +kernel
theorem dX10_says_66 : decode cX10_says 66 = .ok (.aload_n 0, 1) := by decide +kernel
theorem dX10_says_67 : decode cX10_says 67 = .ok (.getfield 58, 3) := by decide +kernel
theorem dX10_says_70 : decode cX10_says 70 = .ok (.iload_n 2, 1) := by decide +kernel
theorem dX10_says_71 : decode cX10_says 71 = .ok (.iload 4, 2) := by decide +kernel
theorem dX10_says_73 : decode cX10_says 73 = .ok (.bipush 11, 2) := by decide +kernel
theorem dX10_says_75 : decode cX10_says 75 = .ok (.if_icmp .ge 13, 3) := by decide +kernel
theorem dX10_says_78 : decode cX10_says 78 = .ok (.aload_n 0, 1) := by decide +kernel
theorem dX10_says_79 : decode cX10_says 79 = .ok (.getfield 61, 3) := by decide +kernel
theorem dX10_says_82 : decode cX10_says 82 = .ok (.iload 4, 2) := by decide +kernel
theorem dX10_says_84 : decode cX10_says 84 = .ok (.iaload, 1) := by decide +kernel
theorem dX10_says_85 : decode cX10_says 85 = .ok (.goto 8, 3) := by decide +kernel
theorem dX10_says_88 : decode cX10_says 88 = .ok (.iload 4, 2) := by decide +kernel
theorem dX10_says_90 : decode cX10_says 90 = .ok (.ldc 167, 2) := by decide +kernel
theorem dX10_says_92 : decode cX10_says 92 = .ok (.isub, 1) := by decide +kernel
theorem dX10_says_93 : decode cX10_says 93 = .ok (.iastore, 1) := by decide +kernel
theorem dX10_says_94 : decode cX10_says 94 = .ok (.iinc 2 1, 3) := by decide +kernel
theorem dX10_says_97 : decode cX10_says 97 = .ok (.goto 94, 3) := by decide +kernel
theorem dX10_says_100 : decode cX10_says 100 = .ok (.iload 4, 2) := by decide +kernel
theorem dX10_says_102 : decode cX10_says 102 = .ok (.bipush 13, 2) := by decide +kernel
theorem dX10_says_104 : decode cX10_says 104 = .ok (.if_icmp .ne 30, 3) := by decide +kernel
theorem dX10_says_107 : decode cX10_says 107 = .ok (.aload_n 0, 1) := by decide +kernel
theorem dX10_says_108 : decode cX10_says 108 = .ok (.getfield 58, 3) := by decide +kernel
theorem dX10_says_111 : decode cX10_says 111 = .ok (.iload_n 2, 1) := by decide +kernel
theorem dX10_says_112 : decode cX10_says 112 = .ok (.iconst 1, 1) := by decide +kernel
theorem dX10_says_113 : decode cX10_says 113 = .ok (.isub, 1) := by decide +kernel
theorem dX10_says_114 : decode cX10_says 114 = .ok (.aload_n 0, 1) := by decide +kernel
theorem dX10_says_115 : decode cX10_says 115 = .ok (.getfield 58, 3) := by decide +kernel
theorem dX10_says_118 : decode cX10_says 118 = .ok (.iload_n 2, 1) := by decide +kernel
theorem dX10_says_119 : decode cX10_says 119 = .ok (.iconst 1, 1) := by decide +kernel
theorem dX10_says_120 : decode cX10_says 120 = .ok (.isub, 1) := by decide +kernel
theorem dX10_says_121 : decode cX10_says 121 = .ok (.iaload, 1) := by decide +kernel
theorem dX10_says_122 : decode cX10_says 122 = .ok (.ifCond .ne 7, 3) := by decide +kernel
theorem dX10_says_125 : decode cX10_says 125 = .ok (.iconst 1, 1) := by decide +kernel
theorem dX10_says_126 : decode cX10_says 126 = .ok (.goto 4, 3) := by decide +kernel
theorem dX10_says_129 : decode cX10_says 129 = .ok (.iconst 0, 1) := by decide +kernel
theorem dX10_says_130 : decode cX10_says 130 = .ok (.iastore, 1) := by decide +kernel
theorem dX10_says_131 : decode cX10_says 131 = .ok (.goto 60, 3) := by decide +kernel
theorem dX10_says_134 : decode cX10_says 134 = .ok (.iload 4, 2) := by decide +kernel
theorem dX10_says_136 : decode cX10_says 136 = .ok (.bipush 19, 2) := by decide +kernel
theorem dX10_says_138 : decode cX10_says 138 = .ok (.if_icmp .ne 23, 3) := by decide +kernel
theorem dX10_says_141 : decode cX10_says 141 = .ok (.aload_n 0, 1) := by decide +kernel
theorem dX10_says_142 : decode cX10_says 142 = .ok (.getfield 58, 3) := by decide +kernel
theorem dX10_says_145 : decode cX10_says 145 = .ok (.iload_n 2, 1) := by decide +kernel
theorem dX10_says_146 : decode cX10_says 146 = .ok (.iconst 1, 1) := by decide +kernel
theorem dX10_says_147 : decode cX10_says 147 = .ok (.isub, 1) := by decide +kernel
theorem dX10_says_148 : decode cX10_says 148 = .ok (.aload_n 0, 1) := by decide +kernel
theorem dX10_says_149 : decode cX10_says 149 = .ok (.getfield 58, 3) := by decide +kernel
theorem dX10_says_152 : decode cX10_says 152 = .ok (.iload_n 2, 1) := by decide +kernel
theorem dX10_says_153 : decode cX10_says 153 = .ok (.iconst 1, 1) := by decide +kernel
theorem dX10_says_154 : decode cX10_says 154 = .ok (.isub, 1) := by decide +kernel
theorem dX10_says_155 : decode cX10_says 155 = .ok (.iaload, 1) := by decide +kernel
theorem dX10_says_156 : decode cX10_says 156 = .ok (.ineg, 1) := by decide +kernel
theorem dX10_says_157 : decode cX10_says 157 = .ok (.iastore, 1) := by decide +kernel
theorem dX10_says_158 : decode cX10_says 158 = .ok (.goto 33, 3) := by decide +kernel
theorem dX10_says_161 : decode cX10_says 161 = .ok (.iinc 2 (-1), 3) := by decide +kernel
theorem dX10_says_164 : decode cX10_says 164 = .ok (.aload_n 0, 1) := by decide +kernel
theorem dX10_says_165 : decode cX10_says 165 = .ok (.getfield 58, 3) := by decide +kernel
theorem dX10_says_168 : decode cX10_says 168 = .ok (.iload_n 2, 1) := by decide +kernel
theorem dX10_says_169 : decode cX10_says 169 = .ok (.iconst 1, 1) := by decide +kernel
theorem dX10_says_170 : decode cX10_says 170 = .ok (.isub, 1) := by decide +kernel
theorem dX10_says_171 : decode cX10_says 171 = .ok (.iload 4, 2) := by decide +kernel
theorem dX10_says_173 : decode cX10_says 173 = .ok (.aload_n 0, 1) := by decide +kernel
theorem dX10_says_174 : decode cX10_says 174 = .ok (.getfield 58, 3) := by decide +kernel
theorem dX10_says_177 : decode cX10_says 177 = .ok (.iload_n 2, 1) := by decide +kernel
theorem dX10_says_178 : decode cX10_says 178 = .ok (.iconst 1, 1) := by decide +kernel
theorem dX10_says_179 : decode cX10_says 179 = .ok (.isub, 1) := by decide +kernel
theorem dX10_says_180 : decode cX10_says 180 = .ok (.iaload, 1) := by decide +kernel
theorem dX10_says_181 : decode cX10_says 181 = .ok (.aload_n 0, 1) := by decide +kernel
theorem dX10_says_182 : decode cX10_says 182 = .ok (.getfield 58, 3) := by decide +kernel
theorem dX10_says_185 : decode cX10_says 185 = .ok (.iload_n 2, 1) := by decide +kernel
theorem dX10_says_186 : decode cX10_says 186 = .ok (.iaload, 1) := by decide +kernel
theorem dX10_says_187 : decode cX10_says 187 = .ok (.invokestatic 181, 3) := by decide +kernel
theorem dX10_says_190 : decode cX10_says 190 = .ok (.iastore, 1) := by decide +kernel
theorem dX10_says_191 : decode cX10_says 191 = .ok (.iinc 3 1, 3) := by decide +kernel
theorem dX10_says_194 : decode cX10_says 194 = .ok (.goto (-178), 3) := by decide +kernel
theorem dX10_says_197 : decode cX10_says 197 = .ok (.aload_n 0, 1) := by decide +kernel
theorem dX10_says_198 : decode cX10_says 198 = .ok (.getfield 58, 3) := by decide +kernel
theorem dX10_says_201 : decode cX10_says 201 = .ok (.iconst 0, 1) := by decide +kernel
theorem dX10_says_202 : decode cX10_says 202 = .ok (.iaload, 1) := by decide +kernel
theorem dX10_says_203 : decode cX10_says 203 = .ok (.ireturn, 1) := by decide +kernel
theorem dX10_force_0 : decode cX10_force 0 = .ok (.iload_n 1, 1) := by decide +kernel
theorem dX10_force_1 : decode cX10_force 1 = .ok (.iconst 0, 1) := by decide +kernel
theorem dX10_force_2 : decode cX10_force 2 = .ok (.aload_n 0, 1) := by decide +kernel
theorem dX10_force_3 : decode cX10_force 3 = .ok (.getfield 115, 3) := by decide +kernel
theorem dX10_force_6 : decode cX10_force 6 = .ok (.iconst 1, 1) := by decide +kernel
theorem dX10_force_7 : decode cX10_force 7 = .ok (.isub, 1) := by decide +kernel
theorem dX10_force_8 : decode cX10_force 8 = .ok (.invokestatic 108, 3) := by decide +kernel
theorem dX10_force_11 : decode cX10_force 11 = .ok (.ifCond .ne 6, 3) := by decide +kernel
theorem dX10_force_14 : decode cX10_force 14 = .ok (.bipush (-2), 2) := by decide +kernel
theorem dX10_force_16 : decode cX10_force 16 = .ok (.ireturn, 1) := by decide +kernel
theorem dX10_force_17 : decode cX10_force 17 = .ok (.aload_n 0, 1) := by decide +kernel
theorem dX10_force_18 : decode cX10_force 18 = .ok (.getfield 118, 3) := by decide +kernel
theorem dX10_force_21 : decode cX10_force 21 = .ok (.istore_n 2, 1) := by decide +kernel
theorem dX10_force_22 : decode cX10_force 22 = .ok (.aload_n 0, 1) := by decide +kernel
theorem dX10_force_23 : decode cX10_force 23 = .ok (.iload_n 1, 1) := by decide +kernel
theorem dX10_force_24 : decode cX10_force 24 = .ok (.putfield 118, 3) := by decide +kernel
theorem dX10_force_27 : decode cX10_force 27 = .ok (.iload_n 2, 1) := by decide +kernel
theorem dX10_force_28 : decode cX10_force 28 = .ok (.ireturn, 1) := by decide +kernel
theorem dX10_asksOf_0 : decode cX10_asksOf 0 = .ok (.aload_n 0, 1) := by decide +kernel
theorem dX10_asksOf_1 : decode cX10_asksOf 1 = .ok (.getfield 61, 3) := by decide +kernel
theorem dX10_asksOf_4 : decode cX10_asksOf 4 = .ok (.iconst 0, 1) := by decide +kernel
theorem dX10_asksOf_5 : decode cX10_asksOf 5 = .ok (.iload_n 2, 1) := by decide +kernel
theorem dX10_asksOf_6 : decode cX10_asksOf 6 = .ok (.iastore, 1) := by decide +kernel
theorem dX10_asksOf_7 : decode cX10_asksOf 7 = .ok (.aload_n 0, 1) := by decide +kernel
theorem dX10_asksOf_8 : decode cX10_asksOf 8 = .ok (.getfield 61, 3) := by decide +kernel
theorem dX10_asksOf_11 : decode cX10_asksOf 11 = .ok (.iconst 1, 1) := by decide +kernel
theorem dX10_asksOf_12 : decode cX10_asksOf 12 = .ok (.iload_n 3, 1) := by decide +kernel
theorem dX10_asksOf_13 : decode cX10_asksOf 13 = .ok (.iastore, 1) := by decide +kernel
theorem dX10_asksOf_14 : decode cX10_asksOf 14 = .ok (.aload_n 0, 1) := by decide +kernel
theorem dX10_asksOf_15 : decode cX10_asksOf 15 = .ok (.getfield 61, 3) := by decide +kernel
theorem dX10_asksOf_18 : decode cX10_asksOf 18 = .ok (.iconst 2, 1) := by decide +kernel
theorem dX10_asksOf_19 : decode cX10_asksOf 19 = .ok (.iload 4, 2) := by decide +kernel
theorem dX10_asksOf_21 : decode cX10_asksOf 21 = .ok (.iastore, 1) := by decide +kernel
theorem dX10_asksOf_22 : decode cX10_asksOf 22 = .ok (.aload_n 0, 1) := by decide +kernel
theorem dX10_asksOf_23 : decode cX10_asksOf 23 = .ok (.getfield 61, 3) := by decide +kernel
theorem dX10_asksOf_26 : decode cX10_asksOf 26 = .ok (.iconst 3, 1) := by decide +kernel
theorem dX10_asksOf_27 : decode cX10_asksOf 27 = .ok (.iload 5, 2) := by decide +kernel
theorem dX10_asksOf_29 : decode cX10_asksOf 29 = .ok (.iastore, 1) := by decide +kernel
theorem dX10_asksOf_30 : decode cX10_asksOf 30 = .ok (.aload_n 0, 1) := by decide +kernel
theorem dX10_asksOf_31 : decode cX10_asksOf 31 = .ok (.getfield 61, 3) := by decide +kernel
theorem dX10_asksOf_34 : decode cX10_asksOf 34 = .ok (.iconst 4, 1) := by decide +kernel
theorem dX10_asksOf_35 : decode cX10_asksOf 35 = .ok (.iload 6, 2) := by decide +kernel
theorem dX10_asksOf_37 : decode cX10_asksOf 37 = .ok (.iastore, 1) := by decide +kernel
theorem dX10_asksOf_38 : decode cX10_asksOf 38 = .ok (.aload_n 0, 1) := by decide +kernel
theorem dX10_asksOf_39 : decode cX10_asksOf 39 = .ok (.getfield 61, 3) := by decide +kernel
theorem dX10_asksOf_42 : decode cX10_asksOf 42 = .ok (.iconst 5, 1) := by decide +kernel
theorem dX10_asksOf_43 : decode cX10_asksOf 43 = .ok (.iload 7, 2) := by decide +kernel
theorem dX10_asksOf_45 : decode cX10_asksOf 45 = .ok (.iastore, 1) := by decide +kernel
theorem dX10_asksOf_46 : decode cX10_asksOf 46 = .ok (.aload_n 0, 1) := by decide +kernel
theorem dX10_asksOf_47 : decode cX10_asksOf 47 = .ok (.iload_n 1, 1) := by decide +kernel
theorem dX10_asksOf_48 : decode cX10_asksOf 48 = .ok (.invokevirtual 185, 3) := by decide +kernel
theorem dX10_asksOf_51 : decode cX10_asksOf 51 = .ok (.istore 8, 2) := by decide +kernel
theorem dX10_asksOf_53 : decode cX10_asksOf 53 = .ok (.iload_n 1, 1) := by decide +kernel
theorem dX10_asksOf_54 : decode cX10_asksOf 54 = .ok (.iconst 2, 1) := by decide +kernel
theorem dX10_asksOf_55 : decode cX10_asksOf 55 = .ok (.if_icmp .ne 16, 3) := by decide +kernel
theorem dX10_asksOf_58 : decode cX10_asksOf 58 = .ok (.iload 8, 2) := by decide +kernel
theorem dX10_asksOf_60 : decode cX10_asksOf 60 = .ok (.ifCond .ne 7, 3) := by decide +kernel
theorem dX10_asksOf_63 : decode cX10_asksOf 63 = .ok (.iconst 0, 1) := by decide +kernel
theorem dX10_asksOf_64 : decode cX10_asksOf 64 = .ok (.goto 15, 3) := by decide +kernel
theorem dX10_asksOf_67 : decode cX10_asksOf 67 = .ok (.iconst 1, 1) := by decide +kernel
theorem dX10_asksOf_68 : decode cX10_asksOf 68 = .ok (.goto 11, 3) := by decide +kernel
theorem dX10_asksOf_71 : decode cX10_asksOf 71 = .ok (.iload 8, 2) := by decide +kernel
theorem dX10_asksOf_73 : decode cX10_asksOf 73 = .ok (.iconst 0, 1) := by decide +kernel
theorem dX10_asksOf_74 : decode cX10_asksOf 74 = .ok (.bipush 99, 2) := by decide +kernel
theorem dX10_asksOf_76 : decode cX10_asksOf 76 = .ok (.invokestatic 188, 3) := by decide +kernel
theorem dX10_asksOf_79 : decode cX10_asksOf 79 = .ok (.ireturn, 1) := by decide +kernel
theorem dX10_asks_0 : decode cX10_asks 0 = .ok (.iload_n 1, 1) := by decide +kernel
theorem dX10_asks_1 : decode cX10_asks 1 = .ok (.iconst 0, 1) := by decide +kernel
theorem dX10_asks_2 : decode cX10_asks 2 = .ok (.iconst 2, 1) := by decide +kernel
theorem dX10_asks_3 : decode cX10_asks 3 = .ok (.invokestatic 108, 3) := by decide +kernel
theorem dX10_asks_6 : decode cX10_asks 6 = .ok (.ifCond .eq 56, 3) := by decide +kernel
theorem dX10_asks_9 : decode cX10_asks 9 = .ok (.iload_n 2, 1) := by decide +kernel
theorem dX10_asks_10 : decode cX10_asks 10 = .ok (.invokestatic 191, 3) := by decide +kernel
theorem dX10_asks_13 : decode cX10_asks 13 = .ok (.ifCond .eq 49, 3) := by decide +kernel
theorem dX10_asks_16 : decode cX10_asks 16 = .ok (.iload_n 3, 1) := by decide +kernel
theorem dX10_asks_17 : decode cX10_asks 17 = .ok (.iconst 0, 1) := by decide +kernel
theorem dX10_asks_18 : decode cX10_asks 18 = .ok (.bipush 49, 2) := by decide +kernel
theorem dX10_asks_20 : decode cX10_asks 20 = .ok (.invokestatic 108, 3) := by decide +kernel
theorem dX10_asks_23 : decode cX10_asks 23 = .ok (.ifCond .eq 39, 3) := by decide +kernel
theorem dX10_asks_26 : decode cX10_asks 26 = .ok (.iload 4, 2) := by decide +kernel
theorem dX10_asks_28 : decode cX10_asks 28 = .ok (.iconst 0, 1) := by decide +kernel
theorem dX10_asks_29 : decode cX10_asks 29 = .ok (.sipush 401, 3) := by decide +kernel
theorem dX10_asks_32 : decode cX10_asks 32 = .ok (.invokestatic 108, 3) := by decide +kernel
theorem dX10_asks_35 : decode cX10_asks 35 = .ok (.ifCond .eq 27, 3) := by decide +kernel
theorem dX10_asks_38 : decode cX10_asks 38 = .ok (.iload 4, 2) := by decide +kernel
theorem dX10_asks_40 : decode cX10_asks 40 = .ok (.bipush 10, 2) := by decide +kernel
theorem dX10_asks_42 : decode cX10_asks 42 = .ok (.irem, 1) := by decide +kernel
theorem dX10_asks_43 : decode cX10_asks 43 = .ok (.iconst 2, 1) := by decide +kernel
theorem dX10_asks_44 : decode cX10_asks 44 = .ok (.if_icmp .ge 18, 3) := by decide +kernel
theorem dX10_asks_47 : decode cX10_asks 47 = .ok (.iload 5, 2) := by decide +kernel
theorem dX10_asks_49 : decode cX10_asks 49 = .ok (.iconst 0, 1) := by decide +kernel
theorem dX10_asks_50 : decode cX10_asks 50 = .ok (.bipush 9, 2) := by decide +kernel
theorem dX10_asks_52 : decode cX10_asks 52 = .ok (.invokestatic 108, 3) := by decide +kernel
theorem dX10_asks_55 : decode cX10_asks 55 = .ok (.ifCond .eq 7, 3) := by decide +kernel
theorem dX10_asks_58 : decode cX10_asks 58 = .ok (.iconst 1, 1) := by decide +kernel
theorem dX10_asks_59 : decode cX10_asks 59 = .ok (.goto 4, 3) := by decide +kernel
theorem dX10_asks_62 : decode cX10_asks 62 = .ok (.iconst 0, 1) := by decide +kernel
theorem dX10_asks_63 : decode cX10_asks 63 = .ok (.istore 6, 2) := by decide +kernel
theorem dX10_asks_65 : decode cX10_asks 65 = .ok (.iload 6, 2) := by decide +kernel
theorem dX10_asks_67 : decode cX10_asks 67 = .ok (.ifCond .eq 32, 3) := by decide +kernel
theorem dX10_asks_70 : decode cX10_asks 70 = .ok (.aload_n 0, 1) := by decide +kernel
theorem dX10_asks_71 : decode cX10_asks 71 = .ok (.iload_n 1, 1) := by decide +kernel
theorem dX10_asks_72 : decode cX10_asks 72 = .ok (.iload_n 2, 1) := by decide +kernel
theorem dX10_asks_73 : decode cX10_asks 73 = .ok (.iload_n 3, 1) := by decide +kernel
theorem dX10_asks_74 : decode cX10_asks 74 = .ok (.bipush 10, 2) := by decide +kernel
theorem dX10_asks_76 : decode cX10_asks 76 = .ok (.idiv, 1) := by decide +kernel
theorem dX10_asks_77 : decode cX10_asks 77 = .ok (.iload_n 3, 1) := by decide +kernel
theorem dX10_asks_78 : decode cX10_asks 78 = .ok (.bipush 10, 2) := by decide +kernel
theorem dX10_asks_80 : decode cX10_asks 80 = .ok (.irem, 1) := by decide +kernel
theorem dX10_asks_81 : decode cX10_asks 81 = .ok (.iload 4, 2) := by decide +kernel
theorem dX10_asks_83 : decode cX10_asks 83 = .ok (.bipush 10, 2) := by decide +kernel
theorem dX10_asks_85 : decode cX10_asks 85 = .ok (.idiv, 1) := by decide +kernel
theorem dX10_asks_86 : decode cX10_asks 86 = .ok (.iload 4, 2) := by decide +kernel
theorem dX10_asks_88 : decode cX10_asks 88 = .ok (.bipush 10, 2) := by decide +kernel
theorem dX10_asks_90 : decode cX10_asks 90 = .ok (.irem, 1) := by decide +kernel
theorem dX10_asks_91 : decode cX10_asks 91 = .ok (.iload 5, 2) := by decide +kernel
theorem dX10_asks_93 : decode cX10_asks 93 = .ok (.invokevirtual 194, 3) := by decide +kernel
theorem dX10_asks_96 : decode cX10_asks 96 = .ok (.goto 5, 3) := by decide +kernel
theorem dX10_asks_99 : decode cX10_asks 99 = .ok (.bipush (-2), 2) := by decide +kernel
theorem dX10_asks_101 : decode cX10_asks 101 = .ok (.ireturn, 1) := by decide +kernel
theorem dX10_whoSits_0 : decode cX10_whoSits 0 = .ok (.iconst 0, 1) := by decide +kernel
theorem dX10_whoSits_1 : decode cX10_whoSits 1 = .ok (.istore_n 2, 1) := by decide +kernel
theorem dX10_whoSits_2 : decode cX10_whoSits 2 = .ok (.iload_n 2, 1) := by decide +kernel
theorem dX10_whoSits_3 : decode cX10_whoSits 3 = .ok (.aload_n 0, 1) := by decide +kernel
theorem dX10_whoSits_4 : decode cX10_whoSits 4 = .ok (.getfield 105, 3) := by decide +kernel
theorem dX10_whoSits_7 : decode cX10_whoSits 7 = .ok (.if_icmp .ge 21, 3) := by decide +kernel
theorem dX10_whoSits_10 : decode cX10_whoSits 10 = .ok (.aload_n 0, 1) := by decide +kernel
theorem dX10_whoSits_11 : decode cX10_whoSits 11 = .ok (.getfield 22, 3) := by decide +kernel
theorem dX10_whoSits_14 : decode cX10_whoSits 14 = .ok (.iload_n 2, 1) := by decide +kernel
theorem dX10_whoSits_15 : decode cX10_whoSits 15 = .ok (.iaload, 1) := by decide +kernel
theorem dX10_whoSits_16 : decode cX10_whoSits 16 = .ok (.iload_n 1, 1) := by decide +kernel
theorem dX10_whoSits_17 : decode cX10_whoSits 17 = .ok (.if_icmp .ne 5, 3) := by decide +kernel
theorem dX10_whoSits_20 : decode cX10_whoSits 20 = .ok (.iload_n 2, 1) := by decide +kernel
theorem dX10_whoSits_21 : decode cX10_whoSits 21 = .ok (.ireturn, 1) := by decide +kernel
theorem dX10_whoSits_22 : decode cX10_whoSits 22 = .ok (.iinc 2 1, 3) := by decide +kernel
theorem dX10_whoSits_25 : decode cX10_whoSits 25 = .ok (.goto (-23), 3) := by decide +kernel
theorem dX10_whoSits_28 : decode cX10_whoSits 28 = .ok (.iconst (-1), 1) := by decide +kernel
theorem dX10_whoSits_29 : decode cX10_whoSits 29 = .ok (.ireturn, 1) := by decide +kernel
theorem dX10_face_0 : decode cX10_face 0 = .ok (.iload_n 1, 1) := by decide +kernel
theorem dX10_face_1 : decode cX10_face 1 = .ok (.iconst 0, 1) := by decide +kernel
theorem dX10_face_2 : decode cX10_face 2 = .ok (.bipush 59, 2) := by decide +kernel
theorem dX10_face_4 : decode cX10_face 4 = .ok (.invokestatic 108, 3) := by decide +kernel
theorem dX10_face_7 : decode cX10_face 7 = .ok (.ifCond .eq 17, 3) := by decide +kernel
theorem dX10_face_10 : decode cX10_face 10 = .ok (.iload_n 2, 1) := by decide +kernel
theorem dX10_face_11 : decode cX10_face 11 = .ok (.invokestatic 191, 3) := by decide +kernel
theorem dX10_face_14 : decode cX10_face 14 = .ok (.ifCond .eq 10, 3) := by decide +kernel
theorem dX10_face_17 : decode cX10_face 17 = .ok (.iload_n 3, 1) := by decide +kernel
theorem dX10_face_18 : decode cX10_face 18 = .ok (.invokestatic 198, 3) := by decide +kernel
theorem dX10_face_21 : decode cX10_face 21 = .ok (.ifCond .ne 6, 3) := by decide +kernel
theorem dX10_face_24 : decode cX10_face 24 = .ok (.bipush (-2), 2) := by decide +kernel
theorem dX10_face_26 : decode cX10_face 26 = .ok (.ireturn, 1) := by decide +kernel
theorem dX10_face_27 : decode cX10_face 27 = .ok (.aload_n 0, 1) := by decide +kernel
theorem dX10_face_28 : decode cX10_face 28 = .ok (.getfield 105, 3) := by decide +kernel
theorem dX10_face_31 : decode cX10_face 31 = .ok (.iconst 5, 1) := by decide +kernel
theorem dX10_face_32 : decode cX10_face 32 = .ok (.if_icmp .ne 6, 3) := by decide +kernel
theorem dX10_face_35 : decode cX10_face 35 = .ok (.bipush (-4), 2) := by decide +kernel
theorem dX10_face_37 : decode cX10_face 37 = .ok (.ireturn, 1) := by decide +kernel
theorem dX10_face_38 : decode cX10_face 38 = .ok (.aload_n 0, 1) := by decide +kernel
theorem dX10_face_39 : decode cX10_face 39 = .ok (.iload_n 3, 1) := by decide +kernel
theorem dX10_face_40 : decode cX10_face 40 = .ok (.invokevirtual 201, 3) := by decide +kernel
theorem dX10_face_43 : decode cX10_face 43 = .ok (.iconst (-1), 1) := by decide +kernel
theorem dX10_face_44 : decode cX10_face 44 = .ok (.if_icmp .eq 6, 3) := by decide +kernel
theorem dX10_face_47 : decode cX10_face 47 = .ok (.bipush (-3), 2) := by decide +kernel
theorem dX10_face_49 : decode cX10_face 49 = .ok (.ireturn, 1) := by decide +kernel
theorem dX10_face_50 : decode cX10_face 50 = .ok (.aload_n 0, 1) := by decide +kernel
theorem dX10_face_51 : decode cX10_face 51 = .ok (.getfield 13, 3) := by decide +kernel
theorem dX10_face_54 : decode cX10_face 54 = .ok (.aload_n 0, 1) := by decide +kernel
theorem dX10_face_55 : decode cX10_face 55 = .ok (.getfield 105, 3) := by decide +kernel
theorem dX10_face_58 : decode cX10_face 58 = .ok (.iload_n 1, 1) := by decide +kernel
theorem dX10_face_59 : decode cX10_face 59 = .ok (.bipush 10, 2) := by decide +kernel
theorem dX10_face_61 : decode cX10_face 61 = .ok (.idiv, 1) := by decide +kernel
theorem dX10_face_62 : decode cX10_face 62 = .ok (.iastore, 1) := by decide +kernel
theorem dX10_face_63 : decode cX10_face 63 = .ok (.aload_n 0, 1) := by decide +kernel
theorem dX10_face_64 : decode cX10_face 64 = .ok (.getfield 16, 3) := by decide +kernel
theorem dX10_face_67 : decode cX10_face 67 = .ok (.aload_n 0, 1) := by decide +kernel
theorem dX10_face_68 : decode cX10_face 68 = .ok (.getfield 105, 3) := by decide +kernel
theorem dX10_face_71 : decode cX10_face 71 = .ok (.iload_n 1, 1) := by decide +kernel
theorem dX10_face_72 : decode cX10_face 72 = .ok (.bipush 10, 2) := by decide +kernel
theorem dX10_face_74 : decode cX10_face 74 = .ok (.irem, 1) := by decide +kernel
theorem dX10_face_75 : decode cX10_face 75 = .ok (.iastore, 1) := by decide +kernel
theorem dX10_face_76 : decode cX10_face 76 = .ok (.aload_n 0, 1) := by decide +kernel
theorem dX10_face_77 : decode cX10_face 77 = .ok (.getfield 19, 3) := by decide +kernel
theorem dX10_face_80 : decode cX10_face 80 = .ok (.aload_n 0, 1) := by decide +kernel
theorem dX10_face_81 : decode cX10_face 81 = .ok (.getfield 105, 3) := by decide +kernel
theorem dX10_face_84 : decode cX10_face 84 = .ok (.iload_n 2, 1) := by decide +kernel
theorem dX10_face_85 : decode cX10_face 85 = .ok (.iastore, 1) := by decide +kernel
theorem dX10_face_86 : decode cX10_face 86 = .ok (.aload_n 0, 1) := by decide +kernel
theorem dX10_face_87 : decode cX10_face 87 = .ok (.getfield 22, 3) := by decide +kernel
theorem dX10_face_90 : decode cX10_face 90 = .ok (.aload_n 0, 1) := by decide +kernel
theorem dX10_face_91 : decode cX10_face 91 = .ok (.getfield 105, 3) := by decide +kernel
theorem dX10_face_94 : decode cX10_face 94 = .ok (.iload_n 3, 1) := by decide +kernel
theorem dX10_face_95 : decode cX10_face 95 = .ok (.iastore, 1) := by decide +kernel
theorem dX10_face_96 : decode cX10_face 96 = .ok (.aload_n 0, 1) := by decide +kernel
theorem dX10_face_97 : decode cX10_face 97 = .ok (.dup, 1) := by decide +kernel
theorem dX10_face_98 : decode cX10_face 98 = .ok (.getfield 105, 3) := by decide +kernel
theorem dX10_face_101 : decode cX10_face 101 = .ok (.iconst 1, 1) := by decide +kernel
theorem dX10_face_102 : decode cX10_face 102 = .ok (.iadd, 1) := by decide +kernel
theorem dX10_face_103 : decode cX10_face 103 = .ok (.putfield 105, 3) := by decide +kernel
theorem dX10_face_106 : decode cX10_face 106 = .ok (.aload_n 0, 1) := by decide +kernel
theorem dX10_face_107 : decode cX10_face 107 = .ok (.getfield 105, 3) := by decide +kernel
theorem dX10_face_110 : decode cX10_face 110 = .ok (.iconst 1, 1) := by decide +kernel
theorem dX10_face_111 : decode cX10_face 111 = .ok (.isub, 1) := by decide +kernel
theorem dX10_face_112 : decode cX10_face 112 = .ok (.ireturn, 1) := by decide +kernel
theorem dX10_warm_0 : decode cX10_warm 0 = .ok (.aload_n 0, 1) := by decide +kernel
theorem dX10_warm_1 : decode cX10_warm 1 = .ok (.iload_n 1, 1) := by decide +kernel
theorem dX10_warm_2 : decode cX10_warm 2 = .ok (.invokevirtual 204, 3) := by decide +kernel
theorem dX10_warm_5 : decode cX10_warm 5 = .ok (.ifCond .ne 6, 3) := by decide +kernel
theorem dX10_warm_8 : decode cX10_warm 8 = .ok (.bipush (-5), 2) := by decide +kernel
theorem dX10_warm_10 : decode cX10_warm 10 = .ok (.ireturn, 1) := by decide +kernel
theorem dX10_warm_11 : decode cX10_warm 11 = .ok (.iload_n 2, 1) := by decide +kernel
theorem dX10_warm_12 : decode cX10_warm 12 = .ok (.invokestatic 191, 3) := by decide +kernel
theorem dX10_warm_15 : decode cX10_warm 15 = .ok (.ifCond .ne 6, 3) := by decide +kernel
theorem dX10_warm_18 : decode cX10_warm 18 = .ok (.bipush (-7), 2) := by decide +kernel
theorem dX10_warm_20 : decode cX10_warm 20 = .ok (.ireturn, 1) := by decide +kernel
theorem dX10_warm_21 : decode cX10_warm 21 = .ok (.aload_n 0, 1) := by decide +kernel
theorem dX10_warm_22 : decode cX10_warm 22 = .ok (.getfield 19, 3) := by decide +kernel
theorem dX10_warm_25 : decode cX10_warm 25 = .ok (.iload_n 1, 1) := by decide +kernel
theorem dX10_warm_26 : decode cX10_warm 26 = .ok (.iaload, 1) := by decide +kernel
theorem dX10_warm_27 : decode cX10_warm 27 = .ok (.istore_n 3, 1) := by decide +kernel
theorem dX10_warm_28 : decode cX10_warm 28 = .ok (.aload_n 0, 1) := by decide +kernel
theorem dX10_warm_29 : decode cX10_warm 29 = .ok (.getfield 19, 3) := by decide +kernel
theorem dX10_warm_32 : decode cX10_warm 32 = .ok (.iload_n 1, 1) := by decide +kernel
theorem dX10_warm_33 : decode cX10_warm 33 = .ok (.iload_n 2, 1) := by decide +kernel
theorem dX10_warm_34 : decode cX10_warm 34 = .ok (.iastore, 1) := by decide +kernel
theorem dX10_warm_35 : decode cX10_warm 35 = .ok (.iload_n 3, 1) := by decide +kernel
theorem dX10_warm_36 : decode cX10_warm 36 = .ok (.ireturn, 1) := by decide +kernel
theorem dX10_sits_0 : decode cX10_sits 0 = .ok (.aload_n 0, 1) := by decide +kernel
theorem dX10_sits_1 : decode cX10_sits 1 = .ok (.getfield 22, 3) := by decide +kernel
theorem dX10_sits_4 : decode cX10_sits 4 = .ok (.iload_n 1, 1) := by decide +kernel
theorem dX10_sits_5 : decode cX10_sits 5 = .ok (.iaload, 1) := by decide +kernel
theorem dX10_sits_6 : decode cX10_sits 6 = .ok (.istore_n 3, 1) := by decide +kernel
theorem dX10_sits_7 : decode cX10_sits 7 = .ok (.aload_n 0, 1) := by decide +kernel
theorem dX10_sits_8 : decode cX10_sits 8 = .ok (.iload_n 2, 1) := by decide +kernel
theorem dX10_sits_9 : decode cX10_sits 9 = .ok (.invokevirtual 201, 3) := by decide +kernel
theorem dX10_sits_12 : decode cX10_sits 12 = .ok (.istore 4, 2) := by decide +kernel
theorem dX10_sits_14 : decode cX10_sits 14 = .ok (.iload 4, 2) := by decide +kernel
theorem dX10_sits_16 : decode cX10_sits 16 = .ok (.iconst (-1), 1) := by decide +kernel
theorem dX10_sits_17 : decode cX10_sits 17 = .ok (.if_icmp .eq 11, 3) := by decide +kernel
theorem dX10_sits_20 : decode cX10_sits 20 = .ok (.aload_n 0, 1) := by decide +kernel
theorem dX10_sits_21 : decode cX10_sits 21 = .ok (.getfield 22, 3) := by decide +kernel
theorem dX10_sits_24 : decode cX10_sits 24 = .ok (.iload 4, 2) := by decide +kernel
theorem dX10_sits_26 : decode cX10_sits 26 = .ok (.iload_n 3, 1) := by decide +kernel
theorem dX10_sits_27 : decode cX10_sits 27 = .ok (.iastore, 1) := by decide +kernel
theorem dX10_sits_28 : decode cX10_sits 28 = .ok (.aload_n 0, 1) := by decide +kernel
theorem dX10_sits_29 : decode cX10_sits 29 = .ok (.getfield 22, 3) := by decide +kernel
theorem dX10_sits_32 : decode cX10_sits 32 = .ok (.iload_n 1, 1) := by decide +kernel
theorem dX10_sits_33 : decode cX10_sits 33 = .ok (.iload_n 2, 1) := by decide +kernel
theorem dX10_sits_34 : decode cX10_sits 34 = .ok (.iastore, 1) := by decide +kernel
theorem dX10_sits_35 : decode cX10_sits 35 = .ok (.iload_n 3, 1) := by decide +kernel
theorem dX10_sits_36 : decode cX10_sits 36 = .ok (.ireturn, 1) := by decide +kernel
theorem dX10_sit_0 : decode cX10_sit 0 = .ok (.aload_n 0, 1) := by decide +kernel
theorem dX10_sit_1 : decode cX10_sit 1 = .ok (.iload_n 1, 1) := by decide +kernel
theorem dX10_sit_2 : decode cX10_sit 2 = .ok (.invokevirtual 204, 3) := by decide +kernel
theorem dX10_sit_5 : decode cX10_sit 5 = .ok (.ifCond .ne 6, 3) := by decide +kernel
theorem dX10_sit_8 : decode cX10_sit 8 = .ok (.bipush (-5), 2) := by decide +kernel
theorem dX10_sit_10 : decode cX10_sit 10 = .ok (.ireturn, 1) := by decide +kernel
theorem dX10_sit_11 : decode cX10_sit 11 = .ok (.iload_n 2, 1) := by decide +kernel
theorem dX10_sit_12 : decode cX10_sit 12 = .ok (.invokestatic 198, 3) := by decide +kernel
theorem dX10_sit_15 : decode cX10_sit 15 = .ok (.ifCond .eq 12, 3) := by decide +kernel
theorem dX10_sit_18 : decode cX10_sit 18 = .ok (.aload_n 0, 1) := by decide +kernel
theorem dX10_sit_19 : decode cX10_sit 19 = .ok (.iload_n 1, 1) := by decide +kernel
theorem dX10_sit_20 : decode cX10_sit 20 = .ok (.iload_n 2, 1) := by decide +kernel
theorem dX10_sit_21 : decode cX10_sit 21 = .ok (.invokevirtual 207, 3) := by decide +kernel
theorem dX10_sit_24 : decode cX10_sit 24 = .ok (.goto 5, 3) := by decide +kernel
theorem dX10_sit_27 : decode cX10_sit 27 = .ok (.bipush (-7), 2) := by decide +kernel
theorem dX10_sit_29 : decode cX10_sit 29 = .ok (.ireturn, 1) := by decide +kernel
theorem dX10_lamp_0 : decode cX10_lamp 0 = .ok (.iload_n 1, 1) := by decide +kernel
theorem dX10_lamp_1 : decode cX10_lamp 1 = .ok (.invokestatic 198, 3) := by decide +kernel
theorem dX10_lamp_4 : decode cX10_lamp 4 = .ok (.ifCond .ne 6, 3) := by decide +kernel
theorem dX10_lamp_7 : decode cX10_lamp 7 = .ok (.bipush (-5), 2) := by decide +kernel
theorem dX10_lamp_9 : decode cX10_lamp 9 = .ok (.ireturn, 1) := by decide +kernel
theorem dX10_lamp_10 : decode cX10_lamp 10 = .ok (.iload_n 2, 1) := by decide +kernel
theorem dX10_lamp_11 : decode cX10_lamp 11 = .ok (.iconst 0, 1) := by decide +kernel
theorem dX10_lamp_12 : decode cX10_lamp 12 = .ok (.bipush 9, 2) := by decide +kernel
theorem dX10_lamp_14 : decode cX10_lamp 14 = .ok (.invokestatic 108, 3) := by decide +kernel
theorem dX10_lamp_17 : decode cX10_lamp 17 = .ok (.ifCond .ne 6, 3) := by decide +kernel
theorem dX10_lamp_20 : decode cX10_lamp 20 = .ok (.bipush (-7), 2) := by decide +kernel
theorem dX10_lamp_22 : decode cX10_lamp 22 = .ok (.ireturn, 1) := by decide +kernel
theorem dX10_lamp_23 : decode cX10_lamp 23 = .ok (.aload_n 0, 1) := by decide +kernel
theorem dX10_lamp_24 : decode cX10_lamp 24 = .ok (.getfield 7, 3) := by decide +kernel
theorem dX10_lamp_27 : decode cX10_lamp 27 = .ok (.iload_n 1, 1) := by decide +kernel
theorem dX10_lamp_28 : decode cX10_lamp 28 = .ok (.iaload, 1) := by decide +kernel
theorem dX10_lamp_29 : decode cX10_lamp 29 = .ok (.istore_n 3, 1) := by decide +kernel
theorem dX10_lamp_30 : decode cX10_lamp 30 = .ok (.aload_n 0, 1) := by decide +kernel
theorem dX10_lamp_31 : decode cX10_lamp 31 = .ok (.getfield 7, 3) := by decide +kernel
theorem dX10_lamp_34 : decode cX10_lamp 34 = .ok (.iload_n 1, 1) := by decide +kernel
theorem dX10_lamp_35 : decode cX10_lamp 35 = .ok (.iload_n 2, 1) := by decide +kernel
theorem dX10_lamp_36 : decode cX10_lamp 36 = .ok (.iastore, 1) := by decide +kernel
theorem dX10_lamp_37 : decode cX10_lamp 37 = .ok (.iload_n 3, 1) := by decide +kernel
theorem dX10_lamp_38 : decode cX10_lamp 38 = .ok (.ireturn, 1) := by decide +kernel
theorem dX10_redFrom_0 : decode cX10_redFrom 0 = .ok (.aload_n 0, 1) := by decide +kernel
theorem dX10_redFrom_1 : decode cX10_redFrom 1 = .ok (.getfield 7, 3) := by decide +kernel
theorem dX10_redFrom_4 : decode cX10_redFrom 4 = .ok (.aload_n 0, 1) := by decide +kernel
theorem dX10_redFrom_5 : decode cX10_redFrom 5 = .ok (.getfield 22, 3) := by decide +kernel
theorem dX10_redFrom_8 : decode cX10_redFrom 8 = .ok (.iload_n 1, 1) := by decide +kernel
theorem dX10_redFrom_9 : decode cX10_redFrom 9 = .ok (.iaload, 1) := by decide +kernel
theorem dX10_redFrom_10 : decode cX10_redFrom 10 = .ok (.iaload, 1) := by decide +kernel
theorem dX10_redFrom_11 : decode cX10_redFrom 11 = .ok (.istore_n 2, 1) := by decide +kernel
theorem dX10_redFrom_12 : decode cX10_redFrom 12 = .ok (.aload_n 0, 1) := by decide +kernel
theorem dX10_redFrom_13 : decode cX10_redFrom 13 = .ok (.getfield 13, 3) := by decide +kernel
theorem dX10_redFrom_16 : decode cX10_redFrom 16 = .ok (.iload_n 1, 1) := by decide +kernel
theorem dX10_redFrom_17 : decode cX10_redFrom 17 = .ok (.iaload, 1) := by decide +kernel
theorem dX10_redFrom_18 : decode cX10_redFrom 18 = .ok (.istore_n 3, 1) := by decide +kernel
theorem dX10_redFrom_19 : decode cX10_redFrom 19 = .ok (.iload_n 3, 1) := by decide +kernel
theorem dX10_redFrom_20 : decode cX10_redFrom 20 = .ok (.iconst 2, 1) := by decide +kernel
theorem dX10_redFrom_21 : decode cX10_redFrom 21 = .ok (.if_icmp .ne 22, 3) := by decide +kernel
theorem dX10_redFrom_24 : decode cX10_redFrom 24 = .ok (.bipush 60, 2) := by decide +kernel
theorem dX10_redFrom_26 : decode cX10_redFrom 26 = .ok (.iconst 4, 1) := by decide +kernel
theorem dX10_redFrom_27 : decode cX10_redFrom 27 = .ok (.iload_n 2, 1) := by decide +kernel
theorem dX10_redFrom_28 : decode cX10_redFrom 28 = .ok (.imul, 1) := by decide +kernel
theorem dX10_redFrom_29 : decode cX10_redFrom 29 = .ok (.isub, 1) := by decide +kernel
theorem dX10_redFrom_30 : decode cX10_redFrom 30 = .ok (.bipush 10, 2) := by decide +kernel
theorem dX10_redFrom_32 : decode cX10_redFrom 32 = .ok (.aload_n 0, 1) := by decide +kernel
theorem dX10_redFrom_33 : decode cX10_redFrom 33 = .ok (.getfield 16, 3) := by decide +kernel
theorem dX10_redFrom_36 : decode cX10_redFrom 36 = .ok (.iload_n 1, 1) := by decide +kernel
theorem dX10_redFrom_37 : decode cX10_redFrom 37 = .ok (.iaload, 1) := by decide +kernel
theorem dX10_redFrom_38 : decode cX10_redFrom 38 = .ok (.imul, 1) := by decide +kernel
theorem dX10_redFrom_39 : decode cX10_redFrom 39 = .ok (.iadd, 1) := by decide +kernel
theorem dX10_redFrom_40 : decode cX10_redFrom 40 = .ok (.goto 35, 3) := by decide +kernel
theorem dX10_redFrom_43 : decode cX10_redFrom 43 = .ok (.iload_n 3, 1) := by decide +kernel
theorem dX10_redFrom_44 : decode cX10_redFrom 44 = .ok (.iconst 4, 1) := by decide +kernel
theorem dX10_redFrom_45 : decode cX10_redFrom 45 = .ok (.if_icmp .ne 24, 3) := by decide +kernel
theorem dX10_redFrom_48 : decode cX10_redFrom 48 = .ok (.bipush 80, 2) := by decide +kernel
theorem dX10_redFrom_50 : decode cX10_redFrom 50 = .ok (.iconst 4, 1) := by decide +kernel
theorem dX10_redFrom_51 : decode cX10_redFrom 51 = .ok (.iload_n 2, 1) := by decide +kernel
theorem dX10_redFrom_52 : decode cX10_redFrom 52 = .ok (.iconst 2, 1) := by decide +kernel
theorem dX10_redFrom_53 : decode cX10_redFrom 53 = .ok (.idiv, 1) := by decide +kernel
theorem dX10_redFrom_54 : decode cX10_redFrom 54 = .ok (.imul, 1) := by decide +kernel
theorem dX10_redFrom_55 : decode cX10_redFrom 55 = .ok (.isub, 1) := by decide +kernel
theorem dX10_redFrom_56 : decode cX10_redFrom 56 = .ok (.bipush 10, 2) := by decide +kernel
theorem dX10_redFrom_58 : decode cX10_redFrom 58 = .ok (.aload_n 0, 1) := by decide +kernel
theorem dX10_redFrom_59 : decode cX10_redFrom 59 = .ok (.getfield 16, 3) := by decide +kernel
theorem dX10_redFrom_62 : decode cX10_redFrom 62 = .ok (.iload_n 1, 1) := by decide +kernel
theorem dX10_redFrom_63 : decode cX10_redFrom 63 = .ok (.iaload, 1) := by decide +kernel
theorem dX10_redFrom_64 : decode cX10_redFrom 64 = .ok (.imul, 1) := by decide +kernel
theorem dX10_redFrom_65 : decode cX10_redFrom 65 = .ok (.iadd, 1) := by decide +kernel
theorem dX10_redFrom_66 : decode cX10_redFrom 66 = .ok (.goto 9, 3) := by decide +kernel
theorem dX10_redFrom_69 : decode cX10_redFrom 69 = .ok (.bipush 60, 2) := by decide +kernel
theorem dX10_redFrom_71 : decode cX10_redFrom 71 = .ok (.iconst 4, 1) := by decide +kernel
theorem dX10_redFrom_72 : decode cX10_redFrom 72 = .ok (.iload_n 2, 1) := by decide +kernel
theorem dX10_redFrom_73 : decode cX10_redFrom 73 = .ok (.imul, 1) := by decide +kernel
theorem dX10_redFrom_74 : decode cX10_redFrom 74 = .ok (.isub, 1) := by decide +kernel
theorem dX10_redFrom_75 : decode cX10_redFrom 75 = .ok (.istore 4, 2) := by decide +kernel
theorem dX10_redFrom_77 : decode cX10_redFrom 77 = .ok (.iload 4, 2) := by decide +kernel
theorem dX10_redFrom_79 : decode cX10_redFrom 79 = .ok (.iconst 1, 1) := by decide +kernel
theorem dX10_redFrom_80 : decode cX10_redFrom 80 = .ok (.if_icmp .ge 7, 3) := by decide +kernel
theorem dX10_redFrom_83 : decode cX10_redFrom 83 = .ok (.iconst 1, 1) := by decide +kernel
theorem dX10_redFrom_84 : decode cX10_redFrom 84 = .ok (.goto 5, 3) := by decide +kernel
theorem dX10_redFrom_87 : decode cX10_redFrom 87 = .ok (.iload 4, 2) := by decide +kernel
theorem dX10_redFrom_89 : decode cX10_redFrom 89 = .ok (.ireturn, 1) := by decide +kernel
theorem dX10_told_0 : decode cX10_told 0 = .ok (.aload_n 0, 1) := by decide +kernel
theorem dX10_told_1 : decode cX10_told 1 = .ok (.iload_n 1, 1) := by decide +kernel
theorem dX10_told_2 : decode cX10_told 2 = .ok (.invokevirtual 204, 3) := by decide +kernel
theorem dX10_told_5 : decode cX10_told 5 = .ok (.ifCond .ne 6, 3) := by decide +kernel
theorem dX10_told_8 : decode cX10_told 8 = .ok (.bipush (-5), 2) := by decide +kernel
theorem dX10_told_10 : decode cX10_told 10 = .ok (.ireturn, 1) := by decide +kernel
theorem dX10_told_11 : decode cX10_told 11 = .ok (.iload_n 2, 1) := by decide +kernel
theorem dX10_told_12 : decode cX10_told 12 = .ok (.tableswitch 86 0 5 #[40, 47, 54, 61, 68, 80], 40) := by decide +kernel
theorem dX10_told_52 : decode cX10_told 52 = .ok (.aload_n 0, 1) := by decide +kernel
theorem dX10_told_53 : decode cX10_told 53 = .ok (.getfield 19, 3) := by decide +kernel
theorem dX10_told_56 : decode cX10_told 56 = .ok (.iload_n 1, 1) := by decide +kernel
theorem dX10_told_57 : decode cX10_told 57 = .ok (.iaload, 1) := by decide +kernel
theorem dX10_told_58 : decode cX10_told 58 = .ok (.ireturn, 1) := by decide +kernel
theorem dX10_told_59 : decode cX10_told 59 = .ok (.aload_n 0, 1) := by decide +kernel
theorem dX10_told_60 : decode cX10_told 60 = .ok (.getfield 22, 3) := by decide +kernel
theorem dX10_told_63 : decode cX10_told 63 = .ok (.iload_n 1, 1) := by decide +kernel
theorem dX10_told_64 : decode cX10_told 64 = .ok (.iaload, 1) := by decide +kernel
theorem dX10_told_65 : decode cX10_told 65 = .ok (.ireturn, 1) := by decide +kernel
theorem dX10_told_66 : decode cX10_told 66 = .ok (.aload_n 0, 1) := by decide +kernel
theorem dX10_told_67 : decode cX10_told 67 = .ok (.getfield 13, 3) := by decide +kernel
theorem dX10_told_70 : decode cX10_told 70 = .ok (.iload_n 1, 1) := by decide +kernel
theorem dX10_told_71 : decode cX10_told 71 = .ok (.iaload, 1) := by decide +kernel
theorem dX10_told_72 : decode cX10_told 72 = .ok (.ireturn, 1) := by decide +kernel
theorem dX10_told_73 : decode cX10_told 73 = .ok (.aload_n 0, 1) := by decide +kernel
theorem dX10_told_74 : decode cX10_told 74 = .ok (.getfield 16, 3) := by decide +kernel
theorem dX10_told_77 : decode cX10_told 77 = .ok (.iload_n 1, 1) := by decide +kernel
theorem dX10_told_78 : decode cX10_told 78 = .ok (.iaload, 1) := by decide +kernel
theorem dX10_told_79 : decode cX10_told 79 = .ok (.ireturn, 1) := by decide +kernel
theorem dX10_told_80 : decode cX10_told 80 = .ok (.aload_n 0, 1) := by decide +kernel
theorem dX10_told_81 : decode cX10_told 81 = .ok (.getfield 7, 3) := by decide +kernel
theorem dX10_told_84 : decode cX10_told 84 = .ok (.aload_n 0, 1) := by decide +kernel
theorem dX10_told_85 : decode cX10_told 85 = .ok (.getfield 22, 3) := by decide +kernel
theorem dX10_told_88 : decode cX10_told 88 = .ok (.iload_n 1, 1) := by decide +kernel
theorem dX10_told_89 : decode cX10_told 89 = .ok (.iaload, 1) := by decide +kernel
theorem dX10_told_90 : decode cX10_told 90 = .ok (.iaload, 1) := by decide +kernel
theorem dX10_told_91 : decode cX10_told 91 = .ok (.ireturn, 1) := by decide +kernel
theorem dX10_told_92 : decode cX10_told 92 = .ok (.aload_n 0, 1) := by decide +kernel
theorem dX10_told_93 : decode cX10_told 93 = .ok (.iload_n 1, 1) := by decide +kernel
theorem dX10_told_94 : decode cX10_told 94 = .ok (.invokevirtual 210, 3) := by decide +kernel
theorem dX10_told_97 : decode cX10_told 97 = .ok (.ireturn, 1) := by decide +kernel
theorem dX10_told_98 : decode cX10_told 98 = .ok (.bipush (-7), 2) := by decide +kernel
theorem dX10_told_100 : decode cX10_told 100 = .ok (.ireturn, 1) := by decide +kernel
theorem dX10_cause_0 : decode cX10_cause 0 = .ok (.aload_n 0, 1) := by decide +kernel
theorem dX10_cause_1 : decode cX10_cause 1 = .ok (.iload_n 2, 1) := by decide +kernel
theorem dX10_cause_2 : decode cX10_cause 2 = .ok (.invokevirtual 204, 3) := by decide +kernel
theorem dX10_cause_5 : decode cX10_cause 5 = .ok (.ifCond .ne 6, 3) := by decide +kernel
theorem dX10_cause_8 : decode cX10_cause 8 = .ok (.bipush (-5), 2) := by decide +kernel
theorem dX10_cause_10 : decode cX10_cause 10 = .ok (.ireturn, 1) := by decide +kernel
theorem dX10_cause_11 : decode cX10_cause 11 = .ok (.iload_n 1, 1) := by decide +kernel
theorem dX10_cause_12 : decode cX10_cause 12 = .ok (.iconst 0, 1) := by decide +kernel
theorem dX10_cause_13 : decode cX10_cause 13 = .ok (.bipush 39, 2) := by decide +kernel
theorem dX10_cause_15 : decode cX10_cause 15 = .ok (.invokestatic 108, 3) := by decide +kernel
theorem dX10_cause_18 : decode cX10_cause 18 = .ok (.ifCond .eq 10, 3) := by decide +kernel
theorem dX10_cause_21 : decode cX10_cause 21 = .ok (.iload_n 3, 1) := by decide +kernel
theorem dX10_cause_22 : decode cX10_cause 22 = .ok (.invokestatic 191, 3) := by decide +kernel
theorem dX10_cause_25 : decode cX10_cause 25 = .ok (.ifCond .ne 6, 3) := by decide +kernel
theorem dX10_cause_28 : decode cX10_cause 28 = .ok (.bipush (-7), 2) := by decide +kernel
theorem dX10_cause_30 : decode cX10_cause 30 = .ok (.ireturn, 1) := by decide +kernel
theorem dX10_cause_31 : decode cX10_cause 31 = .ok (.aload_n 0, 1) := by decide +kernel
theorem dX10_cause_32 : decode cX10_cause 32 = .ok (.getfield 112, 3) := by decide +kernel
theorem dX10_cause_35 : decode cX10_cause 35 = .ok (.bipush 8, 2) := by decide +kernel
theorem dX10_cause_37 : decode cX10_cause 37 = .ok (.if_icmp .ne 6, 3) := by decide +kernel
theorem dX10_cause_40 : decode cX10_cause 40 = .ok (.bipush (-4), 2) := by decide +kernel
theorem dX10_cause_42 : decode cX10_cause 42 = .ok (.ireturn, 1) := by decide +kernel
theorem dX10_cause_43 : decode cX10_cause 43 = .ok (.aload_n 0, 1) := by decide +kernel
theorem dX10_cause_44 : decode cX10_cause 44 = .ok (.getfield 25, 3) := by decide +kernel
theorem dX10_cause_47 : decode cX10_cause 47 = .ok (.iconst 3, 1) := by decide +kernel
theorem dX10_cause_48 : decode cX10_cause 48 = .ok (.aload_n 0, 1) := by decide +kernel
theorem dX10_cause_49 : decode cX10_cause 49 = .ok (.getfield 112, 3) := by decide +kernel
theorem dX10_cause_52 : decode cX10_cause 52 = .ok (.imul, 1) := by decide +kernel
theorem dX10_cause_53 : decode cX10_cause 53 = .ok (.iload_n 1, 1) := by decide +kernel
theorem dX10_cause_54 : decode cX10_cause 54 = .ok (.iastore, 1) := by decide +kernel
theorem dX10_cause_55 : decode cX10_cause 55 = .ok (.aload_n 0, 1) := by decide +kernel
theorem dX10_cause_56 : decode cX10_cause 56 = .ok (.getfield 25, 3) := by decide +kernel
theorem dX10_cause_59 : decode cX10_cause 59 = .ok (.iconst 3, 1) := by decide +kernel
theorem dX10_cause_60 : decode cX10_cause 60 = .ok (.aload_n 0, 1) := by decide +kernel
theorem dX10_cause_61 : decode cX10_cause 61 = .ok (.getfield 112, 3) := by decide +kernel
theorem dX10_cause_64 : decode cX10_cause 64 = .ok (.imul, 1) := by decide +kernel
theorem dX10_cause_65 : decode cX10_cause 65 = .ok (.iconst 1, 1) := by decide +kernel
theorem dX10_cause_66 : decode cX10_cause 66 = .ok (.iadd, 1) := by decide +kernel
theorem dX10_cause_67 : decode cX10_cause 67 = .ok (.iload_n 2, 1) := by decide +kernel
theorem dX10_cause_68 : decode cX10_cause 68 = .ok (.iastore, 1) := by decide +kernel
theorem dX10_cause_69 : decode cX10_cause 69 = .ok (.aload_n 0, 1) := by decide +kernel
theorem dX10_cause_70 : decode cX10_cause 70 = .ok (.getfield 25, 3) := by decide +kernel
theorem dX10_cause_73 : decode cX10_cause 73 = .ok (.iconst 3, 1) := by decide +kernel
theorem dX10_cause_74 : decode cX10_cause 74 = .ok (.aload_n 0, 1) := by decide +kernel
theorem dX10_cause_75 : decode cX10_cause 75 = .ok (.getfield 112, 3) := by decide +kernel
theorem dX10_cause_78 : decode cX10_cause 78 = .ok (.imul, 1) := by decide +kernel
theorem dX10_cause_79 : decode cX10_cause 79 = .ok (.iconst 2, 1) := by decide +kernel
theorem dX10_cause_80 : decode cX10_cause 80 = .ok (.iadd, 1) := by decide +kernel
theorem dX10_cause_81 : decode cX10_cause 81 = .ok (.iload_n 3, 1) := by decide +kernel
theorem dX10_cause_82 : decode cX10_cause 82 = .ok (.iastore, 1) := by decide +kernel
theorem dX10_cause_83 : decode cX10_cause 83 = .ok (.aload_n 0, 1) := by decide +kernel
theorem dX10_cause_84 : decode cX10_cause 84 = .ok (.dup, 1) := by decide +kernel
theorem dX10_cause_85 : decode cX10_cause 85 = .ok (.getfield 112, 3) := by decide +kernel
theorem dX10_cause_88 : decode cX10_cause 88 = .ok (.iconst 1, 1) := by decide +kernel
theorem dX10_cause_89 : decode cX10_cause 89 = .ok (.iadd, 1) := by decide +kernel
theorem dX10_cause_90 : decode cX10_cause 90 = .ok (.putfield 112, 3) := by decide +kernel
theorem dX10_cause_93 : decode cX10_cause 93 = .ok (.aload_n 0, 1) := by decide +kernel
theorem dX10_cause_94 : decode cX10_cause 94 = .ok (.getfield 112, 3) := by decide +kernel
theorem dX10_cause_97 : decode cX10_cause 97 = .ok (.iconst 1, 1) := by decide +kernel
theorem dX10_cause_98 : decode cX10_cause 98 = .ok (.isub, 1) := by decide +kernel
theorem dX10_cause_99 : decode cX10_cause 99 = .ok (.ireturn, 1) := by decide +kernel
theorem dX10_uncause_0 : decode cX10_uncause 0 = .ok (.aload_n 0, 1) := by decide +kernel
theorem dX10_uncause_1 : decode cX10_uncause 1 = .ok (.getfield 112, 3) := by decide +kernel
theorem dX10_uncause_4 : decode cX10_uncause 4 = .ok (.ifCond .ne 6, 3) := by decide +kernel
theorem dX10_uncause_7 : decode cX10_uncause 7 = .ok (.bipush (-3), 2) := by decide +kernel
theorem dX10_uncause_9 : decode cX10_uncause 9 = .ok (.ireturn, 1) := by decide +kernel
theorem dX10_uncause_10 : decode cX10_uncause 10 = .ok (.aload_n 0, 1) := by decide +kernel
theorem dX10_uncause_11 : decode cX10_uncause 11 = .ok (.dup, 1) := by decide +kernel
theorem dX10_uncause_12 : decode cX10_uncause 12 = .ok (.getfield 112, 3) := by decide +kernel
theorem dX10_uncause_15 : decode cX10_uncause 15 = .ok (.iconst 1, 1) := by decide +kernel
theorem dX10_uncause_16 : decode cX10_uncause 16 = .ok (.isub, 1) := by decide +kernel
theorem dX10_uncause_17 : decode cX10_uncause 17 = .ok (.putfield 112, 3) := by decide +kernel
theorem dX10_uncause_20 : decode cX10_uncause 20 = .ok (.aload_n 0, 1) := by decide +kernel
theorem dX10_uncause_21 : decode cX10_uncause 21 = .ok (.getfield 112, 3) := by decide +kernel
theorem dX10_uncause_24 : decode cX10_uncause 24 = .ok (.ireturn, 1) := by decide +kernel
theorem dX10_causeTold_0 : decode cX10_causeTold 0 = .ok (.iload_n 1, 1) := by decide +kernel
theorem dX10_causeTold_1 : decode cX10_causeTold 1 = .ok (.iconst 0, 1) := by decide +kernel
theorem dX10_causeTold_2 : decode cX10_causeTold 2 = .ok (.aload_n 0, 1) := by decide +kernel
theorem dX10_causeTold_3 : decode cX10_causeTold 3 = .ok (.getfield 112, 3) := by decide +kernel
theorem dX10_causeTold_6 : decode cX10_causeTold 6 = .ok (.iconst 1, 1) := by decide +kernel
theorem dX10_causeTold_7 : decode cX10_causeTold 7 = .ok (.isub, 1) := by decide +kernel
theorem dX10_causeTold_8 : decode cX10_causeTold 8 = .ok (.invokestatic 108, 3) := by decide +kernel
theorem dX10_causeTold_11 : decode cX10_causeTold 11 = .ok (.ifCond .ne 6, 3) := by decide +kernel
theorem dX10_causeTold_14 : decode cX10_causeTold 14 = .ok (.bipush (-5), 2) := by decide +kernel
theorem dX10_causeTold_16 : decode cX10_causeTold 16 = .ok (.ireturn, 1) := by decide +kernel
theorem dX10_causeTold_17 : decode cX10_causeTold 17 = .ok (.iload_n 2, 1) := by decide +kernel
theorem dX10_causeTold_18 : decode cX10_causeTold 18 = .ok (.iconst 0, 1) := by decide +kernel
theorem dX10_causeTold_19 : decode cX10_causeTold 19 = .ok (.iconst 2, 1) := by decide +kernel
theorem dX10_causeTold_20 : decode cX10_causeTold 20 = .ok (.invokestatic 108, 3) := by decide +kernel
theorem dX10_causeTold_23 : decode cX10_causeTold 23 = .ok (.ifCond .eq 16, 3) := by decide +kernel
theorem dX10_causeTold_26 : decode cX10_causeTold 26 = .ok (.aload_n 0, 1) := by decide +kernel
theorem dX10_causeTold_27 : decode cX10_causeTold 27 = .ok (.getfield 25, 3) := by decide +kernel
theorem dX10_causeTold_30 : decode cX10_causeTold 30 = .ok (.iconst 3, 1) := by decide +kernel
theorem dX10_causeTold_31 : decode cX10_causeTold 31 = .ok (.iload_n 1, 1) := by decide +kernel
theorem dX10_causeTold_32 : decode cX10_causeTold 32 = .ok (.imul, 1) := by decide +kernel
theorem dX10_causeTold_33 : decode cX10_causeTold 33 = .ok (.iload_n 2, 1) := by decide +kernel
theorem dX10_causeTold_34 : decode cX10_causeTold 34 = .ok (.iadd, 1) := by decide +kernel
theorem dX10_causeTold_35 : decode cX10_causeTold 35 = .ok (.iaload, 1) := by decide +kernel
theorem dX10_causeTold_36 : decode cX10_causeTold 36 = .ok (.goto 5, 3) := by decide +kernel
theorem dX10_causeTold_39 : decode cX10_causeTold 39 = .ok (.bipush (-7), 2) := by decide +kernel
theorem dX10_causeTold_41 : decode cX10_causeTold 41 = .ok (.ireturn, 1) := by decide +kernel
theorem dX10_isStopping_0 : decode cX10_isStopping 0 = .ok (.iload_n 1, 1) := by decide +kernel
theorem dX10_isStopping_1 : decode cX10_isStopping 1 = .ok (.aload_n 0, 1) := by decide +kernel
theorem dX10_isStopping_2 : decode cX10_isStopping 2 = .ok (.getfield 79, 3) := by decide +kernel
theorem dX10_isStopping_5 : decode cX10_isStopping 5 = .ok (.if_icmp .ne 34, 3) := by decide +kernel
theorem dX10_isStopping_8 : decode cX10_isStopping 8 = .ok (.iload_n 2, 1) := by decide +kernel
theorem dX10_isStopping_9 : decode cX10_isStopping 9 = .ok (.aload_n 0, 1) := by decide +kernel
theorem dX10_isStopping_10 : decode cX10_isStopping 10 = .ok (.getfield 213, 3) := by decide +kernel
theorem dX10_isStopping_13 : decode cX10_isStopping 13 = .ok (.if_icmp .ne 26, 3) := by decide +kernel
theorem dX10_isStopping_16 : decode cX10_isStopping 16 = .ok (.iload_n 3, 1) := by decide +kernel
theorem dX10_isStopping_17 : decode cX10_isStopping 17 = .ok (.aload_n 0, 1) := by decide +kernel
theorem dX10_isStopping_18 : decode cX10_isStopping 18 = .ok (.getfield 216, 3) := by decide +kernel
theorem dX10_isStopping_21 : decode cX10_isStopping 21 = .ok (.if_icmp .lt 18, 3) := by decide +kernel
theorem dX10_isStopping_24 : decode cX10_isStopping 24 = .ok (.iload_n 3, 1) := by decide +kernel
theorem dX10_isStopping_25 : decode cX10_isStopping 25 = .ok (.aload_n 0, 1) := by decide +kernel
theorem dX10_isStopping_26 : decode cX10_isStopping 26 = .ok (.getfield 216, 3) := by decide +kernel
theorem dX10_isStopping_29 : decode cX10_isStopping 29 = .ok (.iload 4, 2) := by decide +kernel
theorem dX10_isStopping_31 : decode cX10_isStopping 31 = .ok (.iadd, 1) := by decide +kernel
theorem dX10_isStopping_32 : decode cX10_isStopping 32 = .ok (.if_icmp .ge 7, 3) := by decide +kernel
theorem dX10_isStopping_35 : decode cX10_isStopping 35 = .ok (.iconst 1, 1) := by decide +kernel
theorem dX10_isStopping_36 : decode cX10_isStopping 36 = .ok (.goto 4, 3) := by decide +kernel
theorem dX10_isStopping_39 : decode cX10_isStopping 39 = .ok (.iconst 0, 1) := by decide +kernel
theorem dX10_isStopping_40 : decode cX10_isStopping 40 = .ok (.ireturn, 1) := by decide +kernel
theorem dX10_couldLook_0 : decode cX10_couldLook 0 = .ok (.iload_n 1, 1) := by decide +kernel
theorem dX10_couldLook_1 : decode cX10_couldLook 1 = .ok (.iload_n 2, 1) := by decide +kernel
theorem dX10_couldLook_2 : decode cX10_couldLook 2 = .ok (.if_icmp .eq 44, 3) := by decide +kernel
theorem dX10_couldLook_5 : decode cX10_couldLook 5 = .ok (.iload_n 1, 1) := by decide +kernel
theorem dX10_couldLook_6 : decode cX10_couldLook 6 = .ok (.aload_n 0, 1) := by decide +kernel
theorem dX10_couldLook_7 : decode cX10_couldLook 7 = .ok (.getfield 83, 3) := by decide +kernel
theorem dX10_couldLook_10 : decode cX10_couldLook 10 = .ok (.if_icmp .ne 20, 3) := by decide +kernel
theorem dX10_couldLook_13 : decode cX10_couldLook 13 = .ok (.aload_n 0, 1) := by decide +kernel
theorem dX10_couldLook_14 : decode cX10_couldLook 14 = .ok (.getfield 86, 3) := by decide +kernel
theorem dX10_couldLook_17 : decode cX10_couldLook 17 = .ok (.bipush (-2), 2) := by decide +kernel
theorem dX10_couldLook_19 : decode cX10_couldLook 19 = .ok (.if_icmp .eq 27, 3) := by decide +kernel
theorem dX10_couldLook_22 : decode cX10_couldLook 22 = .ok (.aload_n 0, 1) := by decide +kernel
theorem dX10_couldLook_23 : decode cX10_couldLook 23 = .ok (.getfield 86, 3) := by decide +kernel
theorem dX10_couldLook_26 : decode cX10_couldLook 26 = .ok (.iload_n 2, 1) := by decide +kernel
theorem dX10_couldLook_27 : decode cX10_couldLook 27 = .ok (.if_icmp .eq 19, 3) := by decide +kernel
theorem dX10_couldLook_30 : decode cX10_couldLook 30 = .ok (.aload_n 0, 1) := by decide +kernel
theorem dX10_couldLook_31 : decode cX10_couldLook 31 = .ok (.iload_n 2, 1) := by decide +kernel
theorem dX10_couldLook_32 : decode cX10_couldLook 32 = .ok (.iconst 0, 1) := by decide +kernel
theorem dX10_couldLook_33 : decode cX10_couldLook 33 = .ok (.iload_n 3, 1) := by decide +kernel
theorem dX10_couldLook_34 : decode cX10_couldLook 34 = .ok (.bipush 10, 2) := by decide +kernel
theorem dX10_couldLook_36 : decode cX10_couldLook 36 = .ok (.invokevirtual 219, 3) := by decide +kernel
theorem dX10_couldLook_39 : decode cX10_couldLook 39 = .ok (.ifCond .ne 7, 3) := by decide +kernel
theorem dX10_couldLook_42 : decode cX10_couldLook 42 = .ok (.iconst 1, 1) := by decide +kernel
theorem dX10_couldLook_43 : decode cX10_couldLook 43 = .ok (.goto 4, 3) := by decide +kernel
theorem dX10_couldLook_46 : decode cX10_couldLook 46 = .ok (.iconst 0, 1) := by decide +kernel
theorem dX10_couldLook_47 : decode cX10_couldLook 47 = .ok (.ireturn, 1) := by decide +kernel
theorem dX10_isSeen_0 : decode cX10_isSeen 0 = .ok (.aload_n 0, 1) := by decide +kernel
theorem dX10_isSeen_1 : decode cX10_isSeen 1 = .ok (.getfield 67, 3) := by decide +kernel
theorem dX10_isSeen_4 : decode cX10_isSeen 4 = .ok (.iload_n 1, 1) := by decide +kernel
theorem dX10_isSeen_5 : decode cX10_isSeen 5 = .ok (.iaload, 1) := by decide +kernel
theorem dX10_isSeen_6 : decode cX10_isSeen 6 = .ok (.aload_n 0, 1) := by decide +kernel
theorem dX10_isSeen_7 : decode cX10_isSeen 7 = .ok (.iload_n 1, 1) := by decide +kernel
theorem dX10_isSeen_8 : decode cX10_isSeen 8 = .ok (.invokevirtual 210, 3) := by decide +kernel
theorem dX10_isSeen_11 : decode cX10_isSeen 11 = .ok (.if_icmp .lt 7, 3) := by decide +kernel
theorem dX10_isSeen_14 : decode cX10_isSeen 14 = .ok (.iconst 1, 1) := by decide +kernel
theorem dX10_isSeen_15 : decode cX10_isSeen 15 = .ok (.goto 4, 3) := by decide +kernel
theorem dX10_isSeen_18 : decode cX10_isSeen 18 = .ok (.iconst 0, 1) := by decide +kernel
theorem dX10_isSeen_19 : decode cX10_isSeen 19 = .ok (.ireturn, 1) := by decide +kernel
theorem dX10_howManyLook_0 : decode cX10_howManyLook 0 = .ok (.iconst 0, 1) := by decide +kernel
theorem dX10_howManyLook_1 : decode cX10_howManyLook 1 = .ok (.istore_n 3, 1) := by decide +kernel
theorem dX10_howManyLook_2 : decode cX10_howManyLook 2 = .ok (.iconst 0, 1) := by decide +kernel
theorem dX10_howManyLook_3 : decode cX10_howManyLook 3 = .ok (.istore 4, 2) := by decide +kernel
theorem dX10_howManyLook_5 : decode cX10_howManyLook 5 = .ok (.iload 4, 2) := by decide +kernel
theorem dX10_howManyLook_7 : decode cX10_howManyLook 7 = .ok (.aload_n 0, 1) := by decide +kernel
theorem dX10_howManyLook_8 : decode cX10_howManyLook 8 = .ok (.getfield 105, 3) := by decide +kernel
theorem dX10_howManyLook_11 : decode cX10_howManyLook 11 = .ok (.if_icmp .ge 68, 3) := by decide +kernel
theorem dX10_howManyLook_14 : decode cX10_howManyLook 14 = .ok (.iload_n 3, 1) := by decide +kernel
theorem dX10_howManyLook_15 : decode cX10_howManyLook 15 = .ok (.aload_n 0, 1) := by decide +kernel
theorem dX10_howManyLook_16 : decode cX10_howManyLook 16 = .ok (.iload 4, 2) := by decide +kernel
theorem dX10_howManyLook_18 : decode cX10_howManyLook 18 = .ok (.iload_n 1, 1) := by decide +kernel
theorem dX10_howManyLook_19 : decode cX10_howManyLook 19 = .ok (.iload_n 2, 1) := by decide +kernel
theorem dX10_howManyLook_20 : decode cX10_howManyLook 20 = .ok (.invokevirtual 223, 3) := by decide +kernel
theorem dX10_howManyLook_23 : decode cX10_howManyLook 23 = .ok (.ifCond .eq 47, 3) := by decide +kernel
theorem dX10_howManyLook_26 : decode cX10_howManyLook 26 = .ok (.aload_n 0, 1) := by decide +kernel
theorem dX10_howManyLook_27 : decode cX10_howManyLook 27 = .ok (.iconst 2, 1) := by decide +kernel
theorem dX10_howManyLook_28 : decode cX10_howManyLook 28 = .ok (.aload_n 0, 1) := by decide +kernel
theorem dX10_howManyLook_29 : decode cX10_howManyLook 29 = .ok (.getfield 67, 3) := by decide +kernel
theorem dX10_howManyLook_32 : decode cX10_howManyLook 32 = .ok (.iload_n 1, 1) := by decide +kernel
theorem dX10_howManyLook_33 : decode cX10_howManyLook 33 = .ok (.iaload, 1) := by decide +kernel
theorem dX10_howManyLook_34 : decode cX10_howManyLook 34 = .ok (.aload_n 0, 1) := by decide +kernel
theorem dX10_howManyLook_35 : decode cX10_howManyLook 35 = .ok (.getfield 73, 3) := by decide +kernel
theorem dX10_howManyLook_38 : decode cX10_howManyLook 38 = .ok (.iload_n 1, 1) := by decide +kernel
theorem dX10_howManyLook_39 : decode cX10_howManyLook 39 = .ok (.iaload, 1) := by decide +kernel
theorem dX10_howManyLook_40 : decode cX10_howManyLook 40 = .ok (.aload_n 0, 1) := by decide +kernel
theorem dX10_howManyLook_41 : decode cX10_howManyLook 41 = .ok (.getfield 7, 3) := by decide +kernel
theorem dX10_howManyLook_44 : decode cX10_howManyLook 44 = .ok (.aload_n 0, 1) := by decide +kernel
theorem dX10_howManyLook_45 : decode cX10_howManyLook 45 = .ok (.getfield 22, 3) := by decide +kernel
theorem dX10_howManyLook_48 : decode cX10_howManyLook 48 = .ok (.iload_n 1, 1) := by decide +kernel
theorem dX10_howManyLook_49 : decode cX10_howManyLook 49 = .ok (.iaload, 1) := by decide +kernel
theorem dX10_howManyLook_50 : decode cX10_howManyLook 50 = .ok (.iaload, 1) := by decide +kernel
theorem dX10_howManyLook_51 : decode cX10_howManyLook 51 = .ok (.iload_n 2, 1) := by decide +kernel
theorem dX10_howManyLook_52 : decode cX10_howManyLook 52 = .ok (.aload_n 0, 1) := by decide +kernel
theorem dX10_howManyLook_53 : decode cX10_howManyLook 53 = .ok (.iload_n 1, 1) := by decide +kernel
theorem dX10_howManyLook_54 : decode cX10_howManyLook 54 = .ok (.invokevirtual 226, 3) := by decide +kernel
theorem dX10_howManyLook_57 : decode cX10_howManyLook 57 = .ok (.aload_n 0, 1) := by decide +kernel
theorem dX10_howManyLook_58 : decode cX10_howManyLook 58 = .ok (.getfield 16, 3) := by decide +kernel
theorem dX10_howManyLook_61 : decode cX10_howManyLook 61 = .ok (.iload 4, 2) := by decide +kernel
theorem dX10_howManyLook_63 : decode cX10_howManyLook 63 = .ok (.iaload, 1) := by decide +kernel
theorem dX10_howManyLook_64 : decode cX10_howManyLook 64 = .ok (.invokevirtual 194, 3) := by decide +kernel
theorem dX10_howManyLook_67 : decode cX10_howManyLook 67 = .ok (.goto 4, 3) := by decide +kernel
theorem dX10_howManyLook_70 : decode cX10_howManyLook 70 = .ok (.iconst 0, 1) := by decide +kernel
theorem dX10_howManyLook_71 : decode cX10_howManyLook 71 = .ok (.iadd, 1) := by decide +kernel
theorem dX10_howManyLook_72 : decode cX10_howManyLook 72 = .ok (.istore_n 3, 1) := by decide +kernel
theorem dX10_howManyLook_73 : decode cX10_howManyLook 73 = .ok (.iinc 4 1, 3) := by decide +kernel
theorem dX10_howManyLook_76 : decode cX10_howManyLook 76 = .ok (.goto (-71), 3) := by decide +kernel
theorem dX10_howManyLook_79 : decode cX10_howManyLook 79 = .ok (.iload_n 3, 1) := by decide +kernel
theorem dX10_howManyLook_80 : decode cX10_howManyLook 80 = .ok (.ireturn, 1) := by decide +kernel
theorem dX10_warmsBy_0 : decode cX10_warmsBy 0 = .ok (.aload_n 0, 1) := by decide +kernel
theorem dX10_warmsBy_1 : decode cX10_warmsBy 1 = .ok (.iconst 0, 1) := by decide +kernel
theorem dX10_warmsBy_2 : decode cX10_warmsBy 2 = .ok (.aload_n 0, 1) := by decide +kernel
theorem dX10_warmsBy_3 : decode cX10_warmsBy 3 = .ok (.getfield 67, 3) := by decide +kernel
theorem dX10_warmsBy_6 : decode cX10_warmsBy 6 = .ok (.iload_n 1, 1) := by decide +kernel
theorem dX10_warmsBy_7 : decode cX10_warmsBy 7 = .ok (.iaload, 1) := by decide +kernel
theorem dX10_warmsBy_8 : decode cX10_warmsBy 8 = .ok (.aload_n 0, 1) := by decide +kernel
theorem dX10_warmsBy_9 : decode cX10_warmsBy 9 = .ok (.getfield 70, 3) := by decide +kernel
theorem dX10_warmsBy_12 : decode cX10_warmsBy 12 = .ok (.iload_n 1, 1) := by decide +kernel
theorem dX10_warmsBy_13 : decode cX10_warmsBy 13 = .ok (.iaload, 1) := by decide +kernel
theorem dX10_warmsBy_14 : decode cX10_warmsBy 14 = .ok (.aload_n 0, 1) := by decide +kernel
theorem dX10_warmsBy_15 : decode cX10_warmsBy 15 = .ok (.getfield 7, 3) := by decide +kernel
theorem dX10_warmsBy_18 : decode cX10_warmsBy 18 = .ok (.aload_n 0, 1) := by decide +kernel
theorem dX10_warmsBy_19 : decode cX10_warmsBy 19 = .ok (.getfield 22, 3) := by decide +kernel
theorem dX10_warmsBy_22 : decode cX10_warmsBy 22 = .ok (.iload_n 1, 1) := by decide +kernel
theorem dX10_warmsBy_23 : decode cX10_warmsBy 23 = .ok (.iaload, 1) := by decide +kernel
theorem dX10_warmsBy_24 : decode cX10_warmsBy 24 = .ok (.iaload, 1) := by decide +kernel
theorem dX10_warmsBy_25 : decode cX10_warmsBy 25 = .ok (.iload_n 2, 1) := by decide +kernel
theorem dX10_warmsBy_26 : decode cX10_warmsBy 26 = .ok (.aload_n 0, 1) := by decide +kernel
theorem dX10_warmsBy_27 : decode cX10_warmsBy 27 = .ok (.iload_n 1, 1) := by decide +kernel
theorem dX10_warmsBy_28 : decode cX10_warmsBy 28 = .ok (.invokevirtual 226, 3) := by decide +kernel
theorem dX10_warmsBy_31 : decode cX10_warmsBy 31 = .ok (.aload_n 0, 1) := by decide +kernel
theorem dX10_warmsBy_32 : decode cX10_warmsBy 32 = .ok (.getfield 16, 3) := by decide +kernel
theorem dX10_warmsBy_35 : decode cX10_warmsBy 35 = .ok (.iload_n 1, 1) := by decide +kernel
theorem dX10_warmsBy_36 : decode cX10_warmsBy 36 = .ok (.iaload, 1) := by decide +kernel
theorem dX10_warmsBy_37 : decode cX10_warmsBy 37 = .ok (.invokevirtual 194, 3) := by decide +kernel
theorem dX10_warmsBy_40 : decode cX10_warmsBy 40 = .ok (.istore_n 3, 1) := by decide +kernel
theorem dX10_warmsBy_41 : decode cX10_warmsBy 41 = .ok (.aload_n 0, 1) := by decide +kernel
theorem dX10_warmsBy_42 : decode cX10_warmsBy 42 = .ok (.getfield 13, 3) := by decide +kernel
theorem dX10_warmsBy_45 : decode cX10_warmsBy 45 = .ok (.iload_n 1, 1) := by decide +kernel
theorem dX10_warmsBy_46 : decode cX10_warmsBy 46 = .ok (.iaload, 1) := by decide +kernel
theorem dX10_warmsBy_47 : decode cX10_warmsBy 47 = .ok (.istore 4, 2) := by decide +kernel
theorem dX10_warmsBy_49 : decode cX10_warmsBy 49 = .ok (.iload 4, 2) := by decide +kernel
theorem dX10_warmsBy_51 : decode cX10_warmsBy 51 = .ok (.iconst 1, 1) := by decide +kernel
theorem dX10_warmsBy_52 : decode cX10_warmsBy 52 = .ok (.if_icmp .eq 9, 3) := by decide +kernel
theorem dX10_warmsBy_55 : decode cX10_warmsBy 55 = .ok (.iload 4, 2) := by decide +kernel
theorem dX10_warmsBy_57 : decode cX10_warmsBy 57 = .ok (.iconst 3, 1) := by decide +kernel
theorem dX10_warmsBy_58 : decode cX10_warmsBy 58 = .ok (.if_icmp .ne 20, 3) := by decide +kernel
theorem dX10_warmsBy_61 : decode cX10_warmsBy 61 = .ok (.aload_n 0, 1) := by decide +kernel
theorem dX10_warmsBy_62 : decode cX10_warmsBy 62 = .ok (.iload_n 1, 1) := by decide +kernel
theorem dX10_warmsBy_63 : decode cX10_warmsBy 63 = .ok (.invokevirtual 226, 3) := by decide +kernel
theorem dX10_warmsBy_66 : decode cX10_warmsBy 66 = .ok (.iconst 1, 1) := by decide +kernel
theorem dX10_warmsBy_67 : decode cX10_warmsBy 67 = .ok (.if_icmp .ne 9, 3) := by decide +kernel
theorem dX10_warmsBy_70 : decode cX10_warmsBy 70 = .ok (.iconst 2, 1) := by decide +kernel
theorem dX10_warmsBy_71 : decode cX10_warmsBy 71 = .ok (.iload_n 3, 1) := by decide +kernel
theorem dX10_warmsBy_72 : decode cX10_warmsBy 72 = .ok (.imul, 1) := by decide +kernel
theorem dX10_warmsBy_73 : decode cX10_warmsBy 73 = .ok (.goto 4, 3) := by decide +kernel
theorem dX10_warmsBy_76 : decode cX10_warmsBy 76 = .ok (.iload_n 3, 1) := by decide +kernel
theorem dX10_warmsBy_77 : decode cX10_warmsBy 77 = .ok (.istore_n 3, 1) := by decide +kernel
theorem dX10_warmsBy_78 : decode cX10_warmsBy 78 = .ok (.iload 4, 2) := by decide +kernel
theorem dX10_warmsBy_80 : decode cX10_warmsBy 80 = .ok (.iconst 3, 1) := by decide +kernel
theorem dX10_warmsBy_81 : decode cX10_warmsBy 81 = .ok (.if_icmp .ne 14, 3) := by decide +kernel
theorem dX10_warmsBy_84 : decode cX10_warmsBy 84 = .ok (.iload_n 3, 1) := by decide +kernel
theorem dX10_warmsBy_85 : decode cX10_warmsBy 85 = .ok (.aload_n 0, 1) := by decide +kernel
theorem dX10_warmsBy_86 : decode cX10_warmsBy 86 = .ok (.getfield 16, 3) := by decide +kernel
theorem dX10_warmsBy_89 : decode cX10_warmsBy 89 = .ok (.iload_n 1, 1) := by decide +kernel
theorem dX10_warmsBy_90 : decode cX10_warmsBy 90 = .ok (.iaload, 1) := by decide +kernel
theorem dX10_warmsBy_91 : decode cX10_warmsBy 91 = .ok (.iadd, 1) := by decide +kernel
theorem dX10_warmsBy_92 : decode cX10_warmsBy 92 = .ok (.goto 18, 3) := by decide +kernel
theorem dX10_warmsBy_95 : decode cX10_warmsBy 95 = .ok (.iload 4, 2) := by decide +kernel
theorem dX10_warmsBy_97 : decode cX10_warmsBy 97 = .ok (.iconst 5, 1) := by decide +kernel
theorem dX10_warmsBy_98 : decode cX10_warmsBy 98 = .ok (.if_icmp .ne 11, 3) := by decide +kernel
theorem dX10_warmsBy_101 : decode cX10_warmsBy 101 = .ok (.iload_n 3, 1) := by decide +kernel
theorem dX10_warmsBy_102 : decode cX10_warmsBy 102 = .ok (.iconst 2, 1) := by decide +kernel
theorem dX10_warmsBy_103 : decode cX10_warmsBy 103 = .ok (.idiv, 1) := by decide +kernel
theorem dX10_warmsBy_104 : decode cX10_warmsBy 104 = .ok (.iconst 1, 1) := by decide +kernel
theorem dX10_warmsBy_105 : decode cX10_warmsBy 105 = .ok (.iadd, 1) := by decide +kernel
theorem dX10_warmsBy_106 : decode cX10_warmsBy 106 = .ok (.goto 4, 3) := by decide +kernel
theorem dX10_warmsBy_109 : decode cX10_warmsBy 109 = .ok (.iload_n 3, 1) := by decide +kernel
theorem dX10_warmsBy_110 : decode cX10_warmsBy 110 = .ok (.istore_n 3, 1) := by decide +kernel
theorem dX10_warmsBy_111 : decode cX10_warmsBy 111 = .ok (.aload_n 0, 1) := by decide +kernel
theorem dX10_warmsBy_112 : decode cX10_warmsBy 112 = .ok (.iload_n 1, 1) := by decide +kernel
theorem dX10_warmsBy_113 : decode cX10_warmsBy 113 = .ok (.iconst 2, 1) := by decide +kernel
theorem dX10_warmsBy_114 : decode cX10_warmsBy 114 = .ok (.iload_n 2, 1) := by decide +kernel
theorem dX10_warmsBy_115 : decode cX10_warmsBy 115 = .ok (.bipush 40, 2) := by decide +kernel
theorem dX10_warmsBy_117 : decode cX10_warmsBy 117 = .ok (.invokevirtual 219, 3) := by decide +kernel
theorem dX10_warmsBy_120 : decode cX10_warmsBy 120 = .ok (.ifCond .eq 9, 3) := by decide +kernel
theorem dX10_warmsBy_123 : decode cX10_warmsBy 123 = .ok (.iload_n 3, 1) := by decide +kernel
theorem dX10_warmsBy_124 : decode cX10_warmsBy 124 = .ok (.iconst 2, 1) := by decide +kernel
theorem dX10_warmsBy_125 : decode cX10_warmsBy 125 = .ok (.idiv, 1) := by decide +kernel
theorem dX10_warmsBy_126 : decode cX10_warmsBy 126 = .ok (.goto 4, 3) := by decide +kernel
theorem dX10_warmsBy_129 : decode cX10_warmsBy 129 = .ok (.iload_n 3, 1) := by decide +kernel
theorem dX10_warmsBy_130 : decode cX10_warmsBy 130 = .ok (.istore_n 3, 1) := by decide +kernel
theorem dX10_warmsBy_131 : decode cX10_warmsBy 131 = .ok (.aload_n 0, 1) := by decide +kernel
theorem dX10_warmsBy_132 : decode cX10_warmsBy 132 = .ok (.iload_n 1, 1) := by decide +kernel
theorem dX10_warmsBy_133 : decode cX10_warmsBy 133 = .ok (.iconst 3, 1) := by decide +kernel
theorem dX10_warmsBy_134 : decode cX10_warmsBy 134 = .ok (.iload_n 2, 1) := by decide +kernel
theorem dX10_warmsBy_135 : decode cX10_warmsBy 135 = .ok (.bipush 10, 2) := by decide +kernel
theorem dX10_warmsBy_137 : decode cX10_warmsBy 137 = .ok (.invokevirtual 219, 3) := by decide +kernel
theorem dX10_warmsBy_140 : decode cX10_warmsBy 140 = .ok (.ifCond .eq 23, 3) := by decide +kernel
theorem dX10_warmsBy_143 : decode cX10_warmsBy 143 = .ok (.iload_n 3, 1) := by decide +kernel
theorem dX10_warmsBy_144 : decode cX10_warmsBy 144 = .ok (.iconst 2, 1) := by decide +kernel
theorem dX10_warmsBy_145 : decode cX10_warmsBy 145 = .ok (.aload_n 0, 1) := by decide +kernel
theorem dX10_warmsBy_146 : decode cX10_warmsBy 146 = .ok (.getfield 16, 3) := by decide +kernel
theorem dX10_warmsBy_149 : decode cX10_warmsBy 149 = .ok (.iload_n 1, 1) := by decide +kernel
theorem dX10_warmsBy_150 : decode cX10_warmsBy 150 = .ok (.iaload, 1) := by decide +kernel
theorem dX10_warmsBy_151 : decode cX10_warmsBy 151 = .ok (.imul, 1) := by decide +kernel
theorem dX10_warmsBy_152 : decode cX10_warmsBy 152 = .ok (.isub, 1) := by decide +kernel
theorem dX10_warmsBy_153 : decode cX10_warmsBy 153 = .ok (.iconst 0, 1) := by decide +kernel
theorem dX10_warmsBy_154 : decode cX10_warmsBy 154 = .ok (.sipush 400, 3) := by decide +kernel
theorem dX10_warmsBy_157 : decode cX10_warmsBy 157 = .ok (.invokestatic 188, 3) := by decide +kernel
theorem dX10_warmsBy_160 : decode cX10_warmsBy 160 = .ok (.goto 4, 3) := by decide +kernel
theorem dX10_warmsBy_163 : decode cX10_warmsBy 163 = .ok (.iload_n 3, 1) := by decide +kernel
theorem dX10_warmsBy_164 : decode cX10_warmsBy 164 = .ok (.ireturn, 1) := by decide +kernel
theorem dX10_coolsBy_0 : decode cX10_coolsBy 0 = .ok (.aload_n 0, 1) := by decide +kernel
theorem dX10_coolsBy_1 : decode cX10_coolsBy 1 = .ok (.iconst 1, 1) := by decide +kernel
theorem dX10_coolsBy_2 : decode cX10_coolsBy 2 = .ok (.aload_n 0, 1) := by decide +kernel
theorem dX10_coolsBy_3 : decode cX10_coolsBy 3 = .ok (.getfield 67, 3) := by decide +kernel
theorem dX10_coolsBy_6 : decode cX10_coolsBy 6 = .ok (.iload_n 1, 1) := by decide +kernel
theorem dX10_coolsBy_7 : decode cX10_coolsBy 7 = .ok (.iaload, 1) := by decide +kernel
theorem dX10_coolsBy_8 : decode cX10_coolsBy 8 = .ok (.aload_n 0, 1) := by decide +kernel
theorem dX10_coolsBy_9 : decode cX10_coolsBy 9 = .ok (.getfield 70, 3) := by decide +kernel
theorem dX10_coolsBy_12 : decode cX10_coolsBy 12 = .ok (.iload_n 1, 1) := by decide +kernel
theorem dX10_coolsBy_13 : decode cX10_coolsBy 13 = .ok (.iaload, 1) := by decide +kernel
theorem dX10_coolsBy_14 : decode cX10_coolsBy 14 = .ok (.aload_n 0, 1) := by decide +kernel
theorem dX10_coolsBy_15 : decode cX10_coolsBy 15 = .ok (.getfield 7, 3) := by decide +kernel
theorem dX10_coolsBy_18 : decode cX10_coolsBy 18 = .ok (.aload_n 0, 1) := by decide +kernel
theorem dX10_coolsBy_19 : decode cX10_coolsBy 19 = .ok (.getfield 22, 3) := by decide +kernel
theorem dX10_coolsBy_22 : decode cX10_coolsBy 22 = .ok (.iload_n 1, 1) := by decide +kernel
theorem dX10_coolsBy_23 : decode cX10_coolsBy 23 = .ok (.iaload, 1) := by decide +kernel
theorem dX10_coolsBy_24 : decode cX10_coolsBy 24 = .ok (.iaload, 1) := by decide +kernel
theorem dX10_coolsBy_25 : decode cX10_coolsBy 25 = .ok (.iload_n 2, 1) := by decide +kernel
theorem dX10_coolsBy_26 : decode cX10_coolsBy 26 = .ok (.aload_n 0, 1) := by decide +kernel
theorem dX10_coolsBy_27 : decode cX10_coolsBy 27 = .ok (.iload_n 1, 1) := by decide +kernel
theorem dX10_coolsBy_28 : decode cX10_coolsBy 28 = .ok (.invokevirtual 226, 3) := by decide +kernel
theorem dX10_coolsBy_31 : decode cX10_coolsBy 31 = .ok (.aload_n 0, 1) := by decide +kernel
theorem dX10_coolsBy_32 : decode cX10_coolsBy 32 = .ok (.getfield 16, 3) := by decide +kernel
theorem dX10_coolsBy_35 : decode cX10_coolsBy 35 = .ok (.iload_n 1, 1) := by decide +kernel
theorem dX10_coolsBy_36 : decode cX10_coolsBy 36 = .ok (.iaload, 1) := by decide +kernel
theorem dX10_coolsBy_37 : decode cX10_coolsBy 37 = .ok (.invokevirtual 194, 3) := by decide +kernel
theorem dX10_coolsBy_40 : decode cX10_coolsBy 40 = .ok (.istore_n 3, 1) := by decide +kernel
theorem dX10_coolsBy_41 : decode cX10_coolsBy 41 = .ok (.aload_n 0, 1) := by decide +kernel
theorem dX10_coolsBy_42 : decode cX10_coolsBy 42 = .ok (.getfield 13, 3) := by decide +kernel
theorem dX10_coolsBy_45 : decode cX10_coolsBy 45 = .ok (.iload_n 1, 1) := by decide +kernel
theorem dX10_coolsBy_46 : decode cX10_coolsBy 46 = .ok (.iaload, 1) := by decide +kernel
theorem dX10_coolsBy_47 : decode cX10_coolsBy 47 = .ok (.iconst 3, 1) := by decide +kernel
theorem dX10_coolsBy_48 : decode cX10_coolsBy 48 = .ok (.if_icmp .ne 21, 3) := by decide +kernel
theorem dX10_coolsBy_51 : decode cX10_coolsBy 51 = .ok (.aload_n 0, 1) := by decide +kernel
theorem dX10_coolsBy_52 : decode cX10_coolsBy 52 = .ok (.getfield 67, 3) := by decide +kernel
theorem dX10_coolsBy_55 : decode cX10_coolsBy 55 = .ok (.iload_n 1, 1) := by decide +kernel
theorem dX10_coolsBy_56 : decode cX10_coolsBy 56 = .ok (.iaload, 1) := by decide +kernel
theorem dX10_coolsBy_57 : decode cX10_coolsBy 57 = .ok (.sipush 200, 3) := by decide +kernel
theorem dX10_coolsBy_60 : decode cX10_coolsBy 60 = .ok (.if_icmp .le 9, 3) := by decide +kernel
theorem dX10_coolsBy_63 : decode cX10_coolsBy 63 = .ok (.iload_n 3, 1) := by decide +kernel
theorem dX10_coolsBy_64 : decode cX10_coolsBy 64 = .ok (.iconst 2, 1) := by decide +kernel
theorem dX10_coolsBy_65 : decode cX10_coolsBy 65 = .ok (.idiv, 1) := by decide +kernel
theorem dX10_coolsBy_66 : decode cX10_coolsBy 66 = .ok (.goto 36, 3) := by decide +kernel
theorem dX10_coolsBy_69 : decode cX10_coolsBy 69 = .ok (.aload_n 0, 1) := by decide +kernel
theorem dX10_coolsBy_70 : decode cX10_coolsBy 70 = .ok (.getfield 13, 3) := by decide +kernel
theorem dX10_coolsBy_73 : decode cX10_coolsBy 73 = .ok (.iload_n 1, 1) := by decide +kernel
theorem dX10_coolsBy_74 : decode cX10_coolsBy 74 = .ok (.iaload, 1) := by decide +kernel
theorem dX10_coolsBy_75 : decode cX10_coolsBy 75 = .ok (.iconst 5, 1) := by decide +kernel
theorem dX10_coolsBy_76 : decode cX10_coolsBy 76 = .ok (.if_icmp .ne 25, 3) := by decide +kernel
theorem dX10_coolsBy_79 : decode cX10_coolsBy 79 = .ok (.aload_n 0, 1) := by decide +kernel
theorem dX10_coolsBy_80 : decode cX10_coolsBy 80 = .ok (.getfield 67, 3) := by decide +kernel
theorem dX10_coolsBy_83 : decode cX10_coolsBy 83 = .ok (.iload_n 1, 1) := by decide +kernel
theorem dX10_coolsBy_84 : decode cX10_coolsBy 84 = .ok (.iaload, 1) := by decide +kernel
theorem dX10_coolsBy_85 : decode cX10_coolsBy 85 = .ok (.bipush 10, 2) := by decide +kernel
theorem dX10_coolsBy_87 : decode cX10_coolsBy 87 = .ok (.aload_n 0, 1) := by decide +kernel
theorem dX10_coolsBy_88 : decode cX10_coolsBy 88 = .ok (.getfield 16, 3) := by decide +kernel
theorem dX10_coolsBy_91 : decode cX10_coolsBy 91 = .ok (.iload_n 1, 1) := by decide +kernel
theorem dX10_coolsBy_92 : decode cX10_coolsBy 92 = .ok (.iaload, 1) := by decide +kernel
theorem dX10_coolsBy_93 : decode cX10_coolsBy 93 = .ok (.imul, 1) := by decide +kernel
theorem dX10_coolsBy_94 : decode cX10_coolsBy 94 = .ok (.if_icmp .ge 7, 3) := by decide +kernel
theorem dX10_coolsBy_97 : decode cX10_coolsBy 97 = .ok (.iconst 0, 1) := by decide +kernel
theorem dX10_coolsBy_98 : decode cX10_coolsBy 98 = .ok (.goto 4, 3) := by decide +kernel
theorem dX10_coolsBy_101 : decode cX10_coolsBy 101 = .ok (.iload_n 3, 1) := by decide +kernel
theorem dX10_coolsBy_102 : decode cX10_coolsBy 102 = .ok (.istore_n 3, 1) := by decide +kernel
theorem dX10_coolsBy_103 : decode cX10_coolsBy 103 = .ok (.aload_n 0, 1) := by decide +kernel
theorem dX10_coolsBy_104 : decode cX10_coolsBy 104 = .ok (.iload_n 1, 1) := by decide +kernel
theorem dX10_coolsBy_105 : decode cX10_coolsBy 105 = .ok (.iconst 1, 1) := by decide +kernel
theorem dX10_coolsBy_106 : decode cX10_coolsBy 106 = .ok (.iload_n 2, 1) := by decide +kernel
theorem dX10_coolsBy_107 : decode cX10_coolsBy 107 = .ok (.iconst 5, 1) := by decide +kernel
theorem dX10_coolsBy_108 : decode cX10_coolsBy 108 = .ok (.invokevirtual 219, 3) := by decide +kernel
theorem dX10_coolsBy_111 : decode cX10_coolsBy 111 = .ok (.ifCond .eq 10, 3) := by decide +kernel
theorem dX10_coolsBy_114 : decode cX10_coolsBy 114 = .ok (.iload_n 3, 1) := by decide +kernel
theorem dX10_coolsBy_115 : decode cX10_coolsBy 115 = .ok (.bipush 15, 2) := by decide +kernel
theorem dX10_coolsBy_117 : decode cX10_coolsBy 117 = .ok (.iadd, 1) := by decide +kernel
theorem dX10_coolsBy_118 : decode cX10_coolsBy 118 = .ok (.goto 4, 3) := by decide +kernel
theorem dX10_coolsBy_121 : decode cX10_coolsBy 121 = .ok (.iload_n 3, 1) := by decide +kernel
theorem dX10_coolsBy_122 : decode cX10_coolsBy 122 = .ok (.ireturn, 1) := by decide +kernel
theorem dX10_causedTo_0 : decode cX10_causedTo 0 = .ok (.iload_n 2, 1) := by decide +kernel
theorem dX10_causedTo_1 : decode cX10_causedTo 1 = .ok (.aload_n 0, 1) := by decide +kernel
theorem dX10_causedTo_2 : decode cX10_causedTo 2 = .ok (.getfield 229, 3) := by decide +kernel
theorem dX10_causedTo_5 : decode cX10_causedTo 5 = .ok (.if_icmp .ne 12, 3) := by decide +kernel
theorem dX10_causedTo_8 : decode cX10_causedTo 8 = .ok (.aload_n 0, 1) := by decide +kernel
theorem dX10_causedTo_9 : decode cX10_causedTo 9 = .ok (.getfield 89, 3) := by decide +kernel
theorem dX10_causedTo_12 : decode cX10_causedTo 12 = .ok (.iload_n 1, 1) := by decide +kernel
theorem dX10_causedTo_13 : decode cX10_causedTo 13 = .ok (.iaload, 1) := by decide +kernel
theorem dX10_causedTo_14 : decode cX10_causedTo 14 = .ok (.goto 4, 3) := by decide +kernel
theorem dX10_causedTo_17 : decode cX10_causedTo 17 = .ok (.iconst 0, 1) := by decide +kernel
theorem dX10_causedTo_18 : decode cX10_causedTo 18 = .ok (.istore_n 3, 1) := by decide +kernel
theorem dX10_causedTo_19 : decode cX10_causedTo 19 = .ok (.iconst 0, 1) := by decide +kernel
theorem dX10_causedTo_20 : decode cX10_causedTo 20 = .ok (.istore 4, 2) := by decide +kernel
theorem dX10_causedTo_22 : decode cX10_causedTo 22 = .ok (.iload 4, 2) := by decide +kernel
theorem dX10_causedTo_24 : decode cX10_causedTo 24 = .ok (.aload_n 0, 1) := by decide +kernel
theorem dX10_causedTo_25 : decode cX10_causedTo 25 = .ok (.getfield 112, 3) := by decide +kernel
theorem dX10_causedTo_28 : decode cX10_causedTo 28 = .ok (.if_icmp .ge 55, 3) := by decide +kernel
theorem dX10_causedTo_31 : decode cX10_causedTo 31 = .ok (.iload_n 3, 1) := by decide +kernel
theorem dX10_causedTo_32 : decode cX10_causedTo 32 = .ok (.aload_n 0, 1) := by decide +kernel
theorem dX10_causedTo_33 : decode cX10_causedTo 33 = .ok (.getfield 25, 3) := by decide +kernel
theorem dX10_causedTo_36 : decode cX10_causedTo 36 = .ok (.iconst 3, 1) := by decide +kernel
theorem dX10_causedTo_37 : decode cX10_causedTo 37 = .ok (.iload 4, 2) := by decide +kernel
theorem dX10_causedTo_39 : decode cX10_causedTo 39 = .ok (.imul, 1) := by decide +kernel
theorem dX10_causedTo_40 : decode cX10_causedTo 40 = .ok (.iaload, 1) := by decide +kernel
theorem dX10_causedTo_41 : decode cX10_causedTo 41 = .ok (.iload_n 2, 1) := by decide +kernel
theorem dX10_causedTo_42 : decode cX10_causedTo 42 = .ok (.if_icmp .ne 32, 3) := by decide +kernel
theorem dX10_causedTo_45 : decode cX10_causedTo 45 = .ok (.aload_n 0, 1) := by decide +kernel
theorem dX10_causedTo_46 : decode cX10_causedTo 46 = .ok (.getfield 25, 3) := by decide +kernel
theorem dX10_causedTo_49 : decode cX10_causedTo 49 = .ok (.iconst 3, 1) := by decide +kernel
theorem dX10_causedTo_50 : decode cX10_causedTo 50 = .ok (.iload 4, 2) := by decide +kernel
theorem dX10_causedTo_52 : decode cX10_causedTo 52 = .ok (.imul, 1) := by decide +kernel
theorem dX10_causedTo_53 : decode cX10_causedTo 53 = .ok (.iconst 1, 1) := by decide +kernel
theorem dX10_causedTo_54 : decode cX10_causedTo 54 = .ok (.iadd, 1) := by decide +kernel
theorem dX10_causedTo_55 : decode cX10_causedTo 55 = .ok (.iaload, 1) := by decide +kernel
theorem dX10_causedTo_56 : decode cX10_causedTo 56 = .ok (.iload_n 1, 1) := by decide +kernel
theorem dX10_causedTo_57 : decode cX10_causedTo 57 = .ok (.if_icmp .ne 17, 3) := by decide +kernel
theorem dX10_causedTo_60 : decode cX10_causedTo 60 = .ok (.aload_n 0, 1) := by decide +kernel
theorem dX10_causedTo_61 : decode cX10_causedTo 61 = .ok (.getfield 25, 3) := by decide +kernel
theorem dX10_causedTo_64 : decode cX10_causedTo 64 = .ok (.iconst 3, 1) := by decide +kernel
theorem dX10_causedTo_65 : decode cX10_causedTo 65 = .ok (.iload 4, 2) := by decide +kernel
theorem dX10_causedTo_67 : decode cX10_causedTo 67 = .ok (.imul, 1) := by decide +kernel
theorem dX10_causedTo_68 : decode cX10_causedTo 68 = .ok (.iconst 2, 1) := by decide +kernel
theorem dX10_causedTo_69 : decode cX10_causedTo 69 = .ok (.iadd, 1) := by decide +kernel
theorem dX10_causedTo_70 : decode cX10_causedTo 70 = .ok (.iaload, 1) := by decide +kernel
theorem dX10_causedTo_71 : decode cX10_causedTo 71 = .ok (.goto 4, 3) := by decide +kernel
theorem dX10_causedTo_74 : decode cX10_causedTo 74 = .ok (.iconst 0, 1) := by decide +kernel
theorem dX10_causedTo_75 : decode cX10_causedTo 75 = .ok (.iadd, 1) := by decide +kernel
theorem dX10_causedTo_76 : decode cX10_causedTo 76 = .ok (.istore_n 3, 1) := by decide +kernel
theorem dX10_causedTo_77 : decode cX10_causedTo 77 = .ok (.iinc 4 1, 3) := by decide +kernel
theorem dX10_causedTo_80 : decode cX10_causedTo 80 = .ok (.goto (-58), 3) := by decide +kernel
theorem dX10_causedTo_83 : decode cX10_causedTo 83 = .ok (.aload_n 0, 1) := by decide +kernel
theorem dX10_causedTo_84 : decode cX10_causedTo 84 = .ok (.iload_n 1, 1) := by decide +kernel
theorem dX10_causedTo_85 : decode cX10_causedTo 85 = .ok (.iconst 2, 1) := by decide +kernel
theorem dX10_causedTo_86 : decode cX10_causedTo 86 = .ok (.iload_n 2, 1) := by decide +kernel
theorem dX10_causedTo_87 : decode cX10_causedTo 87 = .ok (.iconst 1, 1) := by decide +kernel
theorem dX10_causedTo_88 : decode cX10_causedTo 88 = .ok (.invokevirtual 219, 3) := by decide +kernel
theorem dX10_causedTo_91 : decode cX10_causedTo 91 = .ok (.ifCond .eq 10, 3) := by decide +kernel
theorem dX10_causedTo_94 : decode cX10_causedTo 94 = .ok (.iload_n 3, 1) := by decide +kernel
theorem dX10_causedTo_95 : decode cX10_causedTo 95 = .ok (.bipush 30, 2) := by decide +kernel
theorem dX10_causedTo_97 : decode cX10_causedTo 97 = .ok (.iadd, 1) := by decide +kernel
theorem dX10_causedTo_98 : decode cX10_causedTo 98 = .ok (.goto 4, 3) := by decide +kernel
theorem dX10_causedTo_101 : decode cX10_causedTo 101 = .ok (.iload_n 3, 1) := by decide +kernel
theorem dX10_causedTo_102 : decode cX10_causedTo 102 = .ok (.ireturn, 1) := by decide +kernel
theorem dX10_seconds_0 : decode cX10_seconds 0 = .ok (.iconst 0, 1) := by decide +kernel
theorem dX10_seconds_1 : decode cX10_seconds 1 = .ok (.istore_n 2, 1) := by decide +kernel
theorem dX10_seconds_2 : decode cX10_seconds 2 = .ok (.iload_n 2, 1) := by decide +kernel
theorem dX10_seconds_3 : decode cX10_seconds 3 = .ok (.aload_n 0, 1) := by decide +kernel
theorem dX10_seconds_4 : decode cX10_seconds 4 = .ok (.getfield 105, 3) := by decide +kernel
theorem dX10_seconds_7 : decode cX10_seconds 7 = .ok (.if_icmp .ge 41, 3) := by decide +kernel
theorem dX10_seconds_10 : decode cX10_seconds 10 = .ok (.aload_n 0, 1) := by decide +kernel
theorem dX10_seconds_11 : decode cX10_seconds 11 = .ok (.getfield 67, 3) := by decide +kernel
theorem dX10_seconds_14 : decode cX10_seconds 14 = .ok (.iload_n 2, 1) := by decide +kernel
theorem dX10_seconds_15 : decode cX10_seconds 15 = .ok (.aload_n 0, 1) := by decide +kernel
theorem dX10_seconds_16 : decode cX10_seconds 16 = .ok (.getfield 64, 3) := by decide +kernel
theorem dX10_seconds_19 : decode cX10_seconds 19 = .ok (.iload_n 2, 1) := by decide +kernel
theorem dX10_seconds_20 : decode cX10_seconds 20 = .ok (.iaload, 1) := by decide +kernel
theorem dX10_seconds_21 : decode cX10_seconds 21 = .ok (.iastore, 1) := by decide +kernel
theorem dX10_seconds_22 : decode cX10_seconds 22 = .ok (.aload_n 0, 1) := by decide +kernel
theorem dX10_seconds_23 : decode cX10_seconds 23 = .ok (.getfield 73, 3) := by decide +kernel
theorem dX10_seconds_26 : decode cX10_seconds 26 = .ok (.iload_n 2, 1) := by decide +kernel
theorem dX10_seconds_27 : decode cX10_seconds 27 = .ok (.iload_n 1, 1) := by decide +kernel
theorem dX10_seconds_28 : decode cX10_seconds 28 = .ok (.ifCond .ne 7, 3) := by decide +kernel
theorem dX10_seconds_31 : decode cX10_seconds 31 = .ok (.iconst 0, 1) := by decide +kernel
theorem dX10_seconds_32 : decode cX10_seconds 32 = .ok (.goto 9, 3) := by decide +kernel
theorem dX10_seconds_35 : decode cX10_seconds 35 = .ok (.aload_n 0, 1) := by decide +kernel
theorem dX10_seconds_36 : decode cX10_seconds 36 = .ok (.getfield 70, 3) := by decide +kernel
theorem dX10_seconds_39 : decode cX10_seconds 39 = .ok (.iload_n 2, 1) := by decide +kernel
theorem dX10_seconds_40 : decode cX10_seconds 40 = .ok (.iaload, 1) := by decide +kernel
theorem dX10_seconds_41 : decode cX10_seconds 41 = .ok (.iastore, 1) := by decide +kernel
theorem dX10_seconds_42 : decode cX10_seconds 42 = .ok (.iinc 2 1, 3) := by decide +kernel
theorem dX10_seconds_45 : decode cX10_seconds 45 = .ok (.goto (-43), 3) := by decide +kernel
theorem dX10_seconds_48 : decode cX10_seconds 48 = .ok (.iconst 0, 1) := by decide +kernel
theorem dX10_seconds_49 : decode cX10_seconds 49 = .ok (.istore_n 2, 1) := by decide +kernel
theorem dX10_seconds_50 : decode cX10_seconds 50 = .ok (.iload_n 2, 1) := by decide +kernel
theorem dX10_seconds_51 : decode cX10_seconds 51 = .ok (.aload_n 0, 1) := by decide +kernel
theorem dX10_seconds_52 : decode cX10_seconds 52 = .ok (.getfield 105, 3) := by decide +kernel
theorem dX10_seconds_55 : decode cX10_seconds 55 = .ok (.if_icmp .ge 21, 3) := by decide +kernel
theorem dX10_seconds_58 : decode cX10_seconds 58 = .ok (.aload_n 0, 1) := by decide +kernel
theorem dX10_seconds_59 : decode cX10_seconds 59 = .ok (.getfield 70, 3) := by decide +kernel
theorem dX10_seconds_62 : decode cX10_seconds 62 = .ok (.iload_n 2, 1) := by decide +kernel
theorem dX10_seconds_63 : decode cX10_seconds 63 = .ok (.aload_n 0, 1) := by decide +kernel
theorem dX10_seconds_64 : decode cX10_seconds 64 = .ok (.iload_n 2, 1) := by decide +kernel
theorem dX10_seconds_65 : decode cX10_seconds 65 = .ok (.iload_n 1, 1) := by decide +kernel
theorem dX10_seconds_66 : decode cX10_seconds 66 = .ok (.invokevirtual 232, 3) := by decide +kernel
theorem dX10_seconds_69 : decode cX10_seconds 69 = .ok (.iastore, 1) := by decide +kernel
theorem dX10_seconds_70 : decode cX10_seconds 70 = .ok (.iinc 2 1, 3) := by decide +kernel
theorem dX10_seconds_73 : decode cX10_seconds 73 = .ok (.goto (-23), 3) := by decide +kernel
theorem dX10_seconds_76 : decode cX10_seconds 76 = .ok (.iconst 0, 1) := by decide +kernel
theorem dX10_seconds_77 : decode cX10_seconds 77 = .ok (.istore_n 2, 1) := by decide +kernel
theorem dX10_seconds_78 : decode cX10_seconds 78 = .ok (.iload_n 2, 1) := by decide +kernel
theorem dX10_seconds_79 : decode cX10_seconds 79 = .ok (.aload_n 0, 1) := by decide +kernel
theorem dX10_seconds_80 : decode cX10_seconds 80 = .ok (.getfield 105, 3) := by decide +kernel
theorem dX10_seconds_83 : decode cX10_seconds 83 = .ok (.if_icmp .ge 108, 3) := by decide +kernel
theorem dX10_seconds_86 : decode cX10_seconds 86 = .ok (.aload_n 0, 1) := by decide +kernel
theorem dX10_seconds_87 : decode cX10_seconds 87 = .ok (.getfield 64, 3) := by decide +kernel
theorem dX10_seconds_90 : decode cX10_seconds 90 = .ok (.iload_n 2, 1) := by decide +kernel
theorem dX10_seconds_91 : decode cX10_seconds 91 = .ok (.aload_n 0, 1) := by decide +kernel
theorem dX10_seconds_92 : decode cX10_seconds 92 = .ok (.getfield 67, 3) := by decide +kernel
theorem dX10_seconds_95 : decode cX10_seconds 95 = .ok (.iload_n 2, 1) := by decide +kernel
theorem dX10_seconds_96 : decode cX10_seconds 96 = .ok (.iaload, 1) := by decide +kernel
theorem dX10_seconds_97 : decode cX10_seconds 97 = .ok (.aload_n 0, 1) := by decide +kernel
theorem dX10_seconds_98 : decode cX10_seconds 98 = .ok (.iload_n 2, 1) := by decide +kernel
theorem dX10_seconds_99 : decode cX10_seconds 99 = .ok (.iload_n 1, 1) := by decide +kernel
theorem dX10_seconds_100 : decode cX10_seconds 100 = .ok (.invokevirtual 235, 3) := by decide +kernel
theorem dX10_seconds_103 : decode cX10_seconds 103 = .ok (.iadd, 1) := by decide +kernel
theorem dX10_seconds_104 : decode cX10_seconds 104 = .ok (.aload_n 0, 1) := by decide +kernel
theorem dX10_seconds_105 : decode cX10_seconds 105 = .ok (.iload_n 2, 1) := by decide +kernel
theorem dX10_seconds_106 : decode cX10_seconds 106 = .ok (.iload_n 1, 1) := by decide +kernel
theorem dX10_seconds_107 : decode cX10_seconds 107 = .ok (.invokevirtual 238, 3) := by decide +kernel
theorem dX10_seconds_110 : decode cX10_seconds 110 = .ok (.iadd, 1) := by decide +kernel
theorem dX10_seconds_111 : decode cX10_seconds 111 = .ok (.aload_n 0, 1) := by decide +kernel
theorem dX10_seconds_112 : decode cX10_seconds 112 = .ok (.iload_n 2, 1) := by decide +kernel
theorem dX10_seconds_113 : decode cX10_seconds 113 = .ok (.iload_n 1, 1) := by decide +kernel
theorem dX10_seconds_114 : decode cX10_seconds 114 = .ok (.invokevirtual 241, 3) := by decide +kernel
theorem dX10_seconds_117 : decode cX10_seconds 117 = .ok (.isub, 1) := by decide +kernel
theorem dX10_seconds_118 : decode cX10_seconds 118 = .ok (.iconst 0, 1) := by decide +kernel
theorem dX10_seconds_119 : decode cX10_seconds 119 = .ok (.sipush 400, 3) := by decide +kernel
theorem dX10_seconds_122 : decode cX10_seconds 122 = .ok (.invokestatic 188, 3) := by decide +kernel
theorem dX10_seconds_125 : decode cX10_seconds 125 = .ok (.iastore, 1) := by decide +kernel
theorem dX10_seconds_126 : decode cX10_seconds 126 = .ok (.aload_n 0, 1) := by decide +kernel
theorem dX10_seconds_127 : decode cX10_seconds 127 = .ok (.getfield 64, 3) := by decide +kernel
theorem dX10_seconds_130 : decode cX10_seconds 130 = .ok (.iload_n 2, 1) := by decide +kernel
theorem dX10_seconds_131 : decode cX10_seconds 131 = .ok (.aload_n 0, 1) := by decide +kernel
theorem dX10_seconds_132 : decode cX10_seconds 132 = .ok (.getfield 92, 3) := by decide +kernel
theorem dX10_seconds_135 : decode cX10_seconds 135 = .ok (.iload_n 2, 1) := by decide +kernel
theorem dX10_seconds_136 : decode cX10_seconds 136 = .ok (.iaload, 1) := by decide +kernel
theorem dX10_seconds_137 : decode cX10_seconds 137 = .ok (.iload_n 1, 1) := by decide +kernel
theorem dX10_seconds_138 : decode cX10_seconds 138 = .ok (.if_icmp .ne 24, 3) := by decide +kernel
theorem dX10_seconds_141 : decode cX10_seconds 141 = .ok (.aload_n 0, 1) := by decide +kernel
theorem dX10_seconds_142 : decode cX10_seconds 142 = .ok (.getfield 64, 3) := by decide +kernel
theorem dX10_seconds_145 : decode cX10_seconds 145 = .ok (.iload_n 2, 1) := by decide +kernel
theorem dX10_seconds_146 : decode cX10_seconds 146 = .ok (.iaload, 1) := by decide +kernel
theorem dX10_seconds_147 : decode cX10_seconds 147 = .ok (.aload_n 0, 1) := by decide +kernel
theorem dX10_seconds_148 : decode cX10_seconds 148 = .ok (.getfield 244, 3) := by decide +kernel
theorem dX10_seconds_151 : decode cX10_seconds 151 = .ok (.iadd, 1) := by decide +kernel
theorem dX10_seconds_152 : decode cX10_seconds 152 = .ok (.iconst 0, 1) := by decide +kernel
theorem dX10_seconds_153 : decode cX10_seconds 153 = .ok (.sipush 400, 3) := by decide +kernel
theorem dX10_seconds_156 : decode cX10_seconds 156 = .ok (.invokestatic 188, 3) := by decide +kernel
theorem dX10_seconds_159 : decode cX10_seconds 159 = .ok (.goto 9, 3) := by decide +kernel
theorem dX10_seconds_162 : decode cX10_seconds 162 = .ok (.aload_n 0, 1) := by decide +kernel
theorem dX10_seconds_163 : decode cX10_seconds 163 = .ok (.getfield 64, 3) := by decide +kernel
theorem dX10_seconds_166 : decode cX10_seconds 166 = .ok (.iload_n 2, 1) := by decide +kernel
theorem dX10_seconds_167 : decode cX10_seconds 167 = .ok (.iaload, 1) := by decide +kernel
theorem dX10_seconds_168 : decode cX10_seconds 168 = .ok (.iastore, 1) := by decide +kernel
theorem dX10_seconds_169 : decode cX10_seconds 169 = .ok (.aload_n 0, 1) := by decide +kernel
theorem dX10_seconds_170 : decode cX10_seconds 170 = .ok (.getfield 76, 3) := by decide +kernel
theorem dX10_seconds_173 : decode cX10_seconds 173 = .ok (.iconst 5, 1) := by decide +kernel
theorem dX10_seconds_174 : decode cX10_seconds 174 = .ok (.iload_n 1, 1) := by decide +kernel
theorem dX10_seconds_175 : decode cX10_seconds 175 = .ok (.imul, 1) := by decide +kernel
theorem dX10_seconds_176 : decode cX10_seconds 176 = .ok (.iload_n 2, 1) := by decide +kernel
theorem dX10_seconds_177 : decode cX10_seconds 177 = .ok (.iadd, 1) := by decide +kernel
theorem dX10_seconds_178 : decode cX10_seconds 178 = .ok (.aload_n 0, 1) := by decide +kernel
theorem dX10_seconds_179 : decode cX10_seconds 179 = .ok (.getfield 64, 3) := by decide +kernel
theorem dX10_seconds_182 : decode cX10_seconds 182 = .ok (.iload_n 2, 1) := by decide +kernel
theorem dX10_seconds_183 : decode cX10_seconds 183 = .ok (.iaload, 1) := by decide +kernel
theorem dX10_seconds_184 : decode cX10_seconds 184 = .ok (.iastore, 1) := by decide +kernel
theorem dX10_seconds_185 : decode cX10_seconds 185 = .ok (.iinc 2 1, 3) := by decide +kernel
theorem dX10_seconds_188 : decode cX10_seconds 188 = .ok (.goto (-110), 3) := by decide +kernel
theorem dX10_seconds_191 : decode cX10_seconds 191 = .ok (.return_, 1) := by decide +kernel
theorem dX10_runs_0 : decode cX10_runs 0 = .ok (.iconst 0, 1) := by decide +kernel
theorem dX10_runs_1 : decode cX10_runs 1 = .ok (.istore_n 2, 1) := by decide +kernel
theorem dX10_runs_2 : decode cX10_runs 2 = .ok (.iload_n 2, 1) := by decide +kernel
theorem dX10_runs_3 : decode cX10_runs 3 = .ok (.aload_n 0, 1) := by decide +kernel
theorem dX10_runs_4 : decode cX10_runs 4 = .ok (.getfield 105, 3) := by decide +kernel
theorem dX10_runs_7 : decode cX10_runs 7 = .ok (.if_icmp .ge 28, 3) := by decide +kernel
theorem dX10_runs_10 : decode cX10_runs 10 = .ok (.aload_n 0, 1) := by decide +kernel
theorem dX10_runs_11 : decode cX10_runs 11 = .ok (.getfield 64, 3) := by decide +kernel
theorem dX10_runs_14 : decode cX10_runs 14 = .ok (.iload_n 2, 1) := by decide +kernel
theorem dX10_runs_15 : decode cX10_runs 15 = .ok (.aload_n 0, 1) := by decide +kernel
theorem dX10_runs_16 : decode cX10_runs 16 = .ok (.getfield 19, 3) := by decide +kernel
theorem dX10_runs_19 : decode cX10_runs 19 = .ok (.iload_n 2, 1) := by decide +kernel
theorem dX10_runs_20 : decode cX10_runs 20 = .ok (.iaload, 1) := by decide +kernel
theorem dX10_runs_21 : decode cX10_runs 21 = .ok (.iastore, 1) := by decide +kernel
theorem dX10_runs_22 : decode cX10_runs 22 = .ok (.aload_n 0, 1) := by decide +kernel
theorem dX10_runs_23 : decode cX10_runs 23 = .ok (.getfield 70, 3) := by decide +kernel
theorem dX10_runs_26 : decode cX10_runs 26 = .ok (.iload_n 2, 1) := by decide +kernel
theorem dX10_runs_27 : decode cX10_runs 27 = .ok (.iconst 0, 1) := by decide +kernel
theorem dX10_runs_28 : decode cX10_runs 28 = .ok (.iastore, 1) := by decide +kernel
theorem dX10_runs_29 : decode cX10_runs 29 = .ok (.iinc 2 1, 3) := by decide +kernel
theorem dX10_runs_32 : decode cX10_runs 32 = .ok (.goto (-30), 3) := by decide +kernel
theorem dX10_runs_35 : decode cX10_runs 35 = .ok (.iconst 0, 1) := by decide +kernel
theorem dX10_runs_36 : decode cX10_runs 36 = .ok (.istore_n 2, 1) := by decide +kernel
theorem dX10_runs_37 : decode cX10_runs 37 = .ok (.iload_n 2, 1) := by decide +kernel
theorem dX10_runs_38 : decode cX10_runs 38 = .ok (.iload_n 1, 1) := by decide +kernel
theorem dX10_runs_39 : decode cX10_runs 39 = .ok (.if_icmp .ge 14, 3) := by decide +kernel
theorem dX10_runs_42 : decode cX10_runs 42 = .ok (.aload_n 0, 1) := by decide +kernel
theorem dX10_runs_43 : decode cX10_runs 43 = .ok (.iload_n 2, 1) := by decide +kernel
theorem dX10_runs_44 : decode cX10_runs 44 = .ok (.invokevirtual 247, 3) := by decide +kernel
theorem dX10_runs_47 : decode cX10_runs 47 = .ok (.iinc 2 1, 3) := by decide +kernel
theorem dX10_runs_50 : decode cX10_runs 50 = .ok (.goto (-13), 3) := by decide +kernel
theorem dX10_runs_53 : decode cX10_runs 53 = .ok (.return_, 1) := by decide +kernel
theorem dX10_isRedNow_0 : decode cX10_isRedNow 0 = .ok (.aload_n 0, 1) := by decide +kernel
theorem dX10_isRedNow_1 : decode cX10_isRedNow 1 = .ok (.getfield 64, 3) := by decide +kernel
theorem dX10_isRedNow_4 : decode cX10_isRedNow 4 = .ok (.iload_n 1, 1) := by decide +kernel
theorem dX10_isRedNow_5 : decode cX10_isRedNow 5 = .ok (.iaload, 1) := by decide +kernel
theorem dX10_isRedNow_6 : decode cX10_isRedNow 6 = .ok (.aload_n 0, 1) := by decide +kernel
theorem dX10_isRedNow_7 : decode cX10_isRedNow 7 = .ok (.iload_n 1, 1) := by decide +kernel
theorem dX10_isRedNow_8 : decode cX10_isRedNow 8 = .ok (.invokevirtual 210, 3) := by decide +kernel
theorem dX10_isRedNow_11 : decode cX10_isRedNow 11 = .ok (.if_icmp .lt 7, 3) := by decide +kernel
theorem dX10_isRedNow_14 : decode cX10_isRedNow 14 = .ok (.iconst 1, 1) := by decide +kernel
theorem dX10_isRedNow_15 : decode cX10_isRedNow 15 = .ok (.goto 4, 3) := by decide +kernel
theorem dX10_isRedNow_18 : decode cX10_isRedNow 18 = .ok (.iconst 0, 1) := by decide +kernel
theorem dX10_isRedNow_19 : decode cX10_isRedNow 19 = .ok (.ireturn, 1) := by decide +kernel
theorem dX10_redNow_0 : decode cX10_redNow 0 = .ok (.iconst 0, 1) := by decide +kernel
theorem dX10_redNow_1 : decode cX10_redNow 1 = .ok (.istore_n 1, 1) := by decide +kernel
theorem dX10_redNow_2 : decode cX10_redNow 2 = .ok (.iconst 0, 1) := by decide +kernel
theorem dX10_redNow_3 : decode cX10_redNow 3 = .ok (.istore_n 2, 1) := by decide +kernel
theorem dX10_redNow_4 : decode cX10_redNow 4 = .ok (.iload_n 2, 1) := by decide +kernel
theorem dX10_redNow_5 : decode cX10_redNow 5 = .ok (.aload_n 0, 1) := by decide +kernel
theorem dX10_redNow_6 : decode cX10_redNow 6 = .ok (.getfield 105, 3) := by decide +kernel
theorem dX10_redNow_9 : decode cX10_redNow 9 = .ok (.if_icmp .ge 27, 3) := by decide +kernel
theorem dX10_redNow_12 : decode cX10_redNow 12 = .ok (.iload_n 1, 1) := by decide +kernel
theorem dX10_redNow_13 : decode cX10_redNow 13 = .ok (.aload_n 0, 1) := by decide +kernel
theorem dX10_redNow_14 : decode cX10_redNow 14 = .ok (.iload_n 2, 1) := by decide +kernel
theorem dX10_redNow_15 : decode cX10_redNow 15 = .ok (.invokevirtual 250, 3) := by decide +kernel
theorem dX10_redNow_18 : decode cX10_redNow 18 = .ok (.ifCond .eq 9, 3) := by decide +kernel
theorem dX10_redNow_21 : decode cX10_redNow 21 = .ok (.iconst 1, 1) := by decide +kernel
theorem dX10_redNow_22 : decode cX10_redNow 22 = .ok (.iload_n 2, 1) := by decide +kernel
theorem dX10_redNow_23 : decode cX10_redNow 23 = .ok (.ishl, 1) := by decide +kernel
theorem dX10_redNow_24 : decode cX10_redNow 24 = .ok (.goto 4, 3) := by decide +kernel
theorem dX10_redNow_27 : decode cX10_redNow 27 = .ok (.iconst 0, 1) := by decide +kernel
theorem dX10_redNow_28 : decode cX10_redNow 28 = .ok (.ior, 1) := by decide +kernel
theorem dX10_redNow_29 : decode cX10_redNow 29 = .ok (.istore_n 1, 1) := by decide +kernel
theorem dX10_redNow_30 : decode cX10_redNow 30 = .ok (.iinc 2 1, 3) := by decide +kernel
theorem dX10_redNow_33 : decode cX10_redNow 33 = .ok (.goto (-29), 3) := by decide +kernel
theorem dX10_redNow_36 : decode cX10_redNow 36 = .ok (.iload_n 1, 1) := by decide +kernel
theorem dX10_redNow_37 : decode cX10_redNow 37 = .ok (.ireturn, 1) := by decide +kernel
theorem dX10_at_0 : decode cX10_at 0 = .ok (.iload_n 1, 1) := by decide +kernel
theorem dX10_at_1 : decode cX10_at 1 = .ok (.iconst 0, 1) := by decide +kernel
theorem dX10_at_2 : decode cX10_at 2 = .ok (.bipush 40, 2) := by decide +kernel
theorem dX10_at_4 : decode cX10_at 4 = .ok (.invokestatic 108, 3) := by decide +kernel
theorem dX10_at_7 : decode cX10_at 7 = .ok (.ifCond .eq 11, 3) := by decide +kernel
theorem dX10_at_10 : decode cX10_at 10 = .ok (.aload_n 0, 1) := by decide +kernel
theorem dX10_at_11 : decode cX10_at 11 = .ok (.iload_n 2, 1) := by decide +kernel
theorem dX10_at_12 : decode cX10_at 12 = .ok (.invokevirtual 204, 3) := by decide +kernel
theorem dX10_at_15 : decode cX10_at 15 = .ok (.ifCond .ne 6, 3) := by decide +kernel
theorem dX10_at_18 : decode cX10_at 18 = .ok (.bipush (-5), 2) := by decide +kernel
theorem dX10_at_20 : decode cX10_at 20 = .ok (.ireturn, 1) := by decide +kernel
theorem dX10_at_21 : decode cX10_at 21 = .ok (.iload_n 3, 1) := by decide +kernel
theorem dX10_at_22 : decode cX10_at 22 = .ok (.iconst 0, 1) := by decide +kernel
theorem dX10_at_23 : decode cX10_at 23 = .ok (.iconst 2, 1) := by decide +kernel
theorem dX10_at_24 : decode cX10_at 24 = .ok (.invokestatic 108, 3) := by decide +kernel
theorem dX10_at_27 : decode cX10_at 27 = .ok (.ifCond .ne 6, 3) := by decide +kernel
theorem dX10_at_30 : decode cX10_at 30 = .ok (.bipush (-7), 2) := by decide +kernel
theorem dX10_at_32 : decode cX10_at 32 = .ok (.ireturn, 1) := by decide +kernel
theorem dX10_at_33 : decode cX10_at 33 = .ok (.aload_n 0, 1) := by decide +kernel
theorem dX10_at_34 : decode cX10_at 34 = .ok (.iload_n 1, 1) := by decide +kernel
theorem dX10_at_35 : decode cX10_at 35 = .ok (.invokevirtual 253, 3) := by decide +kernel
theorem dX10_at_38 : decode cX10_at 38 = .ok (.iload_n 3, 1) := by decide +kernel
theorem dX10_at_39 : decode cX10_at 39 = .ok (.ifCond .ne 12, 3) := by decide +kernel
theorem dX10_at_42 : decode cX10_at 42 = .ok (.aload_n 0, 1) := by decide +kernel
theorem dX10_at_43 : decode cX10_at 43 = .ok (.getfield 64, 3) := by decide +kernel
theorem dX10_at_46 : decode cX10_at 46 = .ok (.iload_n 2, 1) := by decide +kernel
theorem dX10_at_47 : decode cX10_at 47 = .ok (.iaload, 1) := by decide +kernel
theorem dX10_at_48 : decode cX10_at 48 = .ok (.goto 30, 3) := by decide +kernel
theorem dX10_at_51 : decode cX10_at 51 = .ok (.iload_n 3, 1) := by decide +kernel
theorem dX10_at_52 : decode cX10_at 52 = .ok (.iconst 1, 1) := by decide +kernel
theorem dX10_at_53 : decode cX10_at 53 = .ok (.if_icmp .ne 19, 3) := by decide +kernel
theorem dX10_at_56 : decode cX10_at 56 = .ok (.aload_n 0, 1) := by decide +kernel
theorem dX10_at_57 : decode cX10_at 57 = .ok (.iload_n 2, 1) := by decide +kernel
theorem dX10_at_58 : decode cX10_at 58 = .ok (.invokevirtual 250, 3) := by decide +kernel
theorem dX10_at_61 : decode cX10_at 61 = .ok (.ifCond .eq 7, 3) := by decide +kernel
theorem dX10_at_64 : decode cX10_at 64 = .ok (.iconst 1, 1) := by decide +kernel
theorem dX10_at_65 : decode cX10_at 65 = .ok (.goto 13, 3) := by decide +kernel
theorem dX10_at_68 : decode cX10_at 68 = .ok (.iconst 0, 1) := by decide +kernel
theorem dX10_at_69 : decode cX10_at 69 = .ok (.goto 9, 3) := by decide +kernel
theorem dX10_at_72 : decode cX10_at 72 = .ok (.aload_n 0, 1) := by decide +kernel
theorem dX10_at_73 : decode cX10_at 73 = .ok (.getfield 70, 3) := by decide +kernel
theorem dX10_at_76 : decode cX10_at 76 = .ok (.iload_n 2, 1) := by decide +kernel
theorem dX10_at_77 : decode cX10_at 77 = .ok (.iaload, 1) := by decide +kernel
theorem dX10_at_78 : decode cX10_at 78 = .ok (.ireturn, 1) := by decide +kernel
theorem dX10_wasRed_0 : decode cX10_wasRed 0 = .ok (.aload_n 0, 1) := by decide +kernel
theorem dX10_wasRed_1 : decode cX10_wasRed 1 = .ok (.getfield 76, 3) := by decide +kernel
theorem dX10_wasRed_4 : decode cX10_wasRed 4 = .ok (.iconst 5, 1) := by decide +kernel
theorem dX10_wasRed_5 : decode cX10_wasRed 5 = .ok (.iload_n 2, 1) := by decide +kernel
theorem dX10_wasRed_6 : decode cX10_wasRed 6 = .ok (.imul, 1) := by decide +kernel
theorem dX10_wasRed_7 : decode cX10_wasRed 7 = .ok (.iload_n 1, 1) := by decide +kernel
theorem dX10_wasRed_8 : decode cX10_wasRed 8 = .ok (.iadd, 1) := by decide +kernel
theorem dX10_wasRed_9 : decode cX10_wasRed 9 = .ok (.iaload, 1) := by decide +kernel
theorem dX10_wasRed_10 : decode cX10_wasRed 10 = .ok (.aload_n 0, 1) := by decide +kernel
theorem dX10_wasRed_11 : decode cX10_wasRed 11 = .ok (.iload_n 1, 1) := by decide +kernel
theorem dX10_wasRed_12 : decode cX10_wasRed 12 = .ok (.invokevirtual 210, 3) := by decide +kernel
theorem dX10_wasRed_15 : decode cX10_wasRed 15 = .ok (.if_icmp .lt 7, 3) := by decide +kernel
theorem dX10_wasRed_18 : decode cX10_wasRed 18 = .ok (.iconst 1, 1) := by decide +kernel
theorem dX10_wasRed_19 : decode cX10_wasRed 19 = .ok (.goto 4, 3) := by decide +kernel
theorem dX10_wasRed_22 : decode cX10_wasRed 22 = .ok (.iconst 0, 1) := by decide +kernel
theorem dX10_wasRed_23 : decode cX10_wasRed 23 = .ok (.ireturn, 1) := by decide +kernel
theorem dX10_redSeconds_0 : decode cX10_redSeconds 0 = .ok (.iconst 0, 1) := by decide +kernel
theorem dX10_redSeconds_1 : decode cX10_redSeconds 1 = .ok (.istore_n 2, 1) := by decide +kernel
theorem dX10_redSeconds_2 : decode cX10_redSeconds 2 = .ok (.iconst 0, 1) := by decide +kernel
theorem dX10_redSeconds_3 : decode cX10_redSeconds 3 = .ok (.istore_n 3, 1) := by decide +kernel
theorem dX10_redSeconds_4 : decode cX10_redSeconds 4 = .ok (.iload_n 3, 1) := by decide +kernel
theorem dX10_redSeconds_5 : decode cX10_redSeconds 5 = .ok (.bipush 40, 2) := by decide +kernel
theorem dX10_redSeconds_7 : decode cX10_redSeconds 7 = .ok (.if_icmp .ge 26, 3) := by decide +kernel
theorem dX10_redSeconds_10 : decode cX10_redSeconds 10 = .ok (.iload_n 2, 1) := by decide +kernel
theorem dX10_redSeconds_11 : decode cX10_redSeconds 11 = .ok (.aload_n 0, 1) := by decide +kernel
theorem dX10_redSeconds_12 : decode cX10_redSeconds 12 = .ok (.iload_n 1, 1) := by decide +kernel
theorem dX10_redSeconds_13 : decode cX10_redSeconds 13 = .ok (.iload_n 3, 1) := by decide +kernel
theorem dX10_redSeconds_14 : decode cX10_redSeconds 14 = .ok (.invokevirtual 256, 3) := by decide +kernel
theorem dX10_redSeconds_17 : decode cX10_redSeconds 17 = .ok (.ifCond .eq 7, 3) := by decide +kernel
theorem dX10_redSeconds_20 : decode cX10_redSeconds 20 = .ok (.iconst 1, 1) := by decide +kernel
theorem dX10_redSeconds_21 : decode cX10_redSeconds 21 = .ok (.goto 4, 3) := by decide +kernel
theorem dX10_redSeconds_24 : decode cX10_redSeconds 24 = .ok (.iconst 0, 1) := by decide +kernel
theorem dX10_redSeconds_25 : decode cX10_redSeconds 25 = .ok (.iadd, 1) := by decide +kernel
theorem dX10_redSeconds_26 : decode cX10_redSeconds 26 = .ok (.istore_n 2, 1) := by decide +kernel
theorem dX10_redSeconds_27 : decode cX10_redSeconds 27 = .ok (.iinc 3 1, 3) := by decide +kernel
theorem dX10_redSeconds_30 : decode cX10_redSeconds 30 = .ok (.goto (-26), 3) := by decide +kernel
theorem dX10_redSeconds_33 : decode cX10_redSeconds 33 = .ok (.iload_n 2, 1) := by decide +kernel
theorem dX10_redSeconds_34 : decode cX10_redSeconds 34 = .ok (.ireturn, 1) := by decide +kernel
theorem dX10_firstRed_0 : decode cX10_firstRed 0 = .ok (.iconst 0, 1) := by decide +kernel
theorem dX10_firstRed_1 : decode cX10_firstRed 1 = .ok (.istore_n 2, 1) := by decide +kernel
theorem dX10_firstRed_2 : decode cX10_firstRed 2 = .ok (.iload_n 2, 1) := by decide +kernel
theorem dX10_firstRed_3 : decode cX10_firstRed 3 = .ok (.bipush 40, 2) := by decide +kernel
theorem dX10_firstRed_5 : decode cX10_firstRed 5 = .ok (.if_icmp .ge 20, 3) := by decide +kernel
theorem dX10_firstRed_8 : decode cX10_firstRed 8 = .ok (.aload_n 0, 1) := by decide +kernel
theorem dX10_firstRed_9 : decode cX10_firstRed 9 = .ok (.iload_n 1, 1) := by decide +kernel
theorem dX10_firstRed_10 : decode cX10_firstRed 10 = .ok (.iload_n 2, 1) := by decide +kernel
theorem dX10_firstRed_11 : decode cX10_firstRed 11 = .ok (.invokevirtual 256, 3) := by decide +kernel
theorem dX10_firstRed_14 : decode cX10_firstRed 14 = .ok (.ifCond .eq 5, 3) := by decide +kernel
theorem dX10_firstRed_17 : decode cX10_firstRed 17 = .ok (.iload_n 2, 1) := by decide +kernel
theorem dX10_firstRed_18 : decode cX10_firstRed 18 = .ok (.ireturn, 1) := by decide +kernel
theorem dX10_firstRed_19 : decode cX10_firstRed 19 = .ok (.iinc 2 1, 3) := by decide +kernel
theorem dX10_firstRed_22 : decode cX10_firstRed 22 = .ok (.goto (-20), 3) := by decide +kernel
theorem dX10_firstRed_25 : decode cX10_firstRed 25 = .ok (.iconst (-1), 1) := by decide +kernel
theorem dX10_firstRed_26 : decode cX10_firstRed 26 = .ok (.ireturn, 1) := by decide +kernel
theorem dX10_lastRed_0 : decode cX10_lastRed 0 = .ok (.bipush 39, 2) := by decide +kernel
theorem dX10_lastRed_2 : decode cX10_lastRed 2 = .ok (.istore_n 2, 1) := by decide +kernel
theorem dX10_lastRed_3 : decode cX10_lastRed 3 = .ok (.iload_n 2, 1) := by decide +kernel
theorem dX10_lastRed_4 : decode cX10_lastRed 4 = .ok (.ifCond .lt 20, 3) := by decide +kernel
theorem dX10_lastRed_7 : decode cX10_lastRed 7 = .ok (.aload_n 0, 1) := by decide +kernel
theorem dX10_lastRed_8 : decode cX10_lastRed 8 = .ok (.iload_n 1, 1) := by decide +kernel
theorem dX10_lastRed_9 : decode cX10_lastRed 9 = .ok (.iload_n 2, 1) := by decide +kernel
theorem dX10_lastRed_10 : decode cX10_lastRed 10 = .ok (.invokevirtual 256, 3) := by decide +kernel
theorem dX10_lastRed_13 : decode cX10_lastRed 13 = .ok (.ifCond .eq 5, 3) := by decide +kernel
theorem dX10_lastRed_16 : decode cX10_lastRed 16 = .ok (.iload_n 2, 1) := by decide +kernel
theorem dX10_lastRed_17 : decode cX10_lastRed 17 = .ok (.ireturn, 1) := by decide +kernel
theorem dX10_lastRed_18 : decode cX10_lastRed 18 = .ok (.iinc 2 (-1), 3) := by decide +kernel
theorem dX10_lastRed_21 : decode cX10_lastRed 21 = .ok (.goto (-18), 3) := by decide +kernel
theorem dX10_lastRed_24 : decode cX10_lastRed 24 = .ok (.iconst (-1), 1) := by decide +kernel
theorem dX10_lastRed_25 : decode cX10_lastRed 25 = .ok (.ireturn, 1) := by decide +kernel
theorem dX10_mostWarm_0 : decode cX10_mostWarm 0 = .ok (.aload_n 0, 1) := by decide +kernel
theorem dX10_mostWarm_1 : decode cX10_mostWarm 1 = .ok (.getfield 19, 3) := by decide +kernel
theorem dX10_mostWarm_4 : decode cX10_mostWarm 4 = .ok (.iload_n 1, 1) := by decide +kernel
theorem dX10_mostWarm_5 : decode cX10_mostWarm 5 = .ok (.iaload, 1) := by decide +kernel
theorem dX10_mostWarm_6 : decode cX10_mostWarm 6 = .ok (.istore_n 2, 1) := by decide +kernel
theorem dX10_mostWarm_7 : decode cX10_mostWarm 7 = .ok (.iconst 0, 1) := by decide +kernel
theorem dX10_mostWarm_8 : decode cX10_mostWarm 8 = .ok (.istore_n 3, 1) := by decide +kernel
theorem dX10_mostWarm_9 : decode cX10_mostWarm 9 = .ok (.iload_n 3, 1) := by decide +kernel
theorem dX10_mostWarm_10 : decode cX10_mostWarm 10 = .ok (.bipush 40, 2) := by decide +kernel
theorem dX10_mostWarm_12 : decode cX10_mostWarm 12 = .ok (.if_icmp .ge 38, 3) := by decide +kernel
theorem dX10_mostWarm_15 : decode cX10_mostWarm 15 = .ok (.aload_n 0, 1) := by decide +kernel
theorem dX10_mostWarm_16 : decode cX10_mostWarm 16 = .ok (.getfield 76, 3) := by decide +kernel
theorem dX10_mostWarm_19 : decode cX10_mostWarm 19 = .ok (.iconst 5, 1) := by decide +kernel
theorem dX10_mostWarm_20 : decode cX10_mostWarm 20 = .ok (.iload_n 3, 1) := by decide +kernel
theorem dX10_mostWarm_21 : decode cX10_mostWarm 21 = .ok (.imul, 1) := by decide +kernel
theorem dX10_mostWarm_22 : decode cX10_mostWarm 22 = .ok (.iload_n 1, 1) := by decide +kernel
theorem dX10_mostWarm_23 : decode cX10_mostWarm 23 = .ok (.iadd, 1) := by decide +kernel
theorem dX10_mostWarm_24 : decode cX10_mostWarm 24 = .ok (.iaload, 1) := by decide +kernel
theorem dX10_mostWarm_25 : decode cX10_mostWarm 25 = .ok (.iload_n 2, 1) := by decide +kernel
theorem dX10_mostWarm_26 : decode cX10_mostWarm 26 = .ok (.if_icmp .le 16, 3) := by decide +kernel
theorem dX10_mostWarm_29 : decode cX10_mostWarm 29 = .ok (.aload_n 0, 1) := by decide +kernel
theorem dX10_mostWarm_30 : decode cX10_mostWarm 30 = .ok (.getfield 76, 3) := by decide +kernel
theorem dX10_mostWarm_33 : decode cX10_mostWarm 33 = .ok (.iconst 5, 1) := by decide +kernel
theorem dX10_mostWarm_34 : decode cX10_mostWarm 34 = .ok (.iload_n 3, 1) := by decide +kernel
theorem dX10_mostWarm_35 : decode cX10_mostWarm 35 = .ok (.imul, 1) := by decide +kernel
theorem dX10_mostWarm_36 : decode cX10_mostWarm 36 = .ok (.iload_n 1, 1) := by decide +kernel
theorem dX10_mostWarm_37 : decode cX10_mostWarm 37 = .ok (.iadd, 1) := by decide +kernel
theorem dX10_mostWarm_38 : decode cX10_mostWarm 38 = .ok (.iaload, 1) := by decide +kernel
theorem dX10_mostWarm_39 : decode cX10_mostWarm 39 = .ok (.goto 4, 3) := by decide +kernel
theorem dX10_mostWarm_42 : decode cX10_mostWarm 42 = .ok (.iload_n 2, 1) := by decide +kernel
theorem dX10_mostWarm_43 : decode cX10_mostWarm 43 = .ok (.istore_n 2, 1) := by decide +kernel
theorem dX10_mostWarm_44 : decode cX10_mostWarm 44 = .ok (.iinc 3 1, 3) := by decide +kernel
theorem dX10_mostWarm_47 : decode cX10_mostWarm 47 = .ok (.goto (-38), 3) := by decide +kernel
theorem dX10_mostWarm_50 : decode cX10_mostWarm 50 = .ok (.iload_n 2, 1) := by decide +kernel
theorem dX10_mostWarm_51 : decode cX10_mostWarm 51 = .ok (.ireturn, 1) := by decide +kernel
theorem dX10_feltBy_0 : decode cX10_feltBy 0 = .ok (.iconst 0, 1) := by decide +kernel
theorem dX10_feltBy_1 : decode cX10_feltBy 1 = .ok (.istore_n 2, 1) := by decide +kernel
theorem dX10_feltBy_2 : decode cX10_feltBy 2 = .ok (.iconst 0, 1) := by decide +kernel
theorem dX10_feltBy_3 : decode cX10_feltBy 3 = .ok (.istore_n 3, 1) := by decide +kernel
theorem dX10_feltBy_4 : decode cX10_feltBy 4 = .ok (.iload_n 3, 1) := by decide +kernel
theorem dX10_feltBy_5 : decode cX10_feltBy 5 = .ok (.bipush 40, 2) := by decide +kernel
theorem dX10_feltBy_7 : decode cX10_feltBy 7 = .ok (.if_icmp .ge 22, 3) := by decide +kernel
theorem dX10_feltBy_10 : decode cX10_feltBy 10 = .ok (.iload_n 2, 1) := by decide +kernel
theorem dX10_feltBy_11 : decode cX10_feltBy 11 = .ok (.aload_n 0, 1) := by decide +kernel
theorem dX10_feltBy_12 : decode cX10_feltBy 12 = .ok (.getfield 76, 3) := by decide +kernel
theorem dX10_feltBy_15 : decode cX10_feltBy 15 = .ok (.iconst 5, 1) := by decide +kernel
theorem dX10_feltBy_16 : decode cX10_feltBy 16 = .ok (.iload_n 3, 1) := by decide +kernel
theorem dX10_feltBy_17 : decode cX10_feltBy 17 = .ok (.imul, 1) := by decide +kernel
theorem dX10_feltBy_18 : decode cX10_feltBy 18 = .ok (.iload_n 1, 1) := by decide +kernel
theorem dX10_feltBy_19 : decode cX10_feltBy 19 = .ok (.iadd, 1) := by decide +kernel
theorem dX10_feltBy_20 : decode cX10_feltBy 20 = .ok (.iaload, 1) := by decide +kernel
theorem dX10_feltBy_21 : decode cX10_feltBy 21 = .ok (.iadd, 1) := by decide +kernel
theorem dX10_feltBy_22 : decode cX10_feltBy 22 = .ok (.istore_n 2, 1) := by decide +kernel
theorem dX10_feltBy_23 : decode cX10_feltBy 23 = .ok (.iinc 3 1, 3) := by decide +kernel
theorem dX10_feltBy_26 : decode cX10_feltBy 26 = .ok (.goto (-22), 3) := by decide +kernel
theorem dX10_feltBy_29 : decode cX10_feltBy 29 = .ok (.iload_n 2, 1) := by decide +kernel
theorem dX10_feltBy_30 : decode cX10_feltBy 30 = .ok (.ireturn, 1) := by decide +kernel
theorem dX10_redTold_0 : decode cX10_redTold 0 = .ok (.aload_n 0, 1) := by decide +kernel
theorem dX10_redTold_1 : decode cX10_redTold 1 = .ok (.bipush 40, 2) := by decide +kernel
theorem dX10_redTold_3 : decode cX10_redTold 3 = .ok (.invokevirtual 253, 3) := by decide +kernel
theorem dX10_redTold_6 : decode cX10_redTold 6 = .ok (.iload_n 2, 1) := by decide +kernel
theorem dX10_redTold_7 : decode cX10_redTold 7 = .ok (.tableswitch 53 0 3 #[29, 35, 41, 47], 29) := by decide +kernel
theorem dX10_redTold_36 : decode cX10_redTold 36 = .ok (.aload_n 0, 1) := by decide +kernel
theorem dX10_redTold_37 : decode cX10_redTold 37 = .ok (.iload_n 1, 1) := by decide +kernel
theorem dX10_redTold_38 : decode cX10_redTold 38 = .ok (.invokevirtual 260, 3) := by decide +kernel
theorem dX10_redTold_41 : decode cX10_redTold 41 = .ok (.ireturn, 1) := by decide +kernel
theorem dX10_redTold_42 : decode cX10_redTold 42 = .ok (.aload_n 0, 1) := by decide +kernel
theorem dX10_redTold_43 : decode cX10_redTold 43 = .ok (.iload_n 1, 1) := by decide +kernel
theorem dX10_redTold_44 : decode cX10_redTold 44 = .ok (.invokevirtual 263, 3) := by decide +kernel
theorem dX10_redTold_47 : decode cX10_redTold 47 = .ok (.ireturn, 1) := by decide +kernel
theorem dX10_redTold_48 : decode cX10_redTold 48 = .ok (.aload_n 0, 1) := by decide +kernel
theorem dX10_redTold_49 : decode cX10_redTold 49 = .ok (.iload_n 1, 1) := by decide +kernel
theorem dX10_redTold_50 : decode cX10_redTold 50 = .ok (.invokevirtual 266, 3) := by decide +kernel
theorem dX10_redTold_53 : decode cX10_redTold 53 = .ok (.ireturn, 1) := by decide +kernel
theorem dX10_redTold_54 : decode cX10_redTold 54 = .ok (.aload_n 0, 1) := by decide +kernel
theorem dX10_redTold_55 : decode cX10_redTold 55 = .ok (.iload_n 1, 1) := by decide +kernel
theorem dX10_redTold_56 : decode cX10_redTold 56 = .ok (.invokevirtual 269, 3) := by decide +kernel
theorem dX10_redTold_59 : decode cX10_redTold 59 = .ok (.ireturn, 1) := by decide +kernel
theorem dX10_redTold_60 : decode cX10_redTold 60 = .ok (.aload_n 0, 1) := by decide +kernel
theorem dX10_redTold_61 : decode cX10_redTold 61 = .ok (.iload_n 1, 1) := by decide +kernel
theorem dX10_redTold_62 : decode cX10_redTold 62 = .ok (.invokevirtual 272, 3) := by decide +kernel
theorem dX10_redTold_65 : decode cX10_redTold 65 = .ok (.ireturn, 1) := by decide +kernel
theorem dX10_red_0 : decode cX10_red 0 = .ok (.aload_n 0, 1) := by decide +kernel
theorem dX10_red_1 : decode cX10_red 1 = .ok (.iload_n 1, 1) := by decide +kernel
theorem dX10_red_2 : decode cX10_red 2 = .ok (.invokevirtual 204, 3) := by decide +kernel
theorem dX10_red_5 : decode cX10_red 5 = .ok (.ifCond .ne 6, 3) := by decide +kernel
theorem dX10_red_8 : decode cX10_red 8 = .ok (.bipush (-5), 2) := by decide +kernel
theorem dX10_red_10 : decode cX10_red 10 = .ok (.ireturn, 1) := by decide +kernel
theorem dX10_red_11 : decode cX10_red 11 = .ok (.iload_n 2, 1) := by decide +kernel
theorem dX10_red_12 : decode cX10_red 12 = .ok (.iconst 0, 1) := by decide +kernel
theorem dX10_red_13 : decode cX10_red 13 = .ok (.iconst 4, 1) := by decide +kernel
theorem dX10_red_14 : decode cX10_red 14 = .ok (.invokestatic 108, 3) := by decide +kernel
theorem dX10_red_17 : decode cX10_red 17 = .ok (.ifCond .eq 12, 3) := by decide +kernel
theorem dX10_red_20 : decode cX10_red 20 = .ok (.aload_n 0, 1) := by decide +kernel
theorem dX10_red_21 : decode cX10_red 21 = .ok (.iload_n 1, 1) := by decide +kernel
theorem dX10_red_22 : decode cX10_red 22 = .ok (.iload_n 2, 1) := by decide +kernel
theorem dX10_red_23 : decode cX10_red 23 = .ok (.invokevirtual 275, 3) := by decide +kernel
theorem dX10_red_26 : decode cX10_red 26 = .ok (.goto 5, 3) := by decide +kernel
theorem dX10_red_29 : decode cX10_red 29 = .ok (.bipush (-7), 2) := by decide +kernel
theorem dX10_red_31 : decode cX10_red 31 = .ok (.ireturn, 1) := by decide +kernel
theorem dX10_row_0 : decode cX10_row 0 = .ok (.iload_n 1, 1) := by decide +kernel
theorem dX10_row_1 : decode cX10_row 1 = .ok (.iconst 0, 1) := by decide +kernel
theorem dX10_row_2 : decode cX10_row 2 = .ok (.bipush 40, 2) := by decide +kernel
theorem dX10_row_4 : decode cX10_row 4 = .ok (.invokestatic 108, 3) := by decide +kernel
theorem dX10_row_7 : decode cX10_row 7 = .ok (.ifCond .ne 6, 3) := by decide +kernel
theorem dX10_row_10 : decode cX10_row 10 = .ok (.bipush (-5), 2) := by decide +kernel
theorem dX10_row_12 : decode cX10_row 12 = .ok (.ireturn, 1) := by decide +kernel
theorem dX10_row_13 : decode cX10_row 13 = .ok (.iload_n 2, 1) := by decide +kernel
theorem dX10_row_14 : decode cX10_row 14 = .ok (.iconst 0, 1) := by decide +kernel
theorem dX10_row_15 : decode cX10_row 15 = .ok (.iconst 2, 1) := by decide +kernel
theorem dX10_row_16 : decode cX10_row 16 = .ok (.invokestatic 108, 3) := by decide +kernel
theorem dX10_row_19 : decode cX10_row 19 = .ok (.ifCond .ne 6, 3) := by decide +kernel
theorem dX10_row_22 : decode cX10_row 22 = .ok (.bipush (-7), 2) := by decide +kernel
theorem dX10_row_24 : decode cX10_row 24 = .ok (.ireturn, 1) := by decide +kernel
theorem dX10_row_25 : decode cX10_row 25 = .ok (.aload_n 0, 1) := by decide +kernel
theorem dX10_row_26 : decode cX10_row 26 = .ok (.iload_n 1, 1) := by decide +kernel
theorem dX10_row_27 : decode cX10_row 27 = .ok (.invokevirtual 253, 3) := by decide +kernel
theorem dX10_row_30 : decode cX10_row 30 = .ok (.iconst 0, 1) := by decide +kernel
theorem dX10_row_31 : decode cX10_row 31 = .ok (.istore_n 3, 1) := by decide +kernel
theorem dX10_row_32 : decode cX10_row 32 = .ok (.iconst 0, 1) := by decide +kernel
theorem dX10_row_33 : decode cX10_row 33 = .ok (.istore 4, 2) := by decide +kernel
theorem dX10_row_35 : decode cX10_row 35 = .ok (.iload 4, 2) := by decide +kernel
theorem dX10_row_37 : decode cX10_row 37 = .ok (.aload_n 0, 1) := by decide +kernel
theorem dX10_row_38 : decode cX10_row 38 = .ok (.getfield 105, 3) := by decide +kernel
theorem dX10_row_41 : decode cX10_row 41 = .ok (.if_icmp .ge 53, 3) := by decide +kernel
theorem dX10_row_44 : decode cX10_row 44 = .ok (.iload_n 3, 1) := by decide +kernel
theorem dX10_row_45 : decode cX10_row 45 = .ok (.iload_n 2, 1) := by decide +kernel
theorem dX10_row_46 : decode cX10_row 46 = .ok (.iconst 1, 1) := by decide +kernel
theorem dX10_row_47 : decode cX10_row 47 = .ok (.if_icmp .ne 13, 3) := by decide +kernel
theorem dX10_row_50 : decode cX10_row 50 = .ok (.aload_n 0, 1) := by decide +kernel
theorem dX10_row_51 : decode cX10_row 51 = .ok (.getfield 64, 3) := by decide +kernel
theorem dX10_row_54 : decode cX10_row 54 = .ok (.iload 4, 2) := by decide +kernel
theorem dX10_row_56 : decode cX10_row 56 = .ok (.iaload, 1) := by decide +kernel
theorem dX10_row_57 : decode cX10_row 57 = .ok (.goto 29, 3) := by decide +kernel
theorem dX10_row_60 : decode cX10_row 60 = .ok (.iload_n 2, 1) := by decide +kernel
theorem dX10_row_61 : decode cX10_row 61 = .ok (.iconst 2, 1) := by decide +kernel
theorem dX10_row_62 : decode cX10_row 62 = .ok (.if_icmp .ne 23, 3) := by decide +kernel
theorem dX10_row_65 : decode cX10_row 65 = .ok (.aload_n 0, 1) := by decide +kernel
theorem dX10_row_66 : decode cX10_row 66 = .ok (.getfield 64, 3) := by decide +kernel
theorem dX10_row_69 : decode cX10_row 69 = .ok (.iload 4, 2) := by decide +kernel
theorem dX10_row_71 : decode cX10_row 71 = .ok (.iaload, 1) := by decide +kernel
theorem dX10_row_72 : decode cX10_row 72 = .ok (.sipush 400, 3) := by decide +kernel
theorem dX10_row_75 : decode cX10_row 75 = .ok (.if_icmp .ne 10, 3) := by decide +kernel
theorem dX10_row_78 : decode cX10_row 78 = .ok (.iconst 1, 1) := by decide +kernel
theorem dX10_row_79 : decode cX10_row 79 = .ok (.iload 4, 2) := by decide +kernel
theorem dX10_row_81 : decode cX10_row 81 = .ok (.ishl, 1) := by decide +kernel
theorem dX10_row_82 : decode cX10_row 82 = .ok (.goto 4, 3) := by decide +kernel
theorem dX10_row_85 : decode cX10_row 85 = .ok (.iconst 0, 1) := by decide +kernel
theorem dX10_row_86 : decode cX10_row 86 = .ok (.iadd, 1) := by decide +kernel
theorem dX10_row_87 : decode cX10_row 87 = .ok (.istore_n 3, 1) := by decide +kernel
theorem dX10_row_88 : decode cX10_row 88 = .ok (.iinc 4 1, 3) := by decide +kernel
theorem dX10_row_91 : decode cX10_row 91 = .ok (.goto (-56), 3) := by decide +kernel
theorem dX10_row_94 : decode cX10_row 94 = .ok (.iload_n 2, 1) := by decide +kernel
theorem dX10_row_95 : decode cX10_row 95 = .ok (.ifCond .ne 10, 3) := by decide +kernel
theorem dX10_row_98 : decode cX10_row 98 = .ok (.aload_n 0, 1) := by decide +kernel
theorem dX10_row_99 : decode cX10_row 99 = .ok (.invokevirtual 278, 3) := by decide +kernel
theorem dX10_row_102 : decode cX10_row 102 = .ok (.goto 4, 3) := by decide +kernel
theorem dX10_row_105 : decode cX10_row 105 = .ok (.iload_n 3, 1) := by decide +kernel
theorem dX10_row_106 : decode cX10_row 106 = .ok (.ireturn, 1) := by decide +kernel
theorem dX10_ones_0 : decode cX10_ones 0 = .ok (.iconst 0, 1) := by decide +kernel
theorem dX10_ones_1 : decode cX10_ones 1 = .ok (.istore_n 1, 1) := by decide +kernel
theorem dX10_ones_2 : decode cX10_ones 2 = .ok (.iconst 0, 1) := by decide +kernel
theorem dX10_ones_3 : decode cX10_ones 3 = .ok (.istore_n 2, 1) := by decide +kernel
theorem dX10_ones_4 : decode cX10_ones 4 = .ok (.iload_n 2, 1) := by decide +kernel
theorem dX10_ones_5 : decode cX10_ones 5 = .ok (.bipush 12, 2) := by decide +kernel
theorem dX10_ones_7 : decode cX10_ones 7 = .ok (.if_icmp .ge 17, 3) := by decide +kernel
theorem dX10_ones_10 : decode cX10_ones 10 = .ok (.iload_n 1, 1) := by decide +kernel
theorem dX10_ones_11 : decode cX10_ones 11 = .ok (.iload_n 0, 1) := by decide +kernel
theorem dX10_ones_12 : decode cX10_ones 12 = .ok (.iload_n 2, 1) := by decide +kernel
theorem dX10_ones_13 : decode cX10_ones 13 = .ok (.ishr, 1) := by decide +kernel
theorem dX10_ones_14 : decode cX10_ones 14 = .ok (.iconst 1, 1) := by decide +kernel
theorem dX10_ones_15 : decode cX10_ones 15 = .ok (.iand, 1) := by decide +kernel
theorem dX10_ones_16 : decode cX10_ones 16 = .ok (.iadd, 1) := by decide +kernel
theorem dX10_ones_17 : decode cX10_ones 17 = .ok (.istore_n 1, 1) := by decide +kernel
theorem dX10_ones_18 : decode cX10_ones 18 = .ok (.iinc 2 1, 3) := by decide +kernel
theorem dX10_ones_21 : decode cX10_ones 21 = .ok (.goto (-17), 3) := by decide +kernel
theorem dX10_ones_24 : decode cX10_ones 24 = .ok (.iload_n 1, 1) := by decide +kernel
theorem dX10_ones_25 : decode cX10_ones 25 = .ok (.ireturn, 1) := by decide +kernel
theorem dX10_pass_0 : decode cX10_pass 0 = .ok (.iload_n 1, 1) := by decide +kernel
theorem dX10_pass_1 : decode cX10_pass 1 = .ok (.iconst 0, 1) := by decide +kernel
theorem dX10_pass_2 : decode cX10_pass 2 = .ok (.bipush 40, 2) := by decide +kernel
theorem dX10_pass_4 : decode cX10_pass 4 = .ok (.invokestatic 108, 3) := by decide +kernel
theorem dX10_pass_7 : decode cX10_pass 7 = .ok (.ifCond .ne 6, 3) := by decide +kernel
theorem dX10_pass_10 : decode cX10_pass 10 = .ok (.bipush (-2), 2) := by decide +kernel
theorem dX10_pass_12 : decode cX10_pass 12 = .ok (.ireturn, 1) := by decide +kernel
theorem dX10_pass_13 : decode cX10_pass 13 = .ok (.aload_n 0, 1) := by decide +kernel
theorem dX10_pass_14 : decode cX10_pass 14 = .ok (.iload_n 1, 1) := by decide +kernel
theorem dX10_pass_15 : decode cX10_pass 15 = .ok (.invokevirtual 253, 3) := by decide +kernel
theorem dX10_pass_18 : decode cX10_pass 18 = .ok (.iconst 0, 1) := by decide +kernel
theorem dX10_pass_19 : decode cX10_pass 19 = .ok (.istore_n 2, 1) := by decide +kernel
theorem dX10_pass_20 : decode cX10_pass 20 = .ok (.iload_n 2, 1) := by decide +kernel
theorem dX10_pass_21 : decode cX10_pass 21 = .ok (.aload_n 0, 1) := by decide +kernel
theorem dX10_pass_22 : decode cX10_pass 22 = .ok (.getfield 105, 3) := by decide +kernel
theorem dX10_pass_25 : decode cX10_pass 25 = .ok (.if_icmp .ge 21, 3) := by decide +kernel
theorem dX10_pass_28 : decode cX10_pass 28 = .ok (.aload_n 0, 1) := by decide +kernel
theorem dX10_pass_29 : decode cX10_pass 29 = .ok (.getfield 19, 3) := by decide +kernel
theorem dX10_pass_32 : decode cX10_pass 32 = .ok (.iload_n 2, 1) := by decide +kernel
theorem dX10_pass_33 : decode cX10_pass 33 = .ok (.aload_n 0, 1) := by decide +kernel
theorem dX10_pass_34 : decode cX10_pass 34 = .ok (.getfield 64, 3) := by decide +kernel
theorem dX10_pass_37 : decode cX10_pass 37 = .ok (.iload_n 2, 1) := by decide +kernel
theorem dX10_pass_38 : decode cX10_pass 38 = .ok (.iaload, 1) := by decide +kernel
theorem dX10_pass_39 : decode cX10_pass 39 = .ok (.iastore, 1) := by decide +kernel
theorem dX10_pass_40 : decode cX10_pass 40 = .ok (.iinc 2 1, 3) := by decide +kernel
theorem dX10_pass_43 : decode cX10_pass 43 = .ok (.goto (-23), 3) := by decide +kernel
theorem dX10_pass_46 : decode cX10_pass 46 = .ok (.aload_n 0, 1) := by decide +kernel
theorem dX10_pass_47 : decode cX10_pass 47 = .ok (.invokevirtual 278, 3) := by decide +kernel
theorem dX10_pass_50 : decode cX10_pass 50 = .ok (.invokestatic 281, 3) := by decide +kernel
theorem dX10_pass_53 : decode cX10_pass 53 = .ok (.ireturn, 1) := by decide +kernel
theorem dX10_diesNow_0 : decode cX10_diesNow 0 = .ok (.aload_n 0, 1) := by decide +kernel
theorem dX10_diesNow_1 : decode cX10_diesNow 1 = .ok (.bipush 40, 2) := by decide +kernel
theorem dX10_diesNow_3 : decode cX10_diesNow 3 = .ok (.invokevirtual 253, 3) := by decide +kernel
theorem dX10_diesNow_6 : decode cX10_diesNow 6 = .ok (.aload_n 0, 1) := by decide +kernel
theorem dX10_diesNow_7 : decode cX10_diesNow 7 = .ok (.iload_n 1, 1) := by decide +kernel
theorem dX10_diesNow_8 : decode cX10_diesNow 8 = .ok (.invokevirtual 260, 3) := by decide +kernel
theorem dX10_diesNow_11 : decode cX10_diesNow 11 = .ok (.sipush 400, 3) := by decide +kernel
theorem dX10_diesNow_14 : decode cX10_diesNow 14 = .ok (.if_icmp .ne 7, 3) := by decide +kernel
theorem dX10_diesNow_17 : decode cX10_diesNow 17 = .ok (.iconst 2, 1) := by decide +kernel
theorem dX10_diesNow_18 : decode cX10_diesNow 18 = .ok (.goto 16, 3) := by decide +kernel
theorem dX10_diesNow_21 : decode cX10_diesNow 21 = .ok (.aload_n 0, 1) := by decide +kernel
theorem dX10_diesNow_22 : decode cX10_diesNow 22 = .ok (.iload_n 1, 1) := by decide +kernel
theorem dX10_diesNow_23 : decode cX10_diesNow 23 = .ok (.invokevirtual 250, 3) := by decide +kernel
theorem dX10_diesNow_26 : decode cX10_diesNow 26 = .ok (.ifCond .eq 7, 3) := by decide +kernel
theorem dX10_diesNow_29 : decode cX10_diesNow 29 = .ok (.iconst 1, 1) := by decide +kernel
theorem dX10_diesNow_30 : decode cX10_diesNow 30 = .ok (.goto 4, 3) := by decide +kernel
theorem dX10_diesNow_33 : decode cX10_diesNow 33 = .ok (.iconst 0, 1) := by decide +kernel
theorem dX10_diesNow_34 : decode cX10_diesNow 34 = .ok (.ireturn, 1) := by decide +kernel
theorem dX10_dies_0 : decode cX10_dies 0 = .ok (.aload_n 0, 1) := by decide +kernel
theorem dX10_dies_1 : decode cX10_dies 1 = .ok (.iload_n 1, 1) := by decide +kernel
theorem dX10_dies_2 : decode cX10_dies 2 = .ok (.invokevirtual 204, 3) := by decide +kernel
theorem dX10_dies_5 : decode cX10_dies 5 = .ok (.ifCond .eq 11, 3) := by decide +kernel
theorem dX10_dies_8 : decode cX10_dies 8 = .ok (.aload_n 0, 1) := by decide +kernel
theorem dX10_dies_9 : decode cX10_dies 9 = .ok (.iload_n 1, 1) := by decide +kernel
theorem dX10_dies_10 : decode cX10_dies 10 = .ok (.invokevirtual 284, 3) := by decide +kernel
theorem dX10_dies_13 : decode cX10_dies 13 = .ok (.goto 5, 3) := by decide +kernel
theorem dX10_dies_16 : decode cX10_dies 16 = .ok (.bipush (-5), 2) := by decide +kernel
theorem dX10_dies_18 : decode cX10_dies 18 = .ok (.ireturn, 1) := by decide +kernel
theorem dX10_line_0 : decode cX10_line 0 = .ok (.aload_n 0, 1) := by decide +kernel
theorem dX10_line_1 : decode cX10_line 1 = .ok (.iload_n 1, 1) := by decide +kernel
theorem dX10_line_2 : decode cX10_line 2 = .ok (.invokevirtual 204, 3) := by decide +kernel
theorem dX10_line_5 : decode cX10_line 5 = .ok (.ifCond .ne 6, 3) := by decide +kernel
theorem dX10_line_8 : decode cX10_line 8 = .ok (.bipush (-5), 2) := by decide +kernel
theorem dX10_line_10 : decode cX10_line 10 = .ok (.ireturn, 1) := by decide +kernel
theorem dX10_line_11 : decode cX10_line 11 = .ok (.aload_n 0, 1) := by decide +kernel
theorem dX10_line_12 : decode cX10_line 12 = .ok (.getfield 19, 3) := by decide +kernel
theorem dX10_line_15 : decode cX10_line 15 = .ok (.iload_n 1, 1) := by decide +kernel
theorem dX10_line_16 : decode cX10_line 16 = .ok (.iaload, 1) := by decide +kernel
theorem dX10_line_17 : decode cX10_line 17 = .ok (.istore_n 2, 1) := by decide +kernel
theorem dX10_line_18 : decode cX10_line 18 = .ok (.iconst (-1), 1) := by decide +kernel
theorem dX10_line_19 : decode cX10_line 19 = .ok (.istore_n 3, 1) := by decide +kernel
theorem dX10_line_20 : decode cX10_line 20 = .ok (.iconst 0, 1) := by decide +kernel
theorem dX10_line_21 : decode cX10_line 21 = .ok (.istore 4, 2) := by decide +kernel
theorem dX10_line_23 : decode cX10_line 23 = .ok (.iload 4, 2) := by decide +kernel
theorem dX10_line_25 : decode cX10_line 25 = .ok (.sipush 390, 3) := by decide +kernel
theorem dX10_line_28 : decode cX10_line 28 = .ok (.if_icmp .gt 33, 3) := by decide +kernel
theorem dX10_line_31 : decode cX10_line 31 = .ok (.aload_n 0, 1) := by decide +kernel
theorem dX10_line_32 : decode cX10_line 32 = .ok (.getfield 19, 3) := by decide +kernel
theorem dX10_line_35 : decode cX10_line 35 = .ok (.iload_n 1, 1) := by decide +kernel
theorem dX10_line_36 : decode cX10_line 36 = .ok (.iload 4, 2) := by decide +kernel
theorem dX10_line_38 : decode cX10_line 38 = .ok (.iastore, 1) := by decide +kernel
theorem dX10_line_39 : decode cX10_line 39 = .ok (.aload_n 0, 1) := by decide +kernel
theorem dX10_line_40 : decode cX10_line 40 = .ok (.iload_n 1, 1) := by decide +kernel
theorem dX10_line_41 : decode cX10_line 41 = .ok (.invokevirtual 284, 3) := by decide +kernel
theorem dX10_line_44 : decode cX10_line 44 = .ok (.iconst 2, 1) := by decide +kernel
theorem dX10_line_45 : decode cX10_line 45 = .ok (.if_icmp .eq 8, 3) := by decide +kernel
theorem dX10_line_48 : decode cX10_line 48 = .ok (.iload 4, 2) := by decide +kernel
theorem dX10_line_50 : decode cX10_line 50 = .ok (.goto 4, 3) := by decide +kernel
theorem dX10_line_53 : decode cX10_line 53 = .ok (.iload_n 3, 1) := by decide +kernel
theorem dX10_line_54 : decode cX10_line 54 = .ok (.istore_n 3, 1) := by decide +kernel
theorem dX10_line_55 : decode cX10_line 55 = .ok (.iinc 4 10, 3) := by decide +kernel
theorem dX10_line_58 : decode cX10_line 58 = .ok (.goto (-35), 3) := by decide +kernel
theorem dX10_line_61 : decode cX10_line 61 = .ok (.aload_n 0, 1) := by decide +kernel
theorem dX10_line_62 : decode cX10_line 62 = .ok (.getfield 19, 3) := by decide +kernel
theorem dX10_line_65 : decode cX10_line 65 = .ok (.iload_n 1, 1) := by decide +kernel
theorem dX10_line_66 : decode cX10_line 66 = .ok (.iload_n 2, 1) := by decide +kernel
theorem dX10_line_67 : decode cX10_line 67 = .ok (.iastore, 1) := by decide +kernel
theorem dX10_line_68 : decode cX10_line 68 = .ok (.iload_n 3, 1) := by decide +kernel
theorem dX10_line_69 : decode cX10_line 69 = .ok (.ireturn, 1) := by decide +kernel
theorem dX10_stopsBy_0 : decode cX10_stopsBy 0 = .ok (.aload_n 0, 1) := by decide +kernel
theorem dX10_stopsBy_1 : decode cX10_stopsBy 1 = .ok (.iload_n 1, 1) := by decide +kernel
theorem dX10_stopsBy_2 : decode cX10_stopsBy 2 = .ok (.putfield 79, 3) := by decide +kernel
theorem dX10_stopsBy_5 : decode cX10_stopsBy 5 = .ok (.aload_n 0, 1) := by decide +kernel
theorem dX10_stopsBy_6 : decode cX10_stopsBy 6 = .ok (.iload_n 2, 1) := by decide +kernel
theorem dX10_stopsBy_7 : decode cX10_stopsBy 7 = .ok (.putfield 213, 3) := by decide +kernel
theorem dX10_stopsBy_10 : decode cX10_stopsBy 10 = .ok (.aload_n 0, 1) := by decide +kernel
theorem dX10_stopsBy_11 : decode cX10_stopsBy 11 = .ok (.iload_n 3, 1) := by decide +kernel
theorem dX10_stopsBy_12 : decode cX10_stopsBy 12 = .ok (.putfield 216, 3) := by decide +kernel
theorem dX10_stopsBy_15 : decode cX10_stopsBy 15 = .ok (.return_, 1) := by decide +kernel
theorem dX10_stops_0 : decode cX10_stops 0 = .ok (.aload_n 0, 1) := by decide +kernel
theorem dX10_stops_1 : decode cX10_stops 1 = .ok (.iload_n 1, 1) := by decide +kernel
theorem dX10_stops_2 : decode cX10_stops 2 = .ok (.invokevirtual 204, 3) := by decide +kernel
theorem dX10_stops_5 : decode cX10_stops 5 = .ok (.ifCond .ne 6, 3) := by decide +kernel
theorem dX10_stops_8 : decode cX10_stops 8 = .ok (.bipush (-5), 2) := by decide +kernel
theorem dX10_stops_10 : decode cX10_stops 10 = .ok (.ireturn, 1) := by decide +kernel
theorem dX10_stops_11 : decode cX10_stops 11 = .ok (.iload_n 2, 1) := by decide +kernel
theorem dX10_stops_12 : decode cX10_stops 12 = .ok (.iconst 0, 1) := by decide +kernel
theorem dX10_stops_13 : decode cX10_stops 13 = .ok (.sipush 319, 3) := by decide +kernel
theorem dX10_stops_16 : decode cX10_stops 16 = .ok (.invokestatic 108, 3) := by decide +kernel
theorem dX10_stops_19 : decode cX10_stops 19 = .ok (.ifCond .eq 21, 3) := by decide +kernel
theorem dX10_stops_22 : decode cX10_stops 22 = .ok (.iload_n 2, 1) := by decide +kernel
theorem dX10_stops_23 : decode cX10_stops 23 = .ok (.bipush 100, 2) := by decide +kernel
theorem dX10_stops_25 : decode cX10_stops 25 = .ok (.irem, 1) := by decide +kernel
theorem dX10_stops_26 : decode cX10_stops 26 = .ok (.bipush 19, 2) := by decide +kernel
theorem dX10_stops_28 : decode cX10_stops 28 = .ok (.if_icmp .gt 12, 3) := by decide +kernel
theorem dX10_stops_31 : decode cX10_stops 31 = .ok (.iload_n 3, 1) := by decide +kernel
theorem dX10_stops_32 : decode cX10_stops 32 = .ok (.iconst 0, 1) := by decide +kernel
theorem dX10_stops_33 : decode cX10_stops 33 = .ok (.iconst 4, 1) := by decide +kernel
theorem dX10_stops_34 : decode cX10_stops 34 = .ok (.invokestatic 108, 3) := by decide +kernel
theorem dX10_stops_37 : decode cX10_stops 37 = .ok (.ifCond .ne 6, 3) := by decide +kernel
theorem dX10_stops_40 : decode cX10_stops 40 = .ok (.bipush (-7), 2) := by decide +kernel
theorem dX10_stops_42 : decode cX10_stops 42 = .ok (.ireturn, 1) := by decide +kernel
theorem dX10_stops_43 : decode cX10_stops 43 = .ok (.aload_n 0, 1) := by decide +kernel
theorem dX10_stops_44 : decode cX10_stops 44 = .ok (.iload_n 1, 1) := by decide +kernel
theorem dX10_stops_45 : decode cX10_stops 45 = .ok (.iload_n 2, 1) := by decide +kernel
theorem dX10_stops_46 : decode cX10_stops 46 = .ok (.bipush 100, 2) := by decide +kernel
theorem dX10_stops_48 : decode cX10_stops 48 = .ok (.idiv, 1) := by decide +kernel
theorem dX10_stops_49 : decode cX10_stops 49 = .ok (.iload_n 2, 1) := by decide +kernel
theorem dX10_stops_50 : decode cX10_stops 50 = .ok (.bipush 100, 2) := by decide +kernel
theorem dX10_stops_52 : decode cX10_stops 52 = .ok (.irem, 1) := by decide +kernel
theorem dX10_stops_53 : decode cX10_stops 53 = .ok (.invokevirtual 287, 3) := by decide +kernel
theorem dX10_stops_56 : decode cX10_stops 56 = .ok (.aload_n 0, 1) := by decide +kernel
theorem dX10_stops_57 : decode cX10_stops 57 = .ok (.iload_n 1, 1) := by decide +kernel
theorem dX10_stops_58 : decode cX10_stops 58 = .ok (.iload_n 3, 1) := by decide +kernel
theorem dX10_stops_59 : decode cX10_stops 59 = .ok (.invokevirtual 275, 3) := by decide +kernel
theorem dX10_stops_62 : decode cX10_stops 62 = .ok (.istore 4, 2) := by decide +kernel
theorem dX10_stops_64 : decode cX10_stops 64 = .ok (.aload_n 0, 1) := by decide +kernel
theorem dX10_stops_65 : decode cX10_stops 65 = .ok (.iconst (-1), 1) := by decide +kernel
theorem dX10_stops_66 : decode cX10_stops 66 = .ok (.putfield 79, 3) := by decide +kernel
theorem dX10_stops_69 : decode cX10_stops 69 = .ok (.iload 4, 2) := by decide +kernel
theorem dX10_stops_71 : decode cX10_stops 71 = .ok (.ireturn, 1) := by decide +kernel
theorem dX10_best_0 : decode cX10_best 0 = .ok (.aload_n 0, 1) := by decide +kernel
theorem dX10_best_1 : decode cX10_best 1 = .ok (.iload_n 1, 1) := by decide +kernel
theorem dX10_best_2 : decode cX10_best 2 = .ok (.invokevirtual 204, 3) := by decide +kernel
theorem dX10_best_5 : decode cX10_best 5 = .ok (.ifCond .ne 6, 3) := by decide +kernel
theorem dX10_best_8 : decode cX10_best 8 = .ok (.bipush (-5), 2) := by decide +kernel
theorem dX10_best_10 : decode cX10_best 10 = .ok (.ireturn, 1) := by decide +kernel
theorem dX10_best_11 : decode cX10_best 11 = .ok (.iload_n 2, 1) := by decide +kernel
theorem dX10_best_12 : decode cX10_best 12 = .ok (.iconst 0, 1) := by decide +kernel
theorem dX10_best_13 : decode cX10_best 13 = .ok (.iconst 1, 1) := by decide +kernel
theorem dX10_best_14 : decode cX10_best 14 = .ok (.invokestatic 108, 3) := by decide +kernel
theorem dX10_best_17 : decode cX10_best 17 = .ok (.ifCond .ne 6, 3) := by decide +kernel
theorem dX10_best_20 : decode cX10_best 20 = .ok (.bipush (-7), 2) := by decide +kernel
theorem dX10_best_22 : decode cX10_best 22 = .ok (.ireturn, 1) := by decide +kernel
theorem dX10_best_23 : decode cX10_best 23 = .ok (.iconst (-1), 1) := by decide +kernel
theorem dX10_best_24 : decode cX10_best 24 = .ok (.istore_n 3, 1) := by decide +kernel
theorem dX10_best_25 : decode cX10_best 25 = .ok (.aload_n 0, 1) := by decide +kernel
theorem dX10_best_26 : decode cX10_best 26 = .ok (.iload_n 1, 1) := by decide +kernel
theorem dX10_best_27 : decode cX10_best 27 = .ok (.iconst 1, 1) := by decide +kernel
theorem dX10_best_28 : decode cX10_best 28 = .ok (.invokevirtual 275, 3) := by decide +kernel
theorem dX10_best_31 : decode cX10_best 31 = .ok (.istore 4, 2) := by decide +kernel
theorem dX10_best_33 : decode cX10_best 33 = .ok (.iconst 0, 1) := by decide +kernel
theorem dX10_best_34 : decode cX10_best 34 = .ok (.istore 5, 2) := by decide +kernel
theorem dX10_best_36 : decode cX10_best 36 = .ok (.iload 5, 2) := by decide +kernel
theorem dX10_best_38 : decode cX10_best 38 = .ok (.bipush 80, 2) := by decide +kernel
theorem dX10_best_40 : decode cX10_best 40 = .ok (.if_icmp .ge 74, 3) := by decide +kernel
theorem dX10_best_43 : decode cX10_best 43 = .ok (.aload_n 0, 1) := by decide +kernel
theorem dX10_best_44 : decode cX10_best 44 = .ok (.iload_n 1, 1) := by decide +kernel
theorem dX10_best_45 : decode cX10_best 45 = .ok (.iload 5, 2) := by decide +kernel
theorem dX10_best_47 : decode cX10_best 47 = .ok (.bipush 20, 2) := by decide +kernel
theorem dX10_best_49 : decode cX10_best 49 = .ok (.idiv, 1) := by decide +kernel
theorem dX10_best_50 : decode cX10_best 50 = .ok (.iload 5, 2) := by decide +kernel
theorem dX10_best_52 : decode cX10_best 52 = .ok (.bipush 20, 2) := by decide +kernel
theorem dX10_best_54 : decode cX10_best 54 = .ok (.irem, 1) := by decide +kernel
theorem dX10_best_55 : decode cX10_best 55 = .ok (.invokevirtual 287, 3) := by decide +kernel
theorem dX10_best_58 : decode cX10_best 58 = .ok (.aload_n 0, 1) := by decide +kernel
theorem dX10_best_59 : decode cX10_best 59 = .ok (.iload_n 1, 1) := by decide +kernel
theorem dX10_best_60 : decode cX10_best 60 = .ok (.iconst 1, 1) := by decide +kernel
theorem dX10_best_61 : decode cX10_best 61 = .ok (.invokevirtual 275, 3) := by decide +kernel
theorem dX10_best_64 : decode cX10_best 64 = .ok (.istore 6, 2) := by decide +kernel
theorem dX10_best_66 : decode cX10_best 66 = .ok (.iload 6, 2) := by decide +kernel
theorem dX10_best_68 : decode cX10_best 68 = .ok (.iload 4, 2) := by decide +kernel
theorem dX10_best_70 : decode cX10_best 70 = .ok (.if_icmp .ge 20, 3) := by decide +kernel
theorem dX10_best_73 : decode cX10_best 73 = .ok (.bipush 100, 2) := by decide +kernel
theorem dX10_best_75 : decode cX10_best 75 = .ok (.iload 5, 2) := by decide +kernel
theorem dX10_best_77 : decode cX10_best 77 = .ok (.bipush 20, 2) := by decide +kernel
theorem dX10_best_79 : decode cX10_best 79 = .ok (.idiv, 1) := by decide +kernel
theorem dX10_best_80 : decode cX10_best 80 = .ok (.imul, 1) := by decide +kernel
theorem dX10_best_81 : decode cX10_best 81 = .ok (.iload 5, 2) := by decide +kernel
theorem dX10_best_83 : decode cX10_best 83 = .ok (.bipush 20, 2) := by decide +kernel
theorem dX10_best_85 : decode cX10_best 85 = .ok (.irem, 1) := by decide +kernel
theorem dX10_best_86 : decode cX10_best 86 = .ok (.iadd, 1) := by decide +kernel
theorem dX10_best_87 : decode cX10_best 87 = .ok (.goto 4, 3) := by decide +kernel
theorem dX10_best_90 : decode cX10_best 90 = .ok (.iload_n 3, 1) := by decide +kernel
theorem dX10_best_91 : decode cX10_best 91 = .ok (.istore_n 3, 1) := by decide +kernel
theorem dX10_best_92 : decode cX10_best 92 = .ok (.iload 6, 2) := by decide +kernel
theorem dX10_best_94 : decode cX10_best 94 = .ok (.iload 4, 2) := by decide +kernel
theorem dX10_best_96 : decode cX10_best 96 = .ok (.if_icmp .ge 8, 3) := by decide +kernel
theorem dX10_best_99 : decode cX10_best 99 = .ok (.iload 6, 2) := by decide +kernel
theorem dX10_best_101 : decode cX10_best 101 = .ok (.goto 5, 3) := by decide +kernel
theorem dX10_best_104 : decode cX10_best 104 = .ok (.iload 4, 2) := by decide +kernel
theorem dX10_best_106 : decode cX10_best 106 = .ok (.istore 4, 2) := by decide +kernel
theorem dX10_best_108 : decode cX10_best 108 = .ok (.iinc 5 1, 3) := by decide +kernel
theorem dX10_best_111 : decode cX10_best 111 = .ok (.goto (-75), 3) := by decide +kernel
theorem dX10_best_114 : decode cX10_best 114 = .ok (.aload_n 0, 1) := by decide +kernel
theorem dX10_best_115 : decode cX10_best 115 = .ok (.iconst (-1), 1) := by decide +kernel
theorem dX10_best_116 : decode cX10_best 116 = .ok (.putfield 79, 3) := by decide +kernel
theorem dX10_best_119 : decode cX10_best 119 = .ok (.iload_n 2, 1) := by decide +kernel
theorem dX10_best_120 : decode cX10_best 120 = .ok (.ifCond .ne 7, 3) := by decide +kernel
theorem dX10_best_123 : decode cX10_best 123 = .ok (.iload_n 3, 1) := by decide +kernel
theorem dX10_best_124 : decode cX10_best 124 = .ok (.goto 5, 3) := by decide +kernel
theorem dX10_best_127 : decode cX10_best 127 = .ok (.iload 4, 2) := by decide +kernel
theorem dX10_best_129 : decode cX10_best 129 = .ok (.ireturn, 1) := by decide +kernel
theorem dX10_latest_0 : decode cX10_latest 0 = .ok (.aload_n 0, 1) := by decide +kernel
theorem dX10_latest_1 : decode cX10_latest 1 = .ok (.iload_n 1, 1) := by decide +kernel
theorem dX10_latest_2 : decode cX10_latest 2 = .ok (.invokevirtual 204, 3) := by decide +kernel
theorem dX10_latest_5 : decode cX10_latest 5 = .ok (.ifCond .ne 6, 3) := by decide +kernel
theorem dX10_latest_8 : decode cX10_latest 8 = .ok (.bipush (-5), 2) := by decide +kernel
theorem dX10_latest_10 : decode cX10_latest 10 = .ok (.ireturn, 1) := by decide +kernel
theorem dX10_latest_11 : decode cX10_latest 11 = .ok (.iload_n 2, 1) := by decide +kernel
theorem dX10_latest_12 : decode cX10_latest 12 = .ok (.iconst 0, 1) := by decide +kernel
theorem dX10_latest_13 : decode cX10_latest 13 = .ok (.iconst 3, 1) := by decide +kernel
theorem dX10_latest_14 : decode cX10_latest 14 = .ok (.invokestatic 108, 3) := by decide +kernel
theorem dX10_latest_17 : decode cX10_latest 17 = .ok (.ifCond .ne 6, 3) := by decide +kernel
theorem dX10_latest_20 : decode cX10_latest 20 = .ok (.bipush (-7), 2) := by decide +kernel
theorem dX10_latest_22 : decode cX10_latest 22 = .ok (.ireturn, 1) := by decide +kernel
theorem dX10_latest_23 : decode cX10_latest 23 = .ok (.iconst (-1), 1) := by decide +kernel
theorem dX10_latest_24 : decode cX10_latest 24 = .ok (.istore_n 3, 1) := by decide +kernel
theorem dX10_latest_25 : decode cX10_latest 25 = .ok (.iconst 0, 1) := by decide +kernel
theorem dX10_latest_26 : decode cX10_latest 26 = .ok (.istore 4, 2) := by decide +kernel
theorem dX10_latest_28 : decode cX10_latest 28 = .ok (.iload 4, 2) := by decide +kernel
theorem dX10_latest_30 : decode cX10_latest 30 = .ok (.bipush 20, 2) := by decide +kernel
theorem dX10_latest_32 : decode cX10_latest 32 = .ok (.if_icmp .ge 38, 3) := by decide +kernel
theorem dX10_latest_35 : decode cX10_latest 35 = .ok (.aload_n 0, 1) := by decide +kernel
theorem dX10_latest_36 : decode cX10_latest 36 = .ok (.iload_n 1, 1) := by decide +kernel
theorem dX10_latest_37 : decode cX10_latest 37 = .ok (.iload_n 2, 1) := by decide +kernel
theorem dX10_latest_38 : decode cX10_latest 38 = .ok (.iload 4, 2) := by decide +kernel
theorem dX10_latest_40 : decode cX10_latest 40 = .ok (.invokevirtual 287, 3) := by decide +kernel
theorem dX10_latest_43 : decode cX10_latest 43 = .ok (.aload_n 0, 1) := by decide +kernel
theorem dX10_latest_44 : decode cX10_latest 44 = .ok (.bipush 40, 2) := by decide +kernel
theorem dX10_latest_46 : decode cX10_latest 46 = .ok (.invokevirtual 253, 3) := by decide +kernel
theorem dX10_latest_49 : decode cX10_latest 49 = .ok (.aload_n 0, 1) := by decide +kernel
theorem dX10_latest_50 : decode cX10_latest 50 = .ok (.iload_n 1, 1) := by decide +kernel
theorem dX10_latest_51 : decode cX10_latest 51 = .ok (.invokevirtual 250, 3) := by decide +kernel
theorem dX10_latest_54 : decode cX10_latest 54 = .ok (.ifCond .eq 7, 3) := by decide +kernel
theorem dX10_latest_57 : decode cX10_latest 57 = .ok (.iload_n 3, 1) := by decide +kernel
theorem dX10_latest_58 : decode cX10_latest 58 = .ok (.goto 5, 3) := by decide +kernel
theorem dX10_latest_61 : decode cX10_latest 61 = .ok (.iload 4, 2) := by decide +kernel
theorem dX10_latest_63 : decode cX10_latest 63 = .ok (.istore_n 3, 1) := by decide +kernel
theorem dX10_latest_64 : decode cX10_latest 64 = .ok (.iinc 4 1, 3) := by decide +kernel
theorem dX10_latest_67 : decode cX10_latest 67 = .ok (.goto (-39), 3) := by decide +kernel
theorem dX10_latest_70 : decode cX10_latest 70 = .ok (.aload_n 0, 1) := by decide +kernel
theorem dX10_latest_71 : decode cX10_latest 71 = .ok (.iconst (-1), 1) := by decide +kernel
theorem dX10_latest_72 : decode cX10_latest 72 = .ok (.putfield 79, 3) := by decide +kernel
theorem dX10_latest_75 : decode cX10_latest 75 = .ok (.iload_n 3, 1) := by decide +kernel
theorem dX10_latest_76 : decode cX10_latest 76 = .ok (.ireturn, 1) := by decide +kernel
theorem dX10_addsBy_0 : decode cX10_addsBy 0 = .ok (.aload_n 0, 1) := by decide +kernel
theorem dX10_addsBy_1 : decode cX10_addsBy 1 = .ok (.iload_n 1, 1) := by decide +kernel
theorem dX10_addsBy_2 : decode cX10_addsBy 2 = .ok (.iconst 4, 1) := by decide +kernel
theorem dX10_addsBy_3 : decode cX10_addsBy 3 = .ok (.invokevirtual 275, 3) := by decide +kernel
theorem dX10_addsBy_6 : decode cX10_addsBy 6 = .ok (.istore_n 3, 1) := by decide +kernel
theorem dX10_addsBy_7 : decode cX10_addsBy 7 = .ok (.aload_n 0, 1) := by decide +kernel
theorem dX10_addsBy_8 : decode cX10_addsBy 8 = .ok (.iload_n 2, 1) := by decide +kernel
theorem dX10_addsBy_9 : decode cX10_addsBy 9 = .ok (.putfield 83, 3) := by decide +kernel
theorem dX10_addsBy_12 : decode cX10_addsBy 12 = .ok (.aload_n 0, 1) := by decide +kernel
theorem dX10_addsBy_13 : decode cX10_addsBy 13 = .ok (.iload_n 1, 1) := by decide +kernel
theorem dX10_addsBy_14 : decode cX10_addsBy 14 = .ok (.putfield 86, 3) := by decide +kernel
theorem dX10_addsBy_17 : decode cX10_addsBy 17 = .ok (.aload_n 0, 1) := by decide +kernel
theorem dX10_addsBy_18 : decode cX10_addsBy 18 = .ok (.iload_n 1, 1) := by decide +kernel
theorem dX10_addsBy_19 : decode cX10_addsBy 19 = .ok (.iconst 4, 1) := by decide +kernel
theorem dX10_addsBy_20 : decode cX10_addsBy 20 = .ok (.invokevirtual 275, 3) := by decide +kernel
theorem dX10_addsBy_23 : decode cX10_addsBy 23 = .ok (.istore 4, 2) := by decide +kernel
theorem dX10_addsBy_25 : decode cX10_addsBy 25 = .ok (.aload_n 0, 1) := by decide +kernel
theorem dX10_addsBy_26 : decode cX10_addsBy 26 = .ok (.iconst (-1), 1) := by decide +kernel
theorem dX10_addsBy_27 : decode cX10_addsBy 27 = .ok (.putfield 83, 3) := by decide +kernel
theorem dX10_addsBy_30 : decode cX10_addsBy 30 = .ok (.iload_n 3, 1) := by decide +kernel
theorem dX10_addsBy_31 : decode cX10_addsBy 31 = .ok (.iload 4, 2) := by decide +kernel
theorem dX10_addsBy_33 : decode cX10_addsBy 33 = .ok (.isub, 1) := by decide +kernel
theorem dX10_addsBy_34 : decode cX10_addsBy 34 = .ok (.ireturn, 1) := by decide +kernel
theorem dX10_adds_0 : decode cX10_adds 0 = .ok (.aload_n 0, 1) := by decide +kernel
theorem dX10_adds_1 : decode cX10_adds 1 = .ok (.iload_n 1, 1) := by decide +kernel
theorem dX10_adds_2 : decode cX10_adds 2 = .ok (.invokevirtual 204, 3) := by decide +kernel
theorem dX10_adds_5 : decode cX10_adds 5 = .ok (.ifCond .eq 25, 3) := by decide +kernel
theorem dX10_adds_8 : decode cX10_adds 8 = .ok (.aload_n 0, 1) := by decide +kernel
theorem dX10_adds_9 : decode cX10_adds 9 = .ok (.iload_n 2, 1) := by decide +kernel
theorem dX10_adds_10 : decode cX10_adds 10 = .ok (.invokevirtual 204, 3) := by decide +kernel
theorem dX10_adds_13 : decode cX10_adds 13 = .ok (.ifCond .eq 17, 3) := by decide +kernel
theorem dX10_adds_16 : decode cX10_adds 16 = .ok (.iload_n 1, 1) := by decide +kernel
theorem dX10_adds_17 : decode cX10_adds 17 = .ok (.iload_n 2, 1) := by decide +kernel
theorem dX10_adds_18 : decode cX10_adds 18 = .ok (.if_icmp .eq 12, 3) := by decide +kernel
theorem dX10_adds_21 : decode cX10_adds 21 = .ok (.aload_n 0, 1) := by decide +kernel
theorem dX10_adds_22 : decode cX10_adds 22 = .ok (.iload_n 1, 1) := by decide +kernel
theorem dX10_adds_23 : decode cX10_adds 23 = .ok (.iload_n 2, 1) := by decide +kernel
theorem dX10_adds_24 : decode cX10_adds 24 = .ok (.invokevirtual 291, 3) := by decide +kernel
theorem dX10_adds_27 : decode cX10_adds 27 = .ok (.goto 6, 3) := by decide +kernel
theorem dX10_adds_30 : decode cX10_adds 30 = .ok (.ldc_w 294, 3) := by decide +kernel
theorem dX10_adds_33 : decode cX10_adds 33 = .ok (.ireturn, 1) := by decide +kernel
theorem dX10_turn_0 : decode cX10_turn 0 = .ok (.aload_n 0, 1) := by decide +kernel
theorem dX10_turn_1 : decode cX10_turn 1 = .ok (.iload_n 1, 1) := by decide +kernel
theorem dX10_turn_2 : decode cX10_turn 2 = .ok (.invokevirtual 204, 3) := by decide +kernel
theorem dX10_turn_5 : decode cX10_turn 5 = .ok (.ifCond .eq 12, 3) := by decide +kernel
theorem dX10_turn_8 : decode cX10_turn 8 = .ok (.iload_n 2, 1) := by decide +kernel
theorem dX10_turn_9 : decode cX10_turn 9 = .ok (.iconst 0, 1) := by decide +kernel
theorem dX10_turn_10 : decode cX10_turn 10 = .ok (.iconst 1, 1) := by decide +kernel
theorem dX10_turn_11 : decode cX10_turn 11 = .ok (.invokestatic 108, 3) := by decide +kernel
theorem dX10_turn_14 : decode cX10_turn 14 = .ok (.ifCond .ne 7, 3) := by decide +kernel
theorem dX10_turn_17 : decode cX10_turn 17 = .ok (.ldc_w 294, 3) := by decide +kernel
theorem dX10_turn_20 : decode cX10_turn 20 = .ok (.ireturn, 1) := by decide +kernel
theorem dX10_turn_21 : decode cX10_turn 21 = .ok (.iconst (-1), 1) := by decide +kernel
theorem dX10_turn_22 : decode cX10_turn 22 = .ok (.istore_n 3, 1) := by decide +kernel
theorem dX10_turn_23 : decode cX10_turn 23 = .ok (.iconst 0, 1) := by decide +kernel
theorem dX10_turn_24 : decode cX10_turn 24 = .ok (.istore 4, 2) := by decide +kernel
theorem dX10_turn_26 : decode cX10_turn 26 = .ok (.iconst 0, 1) := by decide +kernel
theorem dX10_turn_27 : decode cX10_turn 27 = .ok (.istore 5, 2) := by decide +kernel
theorem dX10_turn_29 : decode cX10_turn 29 = .ok (.iload 5, 2) := by decide +kernel
theorem dX10_turn_31 : decode cX10_turn 31 = .ok (.aload_n 0, 1) := by decide +kernel
theorem dX10_turn_32 : decode cX10_turn 32 = .ok (.getfield 105, 3) := by decide +kernel
theorem dX10_turn_35 : decode cX10_turn 35 = .ok (.if_icmp .ge 69, 3) := by decide +kernel
theorem dX10_turn_38 : decode cX10_turn 38 = .ok (.iload 5, 2) := by decide +kernel
theorem dX10_turn_40 : decode cX10_turn 40 = .ok (.iload_n 1, 1) := by decide +kernel
theorem dX10_turn_41 : decode cX10_turn 41 = .ok (.if_icmp .eq 57, 3) := by decide +kernel
theorem dX10_turn_44 : decode cX10_turn 44 = .ok (.aload_n 0, 1) := by decide +kernel
theorem dX10_turn_45 : decode cX10_turn 45 = .ok (.iload_n 1, 1) := by decide +kernel
theorem dX10_turn_46 : decode cX10_turn 46 = .ok (.iload 5, 2) := by decide +kernel
theorem dX10_turn_48 : decode cX10_turn 48 = .ok (.invokevirtual 291, 3) := by decide +kernel
theorem dX10_turn_51 : decode cX10_turn 51 = .ok (.istore 6, 2) := by decide +kernel
theorem dX10_turn_53 : decode cX10_turn 53 = .ok (.iload_n 3, 1) := by decide +kernel
theorem dX10_turn_54 : decode cX10_turn 54 = .ok (.iconst (-1), 1) := by decide +kernel
theorem dX10_turn_55 : decode cX10_turn 55 = .ok (.if_icmp .eq 10, 3) := by decide +kernel
theorem dX10_turn_58 : decode cX10_turn 58 = .ok (.iload 6, 2) := by decide +kernel
theorem dX10_turn_60 : decode cX10_turn 60 = .ok (.iload 4, 2) := by decide +kernel
theorem dX10_turn_62 : decode cX10_turn 62 = .ok (.if_icmp .le 7, 3) := by decide +kernel
theorem dX10_turn_65 : decode cX10_turn 65 = .ok (.iconst 1, 1) := by decide +kernel
theorem dX10_turn_66 : decode cX10_turn 66 = .ok (.goto 4, 3) := by decide +kernel
theorem dX10_turn_69 : decode cX10_turn 69 = .ok (.iconst 0, 1) := by decide +kernel
theorem dX10_turn_70 : decode cX10_turn 70 = .ok (.istore 7, 2) := by decide +kernel
theorem dX10_turn_72 : decode cX10_turn 72 = .ok (.iload 7, 2) := by decide +kernel
theorem dX10_turn_74 : decode cX10_turn 74 = .ok (.ifCond .eq 8, 3) := by decide +kernel
theorem dX10_turn_77 : decode cX10_turn 77 = .ok (.iload 5, 2) := by decide +kernel
theorem dX10_turn_79 : decode cX10_turn 79 = .ok (.goto 4, 3) := by decide +kernel
theorem dX10_turn_82 : decode cX10_turn 82 = .ok (.iload_n 3, 1) := by decide +kernel
theorem dX10_turn_83 : decode cX10_turn 83 = .ok (.istore_n 3, 1) := by decide +kernel
theorem dX10_turn_84 : decode cX10_turn 84 = .ok (.iload 7, 2) := by decide +kernel
theorem dX10_turn_86 : decode cX10_turn 86 = .ok (.ifCond .eq 8, 3) := by decide +kernel
theorem dX10_turn_89 : decode cX10_turn 89 = .ok (.iload 6, 2) := by decide +kernel
theorem dX10_turn_91 : decode cX10_turn 91 = .ok (.goto 5, 3) := by decide +kernel
theorem dX10_turn_94 : decode cX10_turn 94 = .ok (.iload 4, 2) := by decide +kernel
theorem dX10_turn_96 : decode cX10_turn 96 = .ok (.istore 4, 2) := by decide +kernel
theorem dX10_turn_98 : decode cX10_turn 98 = .ok (.iinc 5 1, 3) := by decide +kernel
theorem dX10_turn_101 : decode cX10_turn 101 = .ok (.goto (-72), 3) := by decide +kernel
theorem dX10_turn_104 : decode cX10_turn 104 = .ok (.iload_n 2, 1) := by decide +kernel
theorem dX10_turn_105 : decode cX10_turn 105 = .ok (.ifCond .ne 7, 3) := by decide +kernel
theorem dX10_turn_108 : decode cX10_turn 108 = .ok (.iload_n 3, 1) := by decide +kernel
theorem dX10_turn_109 : decode cX10_turn 109 = .ok (.goto 5, 3) := by decide +kernel
theorem dX10_turn_112 : decode cX10_turn 112 = .ok (.iload 4, 2) := by decide +kernel
theorem dX10_turn_114 : decode cX10_turn 114 = .ok (.ireturn, 1) := by decide +kernel
theorem dX10_feltByOthers_0 : decode cX10_feltByOthers 0 = .ok (.aload_n 0, 1) := by decide +kernel
theorem dX10_feltByOthers_1 : decode cX10_feltByOthers 1 = .ok (.bipush 40, 2) := by decide +kernel
theorem dX10_feltByOthers_3 : decode cX10_feltByOthers 3 = .ok (.invokevirtual 253, 3) := by decide +kernel
theorem dX10_feltByOthers_6 : decode cX10_feltByOthers 6 = .ok (.iconst 0, 1) := by decide +kernel
theorem dX10_feltByOthers_7 : decode cX10_feltByOthers 7 = .ok (.istore_n 2, 1) := by decide +kernel
theorem dX10_feltByOthers_8 : decode cX10_feltByOthers 8 = .ok (.iconst 0, 1) := by decide +kernel
theorem dX10_feltByOthers_9 : decode cX10_feltByOthers 9 = .ok (.istore_n 3, 1) := by decide +kernel
theorem dX10_feltByOthers_10 : decode cX10_feltByOthers 10 = .ok (.iload_n 3, 1) := by decide +kernel
theorem dX10_feltByOthers_11 : decode cX10_feltByOthers 11 = .ok (.aload_n 0, 1) := by decide +kernel
theorem dX10_feltByOthers_12 : decode cX10_feltByOthers 12 = .ok (.getfield 105, 3) := by decide +kernel
theorem dX10_feltByOthers_15 : decode cX10_feltByOthers 15 = .ok (.if_icmp .ge 26, 3) := by decide +kernel
theorem dX10_feltByOthers_18 : decode cX10_feltByOthers 18 = .ok (.iload_n 2, 1) := by decide +kernel
theorem dX10_feltByOthers_19 : decode cX10_feltByOthers 19 = .ok (.iload_n 3, 1) := by decide +kernel
theorem dX10_feltByOthers_20 : decode cX10_feltByOthers 20 = .ok (.iload_n 1, 1) := by decide +kernel
theorem dX10_feltByOthers_21 : decode cX10_feltByOthers 21 = .ok (.if_icmp .ne 7, 3) := by decide +kernel
theorem dX10_feltByOthers_24 : decode cX10_feltByOthers 24 = .ok (.iconst 0, 1) := by decide +kernel
theorem dX10_feltByOthers_25 : decode cX10_feltByOthers 25 = .ok (.goto 8, 3) := by decide +kernel
theorem dX10_feltByOthers_28 : decode cX10_feltByOthers 28 = .ok (.aload_n 0, 1) := by decide +kernel
theorem dX10_feltByOthers_29 : decode cX10_feltByOthers 29 = .ok (.iload_n 3, 1) := by decide +kernel
theorem dX10_feltByOthers_30 : decode cX10_feltByOthers 30 = .ok (.invokevirtual 272, 3) := by decide +kernel
theorem dX10_feltByOthers_33 : decode cX10_feltByOthers 33 = .ok (.iadd, 1) := by decide +kernel
theorem dX10_feltByOthers_34 : decode cX10_feltByOthers 34 = .ok (.istore_n 2, 1) := by decide +kernel
theorem dX10_feltByOthers_35 : decode cX10_feltByOthers 35 = .ok (.iinc 3 1, 3) := by decide +kernel
theorem dX10_feltByOthers_38 : decode cX10_feltByOthers 38 = .ok (.goto (-28), 3) := by decide +kernel
theorem dX10_feltByOthers_41 : decode cX10_feltByOthers 41 = .ok (.iload_n 2, 1) := by decide +kernel
theorem dX10_feltByOthers_42 : decode cX10_feltByOthers 42 = .ok (.ireturn, 1) := by decide +kernel
theorem dX10_stares_0 : decode cX10_stares 0 = .ok (.aload_n 0, 1) := by decide +kernel
theorem dX10_stares_1 : decode cX10_stares 1 = .ok (.iload_n 1, 1) := by decide +kernel
theorem dX10_stares_2 : decode cX10_stares 2 = .ok (.invokevirtual 204, 3) := by decide +kernel
theorem dX10_stares_5 : decode cX10_stares 5 = .ok (.ifCond .ne 7, 3) := by decide +kernel
theorem dX10_stares_8 : decode cX10_stares 8 = .ok (.ldc_w 294, 3) := by decide +kernel
theorem dX10_stares_11 : decode cX10_stares 11 = .ok (.ireturn, 1) := by decide +kernel
theorem dX10_stares_12 : decode cX10_stares 12 = .ok (.aload_n 0, 1) := by decide +kernel
theorem dX10_stares_13 : decode cX10_stares 13 = .ok (.iload_n 1, 1) := by decide +kernel
theorem dX10_stares_14 : decode cX10_stares 14 = .ok (.invokevirtual 295, 3) := by decide +kernel
theorem dX10_stares_17 : decode cX10_stares 17 = .ok (.istore_n 2, 1) := by decide +kernel
theorem dX10_stares_18 : decode cX10_stares 18 = .ok (.aload_n 0, 1) := by decide +kernel
theorem dX10_stares_19 : decode cX10_stares 19 = .ok (.iload_n 1, 1) := by decide +kernel
theorem dX10_stares_20 : decode cX10_stares 20 = .ok (.putfield 83, 3) := by decide +kernel
theorem dX10_stares_23 : decode cX10_stares 23 = .ok (.aload_n 0, 1) := by decide +kernel
theorem dX10_stares_24 : decode cX10_stares 24 = .ok (.bipush (-2), 2) := by decide +kernel
theorem dX10_stares_26 : decode cX10_stares 26 = .ok (.putfield 86, 3) := by decide +kernel
theorem dX10_stares_29 : decode cX10_stares 29 = .ok (.aload_n 0, 1) := by decide +kernel
theorem dX10_stares_30 : decode cX10_stares 30 = .ok (.iload_n 1, 1) := by decide +kernel
theorem dX10_stares_31 : decode cX10_stares 31 = .ok (.invokevirtual 295, 3) := by decide +kernel
theorem dX10_stares_34 : decode cX10_stares 34 = .ok (.istore_n 3, 1) := by decide +kernel
theorem dX10_stares_35 : decode cX10_stares 35 = .ok (.aload_n 0, 1) := by decide +kernel
theorem dX10_stares_36 : decode cX10_stares 36 = .ok (.iconst (-1), 1) := by decide +kernel
theorem dX10_stares_37 : decode cX10_stares 37 = .ok (.putfield 83, 3) := by decide +kernel
theorem dX10_stares_40 : decode cX10_stares 40 = .ok (.iload_n 2, 1) := by decide +kernel
theorem dX10_stares_41 : decode cX10_stares 41 = .ok (.iload_n 3, 1) := by decide +kernel
theorem dX10_stares_42 : decode cX10_stares 42 = .ok (.isub, 1) := by decide +kernel
theorem dX10_stares_43 : decode cX10_stares 43 = .ok (.ireturn, 1) := by decide +kernel
theorem dX10_keepsSeats_0 : decode cX10_keepsSeats 0 = .ok (.iconst 0, 1) := by decide +kernel
theorem dX10_keepsSeats_1 : decode cX10_keepsSeats 1 = .ok (.istore_n 1, 1) := by decide +kernel
theorem dX10_keepsSeats_2 : decode cX10_keepsSeats 2 = .ok (.iload_n 1, 1) := by decide +kernel
theorem dX10_keepsSeats_3 : decode cX10_keepsSeats 3 = .ok (.iconst 5, 1) := by decide +kernel
theorem dX10_keepsSeats_4 : decode cX10_keepsSeats 4 = .ok (.if_icmp .ge 21, 3) := by decide +kernel
theorem dX10_keepsSeats_7 : decode cX10_keepsSeats 7 = .ok (.aload_n 0, 1) := by decide +kernel
theorem dX10_keepsSeats_8 : decode cX10_keepsSeats 8 = .ok (.getfield 95, 3) := by decide +kernel
theorem dX10_keepsSeats_11 : decode cX10_keepsSeats 11 = .ok (.iload_n 1, 1) := by decide +kernel
theorem dX10_keepsSeats_12 : decode cX10_keepsSeats 12 = .ok (.aload_n 0, 1) := by decide +kernel
theorem dX10_keepsSeats_13 : decode cX10_keepsSeats 13 = .ok (.getfield 22, 3) := by decide +kernel
theorem dX10_keepsSeats_16 : decode cX10_keepsSeats 16 = .ok (.iload_n 1, 1) := by decide +kernel
theorem dX10_keepsSeats_17 : decode cX10_keepsSeats 17 = .ok (.iaload, 1) := by decide +kernel
theorem dX10_keepsSeats_18 : decode cX10_keepsSeats 18 = .ok (.iastore, 1) := by decide +kernel
theorem dX10_keepsSeats_19 : decode cX10_keepsSeats 19 = .ok (.iinc 1 1, 3) := by decide +kernel
theorem dX10_keepsSeats_22 : decode cX10_keepsSeats 22 = .ok (.goto (-20), 3) := by decide +kernel
theorem dX10_keepsSeats_25 : decode cX10_keepsSeats 25 = .ok (.return_, 1) := by decide +kernel
theorem dX10_laysSeats_0 : decode cX10_laysSeats 0 = .ok (.iconst 0, 1) := by decide +kernel
theorem dX10_laysSeats_1 : decode cX10_laysSeats 1 = .ok (.istore_n 1, 1) := by decide +kernel
theorem dX10_laysSeats_2 : decode cX10_laysSeats 2 = .ok (.iload_n 1, 1) := by decide +kernel
theorem dX10_laysSeats_3 : decode cX10_laysSeats 3 = .ok (.iconst 5, 1) := by decide +kernel
theorem dX10_laysSeats_4 : decode cX10_laysSeats 4 = .ok (.if_icmp .ge 21, 3) := by decide +kernel
theorem dX10_laysSeats_7 : decode cX10_laysSeats 7 = .ok (.aload_n 0, 1) := by decide +kernel
theorem dX10_laysSeats_8 : decode cX10_laysSeats 8 = .ok (.getfield 22, 3) := by decide +kernel
theorem dX10_laysSeats_11 : decode cX10_laysSeats 11 = .ok (.iload_n 1, 1) := by decide +kernel
theorem dX10_laysSeats_12 : decode cX10_laysSeats 12 = .ok (.aload_n 0, 1) := by decide +kernel
theorem dX10_laysSeats_13 : decode cX10_laysSeats 13 = .ok (.getfield 95, 3) := by decide +kernel
theorem dX10_laysSeats_16 : decode cX10_laysSeats 16 = .ok (.iload_n 1, 1) := by decide +kernel
theorem dX10_laysSeats_17 : decode cX10_laysSeats 17 = .ok (.iaload, 1) := by decide +kernel
theorem dX10_laysSeats_18 : decode cX10_laysSeats 18 = .ok (.iastore, 1) := by decide +kernel
theorem dX10_laysSeats_19 : decode cX10_laysSeats 19 = .ok (.iinc 1 1, 3) := by decide +kernel
theorem dX10_laysSeats_22 : decode cX10_laysSeats 22 = .ok (.goto (-20), 3) := by decide +kernel
theorem dX10_laysSeats_25 : decode cX10_laysSeats 25 = .ok (.return_, 1) := by decide +kernel
theorem dX10_redOfAll_0 : decode cX10_redOfAll 0 = .ok (.aload_n 0, 1) := by decide +kernel
theorem dX10_redOfAll_1 : decode cX10_redOfAll 1 = .ok (.bipush 40, 2) := by decide +kernel
theorem dX10_redOfAll_3 : decode cX10_redOfAll 3 = .ok (.invokevirtual 253, 3) := by decide +kernel
theorem dX10_redOfAll_6 : decode cX10_redOfAll 6 = .ok (.iconst 0, 1) := by decide +kernel
theorem dX10_redOfAll_7 : decode cX10_redOfAll 7 = .ok (.istore_n 1, 1) := by decide +kernel
theorem dX10_redOfAll_8 : decode cX10_redOfAll 8 = .ok (.iconst 0, 1) := by decide +kernel
theorem dX10_redOfAll_9 : decode cX10_redOfAll 9 = .ok (.istore_n 2, 1) := by decide +kernel
theorem dX10_redOfAll_10 : decode cX10_redOfAll 10 = .ok (.iload_n 2, 1) := by decide +kernel
theorem dX10_redOfAll_11 : decode cX10_redOfAll 11 = .ok (.aload_n 0, 1) := by decide +kernel
theorem dX10_redOfAll_12 : decode cX10_redOfAll 12 = .ok (.getfield 105, 3) := by decide +kernel
theorem dX10_redOfAll_15 : decode cX10_redOfAll 15 = .ok (.if_icmp .ge 17, 3) := by decide +kernel
theorem dX10_redOfAll_18 : decode cX10_redOfAll 18 = .ok (.iload_n 1, 1) := by decide +kernel
theorem dX10_redOfAll_19 : decode cX10_redOfAll 19 = .ok (.aload_n 0, 1) := by decide +kernel
theorem dX10_redOfAll_20 : decode cX10_redOfAll 20 = .ok (.iload_n 2, 1) := by decide +kernel
theorem dX10_redOfAll_21 : decode cX10_redOfAll 21 = .ok (.invokevirtual 263, 3) := by decide +kernel
theorem dX10_redOfAll_24 : decode cX10_redOfAll 24 = .ok (.iadd, 1) := by decide +kernel
theorem dX10_redOfAll_25 : decode cX10_redOfAll 25 = .ok (.istore_n 1, 1) := by decide +kernel
theorem dX10_redOfAll_26 : decode cX10_redOfAll 26 = .ok (.iinc 2 1, 3) := by decide +kernel
theorem dX10_redOfAll_29 : decode cX10_redOfAll 29 = .ok (.goto (-19), 3) := by decide +kernel
theorem dX10_redOfAll_32 : decode cX10_redOfAll 32 = .ok (.iload_n 1, 1) := by decide +kernel
theorem dX10_redOfAll_33 : decode cX10_redOfAll 33 = .ok (.ireturn, 1) := by decide +kernel
theorem dX10_where_0 : decode cX10_where 0 = .ok (.aload_n 0, 1) := by decide +kernel
theorem dX10_where_1 : decode cX10_where 1 = .ok (.iload_n 1, 1) := by decide +kernel
theorem dX10_where_2 : decode cX10_where 2 = .ok (.invokevirtual 204, 3) := by decide +kernel
theorem dX10_where_5 : decode cX10_where 5 = .ok (.ifCond .ne 6, 3) := by decide +kernel
theorem dX10_where_8 : decode cX10_where 8 = .ok (.bipush (-5), 2) := by decide +kernel
theorem dX10_where_10 : decode cX10_where 10 = .ok (.ireturn, 1) := by decide +kernel
theorem dX10_where_11 : decode cX10_where 11 = .ok (.iload_n 2, 1) := by decide +kernel
theorem dX10_where_12 : decode cX10_where 12 = .ok (.iconst 0, 1) := by decide +kernel
theorem dX10_where_13 : decode cX10_where 13 = .ok (.iconst 1, 1) := by decide +kernel
theorem dX10_where_14 : decode cX10_where 14 = .ok (.invokestatic 108, 3) := by decide +kernel
theorem dX10_where_17 : decode cX10_where 17 = .ok (.ifCond .ne 6, 3) := by decide +kernel
theorem dX10_where_20 : decode cX10_where 20 = .ok (.bipush (-7), 2) := by decide +kernel
theorem dX10_where_22 : decode cX10_where 22 = .ok (.ireturn, 1) := by decide +kernel
theorem dX10_where_23 : decode cX10_where 23 = .ok (.iconst (-1), 1) := by decide +kernel
theorem dX10_where_24 : decode cX10_where 24 = .ok (.istore_n 3, 1) := by decide +kernel
theorem dX10_where_25 : decode cX10_where 25 = .ok (.iconst 0, 1) := by decide +kernel
theorem dX10_where_26 : decode cX10_where 26 = .ok (.istore 4, 2) := by decide +kernel
theorem dX10_where_28 : decode cX10_where 28 = .ok (.aload_n 0, 1) := by decide +kernel
theorem dX10_where_29 : decode cX10_where 29 = .ok (.invokevirtual 298, 3) := by decide +kernel
theorem dX10_where_32 : decode cX10_where 32 = .ok (.iconst 0, 1) := by decide +kernel
theorem dX10_where_33 : decode cX10_where 33 = .ok (.istore 5, 2) := by decide +kernel
theorem dX10_where_35 : decode cX10_where 35 = .ok (.iload 5, 2) := by decide +kernel
theorem dX10_where_37 : decode cX10_where 37 = .ok (.bipush 8, 2) := by decide +kernel
theorem dX10_where_39 : decode cX10_where 39 = .ok (.if_icmp .ge 74, 3) := by decide +kernel
theorem dX10_where_42 : decode cX10_where 42 = .ok (.aload_n 0, 1) := by decide +kernel
theorem dX10_where_43 : decode cX10_where 43 = .ok (.iload_n 1, 1) := by decide +kernel
theorem dX10_where_44 : decode cX10_where 44 = .ok (.iload 5, 2) := by decide +kernel
theorem dX10_where_46 : decode cX10_where 46 = .ok (.invokevirtual 207, 3) := by decide +kernel
theorem dX10_where_49 : decode cX10_where 49 = .ok (.pop, 1) := by decide +kernel
theorem dX10_where_50 : decode cX10_where 50 = .ok (.aload_n 0, 1) := by decide +kernel
theorem dX10_where_51 : decode cX10_where 51 = .ok (.iload_n 1, 1) := by decide +kernel
theorem dX10_where_52 : decode cX10_where 52 = .ok (.iconst 1, 1) := by decide +kernel
theorem dX10_where_53 : decode cX10_where 53 = .ok (.invokevirtual 275, 3) := by decide +kernel
theorem dX10_where_56 : decode cX10_where 56 = .ok (.istore 6, 2) := by decide +kernel
theorem dX10_where_58 : decode cX10_where 58 = .ok (.aload_n 0, 1) := by decide +kernel
theorem dX10_where_59 : decode cX10_where 59 = .ok (.invokevirtual 301, 3) := by decide +kernel
theorem dX10_where_62 : decode cX10_where 62 = .ok (.iload_n 3, 1) := by decide +kernel
theorem dX10_where_63 : decode cX10_where 63 = .ok (.iconst (-1), 1) := by decide +kernel
theorem dX10_where_64 : decode cX10_where 64 = .ok (.if_icmp .eq 10, 3) := by decide +kernel
theorem dX10_where_67 : decode cX10_where 67 = .ok (.iload 6, 2) := by decide +kernel
theorem dX10_where_69 : decode cX10_where 69 = .ok (.iload 4, 2) := by decide +kernel
theorem dX10_where_71 : decode cX10_where 71 = .ok (.if_icmp .ge 7, 3) := by decide +kernel
theorem dX10_where_74 : decode cX10_where 74 = .ok (.iconst 1, 1) := by decide +kernel
theorem dX10_where_75 : decode cX10_where 75 = .ok (.goto 4, 3) := by decide +kernel
theorem dX10_where_78 : decode cX10_where 78 = .ok (.iconst 0, 1) := by decide +kernel
theorem dX10_where_79 : decode cX10_where 79 = .ok (.istore 7, 2) := by decide +kernel
theorem dX10_where_81 : decode cX10_where 81 = .ok (.iload 7, 2) := by decide +kernel
theorem dX10_where_83 : decode cX10_where 83 = .ok (.ifCond .eq 8, 3) := by decide +kernel
theorem dX10_where_86 : decode cX10_where 86 = .ok (.iload 5, 2) := by decide +kernel
theorem dX10_where_88 : decode cX10_where 88 = .ok (.goto 4, 3) := by decide +kernel
theorem dX10_where_91 : decode cX10_where 91 = .ok (.iload_n 3, 1) := by decide +kernel
theorem dX10_where_92 : decode cX10_where 92 = .ok (.istore_n 3, 1) := by decide +kernel
theorem dX10_where_93 : decode cX10_where 93 = .ok (.iload 7, 2) := by decide +kernel
theorem dX10_where_95 : decode cX10_where 95 = .ok (.ifCond .eq 8, 3) := by decide +kernel
theorem dX10_where_98 : decode cX10_where 98 = .ok (.iload 6, 2) := by decide +kernel
theorem dX10_where_100 : decode cX10_where 100 = .ok (.goto 5, 3) := by decide +kernel
theorem dX10_where_103 : decode cX10_where 103 = .ok (.iload 4, 2) := by decide +kernel
theorem dX10_where_105 : decode cX10_where 105 = .ok (.istore 4, 2) := by decide +kernel
theorem dX10_where_107 : decode cX10_where 107 = .ok (.iinc 5 1, 3) := by decide +kernel
theorem dX10_where_110 : decode cX10_where 110 = .ok (.goto (-75), 3) := by decide +kernel
theorem dX10_where_113 : decode cX10_where 113 = .ok (.iload_n 2, 1) := by decide +kernel
theorem dX10_where_114 : decode cX10_where 114 = .ok (.ifCond .ne 7, 3) := by decide +kernel
theorem dX10_where_117 : decode cX10_where 117 = .ok (.iload_n 3, 1) := by decide +kernel
theorem dX10_where_118 : decode cX10_where 118 = .ok (.goto 5, 3) := by decide +kernel
theorem dX10_where_121 : decode cX10_where 121 = .ok (.iload 4, 2) := by decide +kernel
theorem dX10_where_123 : decode cX10_where 123 = .ok (.ireturn, 1) := by decide +kernel
theorem dX10_change_0 : decode cX10_change 0 = .ok (.iload_n 1, 1) := by decide +kernel
theorem dX10_change_1 : decode cX10_change 1 = .ok (.iconst 0, 1) := by decide +kernel
theorem dX10_change_2 : decode cX10_change 2 = .ok (.iconst 1, 1) := by decide +kernel
theorem dX10_change_3 : decode cX10_change 3 = .ok (.invokestatic 108, 3) := by decide +kernel
theorem dX10_change_6 : decode cX10_change 6 = .ok (.ifCond .ne 6, 3) := by decide +kernel
theorem dX10_change_9 : decode cX10_change 9 = .ok (.bipush (-2), 2) := by decide +kernel
theorem dX10_change_11 : decode cX10_change 11 = .ok (.ireturn, 1) := by decide +kernel
theorem dX10_change_12 : decode cX10_change 12 = .ok (.iconst (-1), 1) := by decide +kernel
theorem dX10_change_13 : decode cX10_change 13 = .ok (.istore_n 2, 1) := by decide +kernel
theorem dX10_change_14 : decode cX10_change 14 = .ok (.aload_n 0, 1) := by decide +kernel
theorem dX10_change_15 : decode cX10_change 15 = .ok (.invokevirtual 304, 3) := by decide +kernel
theorem dX10_change_18 : decode cX10_change 18 = .ok (.istore_n 3, 1) := by decide +kernel
theorem dX10_change_19 : decode cX10_change 19 = .ok (.aload_n 0, 1) := by decide +kernel
theorem dX10_change_20 : decode cX10_change 20 = .ok (.invokevirtual 298, 3) := by decide +kernel
theorem dX10_change_23 : decode cX10_change 23 = .ok (.iconst 0, 1) := by decide +kernel
theorem dX10_change_24 : decode cX10_change 24 = .ok (.istore 4, 2) := by decide +kernel
theorem dX10_change_26 : decode cX10_change 26 = .ok (.iload 4, 2) := by decide +kernel
theorem dX10_change_28 : decode cX10_change 28 = .ok (.aload_n 0, 1) := by decide +kernel
theorem dX10_change_29 : decode cX10_change 29 = .ok (.getfield 105, 3) := by decide +kernel
theorem dX10_change_32 : decode cX10_change 32 = .ok (.if_icmp .ge 86, 3) := by decide +kernel
theorem dX10_change_35 : decode cX10_change 35 = .ok (.iload 4, 2) := by decide +kernel
theorem dX10_change_37 : decode cX10_change 37 = .ok (.iconst 1, 1) := by decide +kernel
theorem dX10_change_38 : decode cX10_change 38 = .ok (.iadd, 1) := by decide +kernel
theorem dX10_change_39 : decode cX10_change 39 = .ok (.istore 5, 2) := by decide +kernel
theorem dX10_change_41 : decode cX10_change 41 = .ok (.iload 5, 2) := by decide +kernel
theorem dX10_change_43 : decode cX10_change 43 = .ok (.aload_n 0, 1) := by decide +kernel
theorem dX10_change_44 : decode cX10_change 44 = .ok (.getfield 105, 3) := by decide +kernel
theorem dX10_change_47 : decode cX10_change 47 = .ok (.if_icmp .ge 65, 3) := by decide +kernel
theorem dX10_change_50 : decode cX10_change 50 = .ok (.aload_n 0, 1) := by decide +kernel
theorem dX10_change_51 : decode cX10_change 51 = .ok (.iload 4, 2) := by decide +kernel
theorem dX10_change_53 : decode cX10_change 53 = .ok (.aload_n 0, 1) := by decide +kernel
theorem dX10_change_54 : decode cX10_change 54 = .ok (.getfield 22, 3) := by decide +kernel
theorem dX10_change_57 : decode cX10_change 57 = .ok (.iload 5, 2) := by decide +kernel
theorem dX10_change_59 : decode cX10_change 59 = .ok (.iaload, 1) := by decide +kernel
theorem dX10_change_60 : decode cX10_change 60 = .ok (.invokevirtual 207, 3) := by decide +kernel
theorem dX10_change_63 : decode cX10_change 63 = .ok (.pop, 1) := by decide +kernel
theorem dX10_change_64 : decode cX10_change 64 = .ok (.aload_n 0, 1) := by decide +kernel
theorem dX10_change_65 : decode cX10_change 65 = .ok (.invokevirtual 304, 3) := by decide +kernel
theorem dX10_change_68 : decode cX10_change 68 = .ok (.istore 6, 2) := by decide +kernel
theorem dX10_change_70 : decode cX10_change 70 = .ok (.aload_n 0, 1) := by decide +kernel
theorem dX10_change_71 : decode cX10_change 71 = .ok (.invokevirtual 301, 3) := by decide +kernel
theorem dX10_change_74 : decode cX10_change 74 = .ok (.iload 6, 2) := by decide +kernel
theorem dX10_change_76 : decode cX10_change 76 = .ok (.iload_n 3, 1) := by decide +kernel
theorem dX10_change_77 : decode cX10_change 77 = .ok (.if_icmp .ge 14, 3) := by decide +kernel
theorem dX10_change_80 : decode cX10_change 80 = .ok (.bipush 10, 2) := by decide +kernel
theorem dX10_change_82 : decode cX10_change 82 = .ok (.iload 4, 2) := by decide +kernel
theorem dX10_change_84 : decode cX10_change 84 = .ok (.imul, 1) := by decide +kernel
theorem dX10_change_85 : decode cX10_change 85 = .ok (.iload 5, 2) := by decide +kernel
theorem dX10_change_87 : decode cX10_change 87 = .ok (.iadd, 1) := by decide +kernel
theorem dX10_change_88 : decode cX10_change 88 = .ok (.goto 4, 3) := by decide +kernel
theorem dX10_change_91 : decode cX10_change 91 = .ok (.iload_n 2, 1) := by decide +kernel
theorem dX10_change_92 : decode cX10_change 92 = .ok (.istore_n 2, 1) := by decide +kernel
theorem dX10_change_93 : decode cX10_change 93 = .ok (.iload 6, 2) := by decide +kernel
theorem dX10_change_95 : decode cX10_change 95 = .ok (.iload_n 3, 1) := by decide +kernel
theorem dX10_change_96 : decode cX10_change 96 = .ok (.if_icmp .ge 8, 3) := by decide +kernel
theorem dX10_change_99 : decode cX10_change 99 = .ok (.iload 6, 2) := by decide +kernel
theorem dX10_change_101 : decode cX10_change 101 = .ok (.goto 4, 3) := by decide +kernel
theorem dX10_change_104 : decode cX10_change 104 = .ok (.iload_n 3, 1) := by decide +kernel
theorem dX10_change_105 : decode cX10_change 105 = .ok (.istore_n 3, 1) := by decide +kernel
theorem dX10_change_106 : decode cX10_change 106 = .ok (.iinc 5 1, 3) := by decide +kernel
theorem dX10_change_109 : decode cX10_change 109 = .ok (.goto (-68), 3) := by decide +kernel
theorem dX10_change_112 : decode cX10_change 112 = .ok (.iinc 4 1, 3) := by decide +kernel
theorem dX10_change_115 : decode cX10_change 115 = .ok (.goto (-89), 3) := by decide +kernel
theorem dX10_change_118 : decode cX10_change 118 = .ok (.iload_n 1, 1) := by decide +kernel
theorem dX10_change_119 : decode cX10_change 119 = .ok (.ifCond .ne 7, 3) := by decide +kernel
theorem dX10_change_122 : decode cX10_change 122 = .ok (.iload_n 2, 1) := by decide +kernel
theorem dX10_change_123 : decode cX10_change 123 = .ok (.goto 4, 3) := by decide +kernel
theorem dX10_change_126 : decode cX10_change 126 = .ok (.iload_n 3, 1) := by decide +kernel
theorem dX10_change_127 : decode cX10_change 127 = .ok (.ireturn, 1) := by decide +kernel
theorem dX10_shade_0 : decode cX10_shade 0 = .ok (.iload_n 1, 1) := by decide +kernel
theorem dX10_shade_1 : decode cX10_shade 1 = .ok (.invokestatic 198, 3) := by decide +kernel
theorem dX10_shade_4 : decode cX10_shade 4 = .ok (.ifCond .ne 6, 3) := by decide +kernel
theorem dX10_shade_7 : decode cX10_shade 7 = .ok (.bipush (-5), 2) := by decide +kernel
theorem dX10_shade_9 : decode cX10_shade 9 = .ok (.ireturn, 1) := by decide +kernel
theorem dX10_shade_10 : decode cX10_shade 10 = .ok (.iload_n 2, 1) := by decide +kernel
theorem dX10_shade_11 : decode cX10_shade 11 = .ok (.iconst 0, 1) := by decide +kernel
theorem dX10_shade_12 : decode cX10_shade 12 = .ok (.iconst 1, 1) := by decide +kernel
theorem dX10_shade_13 : decode cX10_shade 13 = .ok (.invokestatic 108, 3) := by decide +kernel
theorem dX10_shade_16 : decode cX10_shade 16 = .ok (.ifCond .ne 6, 3) := by decide +kernel
theorem dX10_shade_19 : decode cX10_shade 19 = .ok (.bipush (-7), 2) := by decide +kernel
theorem dX10_shade_21 : decode cX10_shade 21 = .ok (.ireturn, 1) := by decide +kernel
theorem dX10_shade_22 : decode cX10_shade 22 = .ok (.aload_n 0, 1) := by decide +kernel
theorem dX10_shade_23 : decode cX10_shade 23 = .ok (.getfield 7, 3) := by decide +kernel
theorem dX10_shade_26 : decode cX10_shade 26 = .ok (.iload_n 1, 1) := by decide +kernel
theorem dX10_shade_27 : decode cX10_shade 27 = .ok (.iaload, 1) := by decide +kernel
theorem dX10_shade_28 : decode cX10_shade 28 = .ok (.istore_n 3, 1) := by decide +kernel
theorem dX10_shade_29 : decode cX10_shade 29 = .ok (.iconst (-1), 1) := by decide +kernel
theorem dX10_shade_30 : decode cX10_shade 30 = .ok (.istore 4, 2) := by decide +kernel
theorem dX10_shade_32 : decode cX10_shade 32 = .ok (.iconst 0, 1) := by decide +kernel
theorem dX10_shade_33 : decode cX10_shade 33 = .ok (.istore 5, 2) := by decide +kernel
theorem dX10_shade_35 : decode cX10_shade 35 = .ok (.iconst 0, 1) := by decide +kernel
theorem dX10_shade_36 : decode cX10_shade 36 = .ok (.istore 6, 2) := by decide +kernel
theorem dX10_shade_38 : decode cX10_shade 38 = .ok (.iload 6, 2) := by decide +kernel
theorem dX10_shade_40 : decode cX10_shade 40 = .ok (.bipush 9, 2) := by decide +kernel
theorem dX10_shade_42 : decode cX10_shade 42 = .ok (.if_icmp .gt 71, 3) := by decide +kernel
theorem dX10_shade_45 : decode cX10_shade 45 = .ok (.aload_n 0, 1) := by decide +kernel
theorem dX10_shade_46 : decode cX10_shade 46 = .ok (.getfield 7, 3) := by decide +kernel
theorem dX10_shade_49 : decode cX10_shade 49 = .ok (.iload_n 1, 1) := by decide +kernel
theorem dX10_shade_50 : decode cX10_shade 50 = .ok (.iload 6, 2) := by decide +kernel
theorem dX10_shade_52 : decode cX10_shade 52 = .ok (.iastore, 1) := by decide +kernel
theorem dX10_shade_53 : decode cX10_shade 53 = .ok (.aload_n 0, 1) := by decide +kernel
theorem dX10_shade_54 : decode cX10_shade 54 = .ok (.invokevirtual 304, 3) := by decide +kernel
theorem dX10_shade_57 : decode cX10_shade 57 = .ok (.istore 7, 2) := by decide +kernel
theorem dX10_shade_59 : decode cX10_shade 59 = .ok (.iload 4, 2) := by decide +kernel
theorem dX10_shade_61 : decode cX10_shade 61 = .ok (.iconst (-1), 1) := by decide +kernel
theorem dX10_shade_62 : decode cX10_shade 62 = .ok (.if_icmp .eq 10, 3) := by decide +kernel
theorem dX10_shade_65 : decode cX10_shade 65 = .ok (.iload 7, 2) := by decide +kernel
theorem dX10_shade_67 : decode cX10_shade 67 = .ok (.iload 5, 2) := by decide +kernel
theorem dX10_shade_69 : decode cX10_shade 69 = .ok (.if_icmp .ge 7, 3) := by decide +kernel
theorem dX10_shade_72 : decode cX10_shade 72 = .ok (.iconst 1, 1) := by decide +kernel
theorem dX10_shade_73 : decode cX10_shade 73 = .ok (.goto 4, 3) := by decide +kernel
theorem dX10_shade_76 : decode cX10_shade 76 = .ok (.iconst 0, 1) := by decide +kernel
theorem dX10_shade_77 : decode cX10_shade 77 = .ok (.istore 8, 2) := by decide +kernel
theorem dX10_shade_79 : decode cX10_shade 79 = .ok (.iload 8, 2) := by decide +kernel
theorem dX10_shade_81 : decode cX10_shade 81 = .ok (.ifCond .eq 8, 3) := by decide +kernel
theorem dX10_shade_84 : decode cX10_shade 84 = .ok (.iload 6, 2) := by decide +kernel
theorem dX10_shade_86 : decode cX10_shade 86 = .ok (.goto 5, 3) := by decide +kernel
theorem dX10_shade_89 : decode cX10_shade 89 = .ok (.iload 4, 2) := by decide +kernel
theorem dX10_shade_91 : decode cX10_shade 91 = .ok (.istore 4, 2) := by decide +kernel
theorem dX10_shade_93 : decode cX10_shade 93 = .ok (.iload 8, 2) := by decide +kernel
theorem dX10_shade_95 : decode cX10_shade 95 = .ok (.ifCond .eq 8, 3) := by decide +kernel
theorem dX10_shade_98 : decode cX10_shade 98 = .ok (.iload 7, 2) := by decide +kernel
theorem dX10_shade_100 : decode cX10_shade 100 = .ok (.goto 5, 3) := by decide +kernel
theorem dX10_shade_103 : decode cX10_shade 103 = .ok (.iload 5, 2) := by decide +kernel
theorem dX10_shade_105 : decode cX10_shade 105 = .ok (.istore 5, 2) := by decide +kernel
theorem dX10_shade_107 : decode cX10_shade 107 = .ok (.iinc 6 1, 3) := by decide +kernel
theorem dX10_shade_110 : decode cX10_shade 110 = .ok (.goto (-72), 3) := by decide +kernel
theorem dX10_shade_113 : decode cX10_shade 113 = .ok (.aload_n 0, 1) := by decide +kernel
theorem dX10_shade_114 : decode cX10_shade 114 = .ok (.getfield 7, 3) := by decide +kernel
theorem dX10_shade_117 : decode cX10_shade 117 = .ok (.iload_n 1, 1) := by decide +kernel
theorem dX10_shade_118 : decode cX10_shade 118 = .ok (.iload_n 3, 1) := by decide +kernel
theorem dX10_shade_119 : decode cX10_shade 119 = .ok (.iastore, 1) := by decide +kernel
theorem dX10_shade_120 : decode cX10_shade 120 = .ok (.iload_n 2, 1) := by decide +kernel
theorem dX10_shade_121 : decode cX10_shade 121 = .ok (.ifCond .ne 8, 3) := by decide +kernel
theorem dX10_shade_124 : decode cX10_shade 124 = .ok (.iload 4, 2) := by decide +kernel
theorem dX10_shade_126 : decode cX10_shade 126 = .ok (.goto 5, 3) := by decide +kernel
theorem dX10_shade_129 : decode cX10_shade 129 = .ok (.iload 5, 2) := by decide +kernel
theorem dX10_shade_131 : decode cX10_shade 131 = .ok (.ireturn, 1) := by decide +kernel
theorem dX10_everRed_0 : decode cX10_everRed 0 = .ok (.aload_n 0, 1) := by decide +kernel
theorem dX10_everRed_1 : decode cX10_everRed 1 = .ok (.bipush 40, 2) := by decide +kernel
theorem dX10_everRed_3 : decode cX10_everRed 3 = .ok (.invokevirtual 253, 3) := by decide +kernel
theorem dX10_everRed_6 : decode cX10_everRed 6 = .ok (.iconst 0, 1) := by decide +kernel
theorem dX10_everRed_7 : decode cX10_everRed 7 = .ok (.istore_n 1, 1) := by decide +kernel
theorem dX10_everRed_8 : decode cX10_everRed 8 = .ok (.iconst 0, 1) := by decide +kernel
theorem dX10_everRed_9 : decode cX10_everRed 9 = .ok (.istore_n 2, 1) := by decide +kernel
theorem dX10_everRed_10 : decode cX10_everRed 10 = .ok (.iload_n 2, 1) := by decide +kernel
theorem dX10_everRed_11 : decode cX10_everRed 11 = .ok (.aload_n 0, 1) := by decide +kernel
theorem dX10_everRed_12 : decode cX10_everRed 12 = .ok (.getfield 105, 3) := by decide +kernel
theorem dX10_everRed_15 : decode cX10_everRed 15 = .ok (.if_icmp .ge 27, 3) := by decide +kernel
theorem dX10_everRed_18 : decode cX10_everRed 18 = .ok (.iload_n 1, 1) := by decide +kernel
theorem dX10_everRed_19 : decode cX10_everRed 19 = .ok (.aload_n 0, 1) := by decide +kernel
theorem dX10_everRed_20 : decode cX10_everRed 20 = .ok (.iload_n 2, 1) := by decide +kernel
theorem dX10_everRed_21 : decode cX10_everRed 21 = .ok (.invokevirtual 263, 3) := by decide +kernel
theorem dX10_everRed_24 : decode cX10_everRed 24 = .ok (.ifCond .le 9, 3) := by decide +kernel
theorem dX10_everRed_27 : decode cX10_everRed 27 = .ok (.iconst 1, 1) := by decide +kernel
theorem dX10_everRed_28 : decode cX10_everRed 28 = .ok (.iload_n 2, 1) := by decide +kernel
theorem dX10_everRed_29 : decode cX10_everRed 29 = .ok (.ishl, 1) := by decide +kernel
theorem dX10_everRed_30 : decode cX10_everRed 30 = .ok (.goto 4, 3) := by decide +kernel
theorem dX10_everRed_33 : decode cX10_everRed 33 = .ok (.iconst 0, 1) := by decide +kernel
theorem dX10_everRed_34 : decode cX10_everRed 34 = .ok (.ior, 1) := by decide +kernel
theorem dX10_everRed_35 : decode cX10_everRed 35 = .ok (.istore_n 1, 1) := by decide +kernel
theorem dX10_everRed_36 : decode cX10_everRed 36 = .ok (.iinc 2 1, 3) := by decide +kernel
theorem dX10_everRed_39 : decode cX10_everRed 39 = .ok (.goto (-29), 3) := by decide +kernel
theorem dX10_everRed_42 : decode cX10_everRed 42 = .ok (.iload_n 1, 1) := by decide +kernel
theorem dX10_everRed_43 : decode cX10_everRed 43 = .ok (.ireturn, 1) := by decide +kernel
theorem dX10_sets_0 : decode cX10_sets 0 = .ok (.aload_n 0, 1) := by decide +kernel
theorem dX10_sets_1 : decode cX10_sets 1 = .ok (.iload_n 1, 1) := by decide +kernel
theorem dX10_sets_2 : decode cX10_sets 2 = .ok (.invokevirtual 204, 3) := by decide +kernel
theorem dX10_sets_5 : decode cX10_sets 5 = .ok (.ifCond .ne 6, 3) := by decide +kernel
theorem dX10_sets_8 : decode cX10_sets 8 = .ok (.bipush (-5), 2) := by decide +kernel
theorem dX10_sets_10 : decode cX10_sets 10 = .ok (.ireturn, 1) := by decide +kernel
theorem dX10_sets_11 : decode cX10_sets 11 = .ok (.iload_n 2, 1) := by decide +kernel
theorem dX10_sets_12 : decode cX10_sets 12 = .ok (.invokestatic 191, 3) := by decide +kernel
theorem dX10_sets_15 : decode cX10_sets 15 = .ok (.ifCond .ne 6, 3) := by decide +kernel
theorem dX10_sets_18 : decode cX10_sets 18 = .ok (.bipush (-7), 2) := by decide +kernel
theorem dX10_sets_20 : decode cX10_sets 20 = .ok (.ireturn, 1) := by decide +kernel
theorem dX10_sets_21 : decode cX10_sets 21 = .ok (.aload_n 0, 1) := by decide +kernel
theorem dX10_sets_22 : decode cX10_sets 22 = .ok (.invokevirtual 307, 3) := by decide +kernel
theorem dX10_sets_25 : decode cX10_sets 25 = .ok (.istore_n 3, 1) := by decide +kernel
theorem dX10_sets_26 : decode cX10_sets 26 = .ok (.aload_n 0, 1) := by decide +kernel
theorem dX10_sets_27 : decode cX10_sets 27 = .ok (.getfield 89, 3) := by decide +kernel
theorem dX10_sets_30 : decode cX10_sets 30 = .ok (.iload_n 1, 1) := by decide +kernel
theorem dX10_sets_31 : decode cX10_sets 31 = .ok (.iload_n 2, 1) := by decide +kernel
theorem dX10_sets_32 : decode cX10_sets 32 = .ok (.iastore, 1) := by decide +kernel
theorem dX10_sets_33 : decode cX10_sets 33 = .ok (.aload_n 0, 1) := by decide +kernel
theorem dX10_sets_34 : decode cX10_sets 34 = .ok (.invokevirtual 307, 3) := by decide +kernel
theorem dX10_sets_37 : decode cX10_sets 37 = .ok (.istore 4, 2) := by decide +kernel
theorem dX10_sets_39 : decode cX10_sets 39 = .ok (.aload_n 0, 1) := by decide +kernel
theorem dX10_sets_40 : decode cX10_sets 40 = .ok (.getfield 89, 3) := by decide +kernel
theorem dX10_sets_43 : decode cX10_sets 43 = .ok (.iload_n 1, 1) := by decide +kernel
theorem dX10_sets_44 : decode cX10_sets 44 = .ok (.iconst 0, 1) := by decide +kernel
theorem dX10_sets_45 : decode cX10_sets 45 = .ok (.iastore, 1) := by decide +kernel
theorem dX10_sets_46 : decode cX10_sets 46 = .ok (.iload 4, 2) := by decide +kernel
theorem dX10_sets_48 : decode cX10_sets 48 = .ok (.iload_n 3, 1) := by decide +kernel
theorem dX10_sets_49 : decode cX10_sets 49 = .ok (.iconst (-1), 1) := by decide +kernel
theorem dX10_sets_50 : decode cX10_sets 50 = .ok (.ixor, 1) := by decide +kernel
theorem dX10_sets_51 : decode cX10_sets 51 = .ok (.iand, 1) := by decide +kernel
theorem dX10_sets_52 : decode cX10_sets 52 = .ok (.iconst 1, 1) := by decide +kernel
theorem dX10_sets_53 : decode cX10_sets 53 = .ok (.iload_n 1, 1) := by decide +kernel
theorem dX10_sets_54 : decode cX10_sets 54 = .ok (.ishl, 1) := by decide +kernel
theorem dX10_sets_55 : decode cX10_sets 55 = .ok (.iconst (-1), 1) := by decide +kernel
theorem dX10_sets_56 : decode cX10_sets 56 = .ok (.ixor, 1) := by decide +kernel
theorem dX10_sets_57 : decode cX10_sets 57 = .ok (.iand, 1) := by decide +kernel
theorem dX10_sets_58 : decode cX10_sets 58 = .ok (.ireturn, 1) := by decide +kernel
theorem dX10_needs_0 : decode cX10_needs 0 = .ok (.aload_n 0, 1) := by decide +kernel
theorem dX10_needs_1 : decode cX10_needs 1 = .ok (.iload_n 1, 1) := by decide +kernel
theorem dX10_needs_2 : decode cX10_needs 2 = .ok (.invokevirtual 204, 3) := by decide +kernel
theorem dX10_needs_5 : decode cX10_needs 5 = .ok (.ifCond .ne 6, 3) := by decide +kernel
theorem dX10_needs_8 : decode cX10_needs 8 = .ok (.bipush (-5), 2) := by decide +kernel
theorem dX10_needs_10 : decode cX10_needs 10 = .ok (.ireturn, 1) := by decide +kernel
theorem dX10_needs_11 : decode cX10_needs 11 = .ok (.iconst (-1), 1) := by decide +kernel
theorem dX10_needs_12 : decode cX10_needs 12 = .ok (.istore_n 2, 1) := by decide +kernel
theorem dX10_needs_13 : decode cX10_needs 13 = .ok (.iconst 0, 1) := by decide +kernel
theorem dX10_needs_14 : decode cX10_needs 14 = .ok (.istore_n 3, 1) := by decide +kernel
theorem dX10_needs_15 : decode cX10_needs 15 = .ok (.iload_n 3, 1) := by decide +kernel
theorem dX10_needs_16 : decode cX10_needs 16 = .ok (.sipush 400, 3) := by decide +kernel
theorem dX10_needs_19 : decode cX10_needs 19 = .ok (.if_icmp .gt 39, 3) := by decide +kernel
theorem dX10_needs_22 : decode cX10_needs 22 = .ok (.iload_n 2, 1) := by decide +kernel
theorem dX10_needs_23 : decode cX10_needs 23 = .ok (.iconst (-1), 1) := by decide +kernel
theorem dX10_needs_24 : decode cX10_needs 24 = .ok (.if_icmp .ne 34, 3) := by decide +kernel
theorem dX10_needs_27 : decode cX10_needs 27 = .ok (.aload_n 0, 1) := by decide +kernel
theorem dX10_needs_28 : decode cX10_needs 28 = .ok (.getfield 89, 3) := by decide +kernel
theorem dX10_needs_31 : decode cX10_needs 31 = .ok (.iload_n 1, 1) := by decide +kernel
theorem dX10_needs_32 : decode cX10_needs 32 = .ok (.iload_n 3, 1) := by decide +kernel
theorem dX10_needs_33 : decode cX10_needs 33 = .ok (.iastore, 1) := by decide +kernel
theorem dX10_needs_34 : decode cX10_needs 34 = .ok (.aload_n 0, 1) := by decide +kernel
theorem dX10_needs_35 : decode cX10_needs 35 = .ok (.invokevirtual 307, 3) := by decide +kernel
theorem dX10_needs_38 : decode cX10_needs 38 = .ok (.iload_n 1, 1) := by decide +kernel
theorem dX10_needs_39 : decode cX10_needs 39 = .ok (.ishr, 1) := by decide +kernel
theorem dX10_needs_40 : decode cX10_needs 40 = .ok (.iconst 1, 1) := by decide +kernel
theorem dX10_needs_41 : decode cX10_needs 41 = .ok (.iand, 1) := by decide +kernel
theorem dX10_needs_42 : decode cX10_needs 42 = .ok (.iconst 1, 1) := by decide +kernel
theorem dX10_needs_43 : decode cX10_needs 43 = .ok (.if_icmp .ne 7, 3) := by decide +kernel
theorem dX10_needs_46 : decode cX10_needs 46 = .ok (.iload_n 3, 1) := by decide +kernel
theorem dX10_needs_47 : decode cX10_needs 47 = .ok (.goto 4, 3) := by decide +kernel
theorem dX10_needs_50 : decode cX10_needs 50 = .ok (.iconst (-1), 1) := by decide +kernel
theorem dX10_needs_51 : decode cX10_needs 51 = .ok (.istore_n 2, 1) := by decide +kernel
theorem dX10_needs_52 : decode cX10_needs 52 = .ok (.iinc 3 10, 3) := by decide +kernel
theorem dX10_needs_55 : decode cX10_needs 55 = .ok (.goto (-40), 3) := by decide +kernel
theorem dX10_needs_58 : decode cX10_needs 58 = .ok (.aload_n 0, 1) := by decide +kernel
theorem dX10_needs_59 : decode cX10_needs 59 = .ok (.getfield 89, 3) := by decide +kernel
theorem dX10_needs_62 : decode cX10_needs 62 = .ok (.iload_n 1, 1) := by decide +kernel
theorem dX10_needs_63 : decode cX10_needs 63 = .ok (.iconst 0, 1) := by decide +kernel
theorem dX10_needs_64 : decode cX10_needs 64 = .ok (.iastore, 1) := by decide +kernel
theorem dX10_needs_65 : decode cX10_needs 65 = .ok (.iload_n 2, 1) := by decide +kernel
theorem dX10_needs_66 : decode cX10_needs 66 = .ok (.ireturn, 1) := by decide +kernel
theorem dX10_isRedAsked_0 : decode cX10_isRedAsked 0 = .ok (.aload_n 0, 1) := by decide +kernel
theorem dX10_isRedAsked_1 : decode cX10_isRedAsked 1 = .ok (.getfield 89, 3) := by decide +kernel
theorem dX10_isRedAsked_4 : decode cX10_isRedAsked 4 = .ok (.iload_n 1, 1) := by decide +kernel
theorem dX10_isRedAsked_5 : decode cX10_isRedAsked 5 = .ok (.iload_n 2, 1) := by decide +kernel
theorem dX10_isRedAsked_6 : decode cX10_isRedAsked 6 = .ok (.iastore, 1) := by decide +kernel
theorem dX10_isRedAsked_7 : decode cX10_isRedAsked 7 = .ok (.aload_n 0, 1) := by decide +kernel
theorem dX10_isRedAsked_8 : decode cX10_isRedAsked 8 = .ok (.iload_n 3, 1) := by decide +kernel
theorem dX10_isRedAsked_9 : decode cX10_isRedAsked 9 = .ok (.invokevirtual 253, 3) := by decide +kernel
theorem dX10_isRedAsked_12 : decode cX10_isRedAsked 12 = .ok (.aload_n 0, 1) := by decide +kernel
theorem dX10_isRedAsked_13 : decode cX10_isRedAsked 13 = .ok (.getfield 89, 3) := by decide +kernel
theorem dX10_isRedAsked_16 : decode cX10_isRedAsked 16 = .ok (.iload_n 1, 1) := by decide +kernel
theorem dX10_isRedAsked_17 : decode cX10_isRedAsked 17 = .ok (.iconst 0, 1) := by decide +kernel
theorem dX10_isRedAsked_18 : decode cX10_isRedAsked 18 = .ok (.iastore, 1) := by decide +kernel
theorem dX10_isRedAsked_19 : decode cX10_isRedAsked 19 = .ok (.aload_n 0, 1) := by decide +kernel
theorem dX10_isRedAsked_20 : decode cX10_isRedAsked 20 = .ok (.iload_n 1, 1) := by decide +kernel
theorem dX10_isRedAsked_21 : decode cX10_isRedAsked 21 = .ok (.invokevirtual 250, 3) := by decide +kernel
theorem dX10_isRedAsked_24 : decode cX10_isRedAsked 24 = .ok (.ireturn, 1) := by decide +kernel
theorem dX10_asked_0 : decode cX10_asked 0 = .ok (.iload_n 1, 1) := by decide +kernel
theorem dX10_asked_1 : decode cX10_asked 1 = .ok (.invokestatic 191, 3) := by decide +kernel
theorem dX10_asked_4 : decode cX10_asked 4 = .ok (.ifCond .eq 13, 3) := by decide +kernel
theorem dX10_asked_7 : decode cX10_asked 7 = .ok (.iload_n 2, 1) := by decide +kernel
theorem dX10_asked_8 : decode cX10_asked 8 = .ok (.iconst 0, 1) := by decide +kernel
theorem dX10_asked_9 : decode cX10_asked 9 = .ok (.bipush 40, 2) := by decide +kernel
theorem dX10_asked_11 : decode cX10_asked 11 = .ok (.invokestatic 108, 3) := by decide +kernel
theorem dX10_asked_14 : decode cX10_asked 14 = .ok (.ifCond .ne 6, 3) := by decide +kernel
theorem dX10_asked_17 : decode cX10_asked 17 = .ok (.bipush (-2), 2) := by decide +kernel
theorem dX10_asked_19 : decode cX10_asked 19 = .ok (.ireturn, 1) := by decide +kernel
theorem dX10_asked_20 : decode cX10_asked 20 = .ok (.iconst 0, 1) := by decide +kernel
theorem dX10_asked_21 : decode cX10_asked 21 = .ok (.istore_n 3, 1) := by decide +kernel
theorem dX10_asked_22 : decode cX10_asked 22 = .ok (.iconst 0, 1) := by decide +kernel
theorem dX10_asked_23 : decode cX10_asked 23 = .ok (.istore 4, 2) := by decide +kernel
theorem dX10_asked_25 : decode cX10_asked 25 = .ok (.iload 4, 2) := by decide +kernel
theorem dX10_asked_27 : decode cX10_asked 27 = .ok (.aload_n 0, 1) := by decide +kernel
theorem dX10_asked_28 : decode cX10_asked 28 = .ok (.getfield 105, 3) := by decide +kernel
theorem dX10_asked_31 : decode cX10_asked 31 = .ok (.if_icmp .ge 31, 3) := by decide +kernel
theorem dX10_asked_34 : decode cX10_asked 34 = .ok (.iload_n 3, 1) := by decide +kernel
theorem dX10_asked_35 : decode cX10_asked 35 = .ok (.aload_n 0, 1) := by decide +kernel
theorem dX10_asked_36 : decode cX10_asked 36 = .ok (.iload 4, 2) := by decide +kernel
theorem dX10_asked_38 : decode cX10_asked 38 = .ok (.iload_n 1, 1) := by decide +kernel
theorem dX10_asked_39 : decode cX10_asked 39 = .ok (.iload_n 2, 1) := by decide +kernel
theorem dX10_asked_40 : decode cX10_asked 40 = .ok (.invokevirtual 310, 3) := by decide +kernel
theorem dX10_asked_43 : decode cX10_asked 43 = .ok (.ifCond .eq 10, 3) := by decide +kernel
theorem dX10_asked_46 : decode cX10_asked 46 = .ok (.iconst 1, 1) := by decide +kernel
theorem dX10_asked_47 : decode cX10_asked 47 = .ok (.iload 4, 2) := by decide +kernel
theorem dX10_asked_49 : decode cX10_asked 49 = .ok (.ishl, 1) := by decide +kernel
theorem dX10_asked_50 : decode cX10_asked 50 = .ok (.goto 4, 3) := by decide +kernel
theorem dX10_asked_53 : decode cX10_asked 53 = .ok (.iconst 0, 1) := by decide +kernel
theorem dX10_asked_54 : decode cX10_asked 54 = .ok (.ior, 1) := by decide +kernel
theorem dX10_asked_55 : decode cX10_asked 55 = .ok (.istore_n 3, 1) := by decide +kernel
theorem dX10_asked_56 : decode cX10_asked 56 = .ok (.iinc 4 1, 3) := by decide +kernel
theorem dX10_asked_59 : decode cX10_asked 59 = .ok (.goto (-34), 3) := by decide +kernel
theorem dX10_asked_62 : decode cX10_asked 62 = .ok (.iload_n 3, 1) := by decide +kernel
theorem dX10_asked_63 : decode cX10_asked 63 = .ok (.ireturn, 1) := by decide +kernel
theorem dX10_lowest_0 : decode cX10_lowest 0 = .ok (.lload_n 0, 1) := by decide +kernel
theorem dX10_lowest_1 : decode cX10_lowest 1 = .ok (.lconst 0, 1) := by decide +kernel
theorem dX10_lowest_2 : decode cX10_lowest 2 = .ok (.lcmp, 1) := by decide +kernel
theorem dX10_lowest_3 : decode cX10_lowest 3 = .ok (.ifCond .ne 7, 3) := by decide +kernel
theorem dX10_lowest_6 : decode cX10_lowest 6 = .ok (.iload 4, 2) := by decide +kernel
theorem dX10_lowest_8 : decode cX10_lowest 8 = .ok (.i2l, 1) := by decide +kernel
theorem dX10_lowest_9 : decode cX10_lowest 9 = .ok (.lreturn, 1) := by decide +kernel
theorem dX10_lowest_10 : decode cX10_lowest 10 = .ok (.lload_n 0, 1) := by decide +kernel
theorem dX10_lowest_11 : decode cX10_lowest 11 = .ok (.lstore 5, 2) := by decide +kernel
theorem dX10_lowest_13 : decode cX10_lowest 13 = .ok (.lload_n 2, 1) := by decide +kernel
theorem dX10_lowest_14 : decode cX10_lowest 14 = .ok (.lstore 7, 2) := by decide +kernel
theorem dX10_lowest_16 : decode cX10_lowest 16 = .ok (.lload 7, 2) := by decide +kernel
theorem dX10_lowest_18 : decode cX10_lowest 18 = .ok (.lconst 0, 1) := by decide +kernel
theorem dX10_lowest_19 : decode cX10_lowest 19 = .ok (.lcmp, 1) := by decide +kernel
theorem dX10_lowest_20 : decode cX10_lowest 20 = .ok (.ifCond .eq 21, 3) := by decide +kernel
theorem dX10_lowest_23 : decode cX10_lowest 23 = .ok (.lload 5, 2) := by decide +kernel
theorem dX10_lowest_25 : decode cX10_lowest 25 = .ok (.lload 7, 2) := by decide +kernel
theorem dX10_lowest_27 : decode cX10_lowest 27 = .ok (.lrem, 1) := by decide +kernel
theorem dX10_lowest_28 : decode cX10_lowest 28 = .ok (.lstore 9, 2) := by decide +kernel
theorem dX10_lowest_30 : decode cX10_lowest 30 = .ok (.lload 7, 2) := by decide +kernel
theorem dX10_lowest_32 : decode cX10_lowest 32 = .ok (.lstore 5, 2) := by decide +kernel
theorem dX10_lowest_34 : decode cX10_lowest 34 = .ok (.lload 9, 2) := by decide +kernel
theorem dX10_lowest_36 : decode cX10_lowest 36 = .ok (.lstore 7, 2) := by decide +kernel
theorem dX10_lowest_38 : decode cX10_lowest 38 = .ok (.goto (-22), 3) := by decide +kernel
theorem dX10_lowest_41 : decode cX10_lowest 41 = .ok (.iload 4, 2) := by decide +kernel
theorem dX10_lowest_43 : decode cX10_lowest 43 = .ok (.ifCond .ne 7, 3) := by decide +kernel
theorem dX10_lowest_46 : decode cX10_lowest 46 = .ok (.lload_n 0, 1) := by decide +kernel
theorem dX10_lowest_47 : decode cX10_lowest 47 = .ok (.goto 4, 3) := by decide +kernel
theorem dX10_lowest_50 : decode cX10_lowest 50 = .ok (.lload_n 2, 1) := by decide +kernel
theorem dX10_lowest_51 : decode cX10_lowest 51 = .ok (.lload 5, 2) := by decide +kernel
theorem dX10_lowest_53 : decode cX10_lowest 53 = .ok (.ldiv, 1) := by decide +kernel
theorem dX10_lowest_54 : decode cX10_lowest 54 = .ok (.lreturn, 1) := by decide +kernel
theorem dX10_guilty_0 : decode cX10_guilty 0 = .ok (.aload_n 0, 1) := by decide +kernel
theorem dX10_guilty_1 : decode cX10_guilty 1 = .ok (.iload_n 1, 1) := by decide +kernel
theorem dX10_guilty_2 : decode cX10_guilty 2 = .ok (.invokevirtual 204, 3) := by decide +kernel
theorem dX10_guilty_5 : decode cX10_guilty 5 = .ok (.ifCond .eq 53, 3) := by decide +kernel
theorem dX10_guilty_8 : decode cX10_guilty 8 = .ok (.iload_n 2, 1) := by decide +kernel
theorem dX10_guilty_9 : decode cX10_guilty 9 = .ok (.ifCond .lt 49, 3) := by decide +kernel
theorem dX10_guilty_12 : decode cX10_guilty 12 = .ok (.iload_n 2, 1) := by decide +kernel
theorem dX10_guilty_13 : decode cX10_guilty 13 = .ok (.sipush 1000, 3) := by decide +kernel
theorem dX10_guilty_16 : decode cX10_guilty 16 = .ok (.idiv, 1) := by decide +kernel
theorem dX10_guilty_17 : decode cX10_guilty 17 = .ok (.invokestatic 191, 3) := by decide +kernel
theorem dX10_guilty_20 : decode cX10_guilty 20 = .ok (.ifCond .eq 38, 3) := by decide +kernel
theorem dX10_guilty_23 : decode cX10_guilty 23 = .ok (.iload_n 2, 1) := by decide +kernel
theorem dX10_guilty_24 : decode cX10_guilty 24 = .ok (.sipush 1000, 3) := by decide +kernel
theorem dX10_guilty_27 : decode cX10_guilty 27 = .ok (.irem, 1) := by decide +kernel
theorem dX10_guilty_28 : decode cX10_guilty 28 = .ok (.invokestatic 191, 3) := by decide +kernel
theorem dX10_guilty_31 : decode cX10_guilty 31 = .ok (.ifCond .eq 27, 3) := by decide +kernel
theorem dX10_guilty_34 : decode cX10_guilty 34 = .ok (.iload_n 3, 1) := by decide +kernel
theorem dX10_guilty_35 : decode cX10_guilty 35 = .ok (.iconst 0, 1) := by decide +kernel
theorem dX10_guilty_36 : decode cX10_guilty 36 = .ok (.bipush 40, 2) := by decide +kernel
theorem dX10_guilty_38 : decode cX10_guilty 38 = .ok (.invokestatic 108, 3) := by decide +kernel
theorem dX10_guilty_41 : decode cX10_guilty 41 = .ok (.ifCond .eq 17, 3) := by decide +kernel
theorem dX10_guilty_44 : decode cX10_guilty 44 = .ok (.iload 4, 2) := by decide +kernel
theorem dX10_guilty_46 : decode cX10_guilty 46 = .ok (.iconst 0, 1) := by decide +kernel
theorem dX10_guilty_47 : decode cX10_guilty 47 = .ok (.iconst 1, 1) := by decide +kernel
theorem dX10_guilty_48 : decode cX10_guilty 48 = .ok (.invokestatic 108, 3) := by decide +kernel
theorem dX10_guilty_51 : decode cX10_guilty 51 = .ok (.ifCond .eq 7, 3) := by decide +kernel
theorem dX10_guilty_54 : decode cX10_guilty 54 = .ok (.iconst 1, 1) := by decide +kernel
theorem dX10_guilty_55 : decode cX10_guilty 55 = .ok (.goto 4, 3) := by decide +kernel
theorem dX10_guilty_58 : decode cX10_guilty 58 = .ok (.iconst 0, 1) := by decide +kernel
theorem dX10_guilty_59 : decode cX10_guilty 59 = .ok (.istore 5, 2) := by decide +kernel
theorem dX10_guilty_61 : decode cX10_guilty 61 = .ok (.iload 5, 2) := by decide +kernel
theorem dX10_guilty_63 : decode cX10_guilty 63 = .ok (.ifCond .ne 7, 3) := by decide +kernel
theorem dX10_guilty_66 : decode cX10_guilty 66 = .ok (.ldc2_w 313, 3) := by decide +kernel
theorem dX10_guilty_69 : decode cX10_guilty 69 = .ok (.lreturn, 1) := by decide +kernel
theorem dX10_guilty_70 : decode cX10_guilty 70 = .ok (.iload_n 2, 1) := by decide +kernel
theorem dX10_guilty_71 : decode cX10_guilty 71 = .ok (.sipush 1000, 3) := by decide +kernel
theorem dX10_guilty_74 : decode cX10_guilty 74 = .ok (.idiv, 1) := by decide +kernel
theorem dX10_guilty_75 : decode cX10_guilty 75 = .ok (.istore 6, 2) := by decide +kernel
theorem dX10_guilty_77 : decode cX10_guilty 77 = .ok (.iconst 0, 1) := by decide +kernel
theorem dX10_guilty_78 : decode cX10_guilty 78 = .ok (.istore 7, 2) := by decide +kernel
theorem dX10_guilty_80 : decode cX10_guilty 80 = .ok (.iconst 0, 1) := by decide +kernel
theorem dX10_guilty_81 : decode cX10_guilty 81 = .ok (.istore 8, 2) := by decide +kernel
theorem dX10_guilty_83 : decode cX10_guilty 83 = .ok (.iconst 0, 1) := by decide +kernel
theorem dX10_guilty_84 : decode cX10_guilty 84 = .ok (.istore 9, 2) := by decide +kernel
theorem dX10_guilty_86 : decode cX10_guilty 86 = .ok (.iload 9, 2) := by decide +kernel
theorem dX10_guilty_88 : decode cX10_guilty 88 = .ok (.aload_n 0, 1) := by decide +kernel
theorem dX10_guilty_89 : decode cX10_guilty 89 = .ok (.getfield 105, 3) := by decide +kernel
theorem dX10_guilty_92 : decode cX10_guilty 92 = .ok (.if_icmp .ge 79, 3) := by decide +kernel
theorem dX10_guilty_95 : decode cX10_guilty 95 = .ok (.aload_n 0, 1) := by decide +kernel
theorem dX10_guilty_96 : decode cX10_guilty 96 = .ok (.iload_n 1, 1) := by decide +kernel
theorem dX10_guilty_97 : decode cX10_guilty 97 = .ok (.iload 9, 2) := by decide +kernel
theorem dX10_guilty_99 : decode cX10_guilty 99 = .ok (.iload_n 1, 1) := by decide +kernel
theorem dX10_guilty_100 : decode cX10_guilty 100 = .ok (.if_icmp .ne 14, 3) := by decide +kernel
theorem dX10_guilty_103 : decode cX10_guilty 103 = .ok (.iload 6, 2) := by decide +kernel
theorem dX10_guilty_105 : decode cX10_guilty 105 = .ok (.iload_n 2, 1) := by decide +kernel
theorem dX10_guilty_106 : decode cX10_guilty 106 = .ok (.sipush 1000, 3) := by decide +kernel
theorem dX10_guilty_109 : decode cX10_guilty 109 = .ok (.irem, 1) := by decide +kernel
theorem dX10_guilty_110 : decode cX10_guilty 110 = .ok (.iadd, 1) := by decide +kernel
theorem dX10_guilty_111 : decode cX10_guilty 111 = .ok (.goto 5, 3) := by decide +kernel
theorem dX10_guilty_114 : decode cX10_guilty 114 = .ok (.iload 6, 2) := by decide +kernel
theorem dX10_guilty_116 : decode cX10_guilty 116 = .ok (.iconst 0, 1) := by decide +kernel
theorem dX10_guilty_117 : decode cX10_guilty 117 = .ok (.sipush 400, 3) := by decide +kernel
theorem dX10_guilty_120 : decode cX10_guilty 120 = .ok (.invokestatic 188, 3) := by decide +kernel
theorem dX10_guilty_123 : decode cX10_guilty 123 = .ok (.iload_n 3, 1) := by decide +kernel
theorem dX10_guilty_124 : decode cX10_guilty 124 = .ok (.invokevirtual 310, 3) := by decide +kernel
theorem dX10_guilty_127 : decode cX10_guilty 127 = .ok (.istore 10, 2) := by decide +kernel
theorem dX10_guilty_129 : decode cX10_guilty 129 = .ok (.iload 7, 2) := by decide +kernel
theorem dX10_guilty_131 : decode cX10_guilty 131 = .ok (.iload 10, 2) := by decide +kernel
theorem dX10_guilty_133 : decode cX10_guilty 133 = .ok (.ifCond .eq 7, 3) := by decide +kernel
theorem dX10_guilty_136 : decode cX10_guilty 136 = .ok (.iconst 1, 1) := by decide +kernel
theorem dX10_guilty_137 : decode cX10_guilty 137 = .ok (.goto 4, 3) := by decide +kernel
theorem dX10_guilty_140 : decode cX10_guilty 140 = .ok (.iconst 0, 1) := by decide +kernel
theorem dX10_guilty_141 : decode cX10_guilty 141 = .ok (.iadd, 1) := by decide +kernel
theorem dX10_guilty_142 : decode cX10_guilty 142 = .ok (.istore 7, 2) := by decide +kernel
theorem dX10_guilty_144 : decode cX10_guilty 144 = .ok (.iload 8, 2) := by decide +kernel
theorem dX10_guilty_146 : decode cX10_guilty 146 = .ok (.iload 9, 2) := by decide +kernel
theorem dX10_guilty_148 : decode cX10_guilty 148 = .ok (.iload_n 1, 1) := by decide +kernel
theorem dX10_guilty_149 : decode cX10_guilty 149 = .ok (.if_icmp .ne 12, 3) := by decide +kernel
theorem dX10_guilty_152 : decode cX10_guilty 152 = .ok (.iload 10, 2) := by decide +kernel
theorem dX10_guilty_154 : decode cX10_guilty 154 = .ok (.ifCond .eq 7, 3) := by decide +kernel
theorem dX10_guilty_157 : decode cX10_guilty 157 = .ok (.iconst 1, 1) := by decide +kernel
theorem dX10_guilty_158 : decode cX10_guilty 158 = .ok (.goto 4, 3) := by decide +kernel
theorem dX10_guilty_161 : decode cX10_guilty 161 = .ok (.iconst 0, 1) := by decide +kernel
theorem dX10_guilty_162 : decode cX10_guilty 162 = .ok (.iadd, 1) := by decide +kernel
theorem dX10_guilty_163 : decode cX10_guilty 163 = .ok (.istore 8, 2) := by decide +kernel
theorem dX10_guilty_165 : decode cX10_guilty 165 = .ok (.iinc 9 1, 3) := by decide +kernel
theorem dX10_guilty_168 : decode cX10_guilty 168 = .ok (.goto (-82), 3) := by decide +kernel
theorem dX10_guilty_171 : decode cX10_guilty 171 = .ok (.iload 7, 2) := by decide +kernel
theorem dX10_guilty_173 : decode cX10_guilty 173 = .ok (.ifCond .ne 9, 3) := by decide +kernel
theorem dX10_guilty_176 : decode cX10_guilty 176 = .ok (.ldc2_w 313, 3) := by decide +kernel
theorem dX10_guilty_179 : decode cX10_guilty 179 = .ok (.goto 14, 3) := by decide +kernel
theorem dX10_guilty_182 : decode cX10_guilty 182 = .ok (.iload 8, 2) := by decide +kernel
theorem dX10_guilty_184 : decode cX10_guilty 184 = .ok (.i2l, 1) := by decide +kernel
theorem dX10_guilty_185 : decode cX10_guilty 185 = .ok (.iload 7, 2) := by decide +kernel
theorem dX10_guilty_187 : decode cX10_guilty 187 = .ok (.i2l, 1) := by decide +kernel
theorem dX10_guilty_188 : decode cX10_guilty 188 = .ok (.iload 4, 2) := by decide +kernel
theorem dX10_guilty_190 : decode cX10_guilty 190 = .ok (.invokestatic 315, 3) := by decide +kernel
theorem dX10_guilty_193 : decode cX10_guilty 193 = .ok (.lreturn, 1) := by decide +kernel
theorem dX10_sheetWrong_0 : decode cX10_sheetWrong 0 = .ok (.iload_n 1, 1) := by decide +kernel
theorem dX10_sheetWrong_1 : decode cX10_sheetWrong 1 = .ok (.iconst 0, 1) := by decide +kernel
theorem dX10_sheetWrong_2 : decode cX10_sheetWrong 2 = .ok (.iconst 3, 1) := by decide +kernel
theorem dX10_sheetWrong_3 : decode cX10_sheetWrong 3 = .ok (.invokestatic 108, 3) := by decide +kernel
theorem dX10_sheetWrong_6 : decode cX10_sheetWrong 6 = .ok (.ifCond .ne 6, 3) := by decide +kernel
theorem dX10_sheetWrong_9 : decode cX10_sheetWrong 9 = .ok (.bipush (-2), 2) := by decide +kernel
theorem dX10_sheetWrong_11 : decode cX10_sheetWrong 11 = .ok (.ireturn, 1) := by decide +kernel
theorem dX10_sheetWrong_12 : decode cX10_sheetWrong 12 = .ok (.aload_n 0, 1) := by decide +kernel
theorem dX10_sheetWrong_13 : decode cX10_sheetWrong 13 = .ok (.getfield 40, 3) := by decide +kernel
theorem dX10_sheetWrong_16 : decode cX10_sheetWrong 16 = .ok (.iload_n 1, 1) := by decide +kernel
theorem dX10_sheetWrong_17 : decode cX10_sheetWrong 17 = .ok (.iaload, 1) := by decide +kernel
theorem dX10_sheetWrong_18 : decode cX10_sheetWrong 18 = .ok (.iconst (-1), 1) := by decide +kernel
theorem dX10_sheetWrong_19 : decode cX10_sheetWrong 19 = .ok (.if_icmp .ne 6, 3) := by decide +kernel
theorem dX10_sheetWrong_22 : decode cX10_sheetWrong 22 = .ok (.bipush (-11), 2) := by decide +kernel
theorem dX10_sheetWrong_24 : decode cX10_sheetWrong 24 = .ok (.ireturn, 1) := by decide +kernel
theorem dX10_sheetWrong_25 : decode cX10_sheetWrong 25 = .ok (.aload_n 0, 1) := by decide +kernel
theorem dX10_sheetWrong_26 : decode cX10_sheetWrong 26 = .ok (.getfield 43, 3) := by decide +kernel
theorem dX10_sheetWrong_29 : decode cX10_sheetWrong 29 = .ok (.iload_n 1, 1) := by decide +kernel
theorem dX10_sheetWrong_30 : decode cX10_sheetWrong 30 = .ok (.iaload, 1) := by decide +kernel
theorem dX10_sheetWrong_31 : decode cX10_sheetWrong 31 = .ok (.bipush 8, 2) := by decide +kernel
theorem dX10_sheetWrong_33 : decode cX10_sheetWrong 33 = .ok (.if_icmp .le 8, 3) := by decide +kernel
theorem dX10_sheetWrong_36 : decode cX10_sheetWrong 36 = .ok (.bipush (-2), 2) := by decide +kernel
theorem dX10_sheetWrong_38 : decode cX10_sheetWrong 38 = .ok (.goto 4, 3) := by decide +kernel
theorem dX10_sheetWrong_41 : decode cX10_sheetWrong 41 = .ok (.iconst 0, 1) := by decide +kernel
theorem dX10_sheetWrong_42 : decode cX10_sheetWrong 42 = .ok (.ireturn, 1) := by decide +kernel
theorem dX10_toldWrong_0 : decode cX10_toldWrong 0 = .ok (.aload_n 0, 1) := by decide +kernel
theorem dX10_toldWrong_1 : decode cX10_toldWrong 1 = .ok (.iload_n 1, 1) := by decide +kernel
theorem dX10_toldWrong_2 : decode cX10_toldWrong 2 = .ok (.invokevirtual 319, 3) := by decide +kernel
theorem dX10_toldWrong_5 : decode cX10_toldWrong 5 = .ok (.istore_n 3, 1) := by decide +kernel
theorem dX10_toldWrong_6 : decode cX10_toldWrong 6 = .ok (.iload_n 3, 1) := by decide +kernel
theorem dX10_toldWrong_7 : decode cX10_toldWrong 7 = .ok (.ifCond .eq 7, 3) := by decide +kernel
theorem dX10_toldWrong_10 : decode cX10_toldWrong 10 = .ok (.iload_n 3, 1) := by decide +kernel
theorem dX10_toldWrong_11 : decode cX10_toldWrong 11 = .ok (.goto 17, 3) := by decide +kernel
theorem dX10_toldWrong_14 : decode cX10_toldWrong 14 = .ok (.aload_n 0, 1) := by decide +kernel
theorem dX10_toldWrong_15 : decode cX10_toldWrong 15 = .ok (.iload_n 2, 1) := by decide +kernel
theorem dX10_toldWrong_16 : decode cX10_toldWrong 16 = .ok (.invokevirtual 204, 3) := by decide +kernel
theorem dX10_toldWrong_19 : decode cX10_toldWrong 19 = .ok (.ifCond .eq 7, 3) := by decide +kernel
theorem dX10_toldWrong_22 : decode cX10_toldWrong 22 = .ok (.iconst 0, 1) := by decide +kernel
theorem dX10_toldWrong_23 : decode cX10_toldWrong 23 = .ok (.goto 5, 3) := by decide +kernel
theorem dX10_toldWrong_26 : decode cX10_toldWrong 26 = .ok (.bipush (-5), 2) := by decide +kernel
theorem dX10_toldWrong_28 : decode cX10_toldWrong 28 = .ok (.ireturn, 1) := by decide +kernel
theorem dX10_unlike_0 : decode cX10_unlike 0 = .ok (.aload_n 0, 1) := by decide +kernel
theorem dX10_unlike_1 : decode cX10_unlike 1 = .ok (.bipush 40, 2) := by decide +kernel
theorem dX10_unlike_3 : decode cX10_unlike 3 = .ok (.invokevirtual 253, 3) := by decide +kernel
theorem dX10_unlike_6 : decode cX10_unlike 6 = .ok (.iconst 0, 1) := by decide +kernel
theorem dX10_unlike_7 : decode cX10_unlike 7 = .ok (.istore_n 3, 1) := by decide +kernel
theorem dX10_unlike_8 : decode cX10_unlike 8 = .ok (.iload_n 3, 1) := by decide +kernel
theorem dX10_unlike_9 : decode cX10_unlike 9 = .ok (.aload_n 0, 1) := by decide +kernel
theorem dX10_unlike_10 : decode cX10_unlike 10 = .ok (.getfield 43, 3) := by decide +kernel
theorem dX10_unlike_13 : decode cX10_unlike 13 = .ok (.iload_n 1, 1) := by decide +kernel
theorem dX10_unlike_14 : decode cX10_unlike 14 = .ok (.iaload, 1) := by decide +kernel
theorem dX10_unlike_15 : decode cX10_unlike 15 = .ok (.if_icmp .ge 39, 3) := by decide +kernel
theorem dX10_unlike_18 : decode cX10_unlike 18 = .ok (.aload_n 0, 1) := by decide +kernel
theorem dX10_unlike_19 : decode cX10_unlike 19 = .ok (.getfield 46, 3) := by decide +kernel
theorem dX10_unlike_22 : decode cX10_unlike 22 = .ok (.bipush 40, 2) := by decide +kernel
theorem dX10_unlike_24 : decode cX10_unlike 24 = .ok (.iload_n 1, 1) := by decide +kernel
theorem dX10_unlike_25 : decode cX10_unlike 25 = .ok (.imul, 1) := by decide +kernel
theorem dX10_unlike_26 : decode cX10_unlike 26 = .ok (.iload_n 3, 1) := by decide +kernel
theorem dX10_unlike_27 : decode cX10_unlike 27 = .ok (.iadd, 1) := by decide +kernel
theorem dX10_unlike_28 : decode cX10_unlike 28 = .ok (.iaload, 1) := by decide +kernel
theorem dX10_unlike_29 : decode cX10_unlike 29 = .ok (.aload_n 0, 1) := by decide +kernel
theorem dX10_unlike_30 : decode cX10_unlike 30 = .ok (.getfield 76, 3) := by decide +kernel
theorem dX10_unlike_33 : decode cX10_unlike 33 = .ok (.iconst 5, 1) := by decide +kernel
theorem dX10_unlike_34 : decode cX10_unlike 34 = .ok (.iconst 5, 1) := by decide +kernel
theorem dX10_unlike_35 : decode cX10_unlike 35 = .ok (.iload_n 3, 1) := by decide +kernel
theorem dX10_unlike_36 : decode cX10_unlike 36 = .ok (.imul, 1) := by decide +kernel
theorem dX10_unlike_37 : decode cX10_unlike 37 = .ok (.iconst 4, 1) := by decide +kernel
theorem dX10_unlike_38 : decode cX10_unlike 38 = .ok (.iadd, 1) := by decide +kernel
theorem dX10_unlike_39 : decode cX10_unlike 39 = .ok (.imul, 1) := by decide +kernel
theorem dX10_unlike_40 : decode cX10_unlike 40 = .ok (.iload_n 2, 1) := by decide +kernel
theorem dX10_unlike_41 : decode cX10_unlike 41 = .ok (.iadd, 1) := by decide +kernel
theorem dX10_unlike_42 : decode cX10_unlike 42 = .ok (.iaload, 1) := by decide +kernel
theorem dX10_unlike_43 : decode cX10_unlike 43 = .ok (.if_icmp .eq 5, 3) := by decide +kernel
theorem dX10_unlike_46 : decode cX10_unlike 46 = .ok (.iload_n 3, 1) := by decide +kernel
theorem dX10_unlike_47 : decode cX10_unlike 47 = .ok (.ireturn, 1) := by decide +kernel
theorem dX10_unlike_48 : decode cX10_unlike 48 = .ok (.iinc 3 1, 3) := by decide +kernel
theorem dX10_unlike_51 : decode cX10_unlike 51 = .ok (.goto (-43), 3) := by decide +kernel
theorem dX10_unlike_54 : decode cX10_unlike 54 = .ok (.iconst (-1), 1) := by decide +kernel
theorem dX10_unlike_55 : decode cX10_unlike 55 = .ok (.ireturn, 1) := by decide +kernel
theorem dX10_judge_0 : decode cX10_judge 0 = .ok (.aload_n 0, 1) := by decide +kernel
theorem dX10_judge_1 : decode cX10_judge 1 = .ok (.iload_n 1, 1) := by decide +kernel
theorem dX10_judge_2 : decode cX10_judge 2 = .ok (.iload_n 2, 1) := by decide +kernel
theorem dX10_judge_3 : decode cX10_judge 3 = .ok (.invokevirtual 322, 3) := by decide +kernel
theorem dX10_judge_6 : decode cX10_judge 6 = .ok (.istore_n 3, 1) := by decide +kernel
theorem dX10_judge_7 : decode cX10_judge 7 = .ok (.iload_n 3, 1) := by decide +kernel
theorem dX10_judge_8 : decode cX10_judge 8 = .ok (.ifCond .ne 12, 3) := by decide +kernel
theorem dX10_judge_11 : decode cX10_judge 11 = .ok (.aload_n 0, 1) := by decide +kernel
theorem dX10_judge_12 : decode cX10_judge 12 = .ok (.iload_n 1, 1) := by decide +kernel
theorem dX10_judge_13 : decode cX10_judge 13 = .ok (.iload_n 2, 1) := by decide +kernel
theorem dX10_judge_14 : decode cX10_judge 14 = .ok (.invokevirtual 325, 3) := by decide +kernel
theorem dX10_judge_17 : decode cX10_judge 17 = .ok (.goto 4, 3) := by decide +kernel
theorem dX10_judge_20 : decode cX10_judge 20 = .ok (.iload_n 3, 1) := by decide +kernel
theorem dX10_judge_21 : decode cX10_judge 21 = .ok (.ireturn, 1) := by decide +kernel
theorem dX10_whose_0 : decode cX10_whose 0 = .ok (.aload_n 0, 1) := by decide +kernel
theorem dX10_whose_1 : decode cX10_whose 1 = .ok (.iload_n 1, 1) := by decide +kernel
theorem dX10_whose_2 : decode cX10_whose 2 = .ok (.invokevirtual 319, 3) := by decide +kernel
theorem dX10_whose_5 : decode cX10_whose 5 = .ok (.istore_n 2, 1) := by decide +kernel
theorem dX10_whose_6 : decode cX10_whose 6 = .ok (.iload_n 2, 1) := by decide +kernel
theorem dX10_whose_7 : decode cX10_whose 7 = .ok (.ifCond .eq 5, 3) := by decide +kernel
theorem dX10_whose_10 : decode cX10_whose 10 = .ok (.iload_n 2, 1) := by decide +kernel
theorem dX10_whose_11 : decode cX10_whose 11 = .ok (.ireturn, 1) := by decide +kernel
theorem dX10_whose_12 : decode cX10_whose 12 = .ok (.iconst 0, 1) := by decide +kernel
theorem dX10_whose_13 : decode cX10_whose 13 = .ok (.istore_n 3, 1) := by decide +kernel
theorem dX10_whose_14 : decode cX10_whose 14 = .ok (.iconst 0, 1) := by decide +kernel
theorem dX10_whose_15 : decode cX10_whose 15 = .ok (.istore 4, 2) := by decide +kernel
theorem dX10_whose_17 : decode cX10_whose 17 = .ok (.iload 4, 2) := by decide +kernel
theorem dX10_whose_19 : decode cX10_whose 19 = .ok (.aload_n 0, 1) := by decide +kernel
theorem dX10_whose_20 : decode cX10_whose 20 = .ok (.getfield 105, 3) := by decide +kernel
theorem dX10_whose_23 : decode cX10_whose 23 = .ok (.if_icmp .ge 31, 3) := by decide +kernel
theorem dX10_whose_26 : decode cX10_whose 26 = .ok (.iload_n 3, 1) := by decide +kernel
theorem dX10_whose_27 : decode cX10_whose 27 = .ok (.aload_n 0, 1) := by decide +kernel
theorem dX10_whose_28 : decode cX10_whose 28 = .ok (.iload_n 1, 1) := by decide +kernel
theorem dX10_whose_29 : decode cX10_whose 29 = .ok (.iload 4, 2) := by decide +kernel
theorem dX10_whose_31 : decode cX10_whose 31 = .ok (.invokevirtual 325, 3) := by decide +kernel
theorem dX10_whose_34 : decode cX10_whose 34 = .ok (.iconst (-1), 1) := by decide +kernel
theorem dX10_whose_35 : decode cX10_whose 35 = .ok (.if_icmp .ne 10, 3) := by decide +kernel
theorem dX10_whose_38 : decode cX10_whose 38 = .ok (.iconst 1, 1) := by decide +kernel
theorem dX10_whose_39 : decode cX10_whose 39 = .ok (.iload 4, 2) := by decide +kernel
theorem dX10_whose_41 : decode cX10_whose 41 = .ok (.ishl, 1) := by decide +kernel
theorem dX10_whose_42 : decode cX10_whose 42 = .ok (.goto 4, 3) := by decide +kernel
theorem dX10_whose_45 : decode cX10_whose 45 = .ok (.iconst 0, 1) := by decide +kernel
theorem dX10_whose_46 : decode cX10_whose 46 = .ok (.ior, 1) := by decide +kernel
theorem dX10_whose_47 : decode cX10_whose 47 = .ok (.istore_n 3, 1) := by decide +kernel
theorem dX10_whose_48 : decode cX10_whose 48 = .ok (.iinc 4 1, 3) := by decide +kernel
theorem dX10_whose_51 : decode cX10_whose 51 = .ok (.goto (-34), 3) := by decide +kernel
theorem dX10_whose_54 : decode cX10_whose 54 = .ok (.iload_n 3, 1) := by decide +kernel
theorem dX10_whose_55 : decode cX10_whose 55 = .ok (.ireturn, 1) := by decide +kernel
theorem dX10_began_0 : decode cX10_began 0 = .ok (.aload_n 0, 1) := by decide +kernel
theorem dX10_began_1 : decode cX10_began 1 = .ok (.iload_n 1, 1) := by decide +kernel
theorem dX10_began_2 : decode cX10_began 2 = .ok (.iload_n 2, 1) := by decide +kernel
theorem dX10_began_3 : decode cX10_began 3 = .ok (.invokevirtual 322, 3) := by decide +kernel
theorem dX10_began_6 : decode cX10_began 6 = .ok (.ifCond .ne 10, 3) := by decide +kernel
theorem dX10_began_9 : decode cX10_began 9 = .ok (.iload_n 3, 1) := by decide +kernel
theorem dX10_began_10 : decode cX10_began 10 = .ok (.invokestatic 191, 3) := by decide +kernel
theorem dX10_began_13 : decode cX10_began 13 = .ok (.ifCond .ne 7, 3) := by decide +kernel
theorem dX10_began_16 : decode cX10_began 16 = .ok (.ldc2_w 313, 3) := by decide +kernel
theorem dX10_began_19 : decode cX10_began 19 = .ok (.lreturn, 1) := by decide +kernel
theorem dX10_began_20 : decode cX10_began 20 = .ok (.lconst 0, 1) := by decide +kernel
theorem dX10_began_21 : decode cX10_began 21 = .ok (.lstore 4, 2) := by decide +kernel
theorem dX10_began_23 : decode cX10_began 23 = .ok (.aload_n 0, 1) := by decide +kernel
theorem dX10_began_24 : decode cX10_began 24 = .ok (.getfield 89, 3) := by decide +kernel
theorem dX10_began_27 : decode cX10_began 27 = .ok (.iload_n 2, 1) := by decide +kernel
theorem dX10_began_28 : decode cX10_began 28 = .ok (.iload_n 3, 1) := by decide +kernel
theorem dX10_began_29 : decode cX10_began 29 = .ok (.iastore, 1) := by decide +kernel
theorem dX10_began_30 : decode cX10_began 30 = .ok (.iconst 0, 1) := by decide +kernel
theorem dX10_began_31 : decode cX10_began 31 = .ok (.istore 6, 2) := by decide +kernel
theorem dX10_began_33 : decode cX10_began 33 = .ok (.iload 6, 2) := by decide +kernel
theorem dX10_began_35 : decode cX10_began 35 = .ok (.bipush 40, 2) := by decide +kernel
theorem dX10_began_37 : decode cX10_began 37 = .ok (.if_icmp .ge 38, 3) := by decide +kernel
theorem dX10_began_40 : decode cX10_began 40 = .ok (.aload_n 0, 1) := by decide +kernel
theorem dX10_began_41 : decode cX10_began 41 = .ok (.iload 6, 2) := by decide +kernel
theorem dX10_began_43 : decode cX10_began 43 = .ok (.putfield 229, 3) := by decide +kernel
theorem dX10_began_46 : decode cX10_began 46 = .ok (.lload 4, 2) := by decide +kernel
theorem dX10_began_48 : decode cX10_began 48 = .ok (.aload_n 0, 1) := by decide +kernel
theorem dX10_began_49 : decode cX10_began 49 = .ok (.iload_n 1, 1) := by decide +kernel
theorem dX10_began_50 : decode cX10_began 50 = .ok (.iload_n 2, 1) := by decide +kernel
theorem dX10_began_51 : decode cX10_began 51 = .ok (.invokevirtual 325, 3) := by decide +kernel
theorem dX10_began_54 : decode cX10_began 54 = .ok (.iconst (-1), 1) := by decide +kernel
theorem dX10_began_55 : decode cX10_began 55 = .ok (.if_icmp .ne 10, 3) := by decide +kernel
theorem dX10_began_58 : decode cX10_began 58 = .ok (.lconst 1, 1) := by decide +kernel
theorem dX10_began_59 : decode cX10_began 59 = .ok (.iload 6, 2) := by decide +kernel
theorem dX10_began_61 : decode cX10_began 61 = .ok (.lshl, 1) := by decide +kernel
theorem dX10_began_62 : decode cX10_began 62 = .ok (.goto 4, 3) := by decide +kernel
theorem dX10_began_65 : decode cX10_began 65 = .ok (.lconst 0, 1) := by decide +kernel
theorem dX10_began_66 : decode cX10_began 66 = .ok (.lor, 1) := by decide +kernel
theorem dX10_began_67 : decode cX10_began 67 = .ok (.lstore 4, 2) := by decide +kernel
theorem dX10_began_69 : decode cX10_began 69 = .ok (.iinc 6 1, 3) := by decide +kernel
theorem dX10_began_72 : decode cX10_began 72 = .ok (.goto (-39), 3) := by decide +kernel
theorem dX10_began_75 : decode cX10_began 75 = .ok (.aload_n 0, 1) := by decide +kernel
theorem dX10_began_76 : decode cX10_began 76 = .ok (.getfield 89, 3) := by decide +kernel
theorem dX10_began_79 : decode cX10_began 79 = .ok (.iload_n 2, 1) := by decide +kernel
theorem dX10_began_80 : decode cX10_began 80 = .ok (.iconst 0, 1) := by decide +kernel
theorem dX10_began_81 : decode cX10_began 81 = .ok (.iastore, 1) := by decide +kernel
theorem dX10_began_82 : decode cX10_began 82 = .ok (.aload_n 0, 1) := by decide +kernel
theorem dX10_began_83 : decode cX10_began 83 = .ok (.iconst 0, 1) := by decide +kernel
theorem dX10_began_84 : decode cX10_began 84 = .ok (.putfield 229, 3) := by decide +kernel
theorem dX10_began_87 : decode cX10_began 87 = .ok (.lload 4, 2) := by decide +kernel
theorem dX10_began_89 : decode cX10_began 89 = .ok (.lreturn, 1) := by decide +kernel
theorem dX10_through_0 : decode cX10_through 0 = .ok (.aload_n 0, 1) := by decide +kernel
theorem dX10_through_1 : decode cX10_through 1 = .ok (.iload_n 1, 1) := by decide +kernel
theorem dX10_through_2 : decode cX10_through 2 = .ok (.iload_n 2, 1) := by decide +kernel
theorem dX10_through_3 : decode cX10_through 3 = .ok (.invokevirtual 322, 3) := by decide +kernel
theorem dX10_through_6 : decode cX10_through 6 = .ok (.istore 4, 2) := by decide +kernel
theorem dX10_through_8 : decode cX10_through 8 = .ok (.iload 4, 2) := by decide +kernel
theorem dX10_through_10 : decode cX10_through 10 = .ok (.ifCond .eq 6, 3) := by decide +kernel
theorem dX10_through_13 : decode cX10_through 13 = .ok (.iload 4, 2) := by decide +kernel
theorem dX10_through_15 : decode cX10_through 15 = .ok (.ireturn, 1) := by decide +kernel
theorem dX10_through_16 : decode cX10_through 16 = .ok (.iload_n 3, 1) := by decide +kernel
theorem dX10_through_17 : decode cX10_through 17 = .ok (.ifCond .lt 22, 3) := by decide +kernel
theorem dX10_through_20 : decode cX10_through 20 = .ok (.iload_n 3, 1) := by decide +kernel
theorem dX10_through_21 : decode cX10_through 21 = .ok (.bipush 100, 2) := by decide +kernel
theorem dX10_through_23 : decode cX10_through 23 = .ok (.idiv, 1) := by decide +kernel
theorem dX10_through_24 : decode cX10_through 24 = .ok (.invokestatic 191, 3) := by decide +kernel
theorem dX10_through_27 : decode cX10_through 27 = .ok (.ifCond .eq 12, 3) := by decide +kernel
theorem dX10_through_30 : decode cX10_through 30 = .ok (.iload_n 3, 1) := by decide +kernel
theorem dX10_through_31 : decode cX10_through 31 = .ok (.bipush 100, 2) := by decide +kernel
theorem dX10_through_33 : decode cX10_through 33 = .ok (.irem, 1) := by decide +kernel
theorem dX10_through_34 : decode cX10_through 34 = .ok (.bipush 40, 2) := by decide +kernel
theorem dX10_through_36 : decode cX10_through 36 = .ok (.if_icmp .lt 6, 3) := by decide +kernel
theorem dX10_through_39 : decode cX10_through 39 = .ok (.bipush (-7), 2) := by decide +kernel
theorem dX10_through_41 : decode cX10_through 41 = .ok (.ireturn, 1) := by decide +kernel
theorem dX10_through_42 : decode cX10_through 42 = .ok (.iconst 0, 1) := by decide +kernel
theorem dX10_through_43 : decode cX10_through 43 = .ok (.istore 5, 2) := by decide +kernel
theorem dX10_through_45 : decode cX10_through 45 = .ok (.aload_n 0, 1) := by decide +kernel
theorem dX10_through_46 : decode cX10_through 46 = .ok (.iload_n 3, 1) := by decide +kernel
theorem dX10_through_47 : decode cX10_through 47 = .ok (.bipush 100, 2) := by decide +kernel
theorem dX10_through_49 : decode cX10_through 49 = .ok (.irem, 1) := by decide +kernel
theorem dX10_through_50 : decode cX10_through 50 = .ok (.putfield 229, 3) := by decide +kernel
theorem dX10_through_53 : decode cX10_through 53 = .ok (.iconst 0, 1) := by decide +kernel
theorem dX10_through_54 : decode cX10_through 54 = .ok (.istore 6, 2) := by decide +kernel
theorem dX10_through_56 : decode cX10_through 56 = .ok (.iload 6, 2) := by decide +kernel
theorem dX10_through_58 : decode cX10_through 58 = .ok (.aload_n 0, 1) := by decide +kernel
theorem dX10_through_59 : decode cX10_through 59 = .ok (.getfield 105, 3) := by decide +kernel
theorem dX10_through_62 : decode cX10_through 62 = .ok (.if_icmp .ge 57, 3) := by decide +kernel
theorem dX10_through_65 : decode cX10_through 65 = .ok (.aload_n 0, 1) := by decide +kernel
theorem dX10_through_66 : decode cX10_through 66 = .ok (.getfield 89, 3) := by decide +kernel
theorem dX10_through_69 : decode cX10_through 69 = .ok (.iload 6, 2) := by decide +kernel
theorem dX10_through_71 : decode cX10_through 71 = .ok (.iload_n 3, 1) := by decide +kernel
theorem dX10_through_72 : decode cX10_through 72 = .ok (.bipush 100, 2) := by decide +kernel
theorem dX10_through_74 : decode cX10_through 74 = .ok (.idiv, 1) := by decide +kernel
theorem dX10_through_75 : decode cX10_through 75 = .ok (.iastore, 1) := by decide +kernel
theorem dX10_through_76 : decode cX10_through 76 = .ok (.iload 5, 2) := by decide +kernel
theorem dX10_through_78 : decode cX10_through 78 = .ok (.iload 6, 2) := by decide +kernel
theorem dX10_through_80 : decode cX10_through 80 = .ok (.iload_n 2, 1) := by decide +kernel
theorem dX10_through_81 : decode cX10_through 81 = .ok (.if_icmp .eq 20, 3) := by decide +kernel
theorem dX10_through_84 : decode cX10_through 84 = .ok (.aload_n 0, 1) := by decide +kernel
theorem dX10_through_85 : decode cX10_through 85 = .ok (.iload_n 1, 1) := by decide +kernel
theorem dX10_through_86 : decode cX10_through 86 = .ok (.iload_n 2, 1) := by decide +kernel
theorem dX10_through_87 : decode cX10_through 87 = .ok (.invokevirtual 325, 3) := by decide +kernel
theorem dX10_through_90 : decode cX10_through 90 = .ok (.iconst (-1), 1) := by decide +kernel
theorem dX10_through_91 : decode cX10_through 91 = .ok (.if_icmp .ne 10, 3) := by decide +kernel
theorem dX10_through_94 : decode cX10_through 94 = .ok (.iconst 1, 1) := by decide +kernel
theorem dX10_through_95 : decode cX10_through 95 = .ok (.iload 6, 2) := by decide +kernel
theorem dX10_through_97 : decode cX10_through 97 = .ok (.ishl, 1) := by decide +kernel
theorem dX10_through_98 : decode cX10_through 98 = .ok (.goto 4, 3) := by decide +kernel
theorem dX10_through_101 : decode cX10_through 101 = .ok (.iconst 0, 1) := by decide +kernel
theorem dX10_through_102 : decode cX10_through 102 = .ok (.ior, 1) := by decide +kernel
theorem dX10_through_103 : decode cX10_through 103 = .ok (.istore 5, 2) := by decide +kernel
theorem dX10_through_105 : decode cX10_through 105 = .ok (.aload_n 0, 1) := by decide +kernel
theorem dX10_through_106 : decode cX10_through 106 = .ok (.getfield 89, 3) := by decide +kernel
theorem dX10_through_109 : decode cX10_through 109 = .ok (.iload 6, 2) := by decide +kernel
theorem dX10_through_111 : decode cX10_through 111 = .ok (.iconst 0, 1) := by decide +kernel
theorem dX10_through_112 : decode cX10_through 112 = .ok (.iastore, 1) := by decide +kernel
theorem dX10_through_113 : decode cX10_through 113 = .ok (.iinc 6 1, 3) := by decide +kernel
theorem dX10_through_116 : decode cX10_through 116 = .ok (.goto (-60), 3) := by decide +kernel
theorem dX10_through_119 : decode cX10_through 119 = .ok (.aload_n 0, 1) := by decide +kernel
theorem dX10_through_120 : decode cX10_through 120 = .ok (.iconst 0, 1) := by decide +kernel
theorem dX10_through_121 : decode cX10_through 121 = .ok (.putfield 229, 3) := by decide +kernel
theorem dX10_through_124 : decode cX10_through 124 = .ok (.iload 5, 2) := by decide +kernel
theorem dX10_through_126 : decode cX10_through 126 = .ok (.ireturn, 1) := by decide +kernel
theorem dX10_kinds_0 : decode cX10_kinds 0 = .ok (.aload_n 0, 1) := by decide +kernel
theorem dX10_kinds_1 : decode cX10_kinds 1 = .ok (.iload_n 1, 1) := by decide +kernel
theorem dX10_kinds_2 : decode cX10_kinds 2 = .ok (.iload_n 2, 1) := by decide +kernel
theorem dX10_kinds_3 : decode cX10_kinds 3 = .ok (.invokevirtual 322, 3) := by decide +kernel
theorem dX10_kinds_6 : decode cX10_kinds 6 = .ok (.istore 4, 2) := by decide +kernel
theorem dX10_kinds_8 : decode cX10_kinds 8 = .ok (.iload 4, 2) := by decide +kernel
theorem dX10_kinds_10 : decode cX10_kinds 10 = .ok (.ifCond .eq 6, 3) := by decide +kernel
theorem dX10_kinds_13 : decode cX10_kinds 13 = .ok (.iload 4, 2) := by decide +kernel
theorem dX10_kinds_15 : decode cX10_kinds 15 = .ok (.ireturn, 1) := by decide +kernel
theorem dX10_kinds_16 : decode cX10_kinds 16 = .ok (.iload_n 3, 1) := by decide +kernel
theorem dX10_kinds_17 : decode cX10_kinds 17 = .ok (.iconst 0, 1) := by decide +kernel
theorem dX10_kinds_18 : decode cX10_kinds 18 = .ok (.iconst 1, 1) := by decide +kernel
theorem dX10_kinds_19 : decode cX10_kinds 19 = .ok (.invokestatic 108, 3) := by decide +kernel
theorem dX10_kinds_22 : decode cX10_kinds 22 = .ok (.ifCond .ne 6, 3) := by decide +kernel
theorem dX10_kinds_25 : decode cX10_kinds 25 = .ok (.bipush (-7), 2) := by decide +kernel
theorem dX10_kinds_27 : decode cX10_kinds 27 = .ok (.ireturn, 1) := by decide +kernel
theorem dX10_kinds_28 : decode cX10_kinds 28 = .ok (.aload_n 0, 1) := by decide +kernel
theorem dX10_kinds_29 : decode cX10_kinds 29 = .ok (.getfield 13, 3) := by decide +kernel
theorem dX10_kinds_32 : decode cX10_kinds 32 = .ok (.iload_n 2, 1) := by decide +kernel
theorem dX10_kinds_33 : decode cX10_kinds 33 = .ok (.iaload, 1) := by decide +kernel
theorem dX10_kinds_34 : decode cX10_kinds 34 = .ok (.istore 5, 2) := by decide +kernel
theorem dX10_kinds_36 : decode cX10_kinds 36 = .ok (.aload_n 0, 1) := by decide +kernel
theorem dX10_kinds_37 : decode cX10_kinds 37 = .ok (.getfield 16, 3) := by decide +kernel
theorem dX10_kinds_40 : decode cX10_kinds 40 = .ok (.iload_n 2, 1) := by decide +kernel
theorem dX10_kinds_41 : decode cX10_kinds 41 = .ok (.iaload, 1) := by decide +kernel
theorem dX10_kinds_42 : decode cX10_kinds 42 = .ok (.istore 6, 2) := by decide +kernel
theorem dX10_kinds_44 : decode cX10_kinds 44 = .ok (.iconst 0, 1) := by decide +kernel
theorem dX10_kinds_45 : decode cX10_kinds 45 = .ok (.istore 7, 2) := by decide +kernel
theorem dX10_kinds_47 : decode cX10_kinds 47 = .ok (.iconst 0, 1) := by decide +kernel
theorem dX10_kinds_48 : decode cX10_kinds 48 = .ok (.istore 8, 2) := by decide +kernel
theorem dX10_kinds_50 : decode cX10_kinds 50 = .ok (.iload 8, 2) := by decide +kernel
theorem dX10_kinds_52 : decode cX10_kinds 52 = .ok (.iload_n 3, 1) := by decide +kernel
theorem dX10_kinds_53 : decode cX10_kinds 53 = .ok (.ifCond .ne 8, 3) := by decide +kernel
theorem dX10_kinds_56 : decode cX10_kinds 56 = .ok (.bipush 6, 2) := by decide +kernel
theorem dX10_kinds_58 : decode cX10_kinds 58 = .ok (.goto 5, 3) := by decide +kernel
theorem dX10_kinds_61 : decode cX10_kinds 61 = .ok (.bipush 10, 2) := by decide +kernel
theorem dX10_kinds_63 : decode cX10_kinds 63 = .ok (.if_icmp .ge 67, 3) := by decide +kernel
theorem dX10_kinds_66 : decode cX10_kinds 66 = .ok (.aload_n 0, 1) := by decide +kernel
theorem dX10_kinds_67 : decode cX10_kinds 67 = .ok (.getfield 13, 3) := by decide +kernel
theorem dX10_kinds_70 : decode cX10_kinds 70 = .ok (.iload_n 2, 1) := by decide +kernel
theorem dX10_kinds_71 : decode cX10_kinds 71 = .ok (.iload_n 3, 1) := by decide +kernel
theorem dX10_kinds_72 : decode cX10_kinds 72 = .ok (.ifCond .ne 8, 3) := by decide +kernel
theorem dX10_kinds_75 : decode cX10_kinds 75 = .ok (.iload 8, 2) := by decide +kernel
theorem dX10_kinds_77 : decode cX10_kinds 77 = .ok (.goto 5, 3) := by decide +kernel
theorem dX10_kinds_80 : decode cX10_kinds 80 = .ok (.iload 5, 2) := by decide +kernel
theorem dX10_kinds_82 : decode cX10_kinds 82 = .ok (.iastore, 1) := by decide +kernel
theorem dX10_kinds_83 : decode cX10_kinds 83 = .ok (.aload_n 0, 1) := by decide +kernel
theorem dX10_kinds_84 : decode cX10_kinds 84 = .ok (.getfield 16, 3) := by decide +kernel
theorem dX10_kinds_87 : decode cX10_kinds 87 = .ok (.iload_n 2, 1) := by decide +kernel
theorem dX10_kinds_88 : decode cX10_kinds 88 = .ok (.iload_n 3, 1) := by decide +kernel
theorem dX10_kinds_89 : decode cX10_kinds 89 = .ok (.iconst 1, 1) := by decide +kernel
theorem dX10_kinds_90 : decode cX10_kinds 90 = .ok (.if_icmp .ne 8, 3) := by decide +kernel
theorem dX10_kinds_93 : decode cX10_kinds 93 = .ok (.iload 8, 2) := by decide +kernel
theorem dX10_kinds_95 : decode cX10_kinds 95 = .ok (.goto 5, 3) := by decide +kernel
theorem dX10_kinds_98 : decode cX10_kinds 98 = .ok (.iload 6, 2) := by decide +kernel
theorem dX10_kinds_100 : decode cX10_kinds 100 = .ok (.iastore, 1) := by decide +kernel
theorem dX10_kinds_101 : decode cX10_kinds 101 = .ok (.iload 7, 2) := by decide +kernel
theorem dX10_kinds_103 : decode cX10_kinds 103 = .ok (.aload_n 0, 1) := by decide +kernel
theorem dX10_kinds_104 : decode cX10_kinds 104 = .ok (.iload_n 1, 1) := by decide +kernel
theorem dX10_kinds_105 : decode cX10_kinds 105 = .ok (.iload_n 2, 1) := by decide +kernel
theorem dX10_kinds_106 : decode cX10_kinds 106 = .ok (.invokevirtual 325, 3) := by decide +kernel
theorem dX10_kinds_109 : decode cX10_kinds 109 = .ok (.iconst (-1), 1) := by decide +kernel
theorem dX10_kinds_110 : decode cX10_kinds 110 = .ok (.if_icmp .ne 10, 3) := by decide +kernel
theorem dX10_kinds_113 : decode cX10_kinds 113 = .ok (.iconst 1, 1) := by decide +kernel
theorem dX10_kinds_114 : decode cX10_kinds 114 = .ok (.iload 8, 2) := by decide +kernel
theorem dX10_kinds_116 : decode cX10_kinds 116 = .ok (.ishl, 1) := by decide +kernel
theorem dX10_kinds_117 : decode cX10_kinds 117 = .ok (.goto 4, 3) := by decide +kernel
theorem dX10_kinds_120 : decode cX10_kinds 120 = .ok (.iconst 0, 1) := by decide +kernel
theorem dX10_kinds_121 : decode cX10_kinds 121 = .ok (.ior, 1) := by decide +kernel
theorem dX10_kinds_122 : decode cX10_kinds 122 = .ok (.istore 7, 2) := by decide +kernel
theorem dX10_kinds_124 : decode cX10_kinds 124 = .ok (.iinc 8 1, 3) := by decide +kernel
theorem dX10_kinds_127 : decode cX10_kinds 127 = .ok (.goto (-77), 3) := by decide +kernel
theorem dX10_kinds_130 : decode cX10_kinds 130 = .ok (.aload_n 0, 1) := by decide +kernel
theorem dX10_kinds_131 : decode cX10_kinds 131 = .ok (.getfield 13, 3) := by decide +kernel
theorem dX10_kinds_134 : decode cX10_kinds 134 = .ok (.iload_n 2, 1) := by decide +kernel
theorem dX10_kinds_135 : decode cX10_kinds 135 = .ok (.iload 5, 2) := by decide +kernel
theorem dX10_kinds_137 : decode cX10_kinds 137 = .ok (.iastore, 1) := by decide +kernel
theorem dX10_kinds_138 : decode cX10_kinds 138 = .ok (.aload_n 0, 1) := by decide +kernel
theorem dX10_kinds_139 : decode cX10_kinds 139 = .ok (.getfield 16, 3) := by decide +kernel
theorem dX10_kinds_142 : decode cX10_kinds 142 = .ok (.iload_n 2, 1) := by decide +kernel
theorem dX10_kinds_143 : decode cX10_kinds 143 = .ok (.iload 6, 2) := by decide +kernel
theorem dX10_kinds_145 : decode cX10_kinds 145 = .ok (.iastore, 1) := by decide +kernel
theorem dX10_kinds_146 : decode cX10_kinds 146 = .ok (.iload 7, 2) := by decide +kernel
theorem dX10_kinds_148 : decode cX10_kinds 148 = .ok (.ireturn, 1) := by decide +kernel
theorem dX10_laws_0 : decode cX10_laws 0 = .ok (.aload_n 0, 1) := by decide +kernel
theorem dX10_laws_1 : decode cX10_laws 1 = .ok (.iload_n 1, 1) := by decide +kernel
theorem dX10_laws_2 : decode cX10_laws 2 = .ok (.iload_n 2, 1) := by decide +kernel
theorem dX10_laws_3 : decode cX10_laws 3 = .ok (.invokevirtual 322, 3) := by decide +kernel
theorem dX10_laws_6 : decode cX10_laws 6 = .ok (.istore_n 3, 1) := by decide +kernel
theorem dX10_laws_7 : decode cX10_laws 7 = .ok (.iload_n 3, 1) := by decide +kernel
theorem dX10_laws_8 : decode cX10_laws 8 = .ok (.ifCond .eq 5, 3) := by decide +kernel
theorem dX10_laws_11 : decode cX10_laws 11 = .ok (.iload_n 3, 1) := by decide +kernel
theorem dX10_laws_12 : decode cX10_laws 12 = .ok (.ireturn, 1) := by decide +kernel
theorem dX10_laws_13 : decode cX10_laws 13 = .ok (.aload_n 0, 1) := by decide +kernel
theorem dX10_laws_14 : decode cX10_laws 14 = .ok (.getfield 118, 3) := by decide +kernel
theorem dX10_laws_17 : decode cX10_laws 17 = .ok (.istore 4, 2) := by decide +kernel
theorem dX10_laws_19 : decode cX10_laws 19 = .ok (.iconst 0, 1) := by decide +kernel
theorem dX10_laws_20 : decode cX10_laws 20 = .ok (.istore 5, 2) := by decide +kernel
theorem dX10_laws_22 : decode cX10_laws 22 = .ok (.iconst 0, 1) := by decide +kernel
theorem dX10_laws_23 : decode cX10_laws 23 = .ok (.istore 6, 2) := by decide +kernel
theorem dX10_laws_25 : decode cX10_laws 25 = .ok (.iload 6, 2) := by decide +kernel
theorem dX10_laws_27 : decode cX10_laws 27 = .ok (.aload_n 0, 1) := by decide +kernel
theorem dX10_laws_28 : decode cX10_laws 28 = .ok (.getfield 115, 3) := by decide +kernel
theorem dX10_laws_31 : decode cX10_laws 31 = .ok (.if_icmp .ge 38, 3) := by decide +kernel
theorem dX10_laws_34 : decode cX10_laws 34 = .ok (.aload_n 0, 1) := by decide +kernel
theorem dX10_laws_35 : decode cX10_laws 35 = .ok (.iload 6, 2) := by decide +kernel
theorem dX10_laws_37 : decode cX10_laws 37 = .ok (.putfield 118, 3) := by decide +kernel
theorem dX10_laws_40 : decode cX10_laws 40 = .ok (.iload 5, 2) := by decide +kernel
theorem dX10_laws_42 : decode cX10_laws 42 = .ok (.aload_n 0, 1) := by decide +kernel
theorem dX10_laws_43 : decode cX10_laws 43 = .ok (.iload_n 1, 1) := by decide +kernel
theorem dX10_laws_44 : decode cX10_laws 44 = .ok (.iload_n 2, 1) := by decide +kernel
theorem dX10_laws_45 : decode cX10_laws 45 = .ok (.invokevirtual 325, 3) := by decide +kernel
theorem dX10_laws_48 : decode cX10_laws 48 = .ok (.iconst (-1), 1) := by decide +kernel
theorem dX10_laws_49 : decode cX10_laws 49 = .ok (.if_icmp .ne 10, 3) := by decide +kernel
theorem dX10_laws_52 : decode cX10_laws 52 = .ok (.iconst 1, 1) := by decide +kernel
theorem dX10_laws_53 : decode cX10_laws 53 = .ok (.iload 6, 2) := by decide +kernel
theorem dX10_laws_55 : decode cX10_laws 55 = .ok (.ishl, 1) := by decide +kernel
theorem dX10_laws_56 : decode cX10_laws 56 = .ok (.goto 4, 3) := by decide +kernel
theorem dX10_laws_59 : decode cX10_laws 59 = .ok (.iconst 0, 1) := by decide +kernel
theorem dX10_laws_60 : decode cX10_laws 60 = .ok (.ior, 1) := by decide +kernel
theorem dX10_laws_61 : decode cX10_laws 61 = .ok (.istore 5, 2) := by decide +kernel
theorem dX10_laws_63 : decode cX10_laws 63 = .ok (.iinc 6 1, 3) := by decide +kernel
theorem dX10_laws_66 : decode cX10_laws 66 = .ok (.goto (-41), 3) := by decide +kernel
theorem dX10_laws_69 : decode cX10_laws 69 = .ok (.aload_n 0, 1) := by decide +kernel
theorem dX10_laws_70 : decode cX10_laws 70 = .ok (.iload 4, 2) := by decide +kernel
theorem dX10_laws_72 : decode cX10_laws 72 = .ok (.putfield 118, 3) := by decide +kernel
theorem dX10_laws_75 : decode cX10_laws 75 = .ok (.iload 5, 2) := by decide +kernel
theorem dX10_laws_77 : decode cX10_laws 77 = .ok (.ireturn, 1) := by decide +kernel
theorem dX10_film_0 : decode cX10_film 0 = .ok (.iload_n 1, 1) := by decide +kernel
theorem dX10_film_1 : decode cX10_film 1 = .ok (.iconst 0, 1) := by decide +kernel
theorem dX10_film_2 : decode cX10_film 2 = .ok (.iconst 3, 1) := by decide +kernel
theorem dX10_film_3 : decode cX10_film 3 = .ok (.invokestatic 108, 3) := by decide +kernel
theorem dX10_film_6 : decode cX10_film 6 = .ok (.ifCond .ne 6, 3) := by decide +kernel
theorem dX10_film_9 : decode cX10_film 9 = .ok (.bipush (-2), 2) := by decide +kernel
theorem dX10_film_11 : decode cX10_film 11 = .ok (.ireturn, 1) := by decide +kernel
theorem dX10_film_12 : decode cX10_film 12 = .ok (.aload_n 0, 1) := by decide +kernel
theorem dX10_film_13 : decode cX10_film 13 = .ok (.iload_n 2, 1) := by decide +kernel
theorem dX10_film_14 : decode cX10_film 14 = .ok (.invokevirtual 204, 3) := by decide +kernel
theorem dX10_film_17 : decode cX10_film 17 = .ok (.ifCond .ne 6, 3) := by decide +kernel
theorem dX10_film_20 : decode cX10_film 20 = .ok (.bipush (-5), 2) := by decide +kernel
theorem dX10_film_22 : decode cX10_film 22 = .ok (.ireturn, 1) := by decide +kernel
theorem dX10_film_23 : decode cX10_film 23 = .ok (.iload_n 3, 1) := by decide +kernel
theorem dX10_film_24 : decode cX10_film 24 = .ok (.iconst 0, 1) := by decide +kernel
theorem dX10_film_25 : decode cX10_film 25 = .ok (.bipush 8, 2) := by decide +kernel
theorem dX10_film_27 : decode cX10_film 27 = .ok (.invokestatic 108, 3) := by decide +kernel
theorem dX10_film_30 : decode cX10_film 30 = .ok (.ifCond .ne 6, 3) := by decide +kernel
theorem dX10_film_33 : decode cX10_film 33 = .ok (.bipush (-7), 2) := by decide +kernel
theorem dX10_film_35 : decode cX10_film 35 = .ok (.ireturn, 1) := by decide +kernel
theorem dX10_film_36 : decode cX10_film 36 = .ok (.aload_n 0, 1) := by decide +kernel
theorem dX10_film_37 : decode cX10_film 37 = .ok (.bipush 40, 2) := by decide +kernel
theorem dX10_film_39 : decode cX10_film 39 = .ok (.invokevirtual 253, 3) := by decide +kernel
theorem dX10_film_42 : decode cX10_film 42 = .ok (.aload_n 0, 1) := by decide +kernel
theorem dX10_film_43 : decode cX10_film 43 = .ok (.getfield 40, 3) := by decide +kernel
theorem dX10_film_46 : decode cX10_film 46 = .ok (.iload_n 1, 1) := by decide +kernel
theorem dX10_film_47 : decode cX10_film 47 = .ok (.iconst 2, 1) := by decide +kernel
theorem dX10_film_48 : decode cX10_film 48 = .ok (.iastore, 1) := by decide +kernel
theorem dX10_film_49 : decode cX10_film 49 = .ok (.aload_n 0, 1) := by decide +kernel
theorem dX10_film_50 : decode cX10_film 50 = .ok (.getfield 43, 3) := by decide +kernel
theorem dX10_film_53 : decode cX10_film 53 = .ok (.iload_n 1, 1) := by decide +kernel
theorem dX10_film_54 : decode cX10_film 54 = .ok (.iload_n 3, 1) := by decide +kernel
theorem dX10_film_55 : decode cX10_film 55 = .ok (.iastore, 1) := by decide +kernel
theorem dX10_film_56 : decode cX10_film 56 = .ok (.iconst 0, 1) := by decide +kernel
theorem dX10_film_57 : decode cX10_film 57 = .ok (.istore 4, 2) := by decide +kernel
theorem dX10_film_59 : decode cX10_film 59 = .ok (.iload 4, 2) := by decide +kernel
theorem dX10_film_61 : decode cX10_film 61 = .ok (.bipush 40, 2) := by decide +kernel
theorem dX10_film_63 : decode cX10_film 63 = .ok (.if_icmp .ge 46, 3) := by decide +kernel
theorem dX10_film_66 : decode cX10_film 66 = .ok (.aload_n 0, 1) := by decide +kernel
theorem dX10_film_67 : decode cX10_film 67 = .ok (.getfield 46, 3) := by decide +kernel
theorem dX10_film_70 : decode cX10_film 70 = .ok (.bipush 40, 2) := by decide +kernel
theorem dX10_film_72 : decode cX10_film 72 = .ok (.iload_n 1, 1) := by decide +kernel
theorem dX10_film_73 : decode cX10_film 73 = .ok (.imul, 1) := by decide +kernel
theorem dX10_film_74 : decode cX10_film 74 = .ok (.iload 4, 2) := by decide +kernel
theorem dX10_film_76 : decode cX10_film 76 = .ok (.iadd, 1) := by decide +kernel
theorem dX10_film_77 : decode cX10_film 77 = .ok (.iload 4, 2) := by decide +kernel
theorem dX10_film_79 : decode cX10_film 79 = .ok (.iload_n 3, 1) := by decide +kernel
theorem dX10_film_80 : decode cX10_film 80 = .ok (.if_icmp .ge 21, 3) := by decide +kernel
theorem dX10_film_83 : decode cX10_film 83 = .ok (.aload_n 0, 1) := by decide +kernel
theorem dX10_film_84 : decode cX10_film 84 = .ok (.getfield 76, 3) := by decide +kernel
theorem dX10_film_87 : decode cX10_film 87 = .ok (.iconst 5, 1) := by decide +kernel
theorem dX10_film_88 : decode cX10_film 88 = .ok (.iconst 5, 1) := by decide +kernel
theorem dX10_film_89 : decode cX10_film 89 = .ok (.iload 4, 2) := by decide +kernel
theorem dX10_film_91 : decode cX10_film 91 = .ok (.imul, 1) := by decide +kernel
theorem dX10_film_92 : decode cX10_film 92 = .ok (.iconst 4, 1) := by decide +kernel
theorem dX10_film_93 : decode cX10_film 93 = .ok (.iadd, 1) := by decide +kernel
theorem dX10_film_94 : decode cX10_film 94 = .ok (.imul, 1) := by decide +kernel
theorem dX10_film_95 : decode cX10_film 95 = .ok (.iload_n 2, 1) := by decide +kernel
theorem dX10_film_96 : decode cX10_film 96 = .ok (.iadd, 1) := by decide +kernel
theorem dX10_film_97 : decode cX10_film 97 = .ok (.iaload, 1) := by decide +kernel
theorem dX10_film_98 : decode cX10_film 98 = .ok (.goto 4, 3) := by decide +kernel
theorem dX10_film_101 : decode cX10_film 101 = .ok (.iconst 0, 1) := by decide +kernel
theorem dX10_film_102 : decode cX10_film 102 = .ok (.iastore, 1) := by decide +kernel
theorem dX10_film_103 : decode cX10_film 103 = .ok (.iinc 4 1, 3) := by decide +kernel
theorem dX10_film_106 : decode cX10_film 106 = .ok (.goto (-47), 3) := by decide +kernel
theorem dX10_film_109 : decode cX10_film 109 = .ok (.iload_n 3, 1) := by decide +kernel
theorem dX10_film_110 : decode cX10_film 110 = .ok (.ireturn, 1) := by decide +kernel
theorem dX10_redBy_0 : decode cX10_redBy 0 = .ok (.iload_n 1, 1) := by decide +kernel
theorem dX10_redBy_1 : decode cX10_redBy 1 = .ok (.i2l, 1) := by decide +kernel
theorem dX10_redBy_2 : decode cX10_redBy 2 = .ok (.lconst 1, 1) := by decide +kernel
theorem dX10_redBy_3 : decode cX10_redBy 3 = .ok (.ladd, 1) := by decide +kernel
theorem dX10_redBy_4 : decode cX10_redBy 4 = .ok (.lstore_n 3, 1) := by decide +kernel
theorem dX10_redBy_5 : decode cX10_redBy 5 = .ok (.aload_n 0, 1) := by decide +kernel
theorem dX10_redBy_6 : decode cX10_redBy 6 = .ok (.iload_n 2, 1) := by decide +kernel
theorem dX10_redBy_7 : decode cX10_redBy 7 = .ok (.putfield 244, 3) := by decide +kernel
theorem dX10_redBy_10 : decode cX10_redBy 10 = .ok (.iconst 0, 1) := by decide +kernel
theorem dX10_redBy_11 : decode cX10_redBy 11 = .ok (.istore 5, 2) := by decide +kernel
theorem dX10_redBy_13 : decode cX10_redBy 13 = .ok (.iload 5, 2) := by decide +kernel
theorem dX10_redBy_15 : decode cX10_redBy 15 = .ok (.aload_n 0, 1) := by decide +kernel
theorem dX10_redBy_16 : decode cX10_redBy 16 = .ok (.getfield 105, 3) := by decide +kernel
theorem dX10_redBy_19 : decode cX10_redBy 19 = .ok (.if_icmp .ge 32, 3) := by decide +kernel
theorem dX10_redBy_22 : decode cX10_redBy 22 = .ok (.lload_n 3, 1) := by decide +kernel
theorem dX10_redBy_23 : decode cX10_redBy 23 = .ok (.ldc2_w 328, 3) := by decide +kernel
theorem dX10_redBy_26 : decode cX10_redBy 26 = .ok (.lmul, 1) := by decide +kernel
theorem dX10_redBy_27 : decode cX10_redBy 27 = .ok (.ldc2_w 330, 3) := by decide +kernel
theorem dX10_redBy_30 : decode cX10_redBy 30 = .ok (.lrem, 1) := by decide +kernel
theorem dX10_redBy_31 : decode cX10_redBy 31 = .ok (.lstore_n 3, 1) := by decide +kernel
theorem dX10_redBy_32 : decode cX10_redBy 32 = .ok (.aload_n 0, 1) := by decide +kernel
theorem dX10_redBy_33 : decode cX10_redBy 33 = .ok (.getfield 92, 3) := by decide +kernel
theorem dX10_redBy_36 : decode cX10_redBy 36 = .ok (.iload 5, 2) := by decide +kernel
theorem dX10_redBy_38 : decode cX10_redBy 38 = .ok (.lload_n 3, 1) := by decide +kernel
theorem dX10_redBy_39 : decode cX10_redBy 39 = .ok (.ldc2_w 332, 3) := by decide +kernel
theorem dX10_redBy_42 : decode cX10_redBy 42 = .ok (.lrem, 1) := by decide +kernel
theorem dX10_redBy_43 : decode cX10_redBy 43 = .ok (.l2i, 1) := by decide +kernel
theorem dX10_redBy_44 : decode cX10_redBy 44 = .ok (.iastore, 1) := by decide +kernel
theorem dX10_redBy_45 : decode cX10_redBy 45 = .ok (.iinc 5 1, 3) := by decide +kernel
theorem dX10_redBy_48 : decode cX10_redBy 48 = .ok (.goto (-35), 3) := by decide +kernel
theorem dX10_redBy_51 : decode cX10_redBy 51 = .ok (.aload_n 0, 1) := by decide +kernel
theorem dX10_redBy_52 : decode cX10_redBy 52 = .ok (.invokevirtual 307, 3) := by decide +kernel
theorem dX10_redBy_55 : decode cX10_redBy 55 = .ok (.istore 5, 2) := by decide +kernel
theorem dX10_redBy_57 : decode cX10_redBy 57 = .ok (.iconst 0, 1) := by decide +kernel
theorem dX10_redBy_58 : decode cX10_redBy 58 = .ok (.istore 6, 2) := by decide +kernel
theorem dX10_redBy_60 : decode cX10_redBy 60 = .ok (.iload 6, 2) := by decide +kernel
theorem dX10_redBy_62 : decode cX10_redBy 62 = .ok (.iconst 5, 1) := by decide +kernel
theorem dX10_redBy_63 : decode cX10_redBy 63 = .ok (.if_icmp .ge 17, 3) := by decide +kernel
theorem dX10_redBy_66 : decode cX10_redBy 66 = .ok (.aload_n 0, 1) := by decide +kernel
theorem dX10_redBy_67 : decode cX10_redBy 67 = .ok (.getfield 92, 3) := by decide +kernel
theorem dX10_redBy_70 : decode cX10_redBy 70 = .ok (.iload 6, 2) := by decide +kernel
theorem dX10_redBy_72 : decode cX10_redBy 72 = .ok (.iconst (-1), 1) := by decide +kernel
theorem dX10_redBy_73 : decode cX10_redBy 73 = .ok (.iastore, 1) := by decide +kernel
theorem dX10_redBy_74 : decode cX10_redBy 74 = .ok (.iinc 6 1, 3) := by decide +kernel
theorem dX10_redBy_77 : decode cX10_redBy 77 = .ok (.goto (-17), 3) := by decide +kernel
theorem dX10_redBy_80 : decode cX10_redBy 80 = .ok (.iload 5, 2) := by decide +kernel
theorem dX10_redBy_82 : decode cX10_redBy 82 = .ok (.ireturn, 1) := by decide +kernel
theorem dX10_drawn_0 : decode cX10_drawn 0 = .ok (.iload_n 1, 1) := by decide +kernel
theorem dX10_drawn_1 : decode cX10_drawn 1 = .ok (.iconst 0, 1) := by decide +kernel
theorem dX10_drawn_2 : decode cX10_drawn 2 = .ok (.ldc_w 334, 3) := by decide +kernel
theorem dX10_drawn_5 : decode cX10_drawn 5 = .ok (.invokestatic 108, 3) := by decide +kernel
theorem dX10_drawn_8 : decode cX10_drawn 8 = .ok (.ifCond .eq 19, 3) := by decide +kernel
theorem dX10_drawn_11 : decode cX10_drawn 11 = .ok (.iload_n 2, 1) := by decide +kernel
theorem dX10_drawn_12 : decode cX10_drawn 12 = .ok (.invokestatic 191, 3) := by decide +kernel
theorem dX10_drawn_15 : decode cX10_drawn 15 = .ok (.ifCond .eq 12, 3) := by decide +kernel
theorem dX10_drawn_18 : decode cX10_drawn 18 = .ok (.aload_n 0, 1) := by decide +kernel
theorem dX10_drawn_19 : decode cX10_drawn 19 = .ok (.iload_n 1, 1) := by decide +kernel
theorem dX10_drawn_20 : decode cX10_drawn 20 = .ok (.iload_n 2, 1) := by decide +kernel
theorem dX10_drawn_21 : decode cX10_drawn 21 = .ok (.invokevirtual 335, 3) := by decide +kernel
theorem dX10_drawn_24 : decode cX10_drawn 24 = .ok (.goto 5, 3) := by decide +kernel
theorem dX10_drawn_27 : decode cX10_drawn 27 = .ok (.bipush (-2), 2) := by decide +kernel
theorem dX10_drawn_29 : decode cX10_drawn 29 = .ok (.ireturn, 1) := by decide +kernel
theorem dX10_odds_0 : decode cX10_odds 0 = .ok (.iload_n 1, 1) := by decide +kernel
theorem dX10_odds_1 : decode cX10_odds 1 = .ok (.iconst 0, 1) := by decide +kernel
theorem dX10_odds_2 : decode cX10_odds 2 = .ok (.ldc_w 334, 3) := by decide +kernel
theorem dX10_odds_5 : decode cX10_odds 5 = .ok (.invokestatic 108, 3) := by decide +kernel
theorem dX10_odds_8 : decode cX10_odds 8 = .ok (.ifCond .eq 50, 3) := by decide +kernel
theorem dX10_odds_11 : decode cX10_odds 11 = .ok (.iload_n 2, 1) := by decide +kernel
theorem dX10_odds_12 : decode cX10_odds 12 = .ok (.iconst 1, 1) := by decide +kernel
theorem dX10_odds_13 : decode cX10_odds 13 = .ok (.bipush 20, 2) := by decide +kernel
theorem dX10_odds_15 : decode cX10_odds 15 = .ok (.invokestatic 108, 3) := by decide +kernel
theorem dX10_odds_18 : decode cX10_odds 18 = .ok (.ifCond .eq 40, 3) := by decide +kernel
theorem dX10_odds_21 : decode cX10_odds 21 = .ok (.iload_n 3, 1) := by decide +kernel
theorem dX10_odds_22 : decode cX10_odds 22 = .ok (.invokestatic 191, 3) := by decide +kernel
theorem dX10_odds_25 : decode cX10_odds 25 = .ok (.ifCond .eq 33, 3) := by decide +kernel
theorem dX10_odds_28 : decode cX10_odds 28 = .ok (.iload 4, 2) := by decide +kernel
theorem dX10_odds_30 : decode cX10_odds 30 = .ok (.ifCond .lt 28, 3) := by decide +kernel
theorem dX10_odds_33 : decode cX10_odds 33 = .ok (.aload_n 0, 1) := by decide +kernel
theorem dX10_odds_34 : decode cX10_odds 34 = .ok (.iload 4, 2) := by decide +kernel
theorem dX10_odds_36 : decode cX10_odds 36 = .ok (.bipush 10, 2) := by decide +kernel
theorem dX10_odds_38 : decode cX10_odds 38 = .ok (.idiv, 1) := by decide +kernel
theorem dX10_odds_39 : decode cX10_odds 39 = .ok (.invokevirtual 204, 3) := by decide +kernel
theorem dX10_odds_42 : decode cX10_odds 42 = .ok (.ifCond .eq 16, 3) := by decide +kernel
theorem dX10_odds_45 : decode cX10_odds 45 = .ok (.iload 4, 2) := by decide +kernel
theorem dX10_odds_47 : decode cX10_odds 47 = .ok (.bipush 10, 2) := by decide +kernel
theorem dX10_odds_49 : decode cX10_odds 49 = .ok (.irem, 1) := by decide +kernel
theorem dX10_odds_50 : decode cX10_odds 50 = .ok (.iconst 2, 1) := by decide +kernel
theorem dX10_odds_51 : decode cX10_odds 51 = .ok (.if_icmp .ge 7, 3) := by decide +kernel
theorem dX10_odds_54 : decode cX10_odds 54 = .ok (.iconst 1, 1) := by decide +kernel
theorem dX10_odds_55 : decode cX10_odds 55 = .ok (.goto 4, 3) := by decide +kernel
theorem dX10_odds_58 : decode cX10_odds 58 = .ok (.iconst 0, 1) := by decide +kernel
theorem dX10_odds_59 : decode cX10_odds 59 = .ok (.istore 5, 2) := by decide +kernel
theorem dX10_odds_61 : decode cX10_odds 61 = .ok (.iload 5, 2) := by decide +kernel
theorem dX10_odds_63 : decode cX10_odds 63 = .ok (.ifCond .ne 7, 3) := by decide +kernel
theorem dX10_odds_66 : decode cX10_odds 66 = .ok (.ldc2_w 313, 3) := by decide +kernel
theorem dX10_odds_69 : decode cX10_odds 69 = .ok (.lreturn, 1) := by decide +kernel
theorem dX10_odds_70 : decode cX10_odds 70 = .ok (.lconst 0, 1) := by decide +kernel
theorem dX10_odds_71 : decode cX10_odds 71 = .ok (.lstore 6, 2) := by decide +kernel
theorem dX10_odds_73 : decode cX10_odds 73 = .ok (.iconst 0, 1) := by decide +kernel
theorem dX10_odds_74 : decode cX10_odds 74 = .ok (.istore 8, 2) := by decide +kernel
theorem dX10_odds_76 : decode cX10_odds 76 = .ok (.iload 8, 2) := by decide +kernel
theorem dX10_odds_78 : decode cX10_odds 78 = .ok (.iload_n 2, 1) := by decide +kernel
theorem dX10_odds_79 : decode cX10_odds 79 = .ok (.if_icmp .ge 32, 3) := by decide +kernel
theorem dX10_odds_82 : decode cX10_odds 82 = .ok (.lload 6, 2) := by decide +kernel
theorem dX10_odds_84 : decode cX10_odds 84 = .ok (.aload_n 0, 1) := by decide +kernel
theorem dX10_odds_85 : decode cX10_odds 85 = .ok (.iload_n 1, 1) := by decide +kernel
theorem dX10_odds_86 : decode cX10_odds 86 = .ok (.iload 8, 2) := by decide +kernel
theorem dX10_odds_88 : decode cX10_odds 88 = .ok (.iadd, 1) := by decide +kernel
theorem dX10_odds_89 : decode cX10_odds 89 = .ok (.iload_n 3, 1) := by decide +kernel
theorem dX10_odds_90 : decode cX10_odds 90 = .ok (.invokevirtual 335, 3) := by decide +kernel
theorem dX10_odds_93 : decode cX10_odds 93 = .ok (.iload 4, 2) := by decide +kernel
theorem dX10_odds_95 : decode cX10_odds 95 = .ok (.bipush 10, 2) := by decide +kernel
theorem dX10_odds_97 : decode cX10_odds 97 = .ok (.idiv, 1) := by decide +kernel
theorem dX10_odds_98 : decode cX10_odds 98 = .ok (.ishr, 1) := by decide +kernel
theorem dX10_odds_99 : decode cX10_odds 99 = .ok (.iconst 1, 1) := by decide +kernel
theorem dX10_odds_100 : decode cX10_odds 100 = .ok (.iand, 1) := by decide +kernel
theorem dX10_odds_101 : decode cX10_odds 101 = .ok (.i2l, 1) := by decide +kernel
theorem dX10_odds_102 : decode cX10_odds 102 = .ok (.ladd, 1) := by decide +kernel
theorem dX10_odds_103 : decode cX10_odds 103 = .ok (.lstore 6, 2) := by decide +kernel
theorem dX10_odds_105 : decode cX10_odds 105 = .ok (.iinc 8 1, 3) := by decide +kernel
theorem dX10_odds_108 : decode cX10_odds 108 = .ok (.goto (-32), 3) := by decide +kernel
theorem dX10_odds_111 : decode cX10_odds 111 = .ok (.lload 6, 2) := by decide +kernel
theorem dX10_odds_113 : decode cX10_odds 113 = .ok (.iload_n 2, 1) := by decide +kernel
theorem dX10_odds_114 : decode cX10_odds 114 = .ok (.i2l, 1) := by decide +kernel
theorem dX10_odds_115 : decode cX10_odds 115 = .ok (.iload 4, 2) := by decide +kernel
theorem dX10_odds_117 : decode cX10_odds 117 = .ok (.bipush 10, 2) := by decide +kernel
theorem dX10_odds_119 : decode cX10_odds 119 = .ok (.irem, 1) := by decide +kernel
theorem dX10_odds_120 : decode cX10_odds 120 = .ok (.invokestatic 315, 3) := by decide +kernel
theorem dX10_odds_123 : decode cX10_odds 123 = .ok (.lreturn, 1) := by decide +kernel
theorem dX10_image_0 : decode cX10_image 0 = .ok (.aload_n 0, 1) := by decide +kernel
theorem dX10_image_1 : decode cX10_image 1 = .ok (.iconst 1, 1) := by decide +kernel
theorem dX10_image_2 : decode cX10_image 2 = .ok (.putfield 338, 3) := by decide +kernel
theorem dX10_image_5 : decode cX10_image 5 = .ok (.aload_n 0, 1) := by decide +kernel
theorem dX10_image_6 : decode cX10_image 6 = .ok (.aload_n 0, 1) := by decide +kernel
theorem dX10_image_7 : decode cX10_image 7 = .ok (.getfield 105, 3) := by decide +kernel
theorem dX10_image_10 : decode cX10_image 10 = .ok (.putfield 342, 3) := by decide +kernel
theorem dX10_image_13 : decode cX10_image 13 = .ok (.aload_n 0, 1) := by decide +kernel
theorem dX10_image_14 : decode cX10_image 14 = .ok (.aload_n 0, 1) := by decide +kernel
theorem dX10_image_15 : decode cX10_image 15 = .ok (.getfield 112, 3) := by decide +kernel
theorem dX10_image_18 : decode cX10_image 18 = .ok (.putfield 345, 3) := by decide +kernel
theorem dX10_image_21 : decode cX10_image 21 = .ok (.aload_n 0, 1) := by decide +kernel
theorem dX10_image_22 : decode cX10_image 22 = .ok (.aload_n 0, 1) := by decide +kernel
theorem dX10_image_23 : decode cX10_image 23 = .ok (.getfield 118, 3) := by decide +kernel
theorem dX10_image_26 : decode cX10_image 26 = .ok (.putfield 348, 3) := by decide +kernel
theorem dX10_image_29 : decode cX10_image 29 = .ok (.iconst 0, 1) := by decide +kernel
theorem dX10_image_30 : decode cX10_image 30 = .ok (.istore_n 1, 1) := by decide +kernel
theorem dX10_image_31 : decode cX10_image 31 = .ok (.iload_n 1, 1) := by decide +kernel
theorem dX10_image_32 : decode cX10_image 32 = .ok (.iconst 5, 1) := by decide +kernel
theorem dX10_image_33 : decode cX10_image 33 = .ok (.if_icmp .ge 35, 3) := by decide +kernel
theorem dX10_image_36 : decode cX10_image 36 = .ok (.aload_n 0, 1) := by decide +kernel
theorem dX10_image_37 : decode cX10_image 37 = .ok (.getfield 37, 3) := by decide +kernel
theorem dX10_image_40 : decode cX10_image 40 = .ok (.iload_n 1, 1) := by decide +kernel
theorem dX10_image_41 : decode cX10_image 41 = .ok (.aload_n 0, 1) := by decide +kernel
theorem dX10_image_42 : decode cX10_image 42 = .ok (.getfield 19, 3) := by decide +kernel
theorem dX10_image_45 : decode cX10_image 45 = .ok (.iload_n 1, 1) := by decide +kernel
theorem dX10_image_46 : decode cX10_image 46 = .ok (.iaload, 1) := by decide +kernel
theorem dX10_image_47 : decode cX10_image 47 = .ok (.iastore, 1) := by decide +kernel
theorem dX10_image_48 : decode cX10_image 48 = .ok (.aload_n 0, 1) := by decide +kernel
theorem dX10_image_49 : decode cX10_image 49 = .ok (.getfield 37, 3) := by decide +kernel
theorem dX10_image_52 : decode cX10_image 52 = .ok (.iconst 5, 1) := by decide +kernel
theorem dX10_image_53 : decode cX10_image 53 = .ok (.iload_n 1, 1) := by decide +kernel
theorem dX10_image_54 : decode cX10_image 54 = .ok (.iadd, 1) := by decide +kernel
theorem dX10_image_55 : decode cX10_image 55 = .ok (.aload_n 0, 1) := by decide +kernel
theorem dX10_image_56 : decode cX10_image 56 = .ok (.getfield 22, 3) := by decide +kernel
theorem dX10_image_59 : decode cX10_image 59 = .ok (.iload_n 1, 1) := by decide +kernel
theorem dX10_image_60 : decode cX10_image 60 = .ok (.iaload, 1) := by decide +kernel
theorem dX10_image_61 : decode cX10_image 61 = .ok (.iastore, 1) := by decide +kernel
theorem dX10_image_62 : decode cX10_image 62 = .ok (.iinc 1 1, 3) := by decide +kernel
theorem dX10_image_65 : decode cX10_image 65 = .ok (.goto (-34), 3) := by decide +kernel
theorem dX10_image_68 : decode cX10_image 68 = .ok (.iconst 0, 1) := by decide +kernel
theorem dX10_image_69 : decode cX10_image 69 = .ok (.istore_n 1, 1) := by decide +kernel
theorem dX10_image_70 : decode cX10_image 70 = .ok (.iload_n 1, 1) := by decide +kernel
theorem dX10_image_71 : decode cX10_image 71 = .ok (.bipush 8, 2) := by decide +kernel
theorem dX10_image_73 : decode cX10_image 73 = .ok (.if_icmp .ge 24, 3) := by decide +kernel
theorem dX10_image_76 : decode cX10_image 76 = .ok (.aload_n 0, 1) := by decide +kernel
theorem dX10_image_77 : decode cX10_image 77 = .ok (.getfield 37, 3) := by decide +kernel
theorem dX10_image_80 : decode cX10_image 80 = .ok (.bipush 10, 2) := by decide +kernel
theorem dX10_image_82 : decode cX10_image 82 = .ok (.iload_n 1, 1) := by decide +kernel
theorem dX10_image_83 : decode cX10_image 83 = .ok (.iadd, 1) := by decide +kernel
theorem dX10_image_84 : decode cX10_image 84 = .ok (.aload_n 0, 1) := by decide +kernel
theorem dX10_image_85 : decode cX10_image 85 = .ok (.getfield 7, 3) := by decide +kernel
theorem dX10_image_88 : decode cX10_image 88 = .ok (.iload_n 1, 1) := by decide +kernel
theorem dX10_image_89 : decode cX10_image 89 = .ok (.iaload, 1) := by decide +kernel
theorem dX10_image_90 : decode cX10_image 90 = .ok (.iastore, 1) := by decide +kernel
theorem dX10_image_91 : decode cX10_image 91 = .ok (.iinc 1 1, 3) := by decide +kernel
theorem dX10_image_94 : decode cX10_image 94 = .ok (.goto (-24), 3) := by decide +kernel
theorem dX10_image_97 : decode cX10_image 97 = .ok (.iconst 0, 1) := by decide +kernel
theorem dX10_image_98 : decode cX10_image 98 = .ok (.istore_n 1, 1) := by decide +kernel
theorem dX10_image_99 : decode cX10_image 99 = .ok (.iload_n 1, 1) := by decide +kernel
theorem dX10_image_100 : decode cX10_image 100 = .ok (.bipush 24, 2) := by decide +kernel
theorem dX10_image_102 : decode cX10_image 102 = .ok (.if_icmp .ge 24, 3) := by decide +kernel
theorem dX10_image_105 : decode cX10_image 105 = .ok (.aload_n 0, 1) := by decide +kernel
theorem dX10_image_106 : decode cX10_image 106 = .ok (.getfield 37, 3) := by decide +kernel
theorem dX10_image_109 : decode cX10_image 109 = .ok (.bipush 18, 2) := by decide +kernel
theorem dX10_image_111 : decode cX10_image 111 = .ok (.iload_n 1, 1) := by decide +kernel
theorem dX10_image_112 : decode cX10_image 112 = .ok (.iadd, 1) := by decide +kernel
theorem dX10_image_113 : decode cX10_image 113 = .ok (.aload_n 0, 1) := by decide +kernel
theorem dX10_image_114 : decode cX10_image 114 = .ok (.getfield 25, 3) := by decide +kernel
theorem dX10_image_117 : decode cX10_image 117 = .ok (.iload_n 1, 1) := by decide +kernel
theorem dX10_image_118 : decode cX10_image 118 = .ok (.iaload, 1) := by decide +kernel
theorem dX10_image_119 : decode cX10_image 119 = .ok (.iastore, 1) := by decide +kernel
theorem dX10_image_120 : decode cX10_image 120 = .ok (.iinc 1 1, 3) := by decide +kernel
theorem dX10_image_123 : decode cX10_image 123 = .ok (.goto (-24), 3) := by decide +kernel
theorem dX10_image_126 : decode cX10_image 126 = .ok (.aload_n 0, 1) := by decide +kernel
theorem dX10_image_127 : decode cX10_image 127 = .ok (.getfield 105, 3) := by decide +kernel
theorem dX10_image_130 : decode cX10_image 130 = .ok (.ireturn, 1) := by decide +kernel
theorem dX10_back_0 : decode cX10_back 0 = .ok (.aload_n 0, 1) := by decide +kernel
theorem dX10_back_1 : decode cX10_back 1 = .ok (.getfield 338, 3) := by decide +kernel
theorem dX10_back_4 : decode cX10_back 4 = .ok (.ifCond .ne 6, 3) := by decide +kernel
theorem dX10_back_7 : decode cX10_back 7 = .ok (.bipush (-3), 2) := by decide +kernel
theorem dX10_back_9 : decode cX10_back 9 = .ok (.ireturn, 1) := by decide +kernel
theorem dX10_back_10 : decode cX10_back 10 = .ok (.aload_n 0, 1) := by decide +kernel
theorem dX10_back_11 : decode cX10_back 11 = .ok (.aload_n 0, 1) := by decide +kernel
theorem dX10_back_12 : decode cX10_back 12 = .ok (.getfield 342, 3) := by decide +kernel
theorem dX10_back_15 : decode cX10_back 15 = .ok (.putfield 105, 3) := by decide +kernel
theorem dX10_back_18 : decode cX10_back 18 = .ok (.aload_n 0, 1) := by decide +kernel
theorem dX10_back_19 : decode cX10_back 19 = .ok (.aload_n 0, 1) := by decide +kernel
theorem dX10_back_20 : decode cX10_back 20 = .ok (.getfield 345, 3) := by decide +kernel
theorem dX10_back_23 : decode cX10_back 23 = .ok (.putfield 112, 3) := by decide +kernel
theorem dX10_back_26 : decode cX10_back 26 = .ok (.aload_n 0, 1) := by decide +kernel
theorem dX10_back_27 : decode cX10_back 27 = .ok (.aload_n 0, 1) := by decide +kernel
theorem dX10_back_28 : decode cX10_back 28 = .ok (.getfield 348, 3) := by decide +kernel
theorem dX10_back_31 : decode cX10_back 31 = .ok (.putfield 118, 3) := by decide +kernel
theorem dX10_back_34 : decode cX10_back 34 = .ok (.iconst 0, 1) := by decide +kernel
theorem dX10_back_35 : decode cX10_back 35 = .ok (.istore_n 1, 1) := by decide +kernel
theorem dX10_back_36 : decode cX10_back 36 = .ok (.iload_n 1, 1) := by decide +kernel
theorem dX10_back_37 : decode cX10_back 37 = .ok (.iconst 5, 1) := by decide +kernel
theorem dX10_back_38 : decode cX10_back 38 = .ok (.if_icmp .ge 35, 3) := by decide +kernel
theorem dX10_back_41 : decode cX10_back 41 = .ok (.aload_n 0, 1) := by decide +kernel
theorem dX10_back_42 : decode cX10_back 42 = .ok (.getfield 19, 3) := by decide +kernel
theorem dX10_back_45 : decode cX10_back 45 = .ok (.iload_n 1, 1) := by decide +kernel
theorem dX10_back_46 : decode cX10_back 46 = .ok (.aload_n 0, 1) := by decide +kernel
theorem dX10_back_47 : decode cX10_back 47 = .ok (.getfield 37, 3) := by decide +kernel
theorem dX10_back_50 : decode cX10_back 50 = .ok (.iload_n 1, 1) := by decide +kernel
theorem dX10_back_51 : decode cX10_back 51 = .ok (.iaload, 1) := by decide +kernel
theorem dX10_back_52 : decode cX10_back 52 = .ok (.iastore, 1) := by decide +kernel
theorem dX10_back_53 : decode cX10_back 53 = .ok (.aload_n 0, 1) := by decide +kernel
theorem dX10_back_54 : decode cX10_back 54 = .ok (.getfield 22, 3) := by decide +kernel
theorem dX10_back_57 : decode cX10_back 57 = .ok (.iload_n 1, 1) := by decide +kernel
theorem dX10_back_58 : decode cX10_back 58 = .ok (.aload_n 0, 1) := by decide +kernel
theorem dX10_back_59 : decode cX10_back 59 = .ok (.getfield 37, 3) := by decide +kernel
theorem dX10_back_62 : decode cX10_back 62 = .ok (.iconst 5, 1) := by decide +kernel
theorem dX10_back_63 : decode cX10_back 63 = .ok (.iload_n 1, 1) := by decide +kernel
theorem dX10_back_64 : decode cX10_back 64 = .ok (.iadd, 1) := by decide +kernel
theorem dX10_back_65 : decode cX10_back 65 = .ok (.iaload, 1) := by decide +kernel
theorem dX10_back_66 : decode cX10_back 66 = .ok (.iastore, 1) := by decide +kernel
theorem dX10_back_67 : decode cX10_back 67 = .ok (.iinc 1 1, 3) := by decide +kernel
theorem dX10_back_70 : decode cX10_back 70 = .ok (.goto (-34), 3) := by decide +kernel
theorem dX10_back_73 : decode cX10_back 73 = .ok (.iconst 0, 1) := by decide +kernel
theorem dX10_back_74 : decode cX10_back 74 = .ok (.istore_n 1, 1) := by decide +kernel
theorem dX10_back_75 : decode cX10_back 75 = .ok (.iload_n 1, 1) := by decide +kernel
theorem dX10_back_76 : decode cX10_back 76 = .ok (.bipush 8, 2) := by decide +kernel
theorem dX10_back_78 : decode cX10_back 78 = .ok (.if_icmp .ge 24, 3) := by decide +kernel
theorem dX10_back_81 : decode cX10_back 81 = .ok (.aload_n 0, 1) := by decide +kernel
theorem dX10_back_82 : decode cX10_back 82 = .ok (.getfield 7, 3) := by decide +kernel
theorem dX10_back_85 : decode cX10_back 85 = .ok (.iload_n 1, 1) := by decide +kernel
theorem dX10_back_86 : decode cX10_back 86 = .ok (.aload_n 0, 1) := by decide +kernel
theorem dX10_back_87 : decode cX10_back 87 = .ok (.getfield 37, 3) := by decide +kernel
theorem dX10_back_90 : decode cX10_back 90 = .ok (.bipush 10, 2) := by decide +kernel
theorem dX10_back_92 : decode cX10_back 92 = .ok (.iload_n 1, 1) := by decide +kernel
theorem dX10_back_93 : decode cX10_back 93 = .ok (.iadd, 1) := by decide +kernel
theorem dX10_back_94 : decode cX10_back 94 = .ok (.iaload, 1) := by decide +kernel
theorem dX10_back_95 : decode cX10_back 95 = .ok (.iastore, 1) := by decide +kernel
theorem dX10_back_96 : decode cX10_back 96 = .ok (.iinc 1 1, 3) := by decide +kernel
theorem dX10_back_99 : decode cX10_back 99 = .ok (.goto (-24), 3) := by decide +kernel
theorem dX10_back_102 : decode cX10_back 102 = .ok (.iconst 0, 1) := by decide +kernel
theorem dX10_back_103 : decode cX10_back 103 = .ok (.istore_n 1, 1) := by decide +kernel
theorem dX10_back_104 : decode cX10_back 104 = .ok (.iload_n 1, 1) := by decide +kernel
theorem dX10_back_105 : decode cX10_back 105 = .ok (.bipush 24, 2) := by decide +kernel
theorem dX10_back_107 : decode cX10_back 107 = .ok (.if_icmp .ge 24, 3) := by decide +kernel
theorem dX10_back_110 : decode cX10_back 110 = .ok (.aload_n 0, 1) := by decide +kernel
theorem dX10_back_111 : decode cX10_back 111 = .ok (.getfield 25, 3) := by decide +kernel
theorem dX10_back_114 : decode cX10_back 114 = .ok (.iload_n 1, 1) := by decide +kernel
theorem dX10_back_115 : decode cX10_back 115 = .ok (.aload_n 0, 1) := by decide +kernel
theorem dX10_back_116 : decode cX10_back 116 = .ok (.getfield 37, 3) := by decide +kernel
theorem dX10_back_119 : decode cX10_back 119 = .ok (.bipush 18, 2) := by decide +kernel
theorem dX10_back_121 : decode cX10_back 121 = .ok (.iload_n 1, 1) := by decide +kernel
theorem dX10_back_122 : decode cX10_back 122 = .ok (.iadd, 1) := by decide +kernel
theorem dX10_back_123 : decode cX10_back 123 = .ok (.iaload, 1) := by decide +kernel
theorem dX10_back_124 : decode cX10_back 124 = .ok (.iastore, 1) := by decide +kernel
theorem dX10_back_125 : decode cX10_back 125 = .ok (.iinc 1 1, 3) := by decide +kernel
theorem dX10_back_128 : decode cX10_back 128 = .ok (.goto (-24), 3) := by decide +kernel
theorem dX10_back_131 : decode cX10_back 131 = .ok (.aload_n 0, 1) := by decide +kernel
theorem dX10_back_132 : decode cX10_back 132 = .ok (.getfield 105, 3) := by decide +kernel
theorem dX10_back_135 : decode cX10_back 135 = .ok (.ireturn, 1) := by decide +kernel
theorem dX10_sheet_0 : decode cX10_sheet 0 = .ok (.iload_n 1, 1) := by decide +kernel
theorem dX10_sheet_1 : decode cX10_sheet 1 = .ok (.iconst 0, 1) := by decide +kernel
theorem dX10_sheet_2 : decode cX10_sheet 2 = .ok (.iconst 3, 1) := by decide +kernel
theorem dX10_sheet_3 : decode cX10_sheet 3 = .ok (.invokestatic 108, 3) := by decide +kernel
theorem dX10_sheet_6 : decode cX10_sheet 6 = .ok (.ifCond .eq 23, 3) := by decide +kernel
theorem dX10_sheet_9 : decode cX10_sheet 9 = .ok (.iload_n 2, 1) := by decide +kernel
theorem dX10_sheet_10 : decode cX10_sheet 10 = .ok (.iconst (-1), 1) := by decide +kernel
theorem dX10_sheet_11 : decode cX10_sheet 11 = .ok (.iconst 2, 1) := by decide +kernel
theorem dX10_sheet_12 : decode cX10_sheet 12 = .ok (.invokestatic 108, 3) := by decide +kernel
theorem dX10_sheet_15 : decode cX10_sheet 15 = .ok (.ifCond .eq 14, 3) := by decide +kernel
theorem dX10_sheet_18 : decode cX10_sheet 18 = .ok (.iload_n 2, 1) := by decide +kernel
theorem dX10_sheet_19 : decode cX10_sheet 19 = .ok (.iconst (-1), 1) := by decide +kernel
theorem dX10_sheet_20 : decode cX10_sheet 20 = .ok (.if_icmp .eq 12, 3) := by decide +kernel
theorem dX10_sheet_23 : decode cX10_sheet 23 = .ok (.iload_n 3, 1) := by decide +kernel
theorem dX10_sheet_24 : decode cX10_sheet 24 = .ok (.bipush 40, 2) := by decide +kernel
theorem dX10_sheet_26 : decode cX10_sheet 26 = .ok (.if_icmp .le 6, 3) := by decide +kernel
theorem dX10_sheet_29 : decode cX10_sheet 29 = .ok (.bipush (-2), 2) := by decide +kernel
theorem dX10_sheet_31 : decode cX10_sheet 31 = .ok (.ireturn, 1) := by decide +kernel
theorem dX10_sheet_32 : decode cX10_sheet 32 = .ok (.iload_n 2, 1) := by decide +kernel
theorem dX10_sheet_33 : decode cX10_sheet 33 = .ok (.iconst (-1), 1) := by decide +kernel
theorem dX10_sheet_34 : decode cX10_sheet 34 = .ok (.if_icmp .eq 10, 3) := by decide +kernel
theorem dX10_sheet_37 : decode cX10_sheet 37 = .ok (.iload_n 3, 1) := by decide +kernel
theorem dX10_sheet_38 : decode cX10_sheet 38 = .ok (.ifCond .ge 6, 3) := by decide +kernel
theorem dX10_sheet_41 : decode cX10_sheet 41 = .ok (.bipush (-14), 2) := by decide +kernel
theorem dX10_sheet_43 : decode cX10_sheet 43 = .ok (.ireturn, 1) := by decide +kernel
theorem dX10_sheet_44 : decode cX10_sheet 44 = .ok (.aload_n 0, 1) := by decide +kernel
theorem dX10_sheet_45 : decode cX10_sheet 45 = .ok (.getfield 40, 3) := by decide +kernel
theorem dX10_sheet_48 : decode cX10_sheet 48 = .ok (.iload_n 1, 1) := by decide +kernel
theorem dX10_sheet_49 : decode cX10_sheet 49 = .ok (.iload_n 2, 1) := by decide +kernel
theorem dX10_sheet_50 : decode cX10_sheet 50 = .ok (.iastore, 1) := by decide +kernel
theorem dX10_sheet_51 : decode cX10_sheet 51 = .ok (.aload_n 0, 1) := by decide +kernel
theorem dX10_sheet_52 : decode cX10_sheet 52 = .ok (.getfield 43, 3) := by decide +kernel
theorem dX10_sheet_55 : decode cX10_sheet 55 = .ok (.iload_n 1, 1) := by decide +kernel
theorem dX10_sheet_56 : decode cX10_sheet 56 = .ok (.iload_n 2, 1) := by decide +kernel
theorem dX10_sheet_57 : decode cX10_sheet 57 = .ok (.iconst (-1), 1) := by decide +kernel
theorem dX10_sheet_58 : decode cX10_sheet 58 = .ok (.if_icmp .ne 7, 3) := by decide +kernel
theorem dX10_sheet_61 : decode cX10_sheet 61 = .ok (.iconst 0, 1) := by decide +kernel
theorem dX10_sheet_62 : decode cX10_sheet 62 = .ok (.goto 4, 3) := by decide +kernel
theorem dX10_sheet_65 : decode cX10_sheet 65 = .ok (.iload_n 3, 1) := by decide +kernel
theorem dX10_sheet_66 : decode cX10_sheet 66 = .ok (.iastore, 1) := by decide +kernel
theorem dX10_sheet_67 : decode cX10_sheet 67 = .ok (.iconst 0, 1) := by decide +kernel
theorem dX10_sheet_68 : decode cX10_sheet 68 = .ok (.istore 4, 2) := by decide +kernel
theorem dX10_sheet_70 : decode cX10_sheet 70 = .ok (.iload 4, 2) := by decide +kernel
theorem dX10_sheet_72 : decode cX10_sheet 72 = .ok (.bipush 40, 2) := by decide +kernel
theorem dX10_sheet_74 : decode cX10_sheet 74 = .ok (.if_icmp .ge 22, 3) := by decide +kernel
theorem dX10_sheet_77 : decode cX10_sheet 77 = .ok (.aload_n 0, 1) := by decide +kernel
theorem dX10_sheet_78 : decode cX10_sheet 78 = .ok (.getfield 46, 3) := by decide +kernel
theorem dX10_sheet_81 : decode cX10_sheet 81 = .ok (.bipush 40, 2) := by decide +kernel
theorem dX10_sheet_83 : decode cX10_sheet 83 = .ok (.iload_n 1, 1) := by decide +kernel
theorem dX10_sheet_84 : decode cX10_sheet 84 = .ok (.imul, 1) := by decide +kernel
theorem dX10_sheet_85 : decode cX10_sheet 85 = .ok (.iload 4, 2) := by decide +kernel
theorem dX10_sheet_87 : decode cX10_sheet 87 = .ok (.iadd, 1) := by decide +kernel
theorem dX10_sheet_88 : decode cX10_sheet 88 = .ok (.iconst 0, 1) := by decide +kernel
theorem dX10_sheet_89 : decode cX10_sheet 89 = .ok (.iastore, 1) := by decide +kernel
theorem dX10_sheet_90 : decode cX10_sheet 90 = .ok (.iinc 4 1, 3) := by decide +kernel
theorem dX10_sheet_93 : decode cX10_sheet 93 = .ok (.goto (-23), 3) := by decide +kernel
theorem dX10_sheet_96 : decode cX10_sheet 96 = .ok (.iconst 1, 1) := by decide +kernel
theorem dX10_sheet_97 : decode cX10_sheet 97 = .ok (.ireturn, 1) := by decide +kernel
theorem dX10_cell_0 : decode cX10_cell 0 = .ok (.iload_n 1, 1) := by decide +kernel
theorem dX10_cell_1 : decode cX10_cell 1 = .ok (.iconst 0, 1) := by decide +kernel
theorem dX10_cell_2 : decode cX10_cell 2 = .ok (.iconst 3, 1) := by decide +kernel
theorem dX10_cell_3 : decode cX10_cell 3 = .ok (.invokestatic 108, 3) := by decide +kernel
theorem dX10_cell_6 : decode cX10_cell 6 = .ok (.ifCond .ne 6, 3) := by decide +kernel
theorem dX10_cell_9 : decode cX10_cell 9 = .ok (.bipush (-2), 2) := by decide +kernel
theorem dX10_cell_11 : decode cX10_cell 11 = .ok (.ireturn, 1) := by decide +kernel
theorem dX10_cell_12 : decode cX10_cell 12 = .ok (.aload_n 0, 1) := by decide +kernel
theorem dX10_cell_13 : decode cX10_cell 13 = .ok (.getfield 40, 3) := by decide +kernel
theorem dX10_cell_16 : decode cX10_cell 16 = .ok (.iload_n 1, 1) := by decide +kernel
theorem dX10_cell_17 : decode cX10_cell 17 = .ok (.iaload, 1) := by decide +kernel
theorem dX10_cell_18 : decode cX10_cell 18 = .ok (.iconst (-1), 1) := by decide +kernel
theorem dX10_cell_19 : decode cX10_cell 19 = .ok (.if_icmp .ne 6, 3) := by decide +kernel
theorem dX10_cell_22 : decode cX10_cell 22 = .ok (.bipush (-11), 2) := by decide +kernel
theorem dX10_cell_24 : decode cX10_cell 24 = .ok (.ireturn, 1) := by decide +kernel
theorem dX10_cell_25 : decode cX10_cell 25 = .ok (.iload_n 2, 1) := by decide +kernel
theorem dX10_cell_26 : decode cX10_cell 26 = .ok (.iconst 0, 1) := by decide +kernel
theorem dX10_cell_27 : decode cX10_cell 27 = .ok (.aload_n 0, 1) := by decide +kernel
theorem dX10_cell_28 : decode cX10_cell 28 = .ok (.getfield 43, 3) := by decide +kernel
theorem dX10_cell_31 : decode cX10_cell 31 = .ok (.iload_n 1, 1) := by decide +kernel
theorem dX10_cell_32 : decode cX10_cell 32 = .ok (.iaload, 1) := by decide +kernel
theorem dX10_cell_33 : decode cX10_cell 33 = .ok (.iconst 1, 1) := by decide +kernel
theorem dX10_cell_34 : decode cX10_cell 34 = .ok (.isub, 1) := by decide +kernel
theorem dX10_cell_35 : decode cX10_cell 35 = .ok (.invokestatic 108, 3) := by decide +kernel
theorem dX10_cell_38 : decode cX10_cell 38 = .ok (.ifCond .ne 6, 3) := by decide +kernel
theorem dX10_cell_41 : decode cX10_cell 41 = .ok (.bipush (-12), 2) := by decide +kernel
theorem dX10_cell_43 : decode cX10_cell 43 = .ok (.ireturn, 1) := by decide +kernel
theorem dX10_cell_44 : decode cX10_cell 44 = .ok (.aload_n 0, 1) := by decide +kernel
theorem dX10_cell_45 : decode cX10_cell 45 = .ok (.getfield 46, 3) := by decide +kernel
theorem dX10_cell_48 : decode cX10_cell 48 = .ok (.bipush 40, 2) := by decide +kernel
theorem dX10_cell_50 : decode cX10_cell 50 = .ok (.iload_n 1, 1) := by decide +kernel
theorem dX10_cell_51 : decode cX10_cell 51 = .ok (.imul, 1) := by decide +kernel
theorem dX10_cell_52 : decode cX10_cell 52 = .ok (.iload_n 2, 1) := by decide +kernel
theorem dX10_cell_53 : decode cX10_cell 53 = .ok (.iadd, 1) := by decide +kernel
theorem dX10_cell_54 : decode cX10_cell 54 = .ok (.aload_n 0, 1) := by decide +kernel
theorem dX10_cell_55 : decode cX10_cell 55 = .ok (.getfield 40, 3) := by decide +kernel
theorem dX10_cell_58 : decode cX10_cell 58 = .ok (.iload_n 1, 1) := by decide +kernel
theorem dX10_cell_59 : decode cX10_cell 59 = .ok (.iaload, 1) := by decide +kernel
theorem dX10_cell_60 : decode cX10_cell 60 = .ok (.ifCond .ne 8, 3) := by decide +kernel
theorem dX10_cell_63 : decode cX10_cell 63 = .ok (.iload_n 3, 1) := by decide +kernel
theorem dX10_cell_64 : decode cX10_cell 64 = .ok (.i2b, 1) := by decide +kernel
theorem dX10_cell_65 : decode cX10_cell 65 = .ok (.goto 19, 3) := by decide +kernel
theorem dX10_cell_68 : decode cX10_cell 68 = .ok (.aload_n 0, 1) := by decide +kernel
theorem dX10_cell_69 : decode cX10_cell 69 = .ok (.getfield 40, 3) := by decide +kernel
theorem dX10_cell_72 : decode cX10_cell 72 = .ok (.iload_n 1, 1) := by decide +kernel
theorem dX10_cell_73 : decode cX10_cell 73 = .ok (.iaload, 1) := by decide +kernel
theorem dX10_cell_74 : decode cX10_cell 74 = .ok (.iconst 1, 1) := by decide +kernel
theorem dX10_cell_75 : decode cX10_cell 75 = .ok (.if_icmp .ne 8, 3) := by decide +kernel
theorem dX10_cell_78 : decode cX10_cell 78 = .ok (.iload_n 3, 1) := by decide +kernel
theorem dX10_cell_79 : decode cX10_cell 79 = .ok (.i2s, 1) := by decide +kernel
theorem dX10_cell_80 : decode cX10_cell 80 = .ok (.goto 4, 3) := by decide +kernel
theorem dX10_cell_83 : decode cX10_cell 83 = .ok (.iload_n 3, 1) := by decide +kernel
theorem dX10_cell_84 : decode cX10_cell 84 = .ok (.iastore, 1) := by decide +kernel
theorem dX10_cell_85 : decode cX10_cell 85 = .ok (.iconst 1, 1) := by decide +kernel
theorem dX10_cell_86 : decode cX10_cell 86 = .ok (.ireturn, 1) := by decide +kernel
theorem dX10_copy_0 : decode cX10_copy 0 = .ok (.iload_n 1, 1) := by decide +kernel
theorem dX10_copy_1 : decode cX10_copy 1 = .ok (.iconst 0, 1) := by decide +kernel
theorem dX10_copy_2 : decode cX10_copy 2 = .ok (.iconst 3, 1) := by decide +kernel
theorem dX10_copy_3 : decode cX10_copy 3 = .ok (.invokestatic 108, 3) := by decide +kernel
theorem dX10_copy_6 : decode cX10_copy 6 = .ok (.ifCond .eq 12, 3) := by decide +kernel
theorem dX10_copy_9 : decode cX10_copy 9 = .ok (.iload_n 3, 1) := by decide +kernel
theorem dX10_copy_10 : decode cX10_copy 10 = .ok (.iconst 0, 1) := by decide +kernel
theorem dX10_copy_11 : decode cX10_copy 11 = .ok (.iconst 3, 1) := by decide +kernel
theorem dX10_copy_12 : decode cX10_copy 12 = .ok (.invokestatic 108, 3) := by decide +kernel
theorem dX10_copy_15 : decode cX10_copy 15 = .ok (.ifCond .ne 6, 3) := by decide +kernel
theorem dX10_copy_18 : decode cX10_copy 18 = .ok (.bipush (-2), 2) := by decide +kernel
theorem dX10_copy_20 : decode cX10_copy 20 = .ok (.ireturn, 1) := by decide +kernel
theorem dX10_copy_21 : decode cX10_copy 21 = .ok (.aload_n 0, 1) := by decide +kernel
theorem dX10_copy_22 : decode cX10_copy 22 = .ok (.getfield 40, 3) := by decide +kernel
theorem dX10_copy_25 : decode cX10_copy 25 = .ok (.iload_n 1, 1) := by decide +kernel
theorem dX10_copy_26 : decode cX10_copy 26 = .ok (.iaload, 1) := by decide +kernel
theorem dX10_copy_27 : decode cX10_copy 27 = .ok (.iconst (-1), 1) := by decide +kernel
theorem dX10_copy_28 : decode cX10_copy 28 = .ok (.if_icmp .eq 13, 3) := by decide +kernel
theorem dX10_copy_31 : decode cX10_copy 31 = .ok (.aload_n 0, 1) := by decide +kernel
theorem dX10_copy_32 : decode cX10_copy 32 = .ok (.getfield 40, 3) := by decide +kernel
theorem dX10_copy_35 : decode cX10_copy 35 = .ok (.iload_n 3, 1) := by decide +kernel
theorem dX10_copy_36 : decode cX10_copy 36 = .ok (.iaload, 1) := by decide +kernel
theorem dX10_copy_37 : decode cX10_copy 37 = .ok (.iconst (-1), 1) := by decide +kernel
theorem dX10_copy_38 : decode cX10_copy 38 = .ok (.if_icmp .ne 6, 3) := by decide +kernel
theorem dX10_copy_41 : decode cX10_copy 41 = .ok (.bipush (-11), 2) := by decide +kernel
theorem dX10_copy_43 : decode cX10_copy 43 = .ok (.ireturn, 1) := by decide +kernel
theorem dX10_copy_44 : decode cX10_copy 44 = .ok (.aload_n 0, 1) := by decide +kernel
theorem dX10_copy_45 : decode cX10_copy 45 = .ok (.getfield 40, 3) := by decide +kernel
theorem dX10_copy_48 : decode cX10_copy 48 = .ok (.iload_n 1, 1) := by decide +kernel
theorem dX10_copy_49 : decode cX10_copy 49 = .ok (.iaload, 1) := by decide +kernel
theorem dX10_copy_50 : decode cX10_copy 50 = .ok (.aload_n 0, 1) := by decide +kernel
theorem dX10_copy_51 : decode cX10_copy 51 = .ok (.getfield 40, 3) := by decide +kernel
theorem dX10_copy_54 : decode cX10_copy 54 = .ok (.iload_n 3, 1) := by decide +kernel
theorem dX10_copy_55 : decode cX10_copy 55 = .ok (.iaload, 1) := by decide +kernel
theorem dX10_copy_56 : decode cX10_copy 56 = .ok (.if_icmp .eq 6, 3) := by decide +kernel
theorem dX10_copy_59 : decode cX10_copy 59 = .ok (.bipush (-13), 2) := by decide +kernel
theorem dX10_copy_61 : decode cX10_copy 61 = .ok (.ireturn, 1) := by decide +kernel
theorem dX10_copy_62 : decode cX10_copy 62 = .ok (.iload 5, 2) := by decide +kernel
theorem dX10_copy_64 : decode cX10_copy 64 = .ok (.ifCond .lt 60, 3) := by decide +kernel
theorem dX10_copy_67 : decode cX10_copy 67 = .ok (.iload_n 2, 1) := by decide +kernel
theorem dX10_copy_68 : decode cX10_copy 68 = .ok (.ifCond .lt 56, 3) := by decide +kernel
theorem dX10_copy_71 : decode cX10_copy 71 = .ok (.iload 4, 2) := by decide +kernel
theorem dX10_copy_73 : decode cX10_copy 73 = .ok (.ifCond .lt 51, 3) := by decide +kernel
theorem dX10_copy_76 : decode cX10_copy 76 = .ok (.iload_n 2, 1) := by decide +kernel
theorem dX10_copy_77 : decode cX10_copy 77 = .ok (.aload_n 0, 1) := by decide +kernel
theorem dX10_copy_78 : decode cX10_copy 78 = .ok (.getfield 43, 3) := by decide +kernel
theorem dX10_copy_81 : decode cX10_copy 81 = .ok (.iload_n 1, 1) := by decide +kernel
theorem dX10_copy_82 : decode cX10_copy 82 = .ok (.iaload, 1) := by decide +kernel
theorem dX10_copy_83 : decode cX10_copy 83 = .ok (.if_icmp .gt 41, 3) := by decide +kernel
theorem dX10_copy_86 : decode cX10_copy 86 = .ok (.iload 4, 2) := by decide +kernel
theorem dX10_copy_88 : decode cX10_copy 88 = .ok (.aload_n 0, 1) := by decide +kernel
theorem dX10_copy_89 : decode cX10_copy 89 = .ok (.getfield 43, 3) := by decide +kernel
theorem dX10_copy_92 : decode cX10_copy 92 = .ok (.iload_n 3, 1) := by decide +kernel
theorem dX10_copy_93 : decode cX10_copy 93 = .ok (.iaload, 1) := by decide +kernel
theorem dX10_copy_94 : decode cX10_copy 94 = .ok (.if_icmp .gt 30, 3) := by decide +kernel
theorem dX10_copy_97 : decode cX10_copy 97 = .ok (.iload 5, 2) := by decide +kernel
theorem dX10_copy_99 : decode cX10_copy 99 = .ok (.aload_n 0, 1) := by decide +kernel
theorem dX10_copy_100 : decode cX10_copy 100 = .ok (.getfield 43, 3) := by decide +kernel
theorem dX10_copy_103 : decode cX10_copy 103 = .ok (.iload_n 1, 1) := by decide +kernel
theorem dX10_copy_104 : decode cX10_copy 104 = .ok (.iaload, 1) := by decide +kernel
theorem dX10_copy_105 : decode cX10_copy 105 = .ok (.iload_n 2, 1) := by decide +kernel
theorem dX10_copy_106 : decode cX10_copy 106 = .ok (.isub, 1) := by decide +kernel
theorem dX10_copy_107 : decode cX10_copy 107 = .ok (.if_icmp .gt 17, 3) := by decide +kernel
theorem dX10_copy_110 : decode cX10_copy 110 = .ok (.iload 5, 2) := by decide +kernel
theorem dX10_copy_112 : decode cX10_copy 112 = .ok (.aload_n 0, 1) := by decide +kernel
theorem dX10_copy_113 : decode cX10_copy 113 = .ok (.getfield 43, 3) := by decide +kernel
theorem dX10_copy_116 : decode cX10_copy 116 = .ok (.iload_n 3, 1) := by decide +kernel
theorem dX10_copy_117 : decode cX10_copy 117 = .ok (.iaload, 1) := by decide +kernel
theorem dX10_copy_118 : decode cX10_copy 118 = .ok (.iload 4, 2) := by decide +kernel
theorem dX10_copy_120 : decode cX10_copy 120 = .ok (.isub, 1) := by decide +kernel
theorem dX10_copy_121 : decode cX10_copy 121 = .ok (.if_icmp .le 6, 3) := by decide +kernel
theorem dX10_copy_124 : decode cX10_copy 124 = .ok (.bipush (-12), 2) := by decide +kernel
theorem dX10_copy_126 : decode cX10_copy 126 = .ok (.ireturn, 1) := by decide +kernel
theorem dX10_copy_127 : decode cX10_copy 127 = .ok (.bipush 40, 2) := by decide +kernel
theorem dX10_copy_129 : decode cX10_copy 129 = .ok (.iload_n 1, 1) := by decide +kernel
theorem dX10_copy_130 : decode cX10_copy 130 = .ok (.imul, 1) := by decide +kernel
theorem dX10_copy_131 : decode cX10_copy 131 = .ok (.iload_n 2, 1) := by decide +kernel
theorem dX10_copy_132 : decode cX10_copy 132 = .ok (.iadd, 1) := by decide +kernel
theorem dX10_copy_133 : decode cX10_copy 133 = .ok (.istore 6, 2) := by decide +kernel
theorem dX10_copy_135 : decode cX10_copy 135 = .ok (.bipush 40, 2) := by decide +kernel
theorem dX10_copy_137 : decode cX10_copy 137 = .ok (.iload_n 3, 1) := by decide +kernel
theorem dX10_copy_138 : decode cX10_copy 138 = .ok (.imul, 1) := by decide +kernel
theorem dX10_copy_139 : decode cX10_copy 139 = .ok (.iload 4, 2) := by decide +kernel
theorem dX10_copy_141 : decode cX10_copy 141 = .ok (.iadd, 1) := by decide +kernel
theorem dX10_copy_142 : decode cX10_copy 142 = .ok (.istore 7, 2) := by decide +kernel
theorem dX10_copy_144 : decode cX10_copy 144 = .ok (.iconst 0, 1) := by decide +kernel
theorem dX10_copy_145 : decode cX10_copy 145 = .ok (.istore 8, 2) := by decide +kernel
theorem dX10_copy_147 : decode cX10_copy 147 = .ok (.iload 8, 2) := by decide +kernel
theorem dX10_copy_149 : decode cX10_copy 149 = .ok (.iload 5, 2) := by decide +kernel
theorem dX10_copy_151 : decode cX10_copy 151 = .ok (.if_icmp .ge 50, 3) := by decide +kernel
theorem dX10_copy_154 : decode cX10_copy 154 = .ok (.iload 6, 2) := by decide +kernel
theorem dX10_copy_156 : decode cX10_copy 156 = .ok (.iload 7, 2) := by decide +kernel
theorem dX10_copy_158 : decode cX10_copy 158 = .ok (.if_icmp .ge 13, 3) := by decide +kernel
theorem dX10_copy_161 : decode cX10_copy 161 = .ok (.iload 5, 2) := by decide +kernel
theorem dX10_copy_163 : decode cX10_copy 163 = .ok (.iconst 1, 1) := by decide +kernel
theorem dX10_copy_164 : decode cX10_copy 164 = .ok (.isub, 1) := by decide +kernel
theorem dX10_copy_165 : decode cX10_copy 165 = .ok (.iload 8, 2) := by decide +kernel
theorem dX10_copy_167 : decode cX10_copy 167 = .ok (.isub, 1) := by decide +kernel
theorem dX10_copy_168 : decode cX10_copy 168 = .ok (.goto 5, 3) := by decide +kernel
theorem dX10_copy_171 : decode cX10_copy 171 = .ok (.iload 8, 2) := by decide +kernel
theorem dX10_copy_173 : decode cX10_copy 173 = .ok (.istore 9, 2) := by decide +kernel
theorem dX10_copy_175 : decode cX10_copy 175 = .ok (.aload_n 0, 1) := by decide +kernel
theorem dX10_copy_176 : decode cX10_copy 176 = .ok (.getfield 46, 3) := by decide +kernel
theorem dX10_copy_179 : decode cX10_copy 179 = .ok (.iload 7, 2) := by decide +kernel
theorem dX10_copy_181 : decode cX10_copy 181 = .ok (.iload 9, 2) := by decide +kernel
theorem dX10_copy_183 : decode cX10_copy 183 = .ok (.iadd, 1) := by decide +kernel
theorem dX10_copy_184 : decode cX10_copy 184 = .ok (.aload_n 0, 1) := by decide +kernel
theorem dX10_copy_185 : decode cX10_copy 185 = .ok (.getfield 46, 3) := by decide +kernel
theorem dX10_copy_188 : decode cX10_copy 188 = .ok (.iload 6, 2) := by decide +kernel
theorem dX10_copy_190 : decode cX10_copy 190 = .ok (.iload 9, 2) := by decide +kernel
theorem dX10_copy_192 : decode cX10_copy 192 = .ok (.iadd, 1) := by decide +kernel
theorem dX10_copy_193 : decode cX10_copy 193 = .ok (.iaload, 1) := by decide +kernel
theorem dX10_copy_194 : decode cX10_copy 194 = .ok (.iastore, 1) := by decide +kernel
theorem dX10_copy_195 : decode cX10_copy 195 = .ok (.iinc 8 1, 3) := by decide +kernel
theorem dX10_copy_198 : decode cX10_copy 198 = .ok (.goto (-51), 3) := by decide +kernel
theorem dX10_copy_201 : decode cX10_copy 201 = .ok (.iload 5, 2) := by decide +kernel
theorem dX10_copy_203 : decode cX10_copy 203 = .ok (.ireturn, 1) := by decide +kernel
theorem dX10_facesBy_0 : decode cX10_facesBy 0 = .ok (.iload_n 1, 1) := by decide +kernel
theorem dX10_facesBy_1 : decode cX10_facesBy 1 = .ok (.iconst 0, 1) := by decide +kernel
theorem dX10_facesBy_2 : decode cX10_facesBy 2 = .ok (.iconst 3, 1) := by decide +kernel
theorem dX10_facesBy_3 : decode cX10_facesBy 3 = .ok (.invokestatic 108, 3) := by decide +kernel
theorem dX10_facesBy_6 : decode cX10_facesBy 6 = .ok (.ifCond .eq 22, 3) := by decide +kernel
theorem dX10_facesBy_9 : decode cX10_facesBy 9 = .ok (.iload_n 2, 1) := by decide +kernel
theorem dX10_facesBy_10 : decode cX10_facesBy 10 = .ok (.iconst 0, 1) := by decide +kernel
theorem dX10_facesBy_11 : decode cX10_facesBy 11 = .ok (.iconst 2, 1) := by decide +kernel
theorem dX10_facesBy_12 : decode cX10_facesBy 12 = .ok (.invokestatic 108, 3) := by decide +kernel
theorem dX10_facesBy_15 : decode cX10_facesBy 15 = .ok (.ifCond .eq 13, 3) := by decide +kernel
theorem dX10_facesBy_18 : decode cX10_facesBy 18 = .ok (.iload 4, 2) := by decide +kernel
theorem dX10_facesBy_20 : decode cX10_facesBy 20 = .ok (.iconst 0, 1) := by decide +kernel
theorem dX10_facesBy_21 : decode cX10_facesBy 21 = .ok (.iconst 5, 1) := by decide +kernel
theorem dX10_facesBy_22 : decode cX10_facesBy 22 = .ok (.invokestatic 108, 3) := by decide +kernel
theorem dX10_facesBy_25 : decode cX10_facesBy 25 = .ok (.ifCond .ne 6, 3) := by decide +kernel
theorem dX10_facesBy_28 : decode cX10_facesBy 28 = .ok (.bipush (-2), 2) := by decide +kernel
theorem dX10_facesBy_30 : decode cX10_facesBy 30 = .ok (.ireturn, 1) := by decide +kernel
theorem dX10_facesBy_31 : decode cX10_facesBy 31 = .ok (.aload_n 0, 1) := by decide +kernel
theorem dX10_facesBy_32 : decode cX10_facesBy 32 = .ok (.getfield 40, 3) := by decide +kernel
theorem dX10_facesBy_35 : decode cX10_facesBy 35 = .ok (.iload_n 1, 1) := by decide +kernel
theorem dX10_facesBy_36 : decode cX10_facesBy 36 = .ok (.iaload, 1) := by decide +kernel
theorem dX10_facesBy_37 : decode cX10_facesBy 37 = .ok (.iconst (-1), 1) := by decide +kernel
theorem dX10_facesBy_38 : decode cX10_facesBy 38 = .ok (.if_icmp .ne 6, 3) := by decide +kernel
theorem dX10_facesBy_41 : decode cX10_facesBy 41 = .ok (.bipush (-11), 2) := by decide +kernel
theorem dX10_facesBy_43 : decode cX10_facesBy 43 = .ok (.ireturn, 1) := by decide +kernel
theorem dX10_facesBy_44 : decode cX10_facesBy 44 = .ok (.aload_n 0, 1) := by decide +kernel
theorem dX10_facesBy_45 : decode cX10_facesBy 45 = .ok (.getfield 40, 3) := by decide +kernel
theorem dX10_facesBy_48 : decode cX10_facesBy 48 = .ok (.iload_n 1, 1) := by decide +kernel
theorem dX10_facesBy_49 : decode cX10_facesBy 49 = .ok (.iaload, 1) := by decide +kernel
theorem dX10_facesBy_50 : decode cX10_facesBy 50 = .ok (.iload_n 2, 1) := by decide +kernel
theorem dX10_facesBy_51 : decode cX10_facesBy 51 = .ok (.if_icmp .eq 6, 3) := by decide +kernel
theorem dX10_facesBy_54 : decode cX10_facesBy 54 = .ok (.bipush (-13), 2) := by decide +kernel
theorem dX10_facesBy_56 : decode cX10_facesBy 56 = .ok (.ireturn, 1) := by decide +kernel
theorem dX10_facesBy_57 : decode cX10_facesBy 57 = .ok (.iconst 0, 1) := by decide +kernel
theorem dX10_facesBy_58 : decode cX10_facesBy 58 = .ok (.istore 5, 2) := by decide +kernel
theorem dX10_facesBy_60 : decode cX10_facesBy 60 = .ok (.iconst 0, 1) := by decide +kernel
theorem dX10_facesBy_61 : decode cX10_facesBy 61 = .ok (.istore 6, 2) := by decide +kernel
theorem dX10_facesBy_63 : decode cX10_facesBy 63 = .ok (.iload 6, 2) := by decide +kernel
theorem dX10_facesBy_65 : decode cX10_facesBy 65 = .ok (.iload 4, 2) := by decide +kernel
theorem dX10_facesBy_67 : decode cX10_facesBy 67 = .ok (.if_icmp .ge 94, 3) := by decide +kernel
theorem dX10_facesBy_70 : decode cX10_facesBy 70 = .ok (.iload_n 3, 1) := by decide +kernel
theorem dX10_facesBy_71 : decode cX10_facesBy 71 = .ok (.iconst 3, 1) := by decide +kernel
theorem dX10_facesBy_72 : decode cX10_facesBy 72 = .ok (.iload 6, 2) := by decide +kernel
theorem dX10_facesBy_74 : decode cX10_facesBy 74 = .ok (.imul, 1) := by decide +kernel
theorem dX10_facesBy_75 : decode cX10_facesBy 75 = .ok (.iadd, 1) := by decide +kernel
theorem dX10_facesBy_76 : decode cX10_facesBy 76 = .ok (.istore 7, 2) := by decide +kernel
theorem dX10_facesBy_78 : decode cX10_facesBy 78 = .ok (.iload_n 3, 1) := by decide +kernel
theorem dX10_facesBy_79 : decode cX10_facesBy 79 = .ok (.ifCond .lt 22, 3) := by decide +kernel
theorem dX10_facesBy_82 : decode cX10_facesBy 82 = .ok (.iload 7, 2) := by decide +kernel
theorem dX10_facesBy_84 : decode cX10_facesBy 84 = .ok (.iload_n 3, 1) := by decide +kernel
theorem dX10_facesBy_85 : decode cX10_facesBy 85 = .ok (.if_icmp .lt 16, 3) := by decide +kernel
theorem dX10_facesBy_88 : decode cX10_facesBy 88 = .ok (.iload 7, 2) := by decide +kernel
theorem dX10_facesBy_90 : decode cX10_facesBy 90 = .ok (.aload_n 0, 1) := by decide +kernel
theorem dX10_facesBy_91 : decode cX10_facesBy 91 = .ok (.getfield 43, 3) := by decide +kernel
theorem dX10_facesBy_94 : decode cX10_facesBy 94 = .ok (.iload_n 1, 1) := by decide +kernel
theorem dX10_facesBy_95 : decode cX10_facesBy 95 = .ok (.iaload, 1) := by decide +kernel
theorem dX10_facesBy_96 : decode cX10_facesBy 96 = .ok (.iconst 3, 1) := by decide +kernel
theorem dX10_facesBy_97 : decode cX10_facesBy 97 = .ok (.isub, 1) := by decide +kernel
theorem dX10_facesBy_98 : decode cX10_facesBy 98 = .ok (.if_icmp .le 6, 3) := by decide +kernel
theorem dX10_facesBy_101 : decode cX10_facesBy 101 = .ok (.bipush (-12), 2) := by decide +kernel
theorem dX10_facesBy_103 : decode cX10_facesBy 103 = .ok (.ireturn, 1) := by decide +kernel
theorem dX10_facesBy_104 : decode cX10_facesBy 104 = .ok (.bipush 40, 2) := by decide +kernel
theorem dX10_facesBy_106 : decode cX10_facesBy 106 = .ok (.iload_n 1, 1) := by decide +kernel
theorem dX10_facesBy_107 : decode cX10_facesBy 107 = .ok (.imul, 1) := by decide +kernel
theorem dX10_facesBy_108 : decode cX10_facesBy 108 = .ok (.iload 7, 2) := by decide +kernel
theorem dX10_facesBy_110 : decode cX10_facesBy 110 = .ok (.iadd, 1) := by decide +kernel
theorem dX10_facesBy_111 : decode cX10_facesBy 111 = .ok (.istore 8, 2) := by decide +kernel
theorem dX10_facesBy_113 : decode cX10_facesBy 113 = .ok (.iload 5, 2) := by decide +kernel
theorem dX10_facesBy_115 : decode cX10_facesBy 115 = .ok (.aload_n 0, 1) := by decide +kernel
theorem dX10_facesBy_116 : decode cX10_facesBy 116 = .ok (.aload_n 0, 1) := by decide +kernel
theorem dX10_facesBy_117 : decode cX10_facesBy 117 = .ok (.getfield 46, 3) := by decide +kernel
theorem dX10_facesBy_120 : decode cX10_facesBy 120 = .ok (.iload 8, 2) := by decide +kernel
theorem dX10_facesBy_122 : decode cX10_facesBy 122 = .ok (.iaload, 1) := by decide +kernel
theorem dX10_facesBy_123 : decode cX10_facesBy 123 = .ok (.aload_n 0, 1) := by decide +kernel
theorem dX10_facesBy_124 : decode cX10_facesBy 124 = .ok (.getfield 46, 3) := by decide +kernel
theorem dX10_facesBy_127 : decode cX10_facesBy 127 = .ok (.iload 8, 2) := by decide +kernel
theorem dX10_facesBy_129 : decode cX10_facesBy 129 = .ok (.iconst 1, 1) := by decide +kernel
theorem dX10_facesBy_130 : decode cX10_facesBy 130 = .ok (.iadd, 1) := by decide +kernel
theorem dX10_facesBy_131 : decode cX10_facesBy 131 = .ok (.iaload, 1) := by decide +kernel
theorem dX10_facesBy_132 : decode cX10_facesBy 132 = .ok (.aload_n 0, 1) := by decide +kernel
theorem dX10_facesBy_133 : decode cX10_facesBy 133 = .ok (.getfield 46, 3) := by decide +kernel
theorem dX10_facesBy_136 : decode cX10_facesBy 136 = .ok (.iload 8, 2) := by decide +kernel
theorem dX10_facesBy_138 : decode cX10_facesBy 138 = .ok (.iconst 2, 1) := by decide +kernel
theorem dX10_facesBy_139 : decode cX10_facesBy 139 = .ok (.iadd, 1) := by decide +kernel
theorem dX10_facesBy_140 : decode cX10_facesBy 140 = .ok (.iaload, 1) := by decide +kernel
theorem dX10_facesBy_141 : decode cX10_facesBy 141 = .ok (.invokevirtual 351, 3) := by decide +kernel
theorem dX10_facesBy_144 : decode cX10_facesBy 144 = .ok (.ifCond .lt 7, 3) := by decide +kernel
theorem dX10_facesBy_147 : decode cX10_facesBy 147 = .ok (.iconst 1, 1) := by decide +kernel
theorem dX10_facesBy_148 : decode cX10_facesBy 148 = .ok (.goto 4, 3) := by decide +kernel
theorem dX10_facesBy_151 : decode cX10_facesBy 151 = .ok (.iconst 0, 1) := by decide +kernel
theorem dX10_facesBy_152 : decode cX10_facesBy 152 = .ok (.iadd, 1) := by decide +kernel
theorem dX10_facesBy_153 : decode cX10_facesBy 153 = .ok (.istore 5, 2) := by decide +kernel
theorem dX10_facesBy_155 : decode cX10_facesBy 155 = .ok (.iinc 6 1, 3) := by decide +kernel
theorem dX10_facesBy_158 : decode cX10_facesBy 158 = .ok (.goto (-95), 3) := by decide +kernel
theorem dX10_facesBy_161 : decode cX10_facesBy 161 = .ok (.iload 5, 2) := by decide +kernel
theorem dX10_facesBy_163 : decode cX10_facesBy 163 = .ok (.ireturn, 1) := by decide +kernel
theorem dX10_isUnder_0 : decode cX10_isUnder 0 = .ok (.iload_n 1, 1) := by decide +kernel
theorem dX10_isUnder_1 : decode cX10_isUnder 1 = .ok (.ifCond .eq 28, 3) := by decide +kernel
theorem dX10_isUnder_4 : decode cX10_isUnder 4 = .ok (.iload_n 0, 1) := by decide +kernel
theorem dX10_isUnder_5 : decode cX10_isUnder 5 = .ok (.iload_n 1, 1) := by decide +kernel
theorem dX10_isUnder_6 : decode cX10_isUnder 6 = .ok (.if_icmp .eq 23, 3) := by decide +kernel
theorem dX10_isUnder_9 : decode cX10_isUnder 9 = .ok (.iload_n 1, 1) := by decide +kernel
theorem dX10_isUnder_10 : decode cX10_isUnder 10 = .ok (.iconst 1, 1) := by decide +kernel
theorem dX10_isUnder_11 : decode cX10_isUnder 11 = .ok (.if_icmp .ne 8, 3) := by decide +kernel
theorem dX10_isUnder_14 : decode cX10_isUnder 14 = .ok (.iload_n 0, 1) := by decide +kernel
theorem dX10_isUnder_15 : decode cX10_isUnder 15 = .ok (.iconst 3, 1) := by decide +kernel
theorem dX10_isUnder_16 : decode cX10_isUnder 16 = .ok (.if_icmp .eq 13, 3) := by decide +kernel
theorem dX10_isUnder_19 : decode cX10_isUnder 19 = .ok (.iload_n 1, 1) := by decide +kernel
theorem dX10_isUnder_20 : decode cX10_isUnder 20 = .ok (.iconst 2, 1) := by decide +kernel
theorem dX10_isUnder_21 : decode cX10_isUnder 21 = .ok (.if_icmp .ne 12, 3) := by decide +kernel
theorem dX10_isUnder_24 : decode cX10_isUnder 24 = .ok (.iload_n 0, 1) := by decide +kernel
theorem dX10_isUnder_25 : decode cX10_isUnder 25 = .ok (.iconst 4, 1) := by decide +kernel
theorem dX10_isUnder_26 : decode cX10_isUnder 26 = .ok (.if_icmp .ne 7, 3) := by decide +kernel
theorem dX10_isUnder_29 : decode cX10_isUnder 29 = .ok (.iconst 1, 1) := by decide +kernel
theorem dX10_isUnder_30 : decode cX10_isUnder 30 = .ok (.goto 4, 3) := by decide +kernel
theorem dX10_isUnder_33 : decode cX10_isUnder 33 = .ok (.iconst 0, 1) := by decide +kernel
theorem dX10_isUnder_34 : decode cX10_isUnder 34 = .ok (.ireturn, 1) := by decide +kernel
theorem dX10_taken_0 : decode cX10_taken 0 = .ok (.iload_n 2, 1) := by decide +kernel
theorem dX10_taken_1 : decode cX10_taken 1 = .ok (.iconst 0, 1) := by decide +kernel
theorem dX10_taken_2 : decode cX10_taken 2 = .ok (.bipush 6, 2) := by decide +kernel
theorem dX10_taken_4 : decode cX10_taken 4 = .ok (.invokestatic 108, 3) := by decide +kernel
theorem dX10_taken_7 : decode cX10_taken 7 = .ok (.ifCond .ne 6, 3) := by decide +kernel
theorem dX10_taken_10 : decode cX10_taken 10 = .ok (.bipush (-2), 2) := by decide +kernel
theorem dX10_taken_12 : decode cX10_taken 12 = .ok (.ireturn, 1) := by decide +kernel
theorem dX10_taken_13 : decode cX10_taken 13 = .ok (.iload_n 1, 1) := by decide +kernel
theorem dX10_taken_14 : decode cX10_taken 14 = .ok (.iconst 0, 1) := by decide +kernel
theorem dX10_taken_15 : decode cX10_taken 15 = .ok (.bipush 12, 2) := by decide +kernel
theorem dX10_taken_17 : decode cX10_taken 17 = .ok (.invokestatic 108, 3) := by decide +kernel
theorem dX10_taken_20 : decode cX10_taken 20 = .ok (.ifCond .ne 6, 3) := by decide +kernel
theorem dX10_taken_23 : decode cX10_taken 23 = .ok (.bipush (-12), 2) := by decide +kernel
theorem dX10_taken_25 : decode cX10_taken 25 = .ok (.ireturn, 1) := by decide +kernel
theorem dX10_taken_26 : decode cX10_taken 26 = .ok (.iload_n 1, 1) := by decide +kernel
theorem dX10_taken_27 : decode cX10_taken 27 = .ok (.bipush 8, 2) := by decide +kernel
theorem dX10_taken_29 : decode cX10_taken 29 = .ok (.if_icmp .ge 35, 3) := by decide +kernel
theorem dX10_taken_32 : decode cX10_taken 32 = .ok (.aload_n 0, 1) := by decide +kernel
theorem dX10_taken_33 : decode cX10_taken 33 = .ok (.getfield 7, 3) := by decide +kernel
theorem dX10_taken_36 : decode cX10_taken 36 = .ok (.iload_n 1, 1) := by decide +kernel
theorem dX10_taken_37 : decode cX10_taken 37 = .ok (.iaload, 1) := by decide +kernel
theorem dX10_taken_38 : decode cX10_taken 38 = .ok (.ifCond .ne 8, 3) := by decide +kernel
theorem dX10_taken_41 : decode cX10_taken 41 = .ok (.bipush (-11), 2) := by decide +kernel
theorem dX10_taken_43 : decode cX10_taken 43 = .ok (.goto 20, 3) := by decide +kernel
theorem dX10_taken_46 : decode cX10_taken 46 = .ok (.iload_n 2, 1) := by decide +kernel
theorem dX10_taken_47 : decode cX10_taken 47 = .ok (.bipush 6, 2) := by decide +kernel
theorem dX10_taken_49 : decode cX10_taken 49 = .ok (.if_icmp .ne 12, 3) := by decide +kernel
theorem dX10_taken_52 : decode cX10_taken 52 = .ok (.aload_n 0, 1) := by decide +kernel
theorem dX10_taken_53 : decode cX10_taken 53 = .ok (.getfield 7, 3) := by decide +kernel
theorem dX10_taken_56 : decode cX10_taken 56 = .ok (.iload_n 1, 1) := by decide +kernel
theorem dX10_taken_57 : decode cX10_taken 57 = .ok (.iaload, 1) := by decide +kernel
theorem dX10_taken_58 : decode cX10_taken 58 = .ok (.goto 5, 3) := by decide +kernel
theorem dX10_taken_61 : decode cX10_taken 61 = .ok (.bipush (-13), 2) := by decide +kernel
theorem dX10_taken_63 : decode cX10_taken 63 = .ok (.ireturn, 1) := by decide +kernel
theorem dX10_taken_64 : decode cX10_taken 64 = .ok (.iload_n 1, 1) := by decide +kernel
theorem dX10_taken_65 : decode cX10_taken 65 = .ok (.bipush 8, 2) := by decide +kernel
theorem dX10_taken_67 : decode cX10_taken 67 = .ok (.isub, 1) := by decide +kernel
theorem dX10_taken_68 : decode cX10_taken 68 = .ok (.aload_n 0, 1) := by decide +kernel
theorem dX10_taken_69 : decode cX10_taken 69 = .ok (.getfield 105, 3) := by decide +kernel
theorem dX10_taken_72 : decode cX10_taken 72 = .ok (.if_icmp .lt 8, 3) := by decide +kernel
theorem dX10_taken_75 : decode cX10_taken 75 = .ok (.bipush (-11), 2) := by decide +kernel
theorem dX10_taken_77 : decode cX10_taken 77 = .ok (.goto 34, 3) := by decide +kernel
theorem dX10_taken_80 : decode cX10_taken 80 = .ok (.iload_n 2, 1) := by decide +kernel
theorem dX10_taken_81 : decode cX10_taken 81 = .ok (.bipush 6, 2) := by decide +kernel
theorem dX10_taken_83 : decode cX10_taken 83 = .ok (.if_icmp .ge 26, 3) := by decide +kernel
theorem dX10_taken_86 : decode cX10_taken 86 = .ok (.aload_n 0, 1) := by decide +kernel
theorem dX10_taken_87 : decode cX10_taken 87 = .ok (.getfield 13, 3) := by decide +kernel
theorem dX10_taken_90 : decode cX10_taken 90 = .ok (.iload_n 1, 1) := by decide +kernel
theorem dX10_taken_91 : decode cX10_taken 91 = .ok (.bipush 8, 2) := by decide +kernel
theorem dX10_taken_93 : decode cX10_taken 93 = .ok (.isub, 1) := by decide +kernel
theorem dX10_taken_94 : decode cX10_taken 94 = .ok (.iaload, 1) := by decide +kernel
theorem dX10_taken_95 : decode cX10_taken 95 = .ok (.iload_n 2, 1) := by decide +kernel
theorem dX10_taken_96 : decode cX10_taken 96 = .ok (.invokestatic 354, 3) := by decide +kernel
theorem dX10_taken_99 : decode cX10_taken 99 = .ok (.ifCond .eq 10, 3) := by decide +kernel
theorem dX10_taken_102 : decode cX10_taken 102 = .ok (.iload_n 1, 1) := by decide +kernel
theorem dX10_taken_103 : decode cX10_taken 103 = .ok (.bipush 8, 2) := by decide +kernel
theorem dX10_taken_105 : decode cX10_taken 105 = .ok (.isub, 1) := by decide +kernel
theorem dX10_taken_106 : decode cX10_taken 106 = .ok (.goto 5, 3) := by decide +kernel
theorem dX10_taken_109 : decode cX10_taken 109 = .ok (.bipush (-13), 2) := by decide +kernel
theorem dX10_taken_111 : decode cX10_taken 111 = .ok (.ireturn, 1) := by decide +kernel
theorem dL_law_0 : decode cL_law 0 = .ok (.new 7, 3) := by decide +kernel
theorem dL_law_3 : decode cL_law 3 = .ok (.dup, 1) := by decide +kernel
theorem dL_law_4 : decode cL_law 4 = .ok (.invokespecial 9, 3) := by decide +kernel
theorem dL_law_7 : decode cL_law 7 = .ok (.astore_n 1, 1) := by decide +kernel
theorem dL_law_8 : decode cL_law 8 = .ok (.new 10, 3) := by decide +kernel
theorem dL_law_11 : decode cL_law 11 = .ok (.dup, 1) := by decide +kernel
theorem dL_law_12 : decode cL_law 12 = .ok (.invokespecial 12, 3) := by decide +kernel
theorem dL_law_15 : decode cL_law 15 = .ok (.astore_n 2, 1) := by decide +kernel
theorem dL_law_16 : decode cL_law 16 = .ok (.iconst 0, 1) := by decide +kernel
theorem dL_law_17 : decode cL_law 17 = .ok (.istore_n 3, 1) := by decide +kernel
theorem dL_law_18 : decode cL_law 18 = .ok (.iload_n 3, 1) := by decide +kernel
theorem dL_law_19 : decode cL_law 19 = .ok (.aload_n 0, 1) := by decide +kernel
theorem dL_law_20 : decode cL_law 20 = .ok (.arraylength, 1) := by decide +kernel
theorem dL_law_21 : decode cL_law 21 = .ok (.bipush 7, 2) := by decide +kernel
theorem dL_law_23 : decode cL_law 23 = .ok (.isub, 1) := by decide +kernel
theorem dL_law_24 : decode cL_law 24 = .ok (.if_icmp .gt 1901, 3) := by decide +kernel
theorem dL_law_27 : decode cL_law 27 = .ok (.aload_n 0, 1) := by decide +kernel
theorem dL_law_28 : decode cL_law 28 = .ok (.iload_n 3, 1) := by decide +kernel
theorem dL_law_29 : decode cL_law 29 = .ok (.iaload, 1) := by decide +kernel
theorem dL_law_30 : decode cL_law 30 = .ok (.bipush 63, 2) := by decide +kernel
theorem dL_law_32 : decode cL_law 32 = .ok (.iand, 1) := by decide +kernel
theorem dL_law_33 : decode cL_law 33 = .ok (.tableswitch 1886 0 47 #[207, 230, 305, 318, 341, 404, 447, 480, 513, 546, 579, 622, 635, 668, 711, 744, 777, 800, 823, 846, 889, 922, 955, 988, 1021, 1044, 1077, 1100, 1133, 1166, 1189, 1222, 1276, 1309, 1332, 1376, 1419, 1462, 1495, 1538, 1571, 1625, 1638, 1651, 1694, 1737, 1800, 1853], 207) := by decide +kernel
theorem dL_law_240 : decode cL_law 240 = .ok (.aload_n 1, 1) := by decide +kernel
theorem dL_law_241 : decode cL_law 241 = .ok (.aload_n 0, 1) := by decide +kernel
theorem dL_law_242 : decode cL_law 242 = .ok (.iload_n 3, 1) := by decide +kernel
theorem dL_law_243 : decode cL_law 243 = .ok (.iconst 1, 1) := by decide +kernel
theorem dL_law_244 : decode cL_law 244 = .ok (.iadd, 1) := by decide +kernel
theorem dL_law_245 : decode cL_law 245 = .ok (.iaload, 1) := by decide +kernel
theorem dL_law_246 : decode cL_law 246 = .ok (.invokevirtual 13, 3) := by decide +kernel
theorem dL_law_249 : decode cL_law 249 = .ok (.aload_n 2, 1) := by decide +kernel
theorem dL_law_250 : decode cL_law 250 = .ok (.aload_n 0, 1) := by decide +kernel
theorem dL_law_251 : decode cL_law 251 = .ok (.iload_n 3, 1) := by decide +kernel
theorem dL_law_252 : decode cL_law 252 = .ok (.iconst 1, 1) := by decide +kernel
theorem dL_law_253 : decode cL_law 253 = .ok (.iadd, 1) := by decide +kernel
theorem dL_law_254 : decode cL_law 254 = .ok (.iaload, 1) := by decide +kernel
theorem dL_law_255 : decode cL_law 255 = .ok (.invokevirtual 17, 3) := by decide +kernel
theorem dL_law_258 : decode cL_law 258 = .ok (.if_icmp .eq 1661, 3) := by decide +kernel
theorem dL_law_261 : decode cL_law 261 = .ok (.iconst 0, 1) := by decide +kernel
theorem dL_law_262 : decode cL_law 262 = .ok (.ireturn, 1) := by decide +kernel
theorem dL_law_263 : decode cL_law 263 = .ok (.aload_n 1, 1) := by decide +kernel
theorem dL_law_264 : decode cL_law 264 = .ok (.aload_n 0, 1) := by decide +kernel
theorem dL_law_265 : decode cL_law 265 = .ok (.iload_n 3, 1) := by decide +kernel
theorem dL_law_266 : decode cL_law 266 = .ok (.iconst 1, 1) := by decide +kernel
theorem dL_law_267 : decode cL_law 267 = .ok (.iadd, 1) := by decide +kernel
theorem dL_law_268 : decode cL_law 268 = .ok (.iaload, 1) := by decide +kernel
theorem dL_law_269 : decode cL_law 269 = .ok (.aload_n 0, 1) := by decide +kernel
theorem dL_law_270 : decode cL_law 270 = .ok (.iload_n 3, 1) := by decide +kernel
theorem dL_law_271 : decode cL_law 271 = .ok (.iconst 2, 1) := by decide +kernel
theorem dL_law_272 : decode cL_law 272 = .ok (.iadd, 1) := by decide +kernel
theorem dL_law_273 : decode cL_law 273 = .ok (.iaload, 1) := by decide +kernel
theorem dL_law_274 : decode cL_law 274 = .ok (.aload_n 0, 1) := by decide +kernel
theorem dL_law_275 : decode cL_law 275 = .ok (.iload_n 3, 1) := by decide +kernel
theorem dL_law_276 : decode cL_law 276 = .ok (.iconst 3, 1) := by decide +kernel
theorem dL_law_277 : decode cL_law 277 = .ok (.iadd, 1) := by decide +kernel
theorem dL_law_278 : decode cL_law 278 = .ok (.iaload, 1) := by decide +kernel
theorem dL_law_279 : decode cL_law 279 = .ok (.aload_n 0, 1) := by decide +kernel
theorem dL_law_280 : decode cL_law 280 = .ok (.iload_n 3, 1) := by decide +kernel
theorem dL_law_281 : decode cL_law 281 = .ok (.iconst 4, 1) := by decide +kernel
theorem dL_law_282 : decode cL_law 282 = .ok (.iadd, 1) := by decide +kernel
theorem dL_law_283 : decode cL_law 283 = .ok (.iaload, 1) := by decide +kernel
theorem dL_law_284 : decode cL_law 284 = .ok (.aload_n 0, 1) := by decide +kernel
theorem dL_law_285 : decode cL_law 285 = .ok (.iload_n 3, 1) := by decide +kernel
theorem dL_law_286 : decode cL_law 286 = .ok (.iconst 5, 1) := by decide +kernel
theorem dL_law_287 : decode cL_law 287 = .ok (.iadd, 1) := by decide +kernel
theorem dL_law_288 : decode cL_law 288 = .ok (.iaload, 1) := by decide +kernel
theorem dL_law_289 : decode cL_law 289 = .ok (.aload_n 0, 1) := by decide +kernel
theorem dL_law_290 : decode cL_law 290 = .ok (.iload_n 3, 1) := by decide +kernel
theorem dL_law_291 : decode cL_law 291 = .ok (.bipush 6, 2) := by decide +kernel
theorem dL_law_293 : decode cL_law 293 = .ok (.iadd, 1) := by decide +kernel
theorem dL_law_294 : decode cL_law 294 = .ok (.iaload, 1) := by decide +kernel
theorem dL_law_295 : decode cL_law 295 = .ok (.invokevirtual 18, 3) := by decide +kernel
theorem dL_law_298 : decode cL_law 298 = .ok (.aload_n 2, 1) := by decide +kernel
theorem dL_law_299 : decode cL_law 299 = .ok (.aload_n 0, 1) := by decide +kernel
theorem dL_law_300 : decode cL_law 300 = .ok (.iload_n 3, 1) := by decide +kernel
theorem dL_law_301 : decode cL_law 301 = .ok (.iconst 1, 1) := by decide +kernel
theorem dL_law_302 : decode cL_law 302 = .ok (.iadd, 1) := by decide +kernel
theorem dL_law_303 : decode cL_law 303 = .ok (.iaload, 1) := by decide +kernel
theorem dL_law_304 : decode cL_law 304 = .ok (.aload_n 0, 1) := by decide +kernel
theorem dL_law_305 : decode cL_law 305 = .ok (.iload_n 3, 1) := by decide +kernel
theorem dL_law_306 : decode cL_law 306 = .ok (.iconst 2, 1) := by decide +kernel
theorem dL_law_307 : decode cL_law 307 = .ok (.iadd, 1) := by decide +kernel
theorem dL_law_308 : decode cL_law 308 = .ok (.iaload, 1) := by decide +kernel
theorem dL_law_309 : decode cL_law 309 = .ok (.aload_n 0, 1) := by decide +kernel
theorem dL_law_310 : decode cL_law 310 = .ok (.iload_n 3, 1) := by decide +kernel
theorem dL_law_311 : decode cL_law 311 = .ok (.iconst 3, 1) := by decide +kernel
theorem dL_law_312 : decode cL_law 312 = .ok (.iadd, 1) := by decide +kernel
theorem dL_law_313 : decode cL_law 313 = .ok (.iaload, 1) := by decide +kernel
theorem dL_law_314 : decode cL_law 314 = .ok (.aload_n 0, 1) := by decide +kernel
theorem dL_law_315 : decode cL_law 315 = .ok (.iload_n 3, 1) := by decide +kernel
theorem dL_law_316 : decode cL_law 316 = .ok (.iconst 4, 1) := by decide +kernel
theorem dL_law_317 : decode cL_law 317 = .ok (.iadd, 1) := by decide +kernel
theorem dL_law_318 : decode cL_law 318 = .ok (.iaload, 1) := by decide +kernel
theorem dL_law_319 : decode cL_law 319 = .ok (.aload_n 0, 1) := by decide +kernel
theorem dL_law_320 : decode cL_law 320 = .ok (.iload_n 3, 1) := by decide +kernel
theorem dL_law_321 : decode cL_law 321 = .ok (.iconst 5, 1) := by decide +kernel
theorem dL_law_322 : decode cL_law 322 = .ok (.iadd, 1) := by decide +kernel
theorem dL_law_323 : decode cL_law 323 = .ok (.iaload, 1) := by decide +kernel
theorem dL_law_324 : decode cL_law 324 = .ok (.aload_n 0, 1) := by decide +kernel
theorem dL_law_325 : decode cL_law 325 = .ok (.iload_n 3, 1) := by decide +kernel
theorem dL_law_326 : decode cL_law 326 = .ok (.bipush 6, 2) := by decide +kernel
theorem dL_law_328 : decode cL_law 328 = .ok (.iadd, 1) := by decide +kernel
theorem dL_law_329 : decode cL_law 329 = .ok (.iaload, 1) := by decide +kernel
theorem dL_law_330 : decode cL_law 330 = .ok (.invokevirtual 22, 3) := by decide +kernel
theorem dL_law_333 : decode cL_law 333 = .ok (.if_icmp .eq 1586, 3) := by decide +kernel
theorem dL_law_336 : decode cL_law 336 = .ok (.iconst 0, 1) := by decide +kernel
theorem dL_law_337 : decode cL_law 337 = .ok (.ireturn, 1) := by decide +kernel
theorem dL_law_338 : decode cL_law 338 = .ok (.aload_n 1, 1) := by decide +kernel
theorem dL_law_339 : decode cL_law 339 = .ok (.invokevirtual 23, 3) := by decide +kernel
theorem dL_law_342 : decode cL_law 342 = .ok (.aload_n 2, 1) := by decide +kernel
theorem dL_law_343 : decode cL_law 343 = .ok (.invokevirtual 27, 3) := by decide +kernel
theorem dL_law_346 : decode cL_law 346 = .ok (.if_icmp .eq 1573, 3) := by decide +kernel
theorem dL_law_349 : decode cL_law 349 = .ok (.iconst 0, 1) := by decide +kernel
theorem dL_law_350 : decode cL_law 350 = .ok (.ireturn, 1) := by decide +kernel
theorem dL_law_351 : decode cL_law 351 = .ok (.aload_n 1, 1) := by decide +kernel
theorem dL_law_352 : decode cL_law 352 = .ok (.aload_n 0, 1) := by decide +kernel
theorem dL_law_353 : decode cL_law 353 = .ok (.iload_n 3, 1) := by decide +kernel
theorem dL_law_354 : decode cL_law 354 = .ok (.iconst 1, 1) := by decide +kernel
theorem dL_law_355 : decode cL_law 355 = .ok (.iadd, 1) := by decide +kernel
theorem dL_law_356 : decode cL_law 356 = .ok (.iaload, 1) := by decide +kernel
theorem dL_law_357 : decode cL_law 357 = .ok (.invokevirtual 28, 3) := by decide +kernel
theorem dL_law_360 : decode cL_law 360 = .ok (.aload_n 2, 1) := by decide +kernel
theorem dL_law_361 : decode cL_law 361 = .ok (.aload_n 0, 1) := by decide +kernel
theorem dL_law_362 : decode cL_law 362 = .ok (.iload_n 3, 1) := by decide +kernel
theorem dL_law_363 : decode cL_law 363 = .ok (.iconst 1, 1) := by decide +kernel
theorem dL_law_364 : decode cL_law 364 = .ok (.iadd, 1) := by decide +kernel
theorem dL_law_365 : decode cL_law 365 = .ok (.iaload, 1) := by decide +kernel
theorem dL_law_366 : decode cL_law 366 = .ok (.invokevirtual 31, 3) := by decide +kernel
theorem dL_law_369 : decode cL_law 369 = .ok (.if_icmp .eq 1550, 3) := by decide +kernel
theorem dL_law_372 : decode cL_law 372 = .ok (.iconst 0, 1) := by decide +kernel
theorem dL_law_373 : decode cL_law 373 = .ok (.ireturn, 1) := by decide +kernel
theorem dL_law_374 : decode cL_law 374 = .ok (.aload_n 1, 1) := by decide +kernel
theorem dL_law_375 : decode cL_law 375 = .ok (.aload_n 0, 1) := by decide +kernel
theorem dL_law_376 : decode cL_law 376 = .ok (.iload_n 3, 1) := by decide +kernel
theorem dL_law_377 : decode cL_law 377 = .ok (.iconst 1, 1) := by decide +kernel
theorem dL_law_378 : decode cL_law 378 = .ok (.iadd, 1) := by decide +kernel
theorem dL_law_379 : decode cL_law 379 = .ok (.iaload, 1) := by decide +kernel
theorem dL_law_380 : decode cL_law 380 = .ok (.aload_n 0, 1) := by decide +kernel
theorem dL_law_381 : decode cL_law 381 = .ok (.iload_n 3, 1) := by decide +kernel
theorem dL_law_382 : decode cL_law 382 = .ok (.iconst 2, 1) := by decide +kernel
theorem dL_law_383 : decode cL_law 383 = .ok (.iadd, 1) := by decide +kernel
theorem dL_law_384 : decode cL_law 384 = .ok (.iaload, 1) := by decide +kernel
theorem dL_law_385 : decode cL_law 385 = .ok (.aload_n 0, 1) := by decide +kernel
theorem dL_law_386 : decode cL_law 386 = .ok (.iload_n 3, 1) := by decide +kernel
theorem dL_law_387 : decode cL_law 387 = .ok (.iconst 3, 1) := by decide +kernel
theorem dL_law_388 : decode cL_law 388 = .ok (.iadd, 1) := by decide +kernel
theorem dL_law_389 : decode cL_law 389 = .ok (.iaload, 1) := by decide +kernel
theorem dL_law_390 : decode cL_law 390 = .ok (.aload_n 0, 1) := by decide +kernel
theorem dL_law_391 : decode cL_law 391 = .ok (.iload_n 3, 1) := by decide +kernel
theorem dL_law_392 : decode cL_law 392 = .ok (.iconst 4, 1) := by decide +kernel
theorem dL_law_393 : decode cL_law 393 = .ok (.iadd, 1) := by decide +kernel
theorem dL_law_394 : decode cL_law 394 = .ok (.iaload, 1) := by decide +kernel
theorem dL_law_395 : decode cL_law 395 = .ok (.aload_n 0, 1) := by decide +kernel
theorem dL_law_396 : decode cL_law 396 = .ok (.iload_n 3, 1) := by decide +kernel
theorem dL_law_397 : decode cL_law 397 = .ok (.iconst 5, 1) := by decide +kernel
theorem dL_law_398 : decode cL_law 398 = .ok (.iadd, 1) := by decide +kernel
theorem dL_law_399 : decode cL_law 399 = .ok (.iaload, 1) := by decide +kernel
theorem dL_law_400 : decode cL_law 400 = .ok (.invokevirtual 32, 3) := by decide +kernel
theorem dL_law_403 : decode cL_law 403 = .ok (.aload_n 2, 1) := by decide +kernel
theorem dL_law_404 : decode cL_law 404 = .ok (.aload_n 0, 1) := by decide +kernel
theorem dL_law_405 : decode cL_law 405 = .ok (.iload_n 3, 1) := by decide +kernel
theorem dL_law_406 : decode cL_law 406 = .ok (.iconst 1, 1) := by decide +kernel
theorem dL_law_407 : decode cL_law 407 = .ok (.iadd, 1) := by decide +kernel
theorem dL_law_408 : decode cL_law 408 = .ok (.iaload, 1) := by decide +kernel
theorem dL_law_409 : decode cL_law 409 = .ok (.aload_n 0, 1) := by decide +kernel
theorem dL_law_410 : decode cL_law 410 = .ok (.iload_n 3, 1) := by decide +kernel
theorem dL_law_411 : decode cL_law 411 = .ok (.iconst 2, 1) := by decide +kernel
theorem dL_law_412 : decode cL_law 412 = .ok (.iadd, 1) := by decide +kernel
theorem dL_law_413 : decode cL_law 413 = .ok (.iaload, 1) := by decide +kernel
theorem dL_law_414 : decode cL_law 414 = .ok (.aload_n 0, 1) := by decide +kernel
theorem dL_law_415 : decode cL_law 415 = .ok (.iload_n 3, 1) := by decide +kernel
theorem dL_law_416 : decode cL_law 416 = .ok (.iconst 3, 1) := by decide +kernel
theorem dL_law_417 : decode cL_law 417 = .ok (.iadd, 1) := by decide +kernel
theorem dL_law_418 : decode cL_law 418 = .ok (.iaload, 1) := by decide +kernel
theorem dL_law_419 : decode cL_law 419 = .ok (.aload_n 0, 1) := by decide +kernel
theorem dL_law_420 : decode cL_law 420 = .ok (.iload_n 3, 1) := by decide +kernel
theorem dL_law_421 : decode cL_law 421 = .ok (.iconst 4, 1) := by decide +kernel
theorem dL_law_422 : decode cL_law 422 = .ok (.iadd, 1) := by decide +kernel
theorem dL_law_423 : decode cL_law 423 = .ok (.iaload, 1) := by decide +kernel
theorem dL_law_424 : decode cL_law 424 = .ok (.aload_n 0, 1) := by decide +kernel
theorem dL_law_425 : decode cL_law 425 = .ok (.iload_n 3, 1) := by decide +kernel
theorem dL_law_426 : decode cL_law 426 = .ok (.iconst 5, 1) := by decide +kernel
theorem dL_law_427 : decode cL_law 427 = .ok (.iadd, 1) := by decide +kernel
theorem dL_law_428 : decode cL_law 428 = .ok (.iaload, 1) := by decide +kernel
theorem dL_law_429 : decode cL_law 429 = .ok (.invokevirtual 36, 3) := by decide +kernel
theorem dL_law_432 : decode cL_law 432 = .ok (.if_icmp .eq 1487, 3) := by decide +kernel
theorem dL_law_435 : decode cL_law 435 = .ok (.iconst 0, 1) := by decide +kernel
theorem dL_law_436 : decode cL_law 436 = .ok (.ireturn, 1) := by decide +kernel
theorem dL_law_437 : decode cL_law 437 = .ok (.aload_n 1, 1) := by decide +kernel
theorem dL_law_438 : decode cL_law 438 = .ok (.aload_n 0, 1) := by decide +kernel
theorem dL_law_439 : decode cL_law 439 = .ok (.iload_n 3, 1) := by decide +kernel
theorem dL_law_440 : decode cL_law 440 = .ok (.iconst 1, 1) := by decide +kernel
theorem dL_law_441 : decode cL_law 441 = .ok (.iadd, 1) := by decide +kernel
theorem dL_law_442 : decode cL_law 442 = .ok (.iaload, 1) := by decide +kernel
theorem dL_law_443 : decode cL_law 443 = .ok (.aload_n 0, 1) := by decide +kernel
theorem dL_law_444 : decode cL_law 444 = .ok (.iload_n 3, 1) := by decide +kernel
theorem dL_law_445 : decode cL_law 445 = .ok (.iconst 2, 1) := by decide +kernel
theorem dL_law_446 : decode cL_law 446 = .ok (.iadd, 1) := by decide +kernel
theorem dL_law_447 : decode cL_law 447 = .ok (.iaload, 1) := by decide +kernel
theorem dL_law_448 : decode cL_law 448 = .ok (.aload_n 0, 1) := by decide +kernel
theorem dL_law_449 : decode cL_law 449 = .ok (.iload_n 3, 1) := by decide +kernel
theorem dL_law_450 : decode cL_law 450 = .ok (.iconst 3, 1) := by decide +kernel
theorem dL_law_451 : decode cL_law 451 = .ok (.iadd, 1) := by decide +kernel
theorem dL_law_452 : decode cL_law 452 = .ok (.iaload, 1) := by decide +kernel
theorem dL_law_453 : decode cL_law 453 = .ok (.invokevirtual 37, 3) := by decide +kernel
theorem dL_law_456 : decode cL_law 456 = .ok (.aload_n 2, 1) := by decide +kernel
theorem dL_law_457 : decode cL_law 457 = .ok (.aload_n 0, 1) := by decide +kernel
theorem dL_law_458 : decode cL_law 458 = .ok (.iload_n 3, 1) := by decide +kernel
theorem dL_law_459 : decode cL_law 459 = .ok (.iconst 1, 1) := by decide +kernel
theorem dL_law_460 : decode cL_law 460 = .ok (.iadd, 1) := by decide +kernel
theorem dL_law_461 : decode cL_law 461 = .ok (.iaload, 1) := by decide +kernel
theorem dL_law_462 : decode cL_law 462 = .ok (.aload_n 0, 1) := by decide +kernel
theorem dL_law_463 : decode cL_law 463 = .ok (.iload_n 3, 1) := by decide +kernel
theorem dL_law_464 : decode cL_law 464 = .ok (.iconst 2, 1) := by decide +kernel
theorem dL_law_465 : decode cL_law 465 = .ok (.iadd, 1) := by decide +kernel
theorem dL_law_466 : decode cL_law 466 = .ok (.iaload, 1) := by decide +kernel
theorem dL_law_467 : decode cL_law 467 = .ok (.aload_n 0, 1) := by decide +kernel
theorem dL_law_468 : decode cL_law 468 = .ok (.iload_n 3, 1) := by decide +kernel
theorem dL_law_469 : decode cL_law 469 = .ok (.iconst 3, 1) := by decide +kernel
theorem dL_law_470 : decode cL_law 470 = .ok (.iadd, 1) := by decide +kernel
theorem dL_law_471 : decode cL_law 471 = .ok (.iaload, 1) := by decide +kernel
theorem dL_law_472 : decode cL_law 472 = .ok (.invokevirtual 41, 3) := by decide +kernel
theorem dL_law_475 : decode cL_law 475 = .ok (.if_icmp .eq 1444, 3) := by decide +kernel
theorem dL_law_478 : decode cL_law 478 = .ok (.iconst 0, 1) := by decide +kernel
theorem dL_law_479 : decode cL_law 479 = .ok (.ireturn, 1) := by decide +kernel
theorem dL_law_480 : decode cL_law 480 = .ok (.aload_n 1, 1) := by decide +kernel
theorem dL_law_481 : decode cL_law 481 = .ok (.aload_n 0, 1) := by decide +kernel
theorem dL_law_482 : decode cL_law 482 = .ok (.iload_n 3, 1) := by decide +kernel
theorem dL_law_483 : decode cL_law 483 = .ok (.iconst 1, 1) := by decide +kernel
theorem dL_law_484 : decode cL_law 484 = .ok (.iadd, 1) := by decide +kernel
theorem dL_law_485 : decode cL_law 485 = .ok (.iaload, 1) := by decide +kernel
theorem dL_law_486 : decode cL_law 486 = .ok (.aload_n 0, 1) := by decide +kernel
theorem dL_law_487 : decode cL_law 487 = .ok (.iload_n 3, 1) := by decide +kernel
theorem dL_law_488 : decode cL_law 488 = .ok (.iconst 2, 1) := by decide +kernel
theorem dL_law_489 : decode cL_law 489 = .ok (.iadd, 1) := by decide +kernel
theorem dL_law_490 : decode cL_law 490 = .ok (.iaload, 1) := by decide +kernel
theorem dL_law_491 : decode cL_law 491 = .ok (.invokevirtual 42, 3) := by decide +kernel
theorem dL_law_494 : decode cL_law 494 = .ok (.aload_n 2, 1) := by decide +kernel
theorem dL_law_495 : decode cL_law 495 = .ok (.aload_n 0, 1) := by decide +kernel
theorem dL_law_496 : decode cL_law 496 = .ok (.iload_n 3, 1) := by decide +kernel
theorem dL_law_497 : decode cL_law 497 = .ok (.iconst 1, 1) := by decide +kernel
theorem dL_law_498 : decode cL_law 498 = .ok (.iadd, 1) := by decide +kernel
theorem dL_law_499 : decode cL_law 499 = .ok (.iaload, 1) := by decide +kernel
theorem dL_law_500 : decode cL_law 500 = .ok (.aload_n 0, 1) := by decide +kernel
theorem dL_law_501 : decode cL_law 501 = .ok (.iload_n 3, 1) := by decide +kernel
theorem dL_law_502 : decode cL_law 502 = .ok (.iconst 2, 1) := by decide +kernel
theorem dL_law_503 : decode cL_law 503 = .ok (.iadd, 1) := by decide +kernel
theorem dL_law_504 : decode cL_law 504 = .ok (.iaload, 1) := by decide +kernel
theorem dL_law_505 : decode cL_law 505 = .ok (.invokevirtual 46, 3) := by decide +kernel
theorem dL_law_508 : decode cL_law 508 = .ok (.if_icmp .eq 1411, 3) := by decide +kernel
theorem dL_law_511 : decode cL_law 511 = .ok (.iconst 0, 1) := by decide +kernel
theorem dL_law_512 : decode cL_law 512 = .ok (.ireturn, 1) := by decide +kernel
theorem dL_law_513 : decode cL_law 513 = .ok (.aload_n 1, 1) := by decide +kernel
theorem dL_law_514 : decode cL_law 514 = .ok (.aload_n 0, 1) := by decide +kernel
theorem dL_law_515 : decode cL_law 515 = .ok (.iload_n 3, 1) := by decide +kernel
theorem dL_law_516 : decode cL_law 516 = .ok (.iconst 1, 1) := by decide +kernel
theorem dL_law_517 : decode cL_law 517 = .ok (.iadd, 1) := by decide +kernel
theorem dL_law_518 : decode cL_law 518 = .ok (.iaload, 1) := by decide +kernel
theorem dL_law_519 : decode cL_law 519 = .ok (.aload_n 0, 1) := by decide +kernel
theorem dL_law_520 : decode cL_law 520 = .ok (.iload_n 3, 1) := by decide +kernel
theorem dL_law_521 : decode cL_law 521 = .ok (.iconst 2, 1) := by decide +kernel
theorem dL_law_522 : decode cL_law 522 = .ok (.iadd, 1) := by decide +kernel
theorem dL_law_523 : decode cL_law 523 = .ok (.iaload, 1) := by decide +kernel
theorem dL_law_524 : decode cL_law 524 = .ok (.invokevirtual 47, 3) := by decide +kernel
theorem dL_law_527 : decode cL_law 527 = .ok (.aload_n 2, 1) := by decide +kernel
theorem dL_law_528 : decode cL_law 528 = .ok (.aload_n 0, 1) := by decide +kernel
theorem dL_law_529 : decode cL_law 529 = .ok (.iload_n 3, 1) := by decide +kernel
theorem dL_law_530 : decode cL_law 530 = .ok (.iconst 1, 1) := by decide +kernel
theorem dL_law_531 : decode cL_law 531 = .ok (.iadd, 1) := by decide +kernel
theorem dL_law_532 : decode cL_law 532 = .ok (.iaload, 1) := by decide +kernel
theorem dL_law_533 : decode cL_law 533 = .ok (.aload_n 0, 1) := by decide +kernel
theorem dL_law_534 : decode cL_law 534 = .ok (.iload_n 3, 1) := by decide +kernel
theorem dL_law_535 : decode cL_law 535 = .ok (.iconst 2, 1) := by decide +kernel
theorem dL_law_536 : decode cL_law 536 = .ok (.iadd, 1) := by decide +kernel
theorem dL_law_537 : decode cL_law 537 = .ok (.iaload, 1) := by decide +kernel
theorem dL_law_538 : decode cL_law 538 = .ok (.invokevirtual 50, 3) := by decide +kernel
theorem dL_law_541 : decode cL_law 541 = .ok (.if_icmp .eq 1378, 3) := by decide +kernel
theorem dL_law_544 : decode cL_law 544 = .ok (.iconst 0, 1) := by decide +kernel
theorem dL_law_545 : decode cL_law 545 = .ok (.ireturn, 1) := by decide +kernel
theorem dL_law_546 : decode cL_law 546 = .ok (.aload_n 1, 1) := by decide +kernel
theorem dL_law_547 : decode cL_law 547 = .ok (.aload_n 0, 1) := by decide +kernel
theorem dL_law_548 : decode cL_law 548 = .ok (.iload_n 3, 1) := by decide +kernel
theorem dL_law_549 : decode cL_law 549 = .ok (.iconst 1, 1) := by decide +kernel
theorem dL_law_550 : decode cL_law 550 = .ok (.iadd, 1) := by decide +kernel
theorem dL_law_551 : decode cL_law 551 = .ok (.iaload, 1) := by decide +kernel
theorem dL_law_552 : decode cL_law 552 = .ok (.aload_n 0, 1) := by decide +kernel
theorem dL_law_553 : decode cL_law 553 = .ok (.iload_n 3, 1) := by decide +kernel
theorem dL_law_554 : decode cL_law 554 = .ok (.iconst 2, 1) := by decide +kernel
theorem dL_law_555 : decode cL_law 555 = .ok (.iadd, 1) := by decide +kernel
theorem dL_law_556 : decode cL_law 556 = .ok (.iaload, 1) := by decide +kernel
theorem dL_law_557 : decode cL_law 557 = .ok (.invokevirtual 51, 3) := by decide +kernel
theorem dL_law_560 : decode cL_law 560 = .ok (.aload_n 2, 1) := by decide +kernel
theorem dL_law_561 : decode cL_law 561 = .ok (.aload_n 0, 1) := by decide +kernel
theorem dL_law_562 : decode cL_law 562 = .ok (.iload_n 3, 1) := by decide +kernel
theorem dL_law_563 : decode cL_law 563 = .ok (.iconst 1, 1) := by decide +kernel
theorem dL_law_564 : decode cL_law 564 = .ok (.iadd, 1) := by decide +kernel
theorem dL_law_565 : decode cL_law 565 = .ok (.iaload, 1) := by decide +kernel
theorem dL_law_566 : decode cL_law 566 = .ok (.aload_n 0, 1) := by decide +kernel
theorem dL_law_567 : decode cL_law 567 = .ok (.iload_n 3, 1) := by decide +kernel
theorem dL_law_568 : decode cL_law 568 = .ok (.iconst 2, 1) := by decide +kernel
theorem dL_law_569 : decode cL_law 569 = .ok (.iadd, 1) := by decide +kernel
theorem dL_law_570 : decode cL_law 570 = .ok (.iaload, 1) := by decide +kernel
theorem dL_law_571 : decode cL_law 571 = .ok (.invokevirtual 54, 3) := by decide +kernel
theorem dL_law_574 : decode cL_law 574 = .ok (.if_icmp .eq 1345, 3) := by decide +kernel
theorem dL_law_577 : decode cL_law 577 = .ok (.iconst 0, 1) := by decide +kernel
theorem dL_law_578 : decode cL_law 578 = .ok (.ireturn, 1) := by decide +kernel
theorem dL_law_579 : decode cL_law 579 = .ok (.aload_n 1, 1) := by decide +kernel
theorem dL_law_580 : decode cL_law 580 = .ok (.aload_n 0, 1) := by decide +kernel
theorem dL_law_581 : decode cL_law 581 = .ok (.iload_n 3, 1) := by decide +kernel
theorem dL_law_582 : decode cL_law 582 = .ok (.iconst 1, 1) := by decide +kernel
theorem dL_law_583 : decode cL_law 583 = .ok (.iadd, 1) := by decide +kernel
theorem dL_law_584 : decode cL_law 584 = .ok (.iaload, 1) := by decide +kernel
theorem dL_law_585 : decode cL_law 585 = .ok (.aload_n 0, 1) := by decide +kernel
theorem dL_law_586 : decode cL_law 586 = .ok (.iload_n 3, 1) := by decide +kernel
theorem dL_law_587 : decode cL_law 587 = .ok (.iconst 2, 1) := by decide +kernel
theorem dL_law_588 : decode cL_law 588 = .ok (.iadd, 1) := by decide +kernel
theorem dL_law_589 : decode cL_law 589 = .ok (.iaload, 1) := by decide +kernel
theorem dL_law_590 : decode cL_law 590 = .ok (.invokevirtual 55, 3) := by decide +kernel
theorem dL_law_593 : decode cL_law 593 = .ok (.aload_n 2, 1) := by decide +kernel
theorem dL_law_594 : decode cL_law 594 = .ok (.aload_n 0, 1) := by decide +kernel
theorem dL_law_595 : decode cL_law 595 = .ok (.iload_n 3, 1) := by decide +kernel
theorem dL_law_596 : decode cL_law 596 = .ok (.iconst 1, 1) := by decide +kernel
theorem dL_law_597 : decode cL_law 597 = .ok (.iadd, 1) := by decide +kernel
theorem dL_law_598 : decode cL_law 598 = .ok (.iaload, 1) := by decide +kernel
theorem dL_law_599 : decode cL_law 599 = .ok (.aload_n 0, 1) := by decide +kernel
theorem dL_law_600 : decode cL_law 600 = .ok (.iload_n 3, 1) := by decide +kernel
theorem dL_law_601 : decode cL_law 601 = .ok (.iconst 2, 1) := by decide +kernel
theorem dL_law_602 : decode cL_law 602 = .ok (.iadd, 1) := by decide +kernel
theorem dL_law_603 : decode cL_law 603 = .ok (.iaload, 1) := by decide +kernel
theorem dL_law_604 : decode cL_law 604 = .ok (.invokevirtual 58, 3) := by decide +kernel
theorem dL_law_607 : decode cL_law 607 = .ok (.if_icmp .eq 1312, 3) := by decide +kernel
theorem dL_law_610 : decode cL_law 610 = .ok (.iconst 0, 1) := by decide +kernel
theorem dL_law_611 : decode cL_law 611 = .ok (.ireturn, 1) := by decide +kernel
theorem dL_law_612 : decode cL_law 612 = .ok (.aload_n 1, 1) := by decide +kernel
theorem dL_law_613 : decode cL_law 613 = .ok (.aload_n 0, 1) := by decide +kernel
theorem dL_law_614 : decode cL_law 614 = .ok (.iload_n 3, 1) := by decide +kernel
theorem dL_law_615 : decode cL_law 615 = .ok (.iconst 1, 1) := by decide +kernel
theorem dL_law_616 : decode cL_law 616 = .ok (.iadd, 1) := by decide +kernel
theorem dL_law_617 : decode cL_law 617 = .ok (.iaload, 1) := by decide +kernel
theorem dL_law_618 : decode cL_law 618 = .ok (.aload_n 0, 1) := by decide +kernel
theorem dL_law_619 : decode cL_law 619 = .ok (.iload_n 3, 1) := by decide +kernel
theorem dL_law_620 : decode cL_law 620 = .ok (.iconst 2, 1) := by decide +kernel
theorem dL_law_621 : decode cL_law 621 = .ok (.iadd, 1) := by decide +kernel
theorem dL_law_622 : decode cL_law 622 = .ok (.iaload, 1) := by decide +kernel
theorem dL_law_623 : decode cL_law 623 = .ok (.aload_n 0, 1) := by decide +kernel
theorem dL_law_624 : decode cL_law 624 = .ok (.iload_n 3, 1) := by decide +kernel
theorem dL_law_625 : decode cL_law 625 = .ok (.iconst 3, 1) := by decide +kernel
theorem dL_law_626 : decode cL_law 626 = .ok (.iadd, 1) := by decide +kernel
theorem dL_law_627 : decode cL_law 627 = .ok (.iaload, 1) := by decide +kernel
theorem dL_law_628 : decode cL_law 628 = .ok (.invokevirtual 59, 3) := by decide +kernel
theorem dL_law_631 : decode cL_law 631 = .ok (.aload_n 2, 1) := by decide +kernel
theorem dL_law_632 : decode cL_law 632 = .ok (.aload_n 0, 1) := by decide +kernel
theorem dL_law_633 : decode cL_law 633 = .ok (.iload_n 3, 1) := by decide +kernel
theorem dL_law_634 : decode cL_law 634 = .ok (.iconst 1, 1) := by decide +kernel
theorem dL_law_635 : decode cL_law 635 = .ok (.iadd, 1) := by decide +kernel
theorem dL_law_636 : decode cL_law 636 = .ok (.iaload, 1) := by decide +kernel
theorem dL_law_637 : decode cL_law 637 = .ok (.aload_n 0, 1) := by decide +kernel
theorem dL_law_638 : decode cL_law 638 = .ok (.iload_n 3, 1) := by decide +kernel
theorem dL_law_639 : decode cL_law 639 = .ok (.iconst 2, 1) := by decide +kernel
theorem dL_law_640 : decode cL_law 640 = .ok (.iadd, 1) := by decide +kernel
theorem dL_law_641 : decode cL_law 641 = .ok (.iaload, 1) := by decide +kernel
theorem dL_law_642 : decode cL_law 642 = .ok (.aload_n 0, 1) := by decide +kernel
theorem dL_law_643 : decode cL_law 643 = .ok (.iload_n 3, 1) := by decide +kernel
theorem dL_law_644 : decode cL_law 644 = .ok (.iconst 3, 1) := by decide +kernel
theorem dL_law_645 : decode cL_law 645 = .ok (.iadd, 1) := by decide +kernel
theorem dL_law_646 : decode cL_law 646 = .ok (.iaload, 1) := by decide +kernel
theorem dL_law_647 : decode cL_law 647 = .ok (.invokevirtual 62, 3) := by decide +kernel
theorem dL_law_650 : decode cL_law 650 = .ok (.if_icmp .eq 1269, 3) := by decide +kernel
theorem dL_law_653 : decode cL_law 653 = .ok (.iconst 0, 1) := by decide +kernel
theorem dL_law_654 : decode cL_law 654 = .ok (.ireturn, 1) := by decide +kernel
theorem dL_law_655 : decode cL_law 655 = .ok (.aload_n 1, 1) := by decide +kernel
theorem dL_law_656 : decode cL_law 656 = .ok (.invokevirtual 63, 3) := by decide +kernel
theorem dL_law_659 : decode cL_law 659 = .ok (.aload_n 2, 1) := by decide +kernel
theorem dL_law_660 : decode cL_law 660 = .ok (.invokevirtual 66, 3) := by decide +kernel
theorem dL_law_663 : decode cL_law 663 = .ok (.if_icmp .eq 1256, 3) := by decide +kernel
theorem dL_law_666 : decode cL_law 666 = .ok (.iconst 0, 1) := by decide +kernel
theorem dL_law_667 : decode cL_law 667 = .ok (.ireturn, 1) := by decide +kernel
theorem dL_law_668 : decode cL_law 668 = .ok (.aload_n 1, 1) := by decide +kernel
theorem dL_law_669 : decode cL_law 669 = .ok (.aload_n 0, 1) := by decide +kernel
theorem dL_law_670 : decode cL_law 670 = .ok (.iload_n 3, 1) := by decide +kernel
theorem dL_law_671 : decode cL_law 671 = .ok (.iconst 1, 1) := by decide +kernel
theorem dL_law_672 : decode cL_law 672 = .ok (.iadd, 1) := by decide +kernel
theorem dL_law_673 : decode cL_law 673 = .ok (.iaload, 1) := by decide +kernel
theorem dL_law_674 : decode cL_law 674 = .ok (.aload_n 0, 1) := by decide +kernel
theorem dL_law_675 : decode cL_law 675 = .ok (.iload_n 3, 1) := by decide +kernel
theorem dL_law_676 : decode cL_law 676 = .ok (.iconst 2, 1) := by decide +kernel
theorem dL_law_677 : decode cL_law 677 = .ok (.iadd, 1) := by decide +kernel
theorem dL_law_678 : decode cL_law 678 = .ok (.iaload, 1) := by decide +kernel
theorem dL_law_679 : decode cL_law 679 = .ok (.invokevirtual 67, 3) := by decide +kernel
theorem dL_law_682 : decode cL_law 682 = .ok (.aload_n 2, 1) := by decide +kernel
theorem dL_law_683 : decode cL_law 683 = .ok (.aload_n 0, 1) := by decide +kernel
theorem dL_law_684 : decode cL_law 684 = .ok (.iload_n 3, 1) := by decide +kernel
theorem dL_law_685 : decode cL_law 685 = .ok (.iconst 1, 1) := by decide +kernel
theorem dL_law_686 : decode cL_law 686 = .ok (.iadd, 1) := by decide +kernel
theorem dL_law_687 : decode cL_law 687 = .ok (.iaload, 1) := by decide +kernel
theorem dL_law_688 : decode cL_law 688 = .ok (.aload_n 0, 1) := by decide +kernel
theorem dL_law_689 : decode cL_law 689 = .ok (.iload_n 3, 1) := by decide +kernel
theorem dL_law_690 : decode cL_law 690 = .ok (.iconst 2, 1) := by decide +kernel
theorem dL_law_691 : decode cL_law 691 = .ok (.iadd, 1) := by decide +kernel
theorem dL_law_692 : decode cL_law 692 = .ok (.iaload, 1) := by decide +kernel
theorem dL_law_693 : decode cL_law 693 = .ok (.invokevirtual 70, 3) := by decide +kernel
theorem dL_law_696 : decode cL_law 696 = .ok (.if_icmp .eq 1223, 3) := by decide +kernel
theorem dL_law_699 : decode cL_law 699 = .ok (.iconst 0, 1) := by decide +kernel
theorem dL_law_700 : decode cL_law 700 = .ok (.ireturn, 1) := by decide +kernel
theorem dL_law_701 : decode cL_law 701 = .ok (.aload_n 1, 1) := by decide +kernel
theorem dL_law_702 : decode cL_law 702 = .ok (.aload_n 0, 1) := by decide +kernel
theorem dL_law_703 : decode cL_law 703 = .ok (.iload_n 3, 1) := by decide +kernel
theorem dL_law_704 : decode cL_law 704 = .ok (.iconst 1, 1) := by decide +kernel
theorem dL_law_705 : decode cL_law 705 = .ok (.iadd, 1) := by decide +kernel
theorem dL_law_706 : decode cL_law 706 = .ok (.iaload, 1) := by decide +kernel
theorem dL_law_707 : decode cL_law 707 = .ok (.aload_n 0, 1) := by decide +kernel
theorem dL_law_708 : decode cL_law 708 = .ok (.iload_n 3, 1) := by decide +kernel
theorem dL_law_709 : decode cL_law 709 = .ok (.iconst 2, 1) := by decide +kernel
theorem dL_law_710 : decode cL_law 710 = .ok (.iadd, 1) := by decide +kernel
theorem dL_law_711 : decode cL_law 711 = .ok (.iaload, 1) := by decide +kernel
theorem dL_law_712 : decode cL_law 712 = .ok (.aload_n 0, 1) := by decide +kernel
theorem dL_law_713 : decode cL_law 713 = .ok (.iload_n 3, 1) := by decide +kernel
theorem dL_law_714 : decode cL_law 714 = .ok (.iconst 3, 1) := by decide +kernel
theorem dL_law_715 : decode cL_law 715 = .ok (.iadd, 1) := by decide +kernel
theorem dL_law_716 : decode cL_law 716 = .ok (.iaload, 1) := by decide +kernel
theorem dL_law_717 : decode cL_law 717 = .ok (.invokevirtual 71, 3) := by decide +kernel
theorem dL_law_720 : decode cL_law 720 = .ok (.aload_n 2, 1) := by decide +kernel
theorem dL_law_721 : decode cL_law 721 = .ok (.aload_n 0, 1) := by decide +kernel
theorem dL_law_722 : decode cL_law 722 = .ok (.iload_n 3, 1) := by decide +kernel
theorem dL_law_723 : decode cL_law 723 = .ok (.iconst 1, 1) := by decide +kernel
theorem dL_law_724 : decode cL_law 724 = .ok (.iadd, 1) := by decide +kernel
theorem dL_law_725 : decode cL_law 725 = .ok (.iaload, 1) := by decide +kernel
theorem dL_law_726 : decode cL_law 726 = .ok (.aload_n 0, 1) := by decide +kernel
theorem dL_law_727 : decode cL_law 727 = .ok (.iload_n 3, 1) := by decide +kernel
theorem dL_law_728 : decode cL_law 728 = .ok (.iconst 2, 1) := by decide +kernel
theorem dL_law_729 : decode cL_law 729 = .ok (.iadd, 1) := by decide +kernel
theorem dL_law_730 : decode cL_law 730 = .ok (.iaload, 1) := by decide +kernel
theorem dL_law_731 : decode cL_law 731 = .ok (.aload_n 0, 1) := by decide +kernel
theorem dL_law_732 : decode cL_law 732 = .ok (.iload_n 3, 1) := by decide +kernel
theorem dL_law_733 : decode cL_law 733 = .ok (.iconst 3, 1) := by decide +kernel
theorem dL_law_734 : decode cL_law 734 = .ok (.iadd, 1) := by decide +kernel
theorem dL_law_735 : decode cL_law 735 = .ok (.iaload, 1) := by decide +kernel
theorem dL_law_736 : decode cL_law 736 = .ok (.invokevirtual 74, 3) := by decide +kernel
theorem dL_law_739 : decode cL_law 739 = .ok (.if_icmp .eq 1180, 3) := by decide +kernel
theorem dL_law_742 : decode cL_law 742 = .ok (.iconst 0, 1) := by decide +kernel
theorem dL_law_743 : decode cL_law 743 = .ok (.ireturn, 1) := by decide +kernel
theorem dL_law_744 : decode cL_law 744 = .ok (.aload_n 1, 1) := by decide +kernel
theorem dL_law_745 : decode cL_law 745 = .ok (.aload_n 0, 1) := by decide +kernel
theorem dL_law_746 : decode cL_law 746 = .ok (.iload_n 3, 1) := by decide +kernel
theorem dL_law_747 : decode cL_law 747 = .ok (.iconst 1, 1) := by decide +kernel
theorem dL_law_748 : decode cL_law 748 = .ok (.iadd, 1) := by decide +kernel
theorem dL_law_749 : decode cL_law 749 = .ok (.iaload, 1) := by decide +kernel
theorem dL_law_750 : decode cL_law 750 = .ok (.aload_n 0, 1) := by decide +kernel
theorem dL_law_751 : decode cL_law 751 = .ok (.iload_n 3, 1) := by decide +kernel
theorem dL_law_752 : decode cL_law 752 = .ok (.iconst 2, 1) := by decide +kernel
theorem dL_law_753 : decode cL_law 753 = .ok (.iadd, 1) := by decide +kernel
theorem dL_law_754 : decode cL_law 754 = .ok (.iaload, 1) := by decide +kernel
theorem dL_law_755 : decode cL_law 755 = .ok (.invokevirtual 75, 3) := by decide +kernel
theorem dL_law_758 : decode cL_law 758 = .ok (.aload_n 2, 1) := by decide +kernel
theorem dL_law_759 : decode cL_law 759 = .ok (.aload_n 0, 1) := by decide +kernel
theorem dL_law_760 : decode cL_law 760 = .ok (.iload_n 3, 1) := by decide +kernel
theorem dL_law_761 : decode cL_law 761 = .ok (.iconst 1, 1) := by decide +kernel
theorem dL_law_762 : decode cL_law 762 = .ok (.iadd, 1) := by decide +kernel
theorem dL_law_763 : decode cL_law 763 = .ok (.iaload, 1) := by decide +kernel
theorem dL_law_764 : decode cL_law 764 = .ok (.aload_n 0, 1) := by decide +kernel
theorem dL_law_765 : decode cL_law 765 = .ok (.iload_n 3, 1) := by decide +kernel
theorem dL_law_766 : decode cL_law 766 = .ok (.iconst 2, 1) := by decide +kernel
theorem dL_law_767 : decode cL_law 767 = .ok (.iadd, 1) := by decide +kernel
theorem dL_law_768 : decode cL_law 768 = .ok (.iaload, 1) := by decide +kernel
theorem dL_law_769 : decode cL_law 769 = .ok (.invokevirtual 78, 3) := by decide +kernel
theorem dL_law_772 : decode cL_law 772 = .ok (.if_icmp .eq 1147, 3) := by decide +kernel
theorem dL_law_775 : decode cL_law 775 = .ok (.iconst 0, 1) := by decide +kernel
theorem dL_law_776 : decode cL_law 776 = .ok (.ireturn, 1) := by decide +kernel
theorem dL_law_777 : decode cL_law 777 = .ok (.aload_n 1, 1) := by decide +kernel
theorem dL_law_778 : decode cL_law 778 = .ok (.aload_n 0, 1) := by decide +kernel
theorem dL_law_779 : decode cL_law 779 = .ok (.iload_n 3, 1) := by decide +kernel
theorem dL_law_780 : decode cL_law 780 = .ok (.iconst 1, 1) := by decide +kernel
theorem dL_law_781 : decode cL_law 781 = .ok (.iadd, 1) := by decide +kernel
theorem dL_law_782 : decode cL_law 782 = .ok (.iaload, 1) := by decide +kernel
theorem dL_law_783 : decode cL_law 783 = .ok (.aload_n 0, 1) := by decide +kernel
theorem dL_law_784 : decode cL_law 784 = .ok (.iload_n 3, 1) := by decide +kernel
theorem dL_law_785 : decode cL_law 785 = .ok (.iconst 2, 1) := by decide +kernel
theorem dL_law_786 : decode cL_law 786 = .ok (.iadd, 1) := by decide +kernel
theorem dL_law_787 : decode cL_law 787 = .ok (.iaload, 1) := by decide +kernel
theorem dL_law_788 : decode cL_law 788 = .ok (.invokevirtual 79, 3) := by decide +kernel
theorem dL_law_791 : decode cL_law 791 = .ok (.aload_n 2, 1) := by decide +kernel
theorem dL_law_792 : decode cL_law 792 = .ok (.aload_n 0, 1) := by decide +kernel
theorem dL_law_793 : decode cL_law 793 = .ok (.iload_n 3, 1) := by decide +kernel
theorem dL_law_794 : decode cL_law 794 = .ok (.iconst 1, 1) := by decide +kernel
theorem dL_law_795 : decode cL_law 795 = .ok (.iadd, 1) := by decide +kernel
theorem dL_law_796 : decode cL_law 796 = .ok (.iaload, 1) := by decide +kernel
theorem dL_law_797 : decode cL_law 797 = .ok (.aload_n 0, 1) := by decide +kernel
theorem dL_law_798 : decode cL_law 798 = .ok (.iload_n 3, 1) := by decide +kernel
theorem dL_law_799 : decode cL_law 799 = .ok (.iconst 2, 1) := by decide +kernel
theorem dL_law_800 : decode cL_law 800 = .ok (.iadd, 1) := by decide +kernel
theorem dL_law_801 : decode cL_law 801 = .ok (.iaload, 1) := by decide +kernel
theorem dL_law_802 : decode cL_law 802 = .ok (.invokevirtual 82, 3) := by decide +kernel
theorem dL_law_805 : decode cL_law 805 = .ok (.if_icmp .eq 1114, 3) := by decide +kernel
theorem dL_law_808 : decode cL_law 808 = .ok (.iconst 0, 1) := by decide +kernel
theorem dL_law_809 : decode cL_law 809 = .ok (.ireturn, 1) := by decide +kernel
theorem dL_law_810 : decode cL_law 810 = .ok (.aload_n 1, 1) := by decide +kernel
theorem dL_law_811 : decode cL_law 811 = .ok (.aload_n 0, 1) := by decide +kernel
theorem dL_law_812 : decode cL_law 812 = .ok (.iload_n 3, 1) := by decide +kernel
theorem dL_law_813 : decode cL_law 813 = .ok (.iconst 1, 1) := by decide +kernel
theorem dL_law_814 : decode cL_law 814 = .ok (.iadd, 1) := by decide +kernel
theorem dL_law_815 : decode cL_law 815 = .ok (.iaload, 1) := by decide +kernel
theorem dL_law_816 : decode cL_law 816 = .ok (.invokevirtual 83, 3) := by decide +kernel
theorem dL_law_819 : decode cL_law 819 = .ok (.aload_n 2, 1) := by decide +kernel
theorem dL_law_820 : decode cL_law 820 = .ok (.aload_n 0, 1) := by decide +kernel
theorem dL_law_821 : decode cL_law 821 = .ok (.iload_n 3, 1) := by decide +kernel
theorem dL_law_822 : decode cL_law 822 = .ok (.iconst 1, 1) := by decide +kernel
theorem dL_law_823 : decode cL_law 823 = .ok (.iadd, 1) := by decide +kernel
theorem dL_law_824 : decode cL_law 824 = .ok (.iaload, 1) := by decide +kernel
theorem dL_law_825 : decode cL_law 825 = .ok (.invokevirtual 86, 3) := by decide +kernel
theorem dL_law_828 : decode cL_law 828 = .ok (.if_icmp .eq 1091, 3) := by decide +kernel
theorem dL_law_831 : decode cL_law 831 = .ok (.iconst 0, 1) := by decide +kernel
theorem dL_law_832 : decode cL_law 832 = .ok (.ireturn, 1) := by decide +kernel
theorem dL_law_833 : decode cL_law 833 = .ok (.aload_n 1, 1) := by decide +kernel
theorem dL_law_834 : decode cL_law 834 = .ok (.aload_n 0, 1) := by decide +kernel
theorem dL_law_835 : decode cL_law 835 = .ok (.iload_n 3, 1) := by decide +kernel
theorem dL_law_836 : decode cL_law 836 = .ok (.iconst 1, 1) := by decide +kernel
theorem dL_law_837 : decode cL_law 837 = .ok (.iadd, 1) := by decide +kernel
theorem dL_law_838 : decode cL_law 838 = .ok (.iaload, 1) := by decide +kernel
theorem dL_law_839 : decode cL_law 839 = .ok (.invokevirtual 87, 3) := by decide +kernel
theorem dL_law_842 : decode cL_law 842 = .ok (.aload_n 2, 1) := by decide +kernel
theorem dL_law_843 : decode cL_law 843 = .ok (.aload_n 0, 1) := by decide +kernel
theorem dL_law_844 : decode cL_law 844 = .ok (.iload_n 3, 1) := by decide +kernel
theorem dL_law_845 : decode cL_law 845 = .ok (.iconst 1, 1) := by decide +kernel
theorem dL_law_846 : decode cL_law 846 = .ok (.iadd, 1) := by decide +kernel
theorem dL_law_847 : decode cL_law 847 = .ok (.iaload, 1) := by decide +kernel
theorem dL_law_848 : decode cL_law 848 = .ok (.invokevirtual 90, 3) := by decide +kernel
theorem dL_law_851 : decode cL_law 851 = .ok (.if_icmp .eq 1068, 3) := by decide +kernel
theorem dL_law_854 : decode cL_law 854 = .ok (.iconst 0, 1) := by decide +kernel
theorem dL_law_855 : decode cL_law 855 = .ok (.ireturn, 1) := by decide +kernel
theorem dL_law_856 : decode cL_law 856 = .ok (.aload_n 1, 1) := by decide +kernel
theorem dL_law_857 : decode cL_law 857 = .ok (.aload_n 0, 1) := by decide +kernel
theorem dL_law_858 : decode cL_law 858 = .ok (.iload_n 3, 1) := by decide +kernel
theorem dL_law_859 : decode cL_law 859 = .ok (.iconst 1, 1) := by decide +kernel
theorem dL_law_860 : decode cL_law 860 = .ok (.iadd, 1) := by decide +kernel
theorem dL_law_861 : decode cL_law 861 = .ok (.iaload, 1) := by decide +kernel
theorem dL_law_862 : decode cL_law 862 = .ok (.invokevirtual 91, 3) := by decide +kernel
theorem dL_law_865 : decode cL_law 865 = .ok (.aload_n 2, 1) := by decide +kernel
theorem dL_law_866 : decode cL_law 866 = .ok (.aload_n 0, 1) := by decide +kernel
theorem dL_law_867 : decode cL_law 867 = .ok (.iload_n 3, 1) := by decide +kernel
theorem dL_law_868 : decode cL_law 868 = .ok (.iconst 1, 1) := by decide +kernel
theorem dL_law_869 : decode cL_law 869 = .ok (.iadd, 1) := by decide +kernel
theorem dL_law_870 : decode cL_law 870 = .ok (.iaload, 1) := by decide +kernel
theorem dL_law_871 : decode cL_law 871 = .ok (.invokevirtual 94, 3) := by decide +kernel
theorem dL_law_874 : decode cL_law 874 = .ok (.if_icmp .eq 1045, 3) := by decide +kernel
theorem dL_law_877 : decode cL_law 877 = .ok (.iconst 0, 1) := by decide +kernel
theorem dL_law_878 : decode cL_law 878 = .ok (.ireturn, 1) := by decide +kernel
theorem dL_law_879 : decode cL_law 879 = .ok (.aload_n 1, 1) := by decide +kernel
theorem dL_law_880 : decode cL_law 880 = .ok (.aload_n 0, 1) := by decide +kernel
theorem dL_law_881 : decode cL_law 881 = .ok (.iload_n 3, 1) := by decide +kernel
theorem dL_law_882 : decode cL_law 882 = .ok (.iconst 1, 1) := by decide +kernel
theorem dL_law_883 : decode cL_law 883 = .ok (.iadd, 1) := by decide +kernel
theorem dL_law_884 : decode cL_law 884 = .ok (.iaload, 1) := by decide +kernel
theorem dL_law_885 : decode cL_law 885 = .ok (.aload_n 0, 1) := by decide +kernel
theorem dL_law_886 : decode cL_law 886 = .ok (.iload_n 3, 1) := by decide +kernel
theorem dL_law_887 : decode cL_law 887 = .ok (.iconst 2, 1) := by decide +kernel
theorem dL_law_888 : decode cL_law 888 = .ok (.iadd, 1) := by decide +kernel
theorem dL_law_889 : decode cL_law 889 = .ok (.iaload, 1) := by decide +kernel
theorem dL_law_890 : decode cL_law 890 = .ok (.aload_n 0, 1) := by decide +kernel
theorem dL_law_891 : decode cL_law 891 = .ok (.iload_n 3, 1) := by decide +kernel
theorem dL_law_892 : decode cL_law 892 = .ok (.iconst 3, 1) := by decide +kernel
theorem dL_law_893 : decode cL_law 893 = .ok (.iadd, 1) := by decide +kernel
theorem dL_law_894 : decode cL_law 894 = .ok (.iaload, 1) := by decide +kernel
theorem dL_law_895 : decode cL_law 895 = .ok (.invokevirtual 95, 3) := by decide +kernel
theorem dL_law_898 : decode cL_law 898 = .ok (.aload_n 2, 1) := by decide +kernel
theorem dL_law_899 : decode cL_law 899 = .ok (.aload_n 0, 1) := by decide +kernel
theorem dL_law_900 : decode cL_law 900 = .ok (.iload_n 3, 1) := by decide +kernel
theorem dL_law_901 : decode cL_law 901 = .ok (.iconst 1, 1) := by decide +kernel
theorem dL_law_902 : decode cL_law 902 = .ok (.iadd, 1) := by decide +kernel
theorem dL_law_903 : decode cL_law 903 = .ok (.iaload, 1) := by decide +kernel
theorem dL_law_904 : decode cL_law 904 = .ok (.aload_n 0, 1) := by decide +kernel
theorem dL_law_905 : decode cL_law 905 = .ok (.iload_n 3, 1) := by decide +kernel
theorem dL_law_906 : decode cL_law 906 = .ok (.iconst 2, 1) := by decide +kernel
theorem dL_law_907 : decode cL_law 907 = .ok (.iadd, 1) := by decide +kernel
theorem dL_law_908 : decode cL_law 908 = .ok (.iaload, 1) := by decide +kernel
theorem dL_law_909 : decode cL_law 909 = .ok (.aload_n 0, 1) := by decide +kernel
theorem dL_law_910 : decode cL_law 910 = .ok (.iload_n 3, 1) := by decide +kernel
theorem dL_law_911 : decode cL_law 911 = .ok (.iconst 3, 1) := by decide +kernel
theorem dL_law_912 : decode cL_law 912 = .ok (.iadd, 1) := by decide +kernel
theorem dL_law_913 : decode cL_law 913 = .ok (.iaload, 1) := by decide +kernel
theorem dL_law_914 : decode cL_law 914 = .ok (.invokevirtual 98, 3) := by decide +kernel
theorem dL_law_917 : decode cL_law 917 = .ok (.if_icmp .eq 1002, 3) := by decide +kernel
theorem dL_law_920 : decode cL_law 920 = .ok (.iconst 0, 1) := by decide +kernel
theorem dL_law_921 : decode cL_law 921 = .ok (.ireturn, 1) := by decide +kernel
theorem dL_law_922 : decode cL_law 922 = .ok (.aload_n 1, 1) := by decide +kernel
theorem dL_law_923 : decode cL_law 923 = .ok (.aload_n 0, 1) := by decide +kernel
theorem dL_law_924 : decode cL_law 924 = .ok (.iload_n 3, 1) := by decide +kernel
theorem dL_law_925 : decode cL_law 925 = .ok (.iconst 1, 1) := by decide +kernel
theorem dL_law_926 : decode cL_law 926 = .ok (.iadd, 1) := by decide +kernel
theorem dL_law_927 : decode cL_law 927 = .ok (.iaload, 1) := by decide +kernel
theorem dL_law_928 : decode cL_law 928 = .ok (.aload_n 0, 1) := by decide +kernel
theorem dL_law_929 : decode cL_law 929 = .ok (.iload_n 3, 1) := by decide +kernel
theorem dL_law_930 : decode cL_law 930 = .ok (.iconst 2, 1) := by decide +kernel
theorem dL_law_931 : decode cL_law 931 = .ok (.iadd, 1) := by decide +kernel
theorem dL_law_932 : decode cL_law 932 = .ok (.iaload, 1) := by decide +kernel
theorem dL_law_933 : decode cL_law 933 = .ok (.invokevirtual 99, 3) := by decide +kernel
theorem dL_law_936 : decode cL_law 936 = .ok (.aload_n 2, 1) := by decide +kernel
theorem dL_law_937 : decode cL_law 937 = .ok (.aload_n 0, 1) := by decide +kernel
theorem dL_law_938 : decode cL_law 938 = .ok (.iload_n 3, 1) := by decide +kernel
theorem dL_law_939 : decode cL_law 939 = .ok (.iconst 1, 1) := by decide +kernel
theorem dL_law_940 : decode cL_law 940 = .ok (.iadd, 1) := by decide +kernel
theorem dL_law_941 : decode cL_law 941 = .ok (.iaload, 1) := by decide +kernel
theorem dL_law_942 : decode cL_law 942 = .ok (.aload_n 0, 1) := by decide +kernel
theorem dL_law_943 : decode cL_law 943 = .ok (.iload_n 3, 1) := by decide +kernel
theorem dL_law_944 : decode cL_law 944 = .ok (.iconst 2, 1) := by decide +kernel
theorem dL_law_945 : decode cL_law 945 = .ok (.iadd, 1) := by decide +kernel
theorem dL_law_946 : decode cL_law 946 = .ok (.iaload, 1) := by decide +kernel
theorem dL_law_947 : decode cL_law 947 = .ok (.invokevirtual 102, 3) := by decide +kernel
theorem dL_law_950 : decode cL_law 950 = .ok (.if_icmp .eq 969, 3) := by decide +kernel
theorem dL_law_953 : decode cL_law 953 = .ok (.iconst 0, 1) := by decide +kernel
theorem dL_law_954 : decode cL_law 954 = .ok (.ireturn, 1) := by decide +kernel
theorem dL_law_955 : decode cL_law 955 = .ok (.aload_n 1, 1) := by decide +kernel
theorem dL_law_956 : decode cL_law 956 = .ok (.aload_n 0, 1) := by decide +kernel
theorem dL_law_957 : decode cL_law 957 = .ok (.iload_n 3, 1) := by decide +kernel
theorem dL_law_958 : decode cL_law 958 = .ok (.iconst 1, 1) := by decide +kernel
theorem dL_law_959 : decode cL_law 959 = .ok (.iadd, 1) := by decide +kernel
theorem dL_law_960 : decode cL_law 960 = .ok (.iaload, 1) := by decide +kernel
theorem dL_law_961 : decode cL_law 961 = .ok (.aload_n 0, 1) := by decide +kernel
theorem dL_law_962 : decode cL_law 962 = .ok (.iload_n 3, 1) := by decide +kernel
theorem dL_law_963 : decode cL_law 963 = .ok (.iconst 2, 1) := by decide +kernel
theorem dL_law_964 : decode cL_law 964 = .ok (.iadd, 1) := by decide +kernel
theorem dL_law_965 : decode cL_law 965 = .ok (.iaload, 1) := by decide +kernel
theorem dL_law_966 : decode cL_law 966 = .ok (.invokevirtual 103, 3) := by decide +kernel
theorem dL_law_969 : decode cL_law 969 = .ok (.aload_n 2, 1) := by decide +kernel
theorem dL_law_970 : decode cL_law 970 = .ok (.aload_n 0, 1) := by decide +kernel
theorem dL_law_971 : decode cL_law 971 = .ok (.iload_n 3, 1) := by decide +kernel
theorem dL_law_972 : decode cL_law 972 = .ok (.iconst 1, 1) := by decide +kernel
theorem dL_law_973 : decode cL_law 973 = .ok (.iadd, 1) := by decide +kernel
theorem dL_law_974 : decode cL_law 974 = .ok (.iaload, 1) := by decide +kernel
theorem dL_law_975 : decode cL_law 975 = .ok (.aload_n 0, 1) := by decide +kernel
theorem dL_law_976 : decode cL_law 976 = .ok (.iload_n 3, 1) := by decide +kernel
theorem dL_law_977 : decode cL_law 977 = .ok (.iconst 2, 1) := by decide +kernel
theorem dL_law_978 : decode cL_law 978 = .ok (.iadd, 1) := by decide +kernel
theorem dL_law_979 : decode cL_law 979 = .ok (.iaload, 1) := by decide +kernel
theorem dL_law_980 : decode cL_law 980 = .ok (.invokevirtual 106, 3) := by decide +kernel
theorem dL_law_983 : decode cL_law 983 = .ok (.if_icmp .eq 936, 3) := by decide +kernel
theorem dL_law_986 : decode cL_law 986 = .ok (.iconst 0, 1) := by decide +kernel
theorem dL_law_987 : decode cL_law 987 = .ok (.ireturn, 1) := by decide +kernel
theorem dL_law_988 : decode cL_law 988 = .ok (.aload_n 1, 1) := by decide +kernel
theorem dL_law_989 : decode cL_law 989 = .ok (.aload_n 0, 1) := by decide +kernel
theorem dL_law_990 : decode cL_law 990 = .ok (.iload_n 3, 1) := by decide +kernel
theorem dL_law_991 : decode cL_law 991 = .ok (.iconst 1, 1) := by decide +kernel
theorem dL_law_992 : decode cL_law 992 = .ok (.iadd, 1) := by decide +kernel
theorem dL_law_993 : decode cL_law 993 = .ok (.iaload, 1) := by decide +kernel
theorem dL_law_994 : decode cL_law 994 = .ok (.aload_n 0, 1) := by decide +kernel
theorem dL_law_995 : decode cL_law 995 = .ok (.iload_n 3, 1) := by decide +kernel
theorem dL_law_996 : decode cL_law 996 = .ok (.iconst 2, 1) := by decide +kernel
theorem dL_law_997 : decode cL_law 997 = .ok (.iadd, 1) := by decide +kernel
theorem dL_law_998 : decode cL_law 998 = .ok (.iaload, 1) := by decide +kernel
theorem dL_law_999 : decode cL_law 999 = .ok (.invokevirtual 107, 3) := by decide +kernel
theorem dL_law_1002 : decode cL_law 1002 = .ok (.aload_n 2, 1) := by decide +kernel
theorem dL_law_1003 : decode cL_law 1003 = .ok (.aload_n 0, 1) := by decide +kernel
theorem dL_law_1004 : decode cL_law 1004 = .ok (.iload_n 3, 1) := by decide +kernel
theorem dL_law_1005 : decode cL_law 1005 = .ok (.iconst 1, 1) := by decide +kernel
theorem dL_law_1006 : decode cL_law 1006 = .ok (.iadd, 1) := by decide +kernel
theorem dL_law_1007 : decode cL_law 1007 = .ok (.iaload, 1) := by decide +kernel
theorem dL_law_1008 : decode cL_law 1008 = .ok (.aload_n 0, 1) := by decide +kernel
theorem dL_law_1009 : decode cL_law 1009 = .ok (.iload_n 3, 1) := by decide +kernel
theorem dL_law_1010 : decode cL_law 1010 = .ok (.iconst 2, 1) := by decide +kernel
theorem dL_law_1011 : decode cL_law 1011 = .ok (.iadd, 1) := by decide +kernel
theorem dL_law_1012 : decode cL_law 1012 = .ok (.iaload, 1) := by decide +kernel
theorem dL_law_1013 : decode cL_law 1013 = .ok (.invokevirtual 110, 3) := by decide +kernel
theorem dL_law_1016 : decode cL_law 1016 = .ok (.if_icmp .eq 903, 3) := by decide +kernel
theorem dL_law_1019 : decode cL_law 1019 = .ok (.iconst 0, 1) := by decide +kernel
theorem dL_law_1020 : decode cL_law 1020 = .ok (.ireturn, 1) := by decide +kernel
theorem dL_law_1021 : decode cL_law 1021 = .ok (.aload_n 1, 1) := by decide +kernel
theorem dL_law_1022 : decode cL_law 1022 = .ok (.aload_n 0, 1) := by decide +kernel
theorem dL_law_1023 : decode cL_law 1023 = .ok (.iload_n 3, 1) := by decide +kernel
theorem dL_law_1024 : decode cL_law 1024 = .ok (.iconst 1, 1) := by decide +kernel
theorem dL_law_1025 : decode cL_law 1025 = .ok (.iadd, 1) := by decide +kernel
theorem dL_law_1026 : decode cL_law 1026 = .ok (.iaload, 1) := by decide +kernel
theorem dL_law_1027 : decode cL_law 1027 = .ok (.aload_n 0, 1) := by decide +kernel
theorem dL_law_1028 : decode cL_law 1028 = .ok (.iload_n 3, 1) := by decide +kernel
theorem dL_law_1029 : decode cL_law 1029 = .ok (.iconst 2, 1) := by decide +kernel
theorem dL_law_1030 : decode cL_law 1030 = .ok (.iadd, 1) := by decide +kernel
theorem dL_law_1031 : decode cL_law 1031 = .ok (.iaload, 1) := by decide +kernel
theorem dL_law_1032 : decode cL_law 1032 = .ok (.invokevirtual 111, 3) := by decide +kernel
theorem dL_law_1035 : decode cL_law 1035 = .ok (.aload_n 2, 1) := by decide +kernel
theorem dL_law_1036 : decode cL_law 1036 = .ok (.aload_n 0, 1) := by decide +kernel
theorem dL_law_1037 : decode cL_law 1037 = .ok (.iload_n 3, 1) := by decide +kernel
theorem dL_law_1038 : decode cL_law 1038 = .ok (.iconst 1, 1) := by decide +kernel
theorem dL_law_1039 : decode cL_law 1039 = .ok (.iadd, 1) := by decide +kernel
theorem dL_law_1040 : decode cL_law 1040 = .ok (.iaload, 1) := by decide +kernel
theorem dL_law_1041 : decode cL_law 1041 = .ok (.aload_n 0, 1) := by decide +kernel
theorem dL_law_1042 : decode cL_law 1042 = .ok (.iload_n 3, 1) := by decide +kernel
theorem dL_law_1043 : decode cL_law 1043 = .ok (.iconst 2, 1) := by decide +kernel
theorem dL_law_1044 : decode cL_law 1044 = .ok (.iadd, 1) := by decide +kernel
theorem dL_law_1045 : decode cL_law 1045 = .ok (.iaload, 1) := by decide +kernel
theorem dL_law_1046 : decode cL_law 1046 = .ok (.invokevirtual 114, 3) := by decide +kernel
theorem dL_law_1049 : decode cL_law 1049 = .ok (.if_icmp .eq 870, 3) := by decide +kernel
theorem dL_law_1052 : decode cL_law 1052 = .ok (.iconst 0, 1) := by decide +kernel
theorem dL_law_1053 : decode cL_law 1053 = .ok (.ireturn, 1) := by decide +kernel
theorem dL_law_1054 : decode cL_law 1054 = .ok (.aload_n 1, 1) := by decide +kernel
theorem dL_law_1055 : decode cL_law 1055 = .ok (.aload_n 0, 1) := by decide +kernel
theorem dL_law_1056 : decode cL_law 1056 = .ok (.iload_n 3, 1) := by decide +kernel
theorem dL_law_1057 : decode cL_law 1057 = .ok (.iconst 1, 1) := by decide +kernel
theorem dL_law_1058 : decode cL_law 1058 = .ok (.iadd, 1) := by decide +kernel
theorem dL_law_1059 : decode cL_law 1059 = .ok (.iaload, 1) := by decide +kernel
theorem dL_law_1060 : decode cL_law 1060 = .ok (.invokevirtual 115, 3) := by decide +kernel
theorem dL_law_1063 : decode cL_law 1063 = .ok (.aload_n 2, 1) := by decide +kernel
theorem dL_law_1064 : decode cL_law 1064 = .ok (.aload_n 0, 1) := by decide +kernel
theorem dL_law_1065 : decode cL_law 1065 = .ok (.iload_n 3, 1) := by decide +kernel
theorem dL_law_1066 : decode cL_law 1066 = .ok (.iconst 1, 1) := by decide +kernel
theorem dL_law_1067 : decode cL_law 1067 = .ok (.iadd, 1) := by decide +kernel
theorem dL_law_1068 : decode cL_law 1068 = .ok (.iaload, 1) := by decide +kernel
theorem dL_law_1069 : decode cL_law 1069 = .ok (.invokevirtual 118, 3) := by decide +kernel
theorem dL_law_1072 : decode cL_law 1072 = .ok (.if_icmp .eq 847, 3) := by decide +kernel
theorem dL_law_1075 : decode cL_law 1075 = .ok (.iconst 0, 1) := by decide +kernel
theorem dL_law_1076 : decode cL_law 1076 = .ok (.ireturn, 1) := by decide +kernel
theorem dL_law_1077 : decode cL_law 1077 = .ok (.aload_n 1, 1) := by decide +kernel
theorem dL_law_1078 : decode cL_law 1078 = .ok (.aload_n 0, 1) := by decide +kernel
theorem dL_law_1079 : decode cL_law 1079 = .ok (.iload_n 3, 1) := by decide +kernel
theorem dL_law_1080 : decode cL_law 1080 = .ok (.iconst 1, 1) := by decide +kernel
theorem dL_law_1081 : decode cL_law 1081 = .ok (.iadd, 1) := by decide +kernel
theorem dL_law_1082 : decode cL_law 1082 = .ok (.iaload, 1) := by decide +kernel
theorem dL_law_1083 : decode cL_law 1083 = .ok (.aload_n 0, 1) := by decide +kernel
theorem dL_law_1084 : decode cL_law 1084 = .ok (.iload_n 3, 1) := by decide +kernel
theorem dL_law_1085 : decode cL_law 1085 = .ok (.iconst 2, 1) := by decide +kernel
theorem dL_law_1086 : decode cL_law 1086 = .ok (.iadd, 1) := by decide +kernel
theorem dL_law_1087 : decode cL_law 1087 = .ok (.iaload, 1) := by decide +kernel
theorem dL_law_1088 : decode cL_law 1088 = .ok (.invokevirtual 119, 3) := by decide +kernel
theorem dL_law_1091 : decode cL_law 1091 = .ok (.aload_n 2, 1) := by decide +kernel
theorem dL_law_1092 : decode cL_law 1092 = .ok (.aload_n 0, 1) := by decide +kernel
theorem dL_law_1093 : decode cL_law 1093 = .ok (.iload_n 3, 1) := by decide +kernel
theorem dL_law_1094 : decode cL_law 1094 = .ok (.iconst 1, 1) := by decide +kernel
theorem dL_law_1095 : decode cL_law 1095 = .ok (.iadd, 1) := by decide +kernel
theorem dL_law_1096 : decode cL_law 1096 = .ok (.iaload, 1) := by decide +kernel
theorem dL_law_1097 : decode cL_law 1097 = .ok (.aload_n 0, 1) := by decide +kernel
theorem dL_law_1098 : decode cL_law 1098 = .ok (.iload_n 3, 1) := by decide +kernel
theorem dL_law_1099 : decode cL_law 1099 = .ok (.iconst 2, 1) := by decide +kernel
theorem dL_law_1100 : decode cL_law 1100 = .ok (.iadd, 1) := by decide +kernel
theorem dL_law_1101 : decode cL_law 1101 = .ok (.iaload, 1) := by decide +kernel
theorem dL_law_1102 : decode cL_law 1102 = .ok (.invokevirtual 122, 3) := by decide +kernel
theorem dL_law_1105 : decode cL_law 1105 = .ok (.if_icmp .eq 814, 3) := by decide +kernel
theorem dL_law_1108 : decode cL_law 1108 = .ok (.iconst 0, 1) := by decide +kernel
theorem dL_law_1109 : decode cL_law 1109 = .ok (.ireturn, 1) := by decide +kernel
theorem dL_law_1110 : decode cL_law 1110 = .ok (.aload_n 1, 1) := by decide +kernel
theorem dL_law_1111 : decode cL_law 1111 = .ok (.aload_n 0, 1) := by decide +kernel
theorem dL_law_1112 : decode cL_law 1112 = .ok (.iload_n 3, 1) := by decide +kernel
theorem dL_law_1113 : decode cL_law 1113 = .ok (.iconst 1, 1) := by decide +kernel
theorem dL_law_1114 : decode cL_law 1114 = .ok (.iadd, 1) := by decide +kernel
theorem dL_law_1115 : decode cL_law 1115 = .ok (.iaload, 1) := by decide +kernel
theorem dL_law_1116 : decode cL_law 1116 = .ok (.invokevirtual 123, 3) := by decide +kernel
theorem dL_law_1119 : decode cL_law 1119 = .ok (.aload_n 2, 1) := by decide +kernel
theorem dL_law_1120 : decode cL_law 1120 = .ok (.aload_n 0, 1) := by decide +kernel
theorem dL_law_1121 : decode cL_law 1121 = .ok (.iload_n 3, 1) := by decide +kernel
theorem dL_law_1122 : decode cL_law 1122 = .ok (.iconst 1, 1) := by decide +kernel
theorem dL_law_1123 : decode cL_law 1123 = .ok (.iadd, 1) := by decide +kernel
theorem dL_law_1124 : decode cL_law 1124 = .ok (.iaload, 1) := by decide +kernel
theorem dL_law_1125 : decode cL_law 1125 = .ok (.invokevirtual 126, 3) := by decide +kernel
theorem dL_law_1128 : decode cL_law 1128 = .ok (.if_icmp .eq 791, 3) := by decide +kernel
theorem dL_law_1131 : decode cL_law 1131 = .ok (.iconst 0, 1) := by decide +kernel
theorem dL_law_1132 : decode cL_law 1132 = .ok (.ireturn, 1) := by decide +kernel
theorem dL_law_1133 : decode cL_law 1133 = .ok (.aload_n 1, 1) := by decide +kernel
theorem dL_law_1134 : decode cL_law 1134 = .ok (.aload_n 0, 1) := by decide +kernel
theorem dL_law_1135 : decode cL_law 1135 = .ok (.iload_n 3, 1) := by decide +kernel
theorem dL_law_1136 : decode cL_law 1136 = .ok (.iconst 1, 1) := by decide +kernel
theorem dL_law_1137 : decode cL_law 1137 = .ok (.iadd, 1) := by decide +kernel
theorem dL_law_1138 : decode cL_law 1138 = .ok (.iaload, 1) := by decide +kernel
theorem dL_law_1139 : decode cL_law 1139 = .ok (.aload_n 0, 1) := by decide +kernel
theorem dL_law_1140 : decode cL_law 1140 = .ok (.iload_n 3, 1) := by decide +kernel
theorem dL_law_1141 : decode cL_law 1141 = .ok (.iconst 2, 1) := by decide +kernel
theorem dL_law_1142 : decode cL_law 1142 = .ok (.iadd, 1) := by decide +kernel
theorem dL_law_1143 : decode cL_law 1143 = .ok (.iaload, 1) := by decide +kernel
theorem dL_law_1144 : decode cL_law 1144 = .ok (.invokevirtual 127, 3) := by decide +kernel
theorem dL_law_1147 : decode cL_law 1147 = .ok (.aload_n 2, 1) := by decide +kernel
theorem dL_law_1148 : decode cL_law 1148 = .ok (.aload_n 0, 1) := by decide +kernel
theorem dL_law_1149 : decode cL_law 1149 = .ok (.iload_n 3, 1) := by decide +kernel
theorem dL_law_1150 : decode cL_law 1150 = .ok (.iconst 1, 1) := by decide +kernel
theorem dL_law_1151 : decode cL_law 1151 = .ok (.iadd, 1) := by decide +kernel
theorem dL_law_1152 : decode cL_law 1152 = .ok (.iaload, 1) := by decide +kernel
theorem dL_law_1153 : decode cL_law 1153 = .ok (.aload_n 0, 1) := by decide +kernel
theorem dL_law_1154 : decode cL_law 1154 = .ok (.iload_n 3, 1) := by decide +kernel
theorem dL_law_1155 : decode cL_law 1155 = .ok (.iconst 2, 1) := by decide +kernel
theorem dL_law_1156 : decode cL_law 1156 = .ok (.iadd, 1) := by decide +kernel
theorem dL_law_1157 : decode cL_law 1157 = .ok (.iaload, 1) := by decide +kernel
theorem dL_law_1158 : decode cL_law 1158 = .ok (.invokevirtual 130, 3) := by decide +kernel
theorem dL_law_1161 : decode cL_law 1161 = .ok (.if_icmp .eq 758, 3) := by decide +kernel
theorem dL_law_1164 : decode cL_law 1164 = .ok (.iconst 0, 1) := by decide +kernel
theorem dL_law_1165 : decode cL_law 1165 = .ok (.ireturn, 1) := by decide +kernel
theorem dL_law_1166 : decode cL_law 1166 = .ok (.aload_n 1, 1) := by decide +kernel
theorem dL_law_1167 : decode cL_law 1167 = .ok (.aload_n 0, 1) := by decide +kernel
theorem dL_law_1168 : decode cL_law 1168 = .ok (.iload_n 3, 1) := by decide +kernel
theorem dL_law_1169 : decode cL_law 1169 = .ok (.iconst 1, 1) := by decide +kernel
theorem dL_law_1170 : decode cL_law 1170 = .ok (.iadd, 1) := by decide +kernel
theorem dL_law_1171 : decode cL_law 1171 = .ok (.iaload, 1) := by decide +kernel
theorem dL_law_1172 : decode cL_law 1172 = .ok (.aload_n 0, 1) := by decide +kernel
theorem dL_law_1173 : decode cL_law 1173 = .ok (.iload_n 3, 1) := by decide +kernel
theorem dL_law_1174 : decode cL_law 1174 = .ok (.iconst 2, 1) := by decide +kernel
theorem dL_law_1175 : decode cL_law 1175 = .ok (.iadd, 1) := by decide +kernel
theorem dL_law_1176 : decode cL_law 1176 = .ok (.iaload, 1) := by decide +kernel
theorem dL_law_1177 : decode cL_law 1177 = .ok (.invokevirtual 131, 3) := by decide +kernel
theorem dL_law_1180 : decode cL_law 1180 = .ok (.aload_n 2, 1) := by decide +kernel
theorem dL_law_1181 : decode cL_law 1181 = .ok (.aload_n 0, 1) := by decide +kernel
theorem dL_law_1182 : decode cL_law 1182 = .ok (.iload_n 3, 1) := by decide +kernel
theorem dL_law_1183 : decode cL_law 1183 = .ok (.iconst 1, 1) := by decide +kernel
theorem dL_law_1184 : decode cL_law 1184 = .ok (.iadd, 1) := by decide +kernel
theorem dL_law_1185 : decode cL_law 1185 = .ok (.iaload, 1) := by decide +kernel
theorem dL_law_1186 : decode cL_law 1186 = .ok (.aload_n 0, 1) := by decide +kernel
theorem dL_law_1187 : decode cL_law 1187 = .ok (.iload_n 3, 1) := by decide +kernel
theorem dL_law_1188 : decode cL_law 1188 = .ok (.iconst 2, 1) := by decide +kernel
theorem dL_law_1189 : decode cL_law 1189 = .ok (.iadd, 1) := by decide +kernel
theorem dL_law_1190 : decode cL_law 1190 = .ok (.iaload, 1) := by decide +kernel
theorem dL_law_1191 : decode cL_law 1191 = .ok (.invokevirtual 134, 3) := by decide +kernel
theorem dL_law_1194 : decode cL_law 1194 = .ok (.if_icmp .eq 725, 3) := by decide +kernel
theorem dL_law_1197 : decode cL_law 1197 = .ok (.iconst 0, 1) := by decide +kernel
theorem dL_law_1198 : decode cL_law 1198 = .ok (.ireturn, 1) := by decide +kernel
theorem dL_law_1199 : decode cL_law 1199 = .ok (.aload_n 1, 1) := by decide +kernel
theorem dL_law_1200 : decode cL_law 1200 = .ok (.aload_n 0, 1) := by decide +kernel
theorem dL_law_1201 : decode cL_law 1201 = .ok (.iload_n 3, 1) := by decide +kernel
theorem dL_law_1202 : decode cL_law 1202 = .ok (.iconst 1, 1) := by decide +kernel
theorem dL_law_1203 : decode cL_law 1203 = .ok (.iadd, 1) := by decide +kernel
theorem dL_law_1204 : decode cL_law 1204 = .ok (.iaload, 1) := by decide +kernel
theorem dL_law_1205 : decode cL_law 1205 = .ok (.invokevirtual 135, 3) := by decide +kernel
theorem dL_law_1208 : decode cL_law 1208 = .ok (.aload_n 2, 1) := by decide +kernel
theorem dL_law_1209 : decode cL_law 1209 = .ok (.aload_n 0, 1) := by decide +kernel
theorem dL_law_1210 : decode cL_law 1210 = .ok (.iload_n 3, 1) := by decide +kernel
theorem dL_law_1211 : decode cL_law 1211 = .ok (.iconst 1, 1) := by decide +kernel
theorem dL_law_1212 : decode cL_law 1212 = .ok (.iadd, 1) := by decide +kernel
theorem dL_law_1213 : decode cL_law 1213 = .ok (.iaload, 1) := by decide +kernel
theorem dL_law_1214 : decode cL_law 1214 = .ok (.invokevirtual 138, 3) := by decide +kernel
theorem dL_law_1217 : decode cL_law 1217 = .ok (.if_icmp .eq 702, 3) := by decide +kernel
theorem dL_law_1220 : decode cL_law 1220 = .ok (.iconst 0, 1) := by decide +kernel
theorem dL_law_1221 : decode cL_law 1221 = .ok (.ireturn, 1) := by decide +kernel
theorem dL_law_1222 : decode cL_law 1222 = .ok (.aload_n 1, 1) := by decide +kernel
theorem dL_law_1223 : decode cL_law 1223 = .ok (.aload_n 0, 1) := by decide +kernel
theorem dL_law_1224 : decode cL_law 1224 = .ok (.iload_n 3, 1) := by decide +kernel
theorem dL_law_1225 : decode cL_law 1225 = .ok (.iconst 1, 1) := by decide +kernel
theorem dL_law_1226 : decode cL_law 1226 = .ok (.iadd, 1) := by decide +kernel
theorem dL_law_1227 : decode cL_law 1227 = .ok (.iaload, 1) := by decide +kernel
theorem dL_law_1228 : decode cL_law 1228 = .ok (.aload_n 0, 1) := by decide +kernel
theorem dL_law_1229 : decode cL_law 1229 = .ok (.iload_n 3, 1) := by decide +kernel
theorem dL_law_1230 : decode cL_law 1230 = .ok (.iconst 2, 1) := by decide +kernel
theorem dL_law_1231 : decode cL_law 1231 = .ok (.iadd, 1) := by decide +kernel
theorem dL_law_1232 : decode cL_law 1232 = .ok (.iaload, 1) := by decide +kernel
theorem dL_law_1233 : decode cL_law 1233 = .ok (.invokevirtual 139, 3) := by decide +kernel
theorem dL_law_1236 : decode cL_law 1236 = .ok (.aload_n 2, 1) := by decide +kernel
theorem dL_law_1237 : decode cL_law 1237 = .ok (.aload_n 0, 1) := by decide +kernel
theorem dL_law_1238 : decode cL_law 1238 = .ok (.iload_n 3, 1) := by decide +kernel
theorem dL_law_1239 : decode cL_law 1239 = .ok (.iconst 1, 1) := by decide +kernel
theorem dL_law_1240 : decode cL_law 1240 = .ok (.iadd, 1) := by decide +kernel
theorem dL_law_1241 : decode cL_law 1241 = .ok (.iaload, 1) := by decide +kernel
theorem dL_law_1242 : decode cL_law 1242 = .ok (.aload_n 0, 1) := by decide +kernel
theorem dL_law_1243 : decode cL_law 1243 = .ok (.iload_n 3, 1) := by decide +kernel
theorem dL_law_1244 : decode cL_law 1244 = .ok (.iconst 2, 1) := by decide +kernel
theorem dL_law_1245 : decode cL_law 1245 = .ok (.iadd, 1) := by decide +kernel
theorem dL_law_1246 : decode cL_law 1246 = .ok (.iaload, 1) := by decide +kernel
theorem dL_law_1247 : decode cL_law 1247 = .ok (.invokevirtual 142, 3) := by decide +kernel
theorem dL_law_1250 : decode cL_law 1250 = .ok (.if_icmp .eq 669, 3) := by decide +kernel
theorem dL_law_1253 : decode cL_law 1253 = .ok (.iconst 0, 1) := by decide +kernel
theorem dL_law_1254 : decode cL_law 1254 = .ok (.ireturn, 1) := by decide +kernel
theorem dL_law_1255 : decode cL_law 1255 = .ok (.aload_n 1, 1) := by decide +kernel
theorem dL_law_1256 : decode cL_law 1256 = .ok (.aload_n 0, 1) := by decide +kernel
theorem dL_law_1257 : decode cL_law 1257 = .ok (.iload_n 3, 1) := by decide +kernel
theorem dL_law_1258 : decode cL_law 1258 = .ok (.iconst 1, 1) := by decide +kernel
theorem dL_law_1259 : decode cL_law 1259 = .ok (.iadd, 1) := by decide +kernel
theorem dL_law_1260 : decode cL_law 1260 = .ok (.iaload, 1) := by decide +kernel
theorem dL_law_1261 : decode cL_law 1261 = .ok (.aload_n 0, 1) := by decide +kernel
theorem dL_law_1262 : decode cL_law 1262 = .ok (.iload_n 3, 1) := by decide +kernel
theorem dL_law_1263 : decode cL_law 1263 = .ok (.iconst 2, 1) := by decide +kernel
theorem dL_law_1264 : decode cL_law 1264 = .ok (.iadd, 1) := by decide +kernel
theorem dL_law_1265 : decode cL_law 1265 = .ok (.iaload, 1) := by decide +kernel
theorem dL_law_1266 : decode cL_law 1266 = .ok (.aload_n 0, 1) := by decide +kernel
theorem dL_law_1267 : decode cL_law 1267 = .ok (.iload_n 3, 1) := by decide +kernel
theorem dL_law_1268 : decode cL_law 1268 = .ok (.iconst 3, 1) := by decide +kernel
theorem dL_law_1269 : decode cL_law 1269 = .ok (.iadd, 1) := by decide +kernel
theorem dL_law_1270 : decode cL_law 1270 = .ok (.iaload, 1) := by decide +kernel
theorem dL_law_1271 : decode cL_law 1271 = .ok (.aload_n 0, 1) := by decide +kernel
theorem dL_law_1272 : decode cL_law 1272 = .ok (.iload_n 3, 1) := by decide +kernel
theorem dL_law_1273 : decode cL_law 1273 = .ok (.iconst 4, 1) := by decide +kernel
theorem dL_law_1274 : decode cL_law 1274 = .ok (.iadd, 1) := by decide +kernel
theorem dL_law_1275 : decode cL_law 1275 = .ok (.iaload, 1) := by decide +kernel
theorem dL_law_1276 : decode cL_law 1276 = .ok (.invokevirtual 143, 3) := by decide +kernel
theorem dL_law_1279 : decode cL_law 1279 = .ok (.aload_n 2, 1) := by decide +kernel
theorem dL_law_1280 : decode cL_law 1280 = .ok (.aload_n 0, 1) := by decide +kernel
theorem dL_law_1281 : decode cL_law 1281 = .ok (.iload_n 3, 1) := by decide +kernel
theorem dL_law_1282 : decode cL_law 1282 = .ok (.iconst 1, 1) := by decide +kernel
theorem dL_law_1283 : decode cL_law 1283 = .ok (.iadd, 1) := by decide +kernel
theorem dL_law_1284 : decode cL_law 1284 = .ok (.iaload, 1) := by decide +kernel
theorem dL_law_1285 : decode cL_law 1285 = .ok (.aload_n 0, 1) := by decide +kernel
theorem dL_law_1286 : decode cL_law 1286 = .ok (.iload_n 3, 1) := by decide +kernel
theorem dL_law_1287 : decode cL_law 1287 = .ok (.iconst 2, 1) := by decide +kernel
theorem dL_law_1288 : decode cL_law 1288 = .ok (.iadd, 1) := by decide +kernel
theorem dL_law_1289 : decode cL_law 1289 = .ok (.iaload, 1) := by decide +kernel
theorem dL_law_1290 : decode cL_law 1290 = .ok (.aload_n 0, 1) := by decide +kernel
theorem dL_law_1291 : decode cL_law 1291 = .ok (.iload_n 3, 1) := by decide +kernel
theorem dL_law_1292 : decode cL_law 1292 = .ok (.iconst 3, 1) := by decide +kernel
theorem dL_law_1293 : decode cL_law 1293 = .ok (.iadd, 1) := by decide +kernel
theorem dL_law_1294 : decode cL_law 1294 = .ok (.iaload, 1) := by decide +kernel
theorem dL_law_1295 : decode cL_law 1295 = .ok (.aload_n 0, 1) := by decide +kernel
theorem dL_law_1296 : decode cL_law 1296 = .ok (.iload_n 3, 1) := by decide +kernel
theorem dL_law_1297 : decode cL_law 1297 = .ok (.iconst 4, 1) := by decide +kernel
theorem dL_law_1298 : decode cL_law 1298 = .ok (.iadd, 1) := by decide +kernel
theorem dL_law_1299 : decode cL_law 1299 = .ok (.iaload, 1) := by decide +kernel
theorem dL_law_1300 : decode cL_law 1300 = .ok (.invokevirtual 147, 3) := by decide +kernel
theorem dL_law_1303 : decode cL_law 1303 = .ok (.lcmp, 1) := by decide +kernel
theorem dL_law_1304 : decode cL_law 1304 = .ok (.ifCond .eq 615, 3) := by decide +kernel
theorem dL_law_1307 : decode cL_law 1307 = .ok (.iconst 0, 1) := by decide +kernel
theorem dL_law_1308 : decode cL_law 1308 = .ok (.ireturn, 1) := by decide +kernel
theorem dL_law_1309 : decode cL_law 1309 = .ok (.aload_n 1, 1) := by decide +kernel
theorem dL_law_1310 : decode cL_law 1310 = .ok (.aload_n 0, 1) := by decide +kernel
theorem dL_law_1311 : decode cL_law 1311 = .ok (.iload_n 3, 1) := by decide +kernel
theorem dL_law_1312 : decode cL_law 1312 = .ok (.iconst 1, 1) := by decide +kernel
theorem dL_law_1313 : decode cL_law 1313 = .ok (.iadd, 1) := by decide +kernel
theorem dL_law_1314 : decode cL_law 1314 = .ok (.iaload, 1) := by decide +kernel
theorem dL_law_1315 : decode cL_law 1315 = .ok (.aload_n 0, 1) := by decide +kernel
theorem dL_law_1316 : decode cL_law 1316 = .ok (.iload_n 3, 1) := by decide +kernel
theorem dL_law_1317 : decode cL_law 1317 = .ok (.iconst 2, 1) := by decide +kernel
theorem dL_law_1318 : decode cL_law 1318 = .ok (.iadd, 1) := by decide +kernel
theorem dL_law_1319 : decode cL_law 1319 = .ok (.iaload, 1) := by decide +kernel
theorem dL_law_1320 : decode cL_law 1320 = .ok (.invokevirtual 148, 3) := by decide +kernel
theorem dL_law_1323 : decode cL_law 1323 = .ok (.aload_n 2, 1) := by decide +kernel
theorem dL_law_1324 : decode cL_law 1324 = .ok (.aload_n 0, 1) := by decide +kernel
theorem dL_law_1325 : decode cL_law 1325 = .ok (.iload_n 3, 1) := by decide +kernel
theorem dL_law_1326 : decode cL_law 1326 = .ok (.iconst 1, 1) := by decide +kernel
theorem dL_law_1327 : decode cL_law 1327 = .ok (.iadd, 1) := by decide +kernel
theorem dL_law_1328 : decode cL_law 1328 = .ok (.iaload, 1) := by decide +kernel
theorem dL_law_1329 : decode cL_law 1329 = .ok (.aload_n 0, 1) := by decide +kernel
theorem dL_law_1330 : decode cL_law 1330 = .ok (.iload_n 3, 1) := by decide +kernel
theorem dL_law_1331 : decode cL_law 1331 = .ok (.iconst 2, 1) := by decide +kernel
theorem dL_law_1332 : decode cL_law 1332 = .ok (.iadd, 1) := by decide +kernel
theorem dL_law_1333 : decode cL_law 1333 = .ok (.iaload, 1) := by decide +kernel
theorem dL_law_1334 : decode cL_law 1334 = .ok (.invokevirtual 151, 3) := by decide +kernel
theorem dL_law_1337 : decode cL_law 1337 = .ok (.if_icmp .eq 582, 3) := by decide +kernel
theorem dL_law_1340 : decode cL_law 1340 = .ok (.iconst 0, 1) := by decide +kernel
theorem dL_law_1341 : decode cL_law 1341 = .ok (.ireturn, 1) := by decide +kernel
theorem dL_law_1342 : decode cL_law 1342 = .ok (.aload_n 1, 1) := by decide +kernel
theorem dL_law_1343 : decode cL_law 1343 = .ok (.aload_n 0, 1) := by decide +kernel
theorem dL_law_1344 : decode cL_law 1344 = .ok (.iload_n 3, 1) := by decide +kernel
theorem dL_law_1345 : decode cL_law 1345 = .ok (.iconst 1, 1) := by decide +kernel
theorem dL_law_1346 : decode cL_law 1346 = .ok (.iadd, 1) := by decide +kernel
theorem dL_law_1347 : decode cL_law 1347 = .ok (.iaload, 1) := by decide +kernel
theorem dL_law_1348 : decode cL_law 1348 = .ok (.invokevirtual 152, 3) := by decide +kernel
theorem dL_law_1351 : decode cL_law 1351 = .ok (.aload_n 2, 1) := by decide +kernel
theorem dL_law_1352 : decode cL_law 1352 = .ok (.aload_n 0, 1) := by decide +kernel
theorem dL_law_1353 : decode cL_law 1353 = .ok (.iload_n 3, 1) := by decide +kernel
theorem dL_law_1354 : decode cL_law 1354 = .ok (.iconst 1, 1) := by decide +kernel
theorem dL_law_1355 : decode cL_law 1355 = .ok (.iadd, 1) := by decide +kernel
theorem dL_law_1356 : decode cL_law 1356 = .ok (.iaload, 1) := by decide +kernel
theorem dL_law_1357 : decode cL_law 1357 = .ok (.invokevirtual 155, 3) := by decide +kernel
theorem dL_law_1360 : decode cL_law 1360 = .ok (.if_icmp .eq 559, 3) := by decide +kernel
theorem dL_law_1363 : decode cL_law 1363 = .ok (.iconst 0, 1) := by decide +kernel
theorem dL_law_1364 : decode cL_law 1364 = .ok (.ireturn, 1) := by decide +kernel
theorem dL_law_1365 : decode cL_law 1365 = .ok (.aload_n 1, 1) := by decide +kernel
theorem dL_law_1366 : decode cL_law 1366 = .ok (.aload_n 0, 1) := by decide +kernel
theorem dL_law_1367 : decode cL_law 1367 = .ok (.iload_n 3, 1) := by decide +kernel
theorem dL_law_1368 : decode cL_law 1368 = .ok (.iconst 1, 1) := by decide +kernel
theorem dL_law_1369 : decode cL_law 1369 = .ok (.iadd, 1) := by decide +kernel
theorem dL_law_1370 : decode cL_law 1370 = .ok (.iaload, 1) := by decide +kernel
theorem dL_law_1371 : decode cL_law 1371 = .ok (.aload_n 0, 1) := by decide +kernel
theorem dL_law_1372 : decode cL_law 1372 = .ok (.iload_n 3, 1) := by decide +kernel
theorem dL_law_1373 : decode cL_law 1373 = .ok (.iconst 2, 1) := by decide +kernel
theorem dL_law_1374 : decode cL_law 1374 = .ok (.iadd, 1) := by decide +kernel
theorem dL_law_1375 : decode cL_law 1375 = .ok (.iaload, 1) := by decide +kernel
theorem dL_law_1376 : decode cL_law 1376 = .ok (.aload_n 0, 1) := by decide +kernel
theorem dL_law_1377 : decode cL_law 1377 = .ok (.iload_n 3, 1) := by decide +kernel
theorem dL_law_1378 : decode cL_law 1378 = .ok (.iconst 3, 1) := by decide +kernel
theorem dL_law_1379 : decode cL_law 1379 = .ok (.iadd, 1) := by decide +kernel
theorem dL_law_1380 : decode cL_law 1380 = .ok (.iaload, 1) := by decide +kernel
theorem dL_law_1381 : decode cL_law 1381 = .ok (.invokevirtual 156, 3) := by decide +kernel
theorem dL_law_1384 : decode cL_law 1384 = .ok (.aload_n 2, 1) := by decide +kernel
theorem dL_law_1385 : decode cL_law 1385 = .ok (.aload_n 0, 1) := by decide +kernel
theorem dL_law_1386 : decode cL_law 1386 = .ok (.iload_n 3, 1) := by decide +kernel
theorem dL_law_1387 : decode cL_law 1387 = .ok (.iconst 1, 1) := by decide +kernel
theorem dL_law_1388 : decode cL_law 1388 = .ok (.iadd, 1) := by decide +kernel
theorem dL_law_1389 : decode cL_law 1389 = .ok (.iaload, 1) := by decide +kernel
theorem dL_law_1390 : decode cL_law 1390 = .ok (.aload_n 0, 1) := by decide +kernel
theorem dL_law_1391 : decode cL_law 1391 = .ok (.iload_n 3, 1) := by decide +kernel
theorem dL_law_1392 : decode cL_law 1392 = .ok (.iconst 2, 1) := by decide +kernel
theorem dL_law_1393 : decode cL_law 1393 = .ok (.iadd, 1) := by decide +kernel
theorem dL_law_1394 : decode cL_law 1394 = .ok (.iaload, 1) := by decide +kernel
theorem dL_law_1395 : decode cL_law 1395 = .ok (.aload_n 0, 1) := by decide +kernel
theorem dL_law_1396 : decode cL_law 1396 = .ok (.iload_n 3, 1) := by decide +kernel
theorem dL_law_1397 : decode cL_law 1397 = .ok (.iconst 3, 1) := by decide +kernel
theorem dL_law_1398 : decode cL_law 1398 = .ok (.iadd, 1) := by decide +kernel
theorem dL_law_1399 : decode cL_law 1399 = .ok (.iaload, 1) := by decide +kernel
theorem dL_law_1400 : decode cL_law 1400 = .ok (.invokevirtual 160, 3) := by decide +kernel
theorem dL_law_1403 : decode cL_law 1403 = .ok (.lcmp, 1) := by decide +kernel
theorem dL_law_1404 : decode cL_law 1404 = .ok (.ifCond .eq 515, 3) := by decide +kernel
theorem dL_law_1407 : decode cL_law 1407 = .ok (.iconst 0, 1) := by decide +kernel
theorem dL_law_1408 : decode cL_law 1408 = .ok (.ireturn, 1) := by decide +kernel
theorem dL_law_1409 : decode cL_law 1409 = .ok (.aload_n 1, 1) := by decide +kernel
theorem dL_law_1410 : decode cL_law 1410 = .ok (.aload_n 0, 1) := by decide +kernel
theorem dL_law_1411 : decode cL_law 1411 = .ok (.iload_n 3, 1) := by decide +kernel
theorem dL_law_1412 : decode cL_law 1412 = .ok (.iconst 1, 1) := by decide +kernel
theorem dL_law_1413 : decode cL_law 1413 = .ok (.iadd, 1) := by decide +kernel
theorem dL_law_1414 : decode cL_law 1414 = .ok (.iaload, 1) := by decide +kernel
theorem dL_law_1415 : decode cL_law 1415 = .ok (.aload_n 0, 1) := by decide +kernel
theorem dL_law_1416 : decode cL_law 1416 = .ok (.iload_n 3, 1) := by decide +kernel
theorem dL_law_1417 : decode cL_law 1417 = .ok (.iconst 2, 1) := by decide +kernel
theorem dL_law_1418 : decode cL_law 1418 = .ok (.iadd, 1) := by decide +kernel
theorem dL_law_1419 : decode cL_law 1419 = .ok (.iaload, 1) := by decide +kernel
theorem dL_law_1420 : decode cL_law 1420 = .ok (.aload_n 0, 1) := by decide +kernel
theorem dL_law_1421 : decode cL_law 1421 = .ok (.iload_n 3, 1) := by decide +kernel
theorem dL_law_1422 : decode cL_law 1422 = .ok (.iconst 3, 1) := by decide +kernel
theorem dL_law_1423 : decode cL_law 1423 = .ok (.iadd, 1) := by decide +kernel
theorem dL_law_1424 : decode cL_law 1424 = .ok (.iaload, 1) := by decide +kernel
theorem dL_law_1425 : decode cL_law 1425 = .ok (.invokevirtual 161, 3) := by decide +kernel
theorem dL_law_1428 : decode cL_law 1428 = .ok (.aload_n 2, 1) := by decide +kernel
theorem dL_law_1429 : decode cL_law 1429 = .ok (.aload_n 0, 1) := by decide +kernel
theorem dL_law_1430 : decode cL_law 1430 = .ok (.iload_n 3, 1) := by decide +kernel
theorem dL_law_1431 : decode cL_law 1431 = .ok (.iconst 1, 1) := by decide +kernel
theorem dL_law_1432 : decode cL_law 1432 = .ok (.iadd, 1) := by decide +kernel
theorem dL_law_1433 : decode cL_law 1433 = .ok (.iaload, 1) := by decide +kernel
theorem dL_law_1434 : decode cL_law 1434 = .ok (.aload_n 0, 1) := by decide +kernel
theorem dL_law_1435 : decode cL_law 1435 = .ok (.iload_n 3, 1) := by decide +kernel
theorem dL_law_1436 : decode cL_law 1436 = .ok (.iconst 2, 1) := by decide +kernel
theorem dL_law_1437 : decode cL_law 1437 = .ok (.iadd, 1) := by decide +kernel
theorem dL_law_1438 : decode cL_law 1438 = .ok (.iaload, 1) := by decide +kernel
theorem dL_law_1439 : decode cL_law 1439 = .ok (.aload_n 0, 1) := by decide +kernel
theorem dL_law_1440 : decode cL_law 1440 = .ok (.iload_n 3, 1) := by decide +kernel
theorem dL_law_1441 : decode cL_law 1441 = .ok (.iconst 3, 1) := by decide +kernel
theorem dL_law_1442 : decode cL_law 1442 = .ok (.iadd, 1) := by decide +kernel
theorem dL_law_1443 : decode cL_law 1443 = .ok (.iaload, 1) := by decide +kernel
theorem dL_law_1444 : decode cL_law 1444 = .ok (.invokevirtual 164, 3) := by decide +kernel
theorem dL_law_1447 : decode cL_law 1447 = .ok (.if_icmp .eq 472, 3) := by decide +kernel
theorem dL_law_1450 : decode cL_law 1450 = .ok (.iconst 0, 1) := by decide +kernel
theorem dL_law_1451 : decode cL_law 1451 = .ok (.ireturn, 1) := by decide +kernel
theorem dL_law_1452 : decode cL_law 1452 = .ok (.aload_n 1, 1) := by decide +kernel
theorem dL_law_1453 : decode cL_law 1453 = .ok (.aload_n 0, 1) := by decide +kernel
theorem dL_law_1454 : decode cL_law 1454 = .ok (.iload_n 3, 1) := by decide +kernel
theorem dL_law_1455 : decode cL_law 1455 = .ok (.iconst 1, 1) := by decide +kernel
theorem dL_law_1456 : decode cL_law 1456 = .ok (.iadd, 1) := by decide +kernel
theorem dL_law_1457 : decode cL_law 1457 = .ok (.iaload, 1) := by decide +kernel
theorem dL_law_1458 : decode cL_law 1458 = .ok (.aload_n 0, 1) := by decide +kernel
theorem dL_law_1459 : decode cL_law 1459 = .ok (.iload_n 3, 1) := by decide +kernel
theorem dL_law_1460 : decode cL_law 1460 = .ok (.iconst 2, 1) := by decide +kernel
theorem dL_law_1461 : decode cL_law 1461 = .ok (.iadd, 1) := by decide +kernel
theorem dL_law_1462 : decode cL_law 1462 = .ok (.iaload, 1) := by decide +kernel
theorem dL_law_1463 : decode cL_law 1463 = .ok (.aload_n 0, 1) := by decide +kernel
theorem dL_law_1464 : decode cL_law 1464 = .ok (.iload_n 3, 1) := by decide +kernel
theorem dL_law_1465 : decode cL_law 1465 = .ok (.iconst 3, 1) := by decide +kernel
theorem dL_law_1466 : decode cL_law 1466 = .ok (.iadd, 1) := by decide +kernel
theorem dL_law_1467 : decode cL_law 1467 = .ok (.iaload, 1) := by decide +kernel
theorem dL_law_1468 : decode cL_law 1468 = .ok (.invokevirtual 165, 3) := by decide +kernel
theorem dL_law_1471 : decode cL_law 1471 = .ok (.aload_n 2, 1) := by decide +kernel
theorem dL_law_1472 : decode cL_law 1472 = .ok (.aload_n 0, 1) := by decide +kernel
theorem dL_law_1473 : decode cL_law 1473 = .ok (.iload_n 3, 1) := by decide +kernel
theorem dL_law_1474 : decode cL_law 1474 = .ok (.iconst 1, 1) := by decide +kernel
theorem dL_law_1475 : decode cL_law 1475 = .ok (.iadd, 1) := by decide +kernel
theorem dL_law_1476 : decode cL_law 1476 = .ok (.iaload, 1) := by decide +kernel
theorem dL_law_1477 : decode cL_law 1477 = .ok (.aload_n 0, 1) := by decide +kernel
theorem dL_law_1478 : decode cL_law 1478 = .ok (.iload_n 3, 1) := by decide +kernel
theorem dL_law_1479 : decode cL_law 1479 = .ok (.iconst 2, 1) := by decide +kernel
theorem dL_law_1480 : decode cL_law 1480 = .ok (.iadd, 1) := by decide +kernel
theorem dL_law_1481 : decode cL_law 1481 = .ok (.iaload, 1) := by decide +kernel
theorem dL_law_1482 : decode cL_law 1482 = .ok (.aload_n 0, 1) := by decide +kernel
theorem dL_law_1483 : decode cL_law 1483 = .ok (.iload_n 3, 1) := by decide +kernel
theorem dL_law_1484 : decode cL_law 1484 = .ok (.iconst 3, 1) := by decide +kernel
theorem dL_law_1485 : decode cL_law 1485 = .ok (.iadd, 1) := by decide +kernel
theorem dL_law_1486 : decode cL_law 1486 = .ok (.iaload, 1) := by decide +kernel
theorem dL_law_1487 : decode cL_law 1487 = .ok (.invokevirtual 168, 3) := by decide +kernel
theorem dL_law_1490 : decode cL_law 1490 = .ok (.if_icmp .eq 429, 3) := by decide +kernel
theorem dL_law_1493 : decode cL_law 1493 = .ok (.iconst 0, 1) := by decide +kernel
theorem dL_law_1494 : decode cL_law 1494 = .ok (.ireturn, 1) := by decide +kernel
theorem dL_law_1495 : decode cL_law 1495 = .ok (.aload_n 1, 1) := by decide +kernel
theorem dL_law_1496 : decode cL_law 1496 = .ok (.aload_n 0, 1) := by decide +kernel
theorem dL_law_1497 : decode cL_law 1497 = .ok (.iload_n 3, 1) := by decide +kernel
theorem dL_law_1498 : decode cL_law 1498 = .ok (.iconst 1, 1) := by decide +kernel
theorem dL_law_1499 : decode cL_law 1499 = .ok (.iadd, 1) := by decide +kernel
theorem dL_law_1500 : decode cL_law 1500 = .ok (.iaload, 1) := by decide +kernel
theorem dL_law_1501 : decode cL_law 1501 = .ok (.aload_n 0, 1) := by decide +kernel
theorem dL_law_1502 : decode cL_law 1502 = .ok (.iload_n 3, 1) := by decide +kernel
theorem dL_law_1503 : decode cL_law 1503 = .ok (.iconst 2, 1) := by decide +kernel
theorem dL_law_1504 : decode cL_law 1504 = .ok (.iadd, 1) := by decide +kernel
theorem dL_law_1505 : decode cL_law 1505 = .ok (.iaload, 1) := by decide +kernel
theorem dL_law_1506 : decode cL_law 1506 = .ok (.invokevirtual 169, 3) := by decide +kernel
theorem dL_law_1509 : decode cL_law 1509 = .ok (.aload_n 2, 1) := by decide +kernel
theorem dL_law_1510 : decode cL_law 1510 = .ok (.aload_n 0, 1) := by decide +kernel
theorem dL_law_1511 : decode cL_law 1511 = .ok (.iload_n 3, 1) := by decide +kernel
theorem dL_law_1512 : decode cL_law 1512 = .ok (.iconst 1, 1) := by decide +kernel
theorem dL_law_1513 : decode cL_law 1513 = .ok (.iadd, 1) := by decide +kernel
theorem dL_law_1514 : decode cL_law 1514 = .ok (.iaload, 1) := by decide +kernel
theorem dL_law_1515 : decode cL_law 1515 = .ok (.aload_n 0, 1) := by decide +kernel
theorem dL_law_1516 : decode cL_law 1516 = .ok (.iload_n 3, 1) := by decide +kernel
theorem dL_law_1517 : decode cL_law 1517 = .ok (.iconst 2, 1) := by decide +kernel
theorem dL_law_1518 : decode cL_law 1518 = .ok (.iadd, 1) := by decide +kernel
theorem dL_law_1519 : decode cL_law 1519 = .ok (.iaload, 1) := by decide +kernel
theorem dL_law_1520 : decode cL_law 1520 = .ok (.invokevirtual 172, 3) := by decide +kernel
theorem dL_law_1523 : decode cL_law 1523 = .ok (.if_icmp .eq 396, 3) := by decide +kernel
theorem dL_law_1526 : decode cL_law 1526 = .ok (.iconst 0, 1) := by decide +kernel
theorem dL_law_1527 : decode cL_law 1527 = .ok (.ireturn, 1) := by decide +kernel
theorem dL_law_1528 : decode cL_law 1528 = .ok (.aload_n 1, 1) := by decide +kernel
theorem dL_law_1529 : decode cL_law 1529 = .ok (.aload_n 0, 1) := by decide +kernel
theorem dL_law_1530 : decode cL_law 1530 = .ok (.iload_n 3, 1) := by decide +kernel
theorem dL_law_1531 : decode cL_law 1531 = .ok (.iconst 1, 1) := by decide +kernel
theorem dL_law_1532 : decode cL_law 1532 = .ok (.iadd, 1) := by decide +kernel
theorem dL_law_1533 : decode cL_law 1533 = .ok (.iaload, 1) := by decide +kernel
theorem dL_law_1534 : decode cL_law 1534 = .ok (.aload_n 0, 1) := by decide +kernel
theorem dL_law_1535 : decode cL_law 1535 = .ok (.iload_n 3, 1) := by decide +kernel
theorem dL_law_1536 : decode cL_law 1536 = .ok (.iconst 2, 1) := by decide +kernel
theorem dL_law_1537 : decode cL_law 1537 = .ok (.iadd, 1) := by decide +kernel
theorem dL_law_1538 : decode cL_law 1538 = .ok (.iaload, 1) := by decide +kernel
theorem dL_law_1539 : decode cL_law 1539 = .ok (.aload_n 0, 1) := by decide +kernel
theorem dL_law_1540 : decode cL_law 1540 = .ok (.iload_n 3, 1) := by decide +kernel
theorem dL_law_1541 : decode cL_law 1541 = .ok (.iconst 3, 1) := by decide +kernel
theorem dL_law_1542 : decode cL_law 1542 = .ok (.iadd, 1) := by decide +kernel
theorem dL_law_1543 : decode cL_law 1543 = .ok (.iaload, 1) := by decide +kernel
theorem dL_law_1544 : decode cL_law 1544 = .ok (.invokevirtual 173, 3) := by decide +kernel
theorem dL_law_1547 : decode cL_law 1547 = .ok (.aload_n 2, 1) := by decide +kernel
theorem dL_law_1548 : decode cL_law 1548 = .ok (.aload_n 0, 1) := by decide +kernel
theorem dL_law_1549 : decode cL_law 1549 = .ok (.iload_n 3, 1) := by decide +kernel
theorem dL_law_1550 : decode cL_law 1550 = .ok (.iconst 1, 1) := by decide +kernel
theorem dL_law_1551 : decode cL_law 1551 = .ok (.iadd, 1) := by decide +kernel
theorem dL_law_1552 : decode cL_law 1552 = .ok (.iaload, 1) := by decide +kernel
theorem dL_law_1553 : decode cL_law 1553 = .ok (.aload_n 0, 1) := by decide +kernel
theorem dL_law_1554 : decode cL_law 1554 = .ok (.iload_n 3, 1) := by decide +kernel
theorem dL_law_1555 : decode cL_law 1555 = .ok (.iconst 2, 1) := by decide +kernel
theorem dL_law_1556 : decode cL_law 1556 = .ok (.iadd, 1) := by decide +kernel
theorem dL_law_1557 : decode cL_law 1557 = .ok (.iaload, 1) := by decide +kernel
theorem dL_law_1558 : decode cL_law 1558 = .ok (.aload_n 0, 1) := by decide +kernel
theorem dL_law_1559 : decode cL_law 1559 = .ok (.iload_n 3, 1) := by decide +kernel
theorem dL_law_1560 : decode cL_law 1560 = .ok (.iconst 3, 1) := by decide +kernel
theorem dL_law_1561 : decode cL_law 1561 = .ok (.iadd, 1) := by decide +kernel
theorem dL_law_1562 : decode cL_law 1562 = .ok (.iaload, 1) := by decide +kernel
theorem dL_law_1563 : decode cL_law 1563 = .ok (.invokevirtual 176, 3) := by decide +kernel
theorem dL_law_1566 : decode cL_law 1566 = .ok (.if_icmp .eq 353, 3) := by decide +kernel
theorem dL_law_1569 : decode cL_law 1569 = .ok (.iconst 0, 1) := by decide +kernel
theorem dL_law_1570 : decode cL_law 1570 = .ok (.ireturn, 1) := by decide +kernel
theorem dL_law_1571 : decode cL_law 1571 = .ok (.aload_n 1, 1) := by decide +kernel
theorem dL_law_1572 : decode cL_law 1572 = .ok (.aload_n 0, 1) := by decide +kernel
theorem dL_law_1573 : decode cL_law 1573 = .ok (.iload_n 3, 1) := by decide +kernel
theorem dL_law_1574 : decode cL_law 1574 = .ok (.iconst 1, 1) := by decide +kernel
theorem dL_law_1575 : decode cL_law 1575 = .ok (.iadd, 1) := by decide +kernel
theorem dL_law_1576 : decode cL_law 1576 = .ok (.iaload, 1) := by decide +kernel
theorem dL_law_1577 : decode cL_law 1577 = .ok (.aload_n 0, 1) := by decide +kernel
theorem dL_law_1578 : decode cL_law 1578 = .ok (.iload_n 3, 1) := by decide +kernel
theorem dL_law_1579 : decode cL_law 1579 = .ok (.iconst 2, 1) := by decide +kernel
theorem dL_law_1580 : decode cL_law 1580 = .ok (.iadd, 1) := by decide +kernel
theorem dL_law_1581 : decode cL_law 1581 = .ok (.iaload, 1) := by decide +kernel
theorem dL_law_1582 : decode cL_law 1582 = .ok (.invokevirtual 177, 3) := by decide +kernel
theorem dL_law_1585 : decode cL_law 1585 = .ok (.aload_n 2, 1) := by decide +kernel
theorem dL_law_1586 : decode cL_law 1586 = .ok (.aload_n 0, 1) := by decide +kernel
theorem dL_law_1587 : decode cL_law 1587 = .ok (.iload_n 3, 1) := by decide +kernel
theorem dL_law_1588 : decode cL_law 1588 = .ok (.iconst 1, 1) := by decide +kernel
theorem dL_law_1589 : decode cL_law 1589 = .ok (.iadd, 1) := by decide +kernel
theorem dL_law_1590 : decode cL_law 1590 = .ok (.iaload, 1) := by decide +kernel
theorem dL_law_1591 : decode cL_law 1591 = .ok (.aload_n 0, 1) := by decide +kernel
theorem dL_law_1592 : decode cL_law 1592 = .ok (.iload_n 3, 1) := by decide +kernel
theorem dL_law_1593 : decode cL_law 1593 = .ok (.iconst 2, 1) := by decide +kernel
theorem dL_law_1594 : decode cL_law 1594 = .ok (.iadd, 1) := by decide +kernel
theorem dL_law_1595 : decode cL_law 1595 = .ok (.iaload, 1) := by decide +kernel
theorem dL_law_1596 : decode cL_law 1596 = .ok (.invokevirtual 180, 3) := by decide +kernel
theorem dL_law_1599 : decode cL_law 1599 = .ok (.if_icmp .eq 320, 3) := by decide +kernel
theorem dL_law_1602 : decode cL_law 1602 = .ok (.iconst 0, 1) := by decide +kernel
theorem dL_law_1603 : decode cL_law 1603 = .ok (.ireturn, 1) := by decide +kernel
theorem dL_law_1604 : decode cL_law 1604 = .ok (.aload_n 1, 1) := by decide +kernel
theorem dL_law_1605 : decode cL_law 1605 = .ok (.aload_n 0, 1) := by decide +kernel
theorem dL_law_1606 : decode cL_law 1606 = .ok (.iload_n 3, 1) := by decide +kernel
theorem dL_law_1607 : decode cL_law 1607 = .ok (.iconst 1, 1) := by decide +kernel
theorem dL_law_1608 : decode cL_law 1608 = .ok (.iadd, 1) := by decide +kernel
theorem dL_law_1609 : decode cL_law 1609 = .ok (.iaload, 1) := by decide +kernel
theorem dL_law_1610 : decode cL_law 1610 = .ok (.aload_n 0, 1) := by decide +kernel
theorem dL_law_1611 : decode cL_law 1611 = .ok (.iload_n 3, 1) := by decide +kernel
theorem dL_law_1612 : decode cL_law 1612 = .ok (.iconst 2, 1) := by decide +kernel
theorem dL_law_1613 : decode cL_law 1613 = .ok (.iadd, 1) := by decide +kernel
theorem dL_law_1614 : decode cL_law 1614 = .ok (.iaload, 1) := by decide +kernel
theorem dL_law_1615 : decode cL_law 1615 = .ok (.aload_n 0, 1) := by decide +kernel
theorem dL_law_1616 : decode cL_law 1616 = .ok (.iload_n 3, 1) := by decide +kernel
theorem dL_law_1617 : decode cL_law 1617 = .ok (.iconst 3, 1) := by decide +kernel
theorem dL_law_1618 : decode cL_law 1618 = .ok (.iadd, 1) := by decide +kernel
theorem dL_law_1619 : decode cL_law 1619 = .ok (.iaload, 1) := by decide +kernel
theorem dL_law_1620 : decode cL_law 1620 = .ok (.aload_n 0, 1) := by decide +kernel
theorem dL_law_1621 : decode cL_law 1621 = .ok (.iload_n 3, 1) := by decide +kernel
theorem dL_law_1622 : decode cL_law 1622 = .ok (.iconst 4, 1) := by decide +kernel
theorem dL_law_1623 : decode cL_law 1623 = .ok (.iadd, 1) := by decide +kernel
theorem dL_law_1624 : decode cL_law 1624 = .ok (.iaload, 1) := by decide +kernel
theorem dL_law_1625 : decode cL_law 1625 = .ok (.invokevirtual 181, 3) := by decide +kernel
theorem dL_law_1628 : decode cL_law 1628 = .ok (.aload_n 2, 1) := by decide +kernel
theorem dL_law_1629 : decode cL_law 1629 = .ok (.aload_n 0, 1) := by decide +kernel
theorem dL_law_1630 : decode cL_law 1630 = .ok (.iload_n 3, 1) := by decide +kernel
theorem dL_law_1631 : decode cL_law 1631 = .ok (.iconst 1, 1) := by decide +kernel
theorem dL_law_1632 : decode cL_law 1632 = .ok (.iadd, 1) := by decide +kernel
theorem dL_law_1633 : decode cL_law 1633 = .ok (.iaload, 1) := by decide +kernel
theorem dL_law_1634 : decode cL_law 1634 = .ok (.aload_n 0, 1) := by decide +kernel
theorem dL_law_1635 : decode cL_law 1635 = .ok (.iload_n 3, 1) := by decide +kernel
theorem dL_law_1636 : decode cL_law 1636 = .ok (.iconst 2, 1) := by decide +kernel
theorem dL_law_1637 : decode cL_law 1637 = .ok (.iadd, 1) := by decide +kernel
theorem dL_law_1638 : decode cL_law 1638 = .ok (.iaload, 1) := by decide +kernel
theorem dL_law_1639 : decode cL_law 1639 = .ok (.aload_n 0, 1) := by decide +kernel
theorem dL_law_1640 : decode cL_law 1640 = .ok (.iload_n 3, 1) := by decide +kernel
theorem dL_law_1641 : decode cL_law 1641 = .ok (.iconst 3, 1) := by decide +kernel
theorem dL_law_1642 : decode cL_law 1642 = .ok (.iadd, 1) := by decide +kernel
theorem dL_law_1643 : decode cL_law 1643 = .ok (.iaload, 1) := by decide +kernel
theorem dL_law_1644 : decode cL_law 1644 = .ok (.aload_n 0, 1) := by decide +kernel
theorem dL_law_1645 : decode cL_law 1645 = .ok (.iload_n 3, 1) := by decide +kernel
theorem dL_law_1646 : decode cL_law 1646 = .ok (.iconst 4, 1) := by decide +kernel
theorem dL_law_1647 : decode cL_law 1647 = .ok (.iadd, 1) := by decide +kernel
theorem dL_law_1648 : decode cL_law 1648 = .ok (.iaload, 1) := by decide +kernel
theorem dL_law_1649 : decode cL_law 1649 = .ok (.invokevirtual 184, 3) := by decide +kernel
theorem dL_law_1652 : decode cL_law 1652 = .ok (.lcmp, 1) := by decide +kernel
theorem dL_law_1653 : decode cL_law 1653 = .ok (.ifCond .eq 266, 3) := by decide +kernel
theorem dL_law_1656 : decode cL_law 1656 = .ok (.iconst 0, 1) := by decide +kernel
theorem dL_law_1657 : decode cL_law 1657 = .ok (.ireturn, 1) := by decide +kernel
theorem dL_law_1658 : decode cL_law 1658 = .ok (.aload_n 1, 1) := by decide +kernel
theorem dL_law_1659 : decode cL_law 1659 = .ok (.invokevirtual 185, 3) := by decide +kernel
theorem dL_law_1662 : decode cL_law 1662 = .ok (.aload_n 2, 1) := by decide +kernel
theorem dL_law_1663 : decode cL_law 1663 = .ok (.invokevirtual 188, 3) := by decide +kernel
theorem dL_law_1666 : decode cL_law 1666 = .ok (.if_icmp .eq 253, 3) := by decide +kernel
theorem dL_law_1669 : decode cL_law 1669 = .ok (.iconst 0, 1) := by decide +kernel
theorem dL_law_1670 : decode cL_law 1670 = .ok (.ireturn, 1) := by decide +kernel
theorem dL_law_1671 : decode cL_law 1671 = .ok (.aload_n 1, 1) := by decide +kernel
theorem dL_law_1672 : decode cL_law 1672 = .ok (.invokevirtual 189, 3) := by decide +kernel
theorem dL_law_1675 : decode cL_law 1675 = .ok (.aload_n 2, 1) := by decide +kernel
theorem dL_law_1676 : decode cL_law 1676 = .ok (.invokevirtual 192, 3) := by decide +kernel
theorem dL_law_1679 : decode cL_law 1679 = .ok (.if_icmp .eq 240, 3) := by decide +kernel
theorem dL_law_1682 : decode cL_law 1682 = .ok (.iconst 0, 1) := by decide +kernel
theorem dL_law_1683 : decode cL_law 1683 = .ok (.ireturn, 1) := by decide +kernel
theorem dL_law_1684 : decode cL_law 1684 = .ok (.aload_n 1, 1) := by decide +kernel
theorem dL_law_1685 : decode cL_law 1685 = .ok (.aload_n 0, 1) := by decide +kernel
theorem dL_law_1686 : decode cL_law 1686 = .ok (.iload_n 3, 1) := by decide +kernel
theorem dL_law_1687 : decode cL_law 1687 = .ok (.iconst 1, 1) := by decide +kernel
theorem dL_law_1688 : decode cL_law 1688 = .ok (.iadd, 1) := by decide +kernel
theorem dL_law_1689 : decode cL_law 1689 = .ok (.iaload, 1) := by decide +kernel
theorem dL_law_1690 : decode cL_law 1690 = .ok (.aload_n 0, 1) := by decide +kernel
theorem dL_law_1691 : decode cL_law 1691 = .ok (.iload_n 3, 1) := by decide +kernel
theorem dL_law_1692 : decode cL_law 1692 = .ok (.iconst 2, 1) := by decide +kernel
theorem dL_law_1693 : decode cL_law 1693 = .ok (.iadd, 1) := by decide +kernel
theorem dL_law_1694 : decode cL_law 1694 = .ok (.iaload, 1) := by decide +kernel
theorem dL_law_1695 : decode cL_law 1695 = .ok (.aload_n 0, 1) := by decide +kernel
theorem dL_law_1696 : decode cL_law 1696 = .ok (.iload_n 3, 1) := by decide +kernel
theorem dL_law_1697 : decode cL_law 1697 = .ok (.iconst 3, 1) := by decide +kernel
theorem dL_law_1698 : decode cL_law 1698 = .ok (.iadd, 1) := by decide +kernel
theorem dL_law_1699 : decode cL_law 1699 = .ok (.iaload, 1) := by decide +kernel
theorem dL_law_1700 : decode cL_law 1700 = .ok (.invokevirtual 193, 3) := by decide +kernel
theorem dL_law_1703 : decode cL_law 1703 = .ok (.aload_n 2, 1) := by decide +kernel
theorem dL_law_1704 : decode cL_law 1704 = .ok (.aload_n 0, 1) := by decide +kernel
theorem dL_law_1705 : decode cL_law 1705 = .ok (.iload_n 3, 1) := by decide +kernel
theorem dL_law_1706 : decode cL_law 1706 = .ok (.iconst 1, 1) := by decide +kernel
theorem dL_law_1707 : decode cL_law 1707 = .ok (.iadd, 1) := by decide +kernel
theorem dL_law_1708 : decode cL_law 1708 = .ok (.iaload, 1) := by decide +kernel
theorem dL_law_1709 : decode cL_law 1709 = .ok (.aload_n 0, 1) := by decide +kernel
theorem dL_law_1710 : decode cL_law 1710 = .ok (.iload_n 3, 1) := by decide +kernel
theorem dL_law_1711 : decode cL_law 1711 = .ok (.iconst 2, 1) := by decide +kernel
theorem dL_law_1712 : decode cL_law 1712 = .ok (.iadd, 1) := by decide +kernel
theorem dL_law_1713 : decode cL_law 1713 = .ok (.iaload, 1) := by decide +kernel
theorem dL_law_1714 : decode cL_law 1714 = .ok (.aload_n 0, 1) := by decide +kernel
theorem dL_law_1715 : decode cL_law 1715 = .ok (.iload_n 3, 1) := by decide +kernel
theorem dL_law_1716 : decode cL_law 1716 = .ok (.iconst 3, 1) := by decide +kernel
theorem dL_law_1717 : decode cL_law 1717 = .ok (.iadd, 1) := by decide +kernel
theorem dL_law_1718 : decode cL_law 1718 = .ok (.iaload, 1) := by decide +kernel
theorem dL_law_1719 : decode cL_law 1719 = .ok (.invokevirtual 196, 3) := by decide +kernel
theorem dL_law_1722 : decode cL_law 1722 = .ok (.if_icmp .eq 197, 3) := by decide +kernel
theorem dL_law_1725 : decode cL_law 1725 = .ok (.iconst 0, 1) := by decide +kernel
theorem dL_law_1726 : decode cL_law 1726 = .ok (.ireturn, 1) := by decide +kernel
theorem dL_law_1727 : decode cL_law 1727 = .ok (.aload_n 1, 1) := by decide +kernel
theorem dL_law_1728 : decode cL_law 1728 = .ok (.aload_n 0, 1) := by decide +kernel
theorem dL_law_1729 : decode cL_law 1729 = .ok (.iload_n 3, 1) := by decide +kernel
theorem dL_law_1730 : decode cL_law 1730 = .ok (.iconst 1, 1) := by decide +kernel
theorem dL_law_1731 : decode cL_law 1731 = .ok (.iadd, 1) := by decide +kernel
theorem dL_law_1732 : decode cL_law 1732 = .ok (.iaload, 1) := by decide +kernel
theorem dL_law_1733 : decode cL_law 1733 = .ok (.aload_n 0, 1) := by decide +kernel
theorem dL_law_1734 : decode cL_law 1734 = .ok (.iload_n 3, 1) := by decide +kernel
theorem dL_law_1735 : decode cL_law 1735 = .ok (.iconst 2, 1) := by decide +kernel
theorem dL_law_1736 : decode cL_law 1736 = .ok (.iadd, 1) := by decide +kernel
theorem dL_law_1737 : decode cL_law 1737 = .ok (.iaload, 1) := by decide +kernel
theorem dL_law_1738 : decode cL_law 1738 = .ok (.aload_n 0, 1) := by decide +kernel
theorem dL_law_1739 : decode cL_law 1739 = .ok (.iload_n 3, 1) := by decide +kernel
theorem dL_law_1740 : decode cL_law 1740 = .ok (.iconst 3, 1) := by decide +kernel
theorem dL_law_1741 : decode cL_law 1741 = .ok (.iadd, 1) := by decide +kernel
theorem dL_law_1742 : decode cL_law 1742 = .ok (.iaload, 1) := by decide +kernel
theorem dL_law_1743 : decode cL_law 1743 = .ok (.invokevirtual 197, 3) := by decide +kernel
theorem dL_law_1746 : decode cL_law 1746 = .ok (.aload_n 2, 1) := by decide +kernel
theorem dL_law_1747 : decode cL_law 1747 = .ok (.aload_n 0, 1) := by decide +kernel
theorem dL_law_1748 : decode cL_law 1748 = .ok (.iload_n 3, 1) := by decide +kernel
theorem dL_law_1749 : decode cL_law 1749 = .ok (.iconst 1, 1) := by decide +kernel
theorem dL_law_1750 : decode cL_law 1750 = .ok (.iadd, 1) := by decide +kernel
theorem dL_law_1751 : decode cL_law 1751 = .ok (.iaload, 1) := by decide +kernel
theorem dL_law_1752 : decode cL_law 1752 = .ok (.aload_n 0, 1) := by decide +kernel
theorem dL_law_1753 : decode cL_law 1753 = .ok (.iload_n 3, 1) := by decide +kernel
theorem dL_law_1754 : decode cL_law 1754 = .ok (.iconst 2, 1) := by decide +kernel
theorem dL_law_1755 : decode cL_law 1755 = .ok (.iadd, 1) := by decide +kernel
theorem dL_law_1756 : decode cL_law 1756 = .ok (.iaload, 1) := by decide +kernel
theorem dL_law_1757 : decode cL_law 1757 = .ok (.aload_n 0, 1) := by decide +kernel
theorem dL_law_1758 : decode cL_law 1758 = .ok (.iload_n 3, 1) := by decide +kernel
theorem dL_law_1759 : decode cL_law 1759 = .ok (.iconst 3, 1) := by decide +kernel
theorem dL_law_1760 : decode cL_law 1760 = .ok (.iadd, 1) := by decide +kernel
theorem dL_law_1761 : decode cL_law 1761 = .ok (.iaload, 1) := by decide +kernel
theorem dL_law_1762 : decode cL_law 1762 = .ok (.invokevirtual 200, 3) := by decide +kernel
theorem dL_law_1765 : decode cL_law 1765 = .ok (.if_icmp .eq 154, 3) := by decide +kernel
theorem dL_law_1768 : decode cL_law 1768 = .ok (.iconst 0, 1) := by decide +kernel
theorem dL_law_1769 : decode cL_law 1769 = .ok (.ireturn, 1) := by decide +kernel
theorem dL_law_1770 : decode cL_law 1770 = .ok (.aload_n 1, 1) := by decide +kernel
theorem dL_law_1771 : decode cL_law 1771 = .ok (.aload_n 0, 1) := by decide +kernel
theorem dL_law_1772 : decode cL_law 1772 = .ok (.iload_n 3, 1) := by decide +kernel
theorem dL_law_1773 : decode cL_law 1773 = .ok (.iconst 1, 1) := by decide +kernel
theorem dL_law_1774 : decode cL_law 1774 = .ok (.iadd, 1) := by decide +kernel
theorem dL_law_1775 : decode cL_law 1775 = .ok (.iaload, 1) := by decide +kernel
theorem dL_law_1776 : decode cL_law 1776 = .ok (.aload_n 0, 1) := by decide +kernel
theorem dL_law_1777 : decode cL_law 1777 = .ok (.iload_n 3, 1) := by decide +kernel
theorem dL_law_1778 : decode cL_law 1778 = .ok (.iconst 2, 1) := by decide +kernel
theorem dL_law_1779 : decode cL_law 1779 = .ok (.iadd, 1) := by decide +kernel
theorem dL_law_1780 : decode cL_law 1780 = .ok (.iaload, 1) := by decide +kernel
theorem dL_law_1781 : decode cL_law 1781 = .ok (.aload_n 0, 1) := by decide +kernel
theorem dL_law_1782 : decode cL_law 1782 = .ok (.iload_n 3, 1) := by decide +kernel
theorem dL_law_1783 : decode cL_law 1783 = .ok (.iconst 3, 1) := by decide +kernel
theorem dL_law_1784 : decode cL_law 1784 = .ok (.iadd, 1) := by decide +kernel
theorem dL_law_1785 : decode cL_law 1785 = .ok (.iaload, 1) := by decide +kernel
theorem dL_law_1786 : decode cL_law 1786 = .ok (.aload_n 0, 1) := by decide +kernel
theorem dL_law_1787 : decode cL_law 1787 = .ok (.iload_n 3, 1) := by decide +kernel
theorem dL_law_1788 : decode cL_law 1788 = .ok (.iconst 4, 1) := by decide +kernel
theorem dL_law_1789 : decode cL_law 1789 = .ok (.iadd, 1) := by decide +kernel
theorem dL_law_1790 : decode cL_law 1790 = .ok (.iaload, 1) := by decide +kernel
theorem dL_law_1791 : decode cL_law 1791 = .ok (.aload_n 0, 1) := by decide +kernel
theorem dL_law_1792 : decode cL_law 1792 = .ok (.iload_n 3, 1) := by decide +kernel
theorem dL_law_1793 : decode cL_law 1793 = .ok (.iconst 5, 1) := by decide +kernel
theorem dL_law_1794 : decode cL_law 1794 = .ok (.iadd, 1) := by decide +kernel
theorem dL_law_1795 : decode cL_law 1795 = .ok (.iaload, 1) := by decide +kernel
theorem dL_law_1796 : decode cL_law 1796 = .ok (.invokevirtual 201, 3) := by decide +kernel
theorem dL_law_1799 : decode cL_law 1799 = .ok (.aload_n 2, 1) := by decide +kernel
theorem dL_law_1800 : decode cL_law 1800 = .ok (.aload_n 0, 1) := by decide +kernel
theorem dL_law_1801 : decode cL_law 1801 = .ok (.iload_n 3, 1) := by decide +kernel
theorem dL_law_1802 : decode cL_law 1802 = .ok (.iconst 1, 1) := by decide +kernel
theorem dL_law_1803 : decode cL_law 1803 = .ok (.iadd, 1) := by decide +kernel
theorem dL_law_1804 : decode cL_law 1804 = .ok (.iaload, 1) := by decide +kernel
theorem dL_law_1805 : decode cL_law 1805 = .ok (.aload_n 0, 1) := by decide +kernel
theorem dL_law_1806 : decode cL_law 1806 = .ok (.iload_n 3, 1) := by decide +kernel
theorem dL_law_1807 : decode cL_law 1807 = .ok (.iconst 2, 1) := by decide +kernel
theorem dL_law_1808 : decode cL_law 1808 = .ok (.iadd, 1) := by decide +kernel
theorem dL_law_1809 : decode cL_law 1809 = .ok (.iaload, 1) := by decide +kernel
theorem dL_law_1810 : decode cL_law 1810 = .ok (.aload_n 0, 1) := by decide +kernel
theorem dL_law_1811 : decode cL_law 1811 = .ok (.iload_n 3, 1) := by decide +kernel
theorem dL_law_1812 : decode cL_law 1812 = .ok (.iconst 3, 1) := by decide +kernel
theorem dL_law_1813 : decode cL_law 1813 = .ok (.iadd, 1) := by decide +kernel
theorem dL_law_1814 : decode cL_law 1814 = .ok (.iaload, 1) := by decide +kernel
theorem dL_law_1815 : decode cL_law 1815 = .ok (.aload_n 0, 1) := by decide +kernel
theorem dL_law_1816 : decode cL_law 1816 = .ok (.iload_n 3, 1) := by decide +kernel
theorem dL_law_1817 : decode cL_law 1817 = .ok (.iconst 4, 1) := by decide +kernel
theorem dL_law_1818 : decode cL_law 1818 = .ok (.iadd, 1) := by decide +kernel
theorem dL_law_1819 : decode cL_law 1819 = .ok (.iaload, 1) := by decide +kernel
theorem dL_law_1820 : decode cL_law 1820 = .ok (.aload_n 0, 1) := by decide +kernel
theorem dL_law_1821 : decode cL_law 1821 = .ok (.iload_n 3, 1) := by decide +kernel
theorem dL_law_1822 : decode cL_law 1822 = .ok (.iconst 5, 1) := by decide +kernel
theorem dL_law_1823 : decode cL_law 1823 = .ok (.iadd, 1) := by decide +kernel
theorem dL_law_1824 : decode cL_law 1824 = .ok (.iaload, 1) := by decide +kernel
theorem dL_law_1825 : decode cL_law 1825 = .ok (.invokevirtual 204, 3) := by decide +kernel
theorem dL_law_1828 : decode cL_law 1828 = .ok (.if_icmp .eq 91, 3) := by decide +kernel
theorem dL_law_1831 : decode cL_law 1831 = .ok (.iconst 0, 1) := by decide +kernel
theorem dL_law_1832 : decode cL_law 1832 = .ok (.ireturn, 1) := by decide +kernel
theorem dL_law_1833 : decode cL_law 1833 = .ok (.aload_n 1, 1) := by decide +kernel
theorem dL_law_1834 : decode cL_law 1834 = .ok (.aload_n 0, 1) := by decide +kernel
theorem dL_law_1835 : decode cL_law 1835 = .ok (.iload_n 3, 1) := by decide +kernel
theorem dL_law_1836 : decode cL_law 1836 = .ok (.iconst 1, 1) := by decide +kernel
theorem dL_law_1837 : decode cL_law 1837 = .ok (.iadd, 1) := by decide +kernel
theorem dL_law_1838 : decode cL_law 1838 = .ok (.iaload, 1) := by decide +kernel
theorem dL_law_1839 : decode cL_law 1839 = .ok (.aload_n 0, 1) := by decide +kernel
theorem dL_law_1840 : decode cL_law 1840 = .ok (.iload_n 3, 1) := by decide +kernel
theorem dL_law_1841 : decode cL_law 1841 = .ok (.iconst 2, 1) := by decide +kernel
theorem dL_law_1842 : decode cL_law 1842 = .ok (.iadd, 1) := by decide +kernel
theorem dL_law_1843 : decode cL_law 1843 = .ok (.iaload, 1) := by decide +kernel
theorem dL_law_1844 : decode cL_law 1844 = .ok (.aload_n 0, 1) := by decide +kernel
theorem dL_law_1845 : decode cL_law 1845 = .ok (.iload_n 3, 1) := by decide +kernel
theorem dL_law_1846 : decode cL_law 1846 = .ok (.iconst 3, 1) := by decide +kernel
theorem dL_law_1847 : decode cL_law 1847 = .ok (.iadd, 1) := by decide +kernel
theorem dL_law_1848 : decode cL_law 1848 = .ok (.iaload, 1) := by decide +kernel
theorem dL_law_1849 : decode cL_law 1849 = .ok (.aload_n 0, 1) := by decide +kernel
theorem dL_law_1850 : decode cL_law 1850 = .ok (.iload_n 3, 1) := by decide +kernel
theorem dL_law_1851 : decode cL_law 1851 = .ok (.iconst 4, 1) := by decide +kernel
theorem dL_law_1852 : decode cL_law 1852 = .ok (.iadd, 1) := by decide +kernel
theorem dL_law_1853 : decode cL_law 1853 = .ok (.iaload, 1) := by decide +kernel
theorem dL_law_1854 : decode cL_law 1854 = .ok (.invokevirtual 205, 3) := by decide +kernel
theorem dL_law_1857 : decode cL_law 1857 = .ok (.aload_n 2, 1) := by decide +kernel
theorem dL_law_1858 : decode cL_law 1858 = .ok (.aload_n 0, 1) := by decide +kernel
theorem dL_law_1859 : decode cL_law 1859 = .ok (.iload_n 3, 1) := by decide +kernel
theorem dL_law_1860 : decode cL_law 1860 = .ok (.iconst 1, 1) := by decide +kernel
theorem dL_law_1861 : decode cL_law 1861 = .ok (.iadd, 1) := by decide +kernel
theorem dL_law_1862 : decode cL_law 1862 = .ok (.iaload, 1) := by decide +kernel
theorem dL_law_1863 : decode cL_law 1863 = .ok (.aload_n 0, 1) := by decide +kernel
theorem dL_law_1864 : decode cL_law 1864 = .ok (.iload_n 3, 1) := by decide +kernel
theorem dL_law_1865 : decode cL_law 1865 = .ok (.iconst 2, 1) := by decide +kernel
theorem dL_law_1866 : decode cL_law 1866 = .ok (.iadd, 1) := by decide +kernel
theorem dL_law_1867 : decode cL_law 1867 = .ok (.iaload, 1) := by decide +kernel
theorem dL_law_1868 : decode cL_law 1868 = .ok (.aload_n 0, 1) := by decide +kernel
theorem dL_law_1869 : decode cL_law 1869 = .ok (.iload_n 3, 1) := by decide +kernel
theorem dL_law_1870 : decode cL_law 1870 = .ok (.iconst 3, 1) := by decide +kernel
theorem dL_law_1871 : decode cL_law 1871 = .ok (.iadd, 1) := by decide +kernel
theorem dL_law_1872 : decode cL_law 1872 = .ok (.iaload, 1) := by decide +kernel
theorem dL_law_1873 : decode cL_law 1873 = .ok (.aload_n 0, 1) := by decide +kernel
theorem dL_law_1874 : decode cL_law 1874 = .ok (.iload_n 3, 1) := by decide +kernel
theorem dL_law_1875 : decode cL_law 1875 = .ok (.iconst 4, 1) := by decide +kernel
theorem dL_law_1876 : decode cL_law 1876 = .ok (.iadd, 1) := by decide +kernel
theorem dL_law_1877 : decode cL_law 1877 = .ok (.iaload, 1) := by decide +kernel
theorem dL_law_1878 : decode cL_law 1878 = .ok (.invokevirtual 209, 3) := by decide +kernel
theorem dL_law_1881 : decode cL_law 1881 = .ok (.if_icmp .eq 38, 3) := by decide +kernel
theorem dL_law_1884 : decode cL_law 1884 = .ok (.iconst 0, 1) := by decide +kernel
theorem dL_law_1885 : decode cL_law 1885 = .ok (.ireturn, 1) := by decide +kernel
theorem dL_law_1886 : decode cL_law 1886 = .ok (.aload_n 1, 1) := by decide +kernel
theorem dL_law_1887 : decode cL_law 1887 = .ok (.aload_n 0, 1) := by decide +kernel
theorem dL_law_1888 : decode cL_law 1888 = .ok (.iload_n 3, 1) := by decide +kernel
theorem dL_law_1889 : decode cL_law 1889 = .ok (.iconst 1, 1) := by decide +kernel
theorem dL_law_1890 : decode cL_law 1890 = .ok (.iadd, 1) := by decide +kernel
theorem dL_law_1891 : decode cL_law 1891 = .ok (.iaload, 1) := by decide +kernel
theorem dL_law_1892 : decode cL_law 1892 = .ok (.aload_n 0, 1) := by decide +kernel
theorem dL_law_1893 : decode cL_law 1893 = .ok (.iload_n 3, 1) := by decide +kernel
theorem dL_law_1894 : decode cL_law 1894 = .ok (.iconst 2, 1) := by decide +kernel
theorem dL_law_1895 : decode cL_law 1895 = .ok (.iadd, 1) := by decide +kernel
theorem dL_law_1896 : decode cL_law 1896 = .ok (.iaload, 1) := by decide +kernel
theorem dL_law_1897 : decode cL_law 1897 = .ok (.invokevirtual 210, 3) := by decide +kernel
theorem dL_law_1900 : decode cL_law 1900 = .ok (.aload_n 2, 1) := by decide +kernel
theorem dL_law_1901 : decode cL_law 1901 = .ok (.aload_n 0, 1) := by decide +kernel
theorem dL_law_1902 : decode cL_law 1902 = .ok (.iload_n 3, 1) := by decide +kernel
theorem dL_law_1903 : decode cL_law 1903 = .ok (.iconst 1, 1) := by decide +kernel
theorem dL_law_1904 : decode cL_law 1904 = .ok (.iadd, 1) := by decide +kernel
theorem dL_law_1905 : decode cL_law 1905 = .ok (.iaload, 1) := by decide +kernel
theorem dL_law_1906 : decode cL_law 1906 = .ok (.aload_n 0, 1) := by decide +kernel
theorem dL_law_1907 : decode cL_law 1907 = .ok (.iload_n 3, 1) := by decide +kernel
theorem dL_law_1908 : decode cL_law 1908 = .ok (.iconst 2, 1) := by decide +kernel
theorem dL_law_1909 : decode cL_law 1909 = .ok (.iadd, 1) := by decide +kernel
theorem dL_law_1910 : decode cL_law 1910 = .ok (.iaload, 1) := by decide +kernel
theorem dL_law_1911 : decode cL_law 1911 = .ok (.invokevirtual 213, 3) := by decide +kernel
theorem dL_law_1914 : decode cL_law 1914 = .ok (.if_icmp .eq 5, 3) := by decide +kernel
theorem dL_law_1917 : decode cL_law 1917 = .ok (.iconst 0, 1) := by decide +kernel
theorem dL_law_1918 : decode cL_law 1918 = .ok (.ireturn, 1) := by decide +kernel
theorem dL_law_1919 : decode cL_law 1919 = .ok (.iinc 3 7, 3) := by decide +kernel
theorem dL_law_1922 : decode cL_law 1922 = .ok (.goto (-1904), 3) := by decide +kernel
theorem dL_law_1925 : decode cL_law 1925 = .ok (.iconst 1, 1) := by decide +kernel
theorem dL_law_1926 : decode cL_law 1926 = .ok (.ireturn, 1) := by decide +kernel
