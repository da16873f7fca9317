theorem dX7_init_0 : decode cX7_init 0 = .ok (.aload_n 0, 1) := by decide +kernel
theorem dX7_init_1 : decode cX7_init 1 = .ok (.invokespecial 1, 3) := by decide +kernel
theorem dX7_init_4 : decode cX7_init 4 = .ok (.aload_n 0, 1) := by decide +kernel
theorem dX7_init_5 : decode cX7_init 5 = .ok (.bipush 8, 2) := by decide +kernel
theorem dX7_init_7 : decode cX7_init 7 = .ok (.newarray .int, 2) := by decide +kernel
theorem dX7_init_9 : decode cX7_init 9 = .ok (.putfield 7, 3) := by decide +kernel
theorem dX7_init_12 : decode cX7_init 12 = .ok (.aload_n 0, 1) := by decide +kernel
theorem dX7_init_13 : decode cX7_init 13 = .ok (.bipush 8, 2) := by decide +kernel
theorem dX7_init_15 : decode cX7_init 15 = .ok (.newarray .int, 2) := by decide +kernel
theorem dX7_init_17 : decode cX7_init 17 = .ok (.putfield 13, 3) := by decide +kernel
theorem dX7_init_20 : decode cX7_init 20 = .ok (.aload_n 0, 1) := by decide +kernel
theorem dX7_init_21 : decode cX7_init 21 = .ok (.bipush 48, 2) := by decide +kernel
theorem dX7_init_23 : decode cX7_init 23 = .ok (.newarray .int, 2) := by decide +kernel
theorem dX7_init_25 : decode cX7_init 25 = .ok (.putfield 16, 3) := by decide +kernel
theorem dX7_init_28 : decode cX7_init 28 = .ok (.aload_n 0, 1) := by decide +kernel
theorem dX7_init_29 : decode cX7_init 29 = .ok (.bipush 9, 2) := by decide +kernel
theorem dX7_init_31 : decode cX7_init 31 = .ok (.newarray .int, 2) := by decide +kernel
theorem dX7_init_33 : decode cX7_init 33 = .ok (.putfield 19, 3) := by decide +kernel
theorem dX7_init_36 : decode cX7_init 36 = .ok (.aload_n 0, 1) := by decide +kernel
theorem dX7_init_37 : decode cX7_init 37 = .ok (.iconst 4, 1) := by decide +kernel
theorem dX7_init_38 : decode cX7_init 38 = .ok (.newarray .int, 2) := by decide +kernel
theorem dX7_init_40 : decode cX7_init 40 = .ok (.dup, 1) := by decide +kernel
theorem dX7_init_41 : decode cX7_init 41 = .ok (.iconst 0, 1) := by decide +kernel
theorem dX7_init_42 : decode cX7_init 42 = .ok (.iconst 2, 1) := by decide +kernel
theorem dX7_init_43 : decode cX7_init 43 = .ok (.iastore, 1) := by decide +kernel
theorem dX7_init_44 : decode cX7_init 44 = .ok (.dup, 1) := by decide +kernel
theorem dX7_init_45 : decode cX7_init 45 = .ok (.iconst 1, 1) := by decide +kernel
theorem dX7_init_46 : decode cX7_init 46 = .ok (.iconst 1, 1) := by decide +kernel
theorem dX7_init_47 : decode cX7_init 47 = .ok (.iastore, 1) := by decide +kernel
theorem dX7_init_48 : decode cX7_init 48 = .ok (.dup, 1) := by decide +kernel
theorem dX7_init_49 : decode cX7_init 49 = .ok (.iconst 2, 1) := by decide +kernel
theorem dX7_init_50 : decode cX7_init 50 = .ok (.iconst 0, 1) := by decide +kernel
theorem dX7_init_51 : decode cX7_init 51 = .ok (.iastore, 1) := by decide +kernel
theorem dX7_init_52 : decode cX7_init 52 = .ok (.dup, 1) := by decide +kernel
theorem dX7_init_53 : decode cX7_init 53 = .ok (.iconst 3, 1) := by decide +kernel
theorem dX7_init_54 : decode cX7_init 54 = .ok (.iconst 0, 1) := by decide +kernel
theorem dX7_init_55 : decode cX7_init 55 = .ok (.iastore, 1) := by decide +kernel
theorem dX7_init_56 : decode cX7_init 56 = .ok (.putfield 22, 3) := by decide +kernel
theorem dX7_init_59 : decode cX7_init 59 = .ok (.aload_n 0, 1) := by decide +kernel
theorem dX7_init_60 : decode cX7_init 60 = .ok (.sipush 160, 3) := by decide +kernel
theorem dX7_init_63 : decode cX7_init 63 = .ok (.newarray .int, 2) := by decide +kernel
theorem dX7_init_65 : decode cX7_init 65 = .ok (.putfield 25, 3) := by decide +kernel
theorem dX7_init_68 : decode cX7_init 68 = .ok (.aload_n 0, 1) := by decide +kernel
theorem dX7_init_69 : decode cX7_init 69 = .ok (.sipush 1200, 3) := by decide +kernel
theorem dX7_init_72 : decode cX7_init 72 = .ok (.newarray .int, 2) := by decide +kernel
theorem dX7_init_74 : decode cX7_init 74 = .ok (.putfield 28, 3) := by decide +kernel
theorem dX7_init_77 : decode cX7_init 77 = .ok (.aload_n 0, 1) := by decide +kernel
theorem dX7_init_78 : decode cX7_init 78 = .ok (.bipush 24, 2) := by decide +kernel
theorem dX7_init_80 : decode cX7_init 80 = .ok (.newarray .int, 2) := by decide +kernel
theorem dX7_init_82 : decode cX7_init 82 = .ok (.putfield 31, 3) := by decide +kernel
theorem dX7_init_85 : decode cX7_init 85 = .ok (.aload_n 0, 1) := by decide +kernel
theorem dX7_init_86 : decode cX7_init 86 = .ok (.bipush 48, 2) := by decide +kernel
theorem dX7_init_88 : decode cX7_init 88 = .ok (.newarray .int, 2) := by decide +kernel
theorem dX7_init_90 : decode cX7_init 90 = .ok (.putfield 34, 3) := by decide +kernel
theorem dX7_init_93 : decode cX7_init 93 = .ok (.aload_n 0, 1) := by decide +kernel
theorem dX7_init_94 : decode cX7_init 94 = .ok (.bipush 9, 2) := by decide +kernel
theorem dX7_init_96 : decode cX7_init 96 = .ok (.newarray .int, 2) := by decide +kernel
theorem dX7_init_98 : decode cX7_init 98 = .ok (.putfield 37, 3) := by decide +kernel
theorem dX7_init_101 : decode cX7_init 101 = .ok (.aload_n 0, 1) := by decide +kernel
theorem dX7_init_102 : decode cX7_init 102 = .ok (.iconst 4, 1) := by decide +kernel
theorem dX7_init_103 : decode cX7_init 103 = .ok (.newarray .int, 2) := by decide +kernel
theorem dX7_init_105 : decode cX7_init 105 = .ok (.putfield 40, 3) := by decide +kernel
theorem dX7_init_108 : decode cX7_init 108 = .ok (.aload_n 0, 1) := by decide +kernel
theorem dX7_init_109 : decode cX7_init 109 = .ok (.iconst 4, 1) := by decide +kernel
theorem dX7_init_110 : decode cX7_init 110 = .ok (.newarray .int, 2) := by decide +kernel
theorem dX7_init_112 : decode cX7_init 112 = .ok (.dup, 1) := by decide +kernel
theorem dX7_init_113 : decode cX7_init 113 = .ok (.iconst 0, 1) := by decide +kernel
theorem dX7_init_114 : decode cX7_init 114 = .ok (.iconst (-1), 1) := by decide +kernel
theorem dX7_init_115 : decode cX7_init 115 = .ok (.iastore, 1) := by decide +kernel
theorem dX7_init_116 : decode cX7_init 116 = .ok (.dup, 1) := by decide +kernel
theorem dX7_init_117 : decode cX7_init 117 = .ok (.iconst 1, 1) := by decide +kernel
theorem dX7_init_118 : decode cX7_init 118 = .ok (.iconst (-1), 1) := by decide +kernel
theorem dX7_init_119 : decode cX7_init 119 = .ok (.iastore, 1) := by decide +kernel
theorem dX7_init_120 : decode cX7_init 120 = .ok (.dup, 1) := by decide +kernel
theorem dX7_init_121 : decode cX7_init 121 = .ok (.iconst 2, 1) := by decide +kernel
theorem dX7_init_122 : decode cX7_init 122 = .ok (.iconst (-1), 1) := by decide +kernel
theorem dX7_init_123 : decode cX7_init 123 = .ok (.iastore, 1) := by decide +kernel
theorem dX7_init_124 : decode cX7_init 124 = .ok (.dup, 1) := by decide +kernel
theorem dX7_init_125 : decode cX7_init 125 = .ok (.iconst 3, 1) := by decide +kernel
theorem dX7_init_126 : decode cX7_init 126 = .ok (.iconst (-1), 1) := by decide +kernel
theorem dX7_init_127 : decode cX7_init 127 = .ok (.iastore, 1) := by decide +kernel
theorem dX7_init_128 : decode cX7_init 128 = .ok (.putfield 43, 3) := by decide +kernel
theorem dX7_init_131 : decode cX7_init 131 = .ok (.aload_n 0, 1) := by decide +kernel
theorem dX7_init_132 : decode cX7_init 132 = .ok (.iconst 4, 1) := by decide +kernel
theorem dX7_init_133 : decode cX7_init 133 = .ok (.newarray .int, 2) := by decide +kernel
theorem dX7_init_135 : decode cX7_init 135 = .ok (.putfield 46, 3) := by decide +kernel
theorem dX7_init_138 : decode cX7_init 138 = .ok (.aload_n 0, 1) := by decide +kernel
theorem dX7_init_139 : decode cX7_init 139 = .ok (.sipush 160, 3) := by decide +kernel
theorem dX7_init_142 : decode cX7_init 142 = .ok (.newarray .int, 2) := by decide +kernel
theorem dX7_init_144 : decode cX7_init 144 = .ok (.putfield 49, 3) := by decide +kernel
theorem dX7_init_147 : decode cX7_init 147 = .ok (.aload_n 0, 1) := by decide +kernel
theorem dX7_init_148 : decode cX7_init 148 = .ok (.bipush 33, 2) := by decide +kernel
theorem dX7_init_150 : decode cX7_init 150 = .ok (.newarray .int, 2) := by decide +kernel
theorem dX7_init_152 : decode cX7_init 152 = .ok (.dup, 1) := by decide +kernel
theorem dX7_init_153 : decode cX7_init 153 = .ok (.iconst 0, 1) := by decide +kernel
theorem dX7_init_154 : decode cX7_init 154 = .ok (.bipush 119, 2) := by decide +kernel
theorem dX7_init_156 : decode cX7_init 156 = .ok (.iastore, 1) := by decide +kernel
theorem dX7_init_157 : decode cX7_init 157 = .ok (.dup, 1) := by decide +kernel
theorem dX7_init_158 : decode cX7_init 158 = .ok (.iconst 1, 1) := by decide +kernel
theorem dX7_init_159 : decode cX7_init 159 = .ok (.bipush 101, 2) := by decide +kernel
theorem dX7_init_161 : decode cX7_init 161 = .ok (.iastore, 1) := by decide +kernel
theorem dX7_init_162 : decode cX7_init 162 = .ok (.dup, 1) := by decide +kernel
theorem dX7_init_163 : decode cX7_init 163 = .ok (.iconst 2, 1) := by decide +kernel
theorem dX7_init_164 : decode cX7_init 164 = .ok (.bipush 97, 2) := by decide +kernel
theorem dX7_init_166 : decode cX7_init 166 = .ok (.iastore, 1) := by decide +kernel
theorem dX7_init_167 : decode cX7_init 167 = .ok (.dup, 1) := by decide +kernel
theorem dX7_init_168 : decode cX7_init 168 = .ok (.iconst 3, 1) := by decide +kernel
theorem dX7_init_169 : decode cX7_init 169 = .ok (.bipush 114, 2) := by decide +kernel
theorem dX7_init_171 : decode cX7_init 171 = .ok (.iastore, 1) := by decide +kernel
theorem dX7_init_172 : decode cX7_init 172 = .ok (.dup, 1) := by decide +kernel
theorem dX7_init_173 : decode cX7_init 173 = .ok (.iconst 4, 1) := by decide +kernel
theorem dX7_init_174 : decode cX7_init 174 = .ok (.bipush 115, 2) := by decide +kernel
theorem dX7_init_176 : decode cX7_init 176 = .ok (.iastore, 1) := by decide +kernel
theorem dX7_init_177 : decode cX7_init 177 = .ok (.dup, 1) := by decide +kernel
theorem dX7_init_178 : decode cX7_init 178 = .ok (.iconst 5, 1) := by decide +kernel
theorem dX7_init_179 : decode cX7_init 179 = .ok (.bipush 32, 2) := by decide +kernel
theorem dX7_init_181 : decode cX7_init 181 = .ok (.iastore, 1) := by decide +kernel
theorem dX7_init_182 : decode cX7_init 182 = .ok (.dup, 1) := by decide +kernel
theorem dX7_init_183 : decode cX7_init 183 = .ok (.bipush 6, 2) := by decide +kernel
theorem dX7_init_185 : decode cX7_init 185 = .ok (.bipush 49, 2) := by decide +kernel
theorem dX7_init_187 : decode cX7_init 187 = .ok (.iastore, 1) := by decide +kernel
theorem dX7_init_188 : decode cX7_init 188 = .ok (.dup, 1) := by decide +kernel
theorem dX7_init_189 : decode cX7_init 189 = .ok (.bipush 7, 2) := by decide +kernel
theorem dX7_init_191 : decode cX7_init 191 = .ok (.bipush 48, 2) := by decide +kernel
theorem dX7_init_193 : decode cX7_init 193 = .ok (.iastore, 1) := by decide +kernel
theorem dX7_init_194 : decode cX7_init 194 = .ok (.dup, 1) := by decide +kernel
theorem dX7_init_195 : decode cX7_init 195 = .ok (.bipush 8, 2) := by decide +kernel
theorem dX7_init_197 : decode cX7_init 197 = .ok (.bipush 32, 2) := by decide +kernel
theorem dX7_init_199 : decode cX7_init 199 = .ok (.iastore, 1) := by decide +kernel
theorem dX7_init_200 : decode cX7_init 200 = .ok (.dup, 1) := by decide +kernel
theorem dX7_init_201 : decode cX7_init 201 = .ok (.bipush 9, 2) := by decide +kernel
theorem dX7_init_203 : decode cX7_init 203 = .ok (.bipush 59, 2) := by decide +kernel
theorem dX7_init_205 : decode cX7_init 205 = .ok (.iastore, 1) := by decide +kernel
theorem dX7_init_206 : decode cX7_init 206 = .ok (.dup, 1) := by decide +kernel
theorem dX7_init_207 : decode cX7_init 207 = .ok (.bipush 10, 2) := by decide +kernel
theorem dX7_init_209 : decode cX7_init 209 = .ok (.bipush 32, 2) := by decide +kernel
theorem dX7_init_211 : decode cX7_init 211 = .ok (.iastore, 1) := by decide +kernel
theorem dX7_init_212 : decode cX7_init 212 = .ok (.dup, 1) := by decide +kernel
theorem dX7_init_213 : decode cX7_init 213 = .ok (.bipush 11, 2) := by decide +kernel
theorem dX7_init_215 : decode cX7_init 215 = .ok (.bipush 121, 2) := by decide +kernel
theorem dX7_init_217 : decode cX7_init 217 = .ok (.iastore, 1) := by decide +kernel
theorem dX7_init_218 : decode cX7_init 218 = .ok (.dup, 1) := by decide +kernel
theorem dX7_init_219 : decode cX7_init 219 = .ok (.bipush 12, 2) := by decide +kernel
theorem dX7_init_221 : decode cX7_init 221 = .ok (.bipush 101, 2) := by decide +kernel
theorem dX7_init_223 : decode cX7_init 223 = .ok (.iastore, 1) := by decide +kernel
theorem dX7_init_224 : decode cX7_init 224 = .ok (.dup, 1) := by decide +kernel
theorem dX7_init_225 : decode cX7_init 225 = .ok (.bipush 13, 2) := by decide +kernel
theorem dX7_init_227 : decode cX7_init 227 = .ok (.bipush 108, 2) := by decide +kernel
theorem dX7_init_229 : decode cX7_init 229 = .ok (.iastore, 1) := by decide +kernel
theorem dX7_init_230 : decode cX7_init 230 = .ok (.dup, 1) := by decide +kernel
theorem dX7_init_231 : decode cX7_init 231 = .ok (.bipush 14, 2) := by decide +kernel
theorem dX7_init_233 : decode cX7_init 233 = .ok (.bipush 108, 2) := by decide +kernel
theorem dX7_init_235 : decode cX7_init 235 = .ok (.iastore, 1) := by decide +kernel
theorem dX7_init_236 : decode cX7_init 236 = .ok (.dup, 1) := by decide +kernel
theorem dX7_init_237 : decode cX7_init 237 = .ok (.bipush 15, 2) := by decide +kernel
theorem dX7_init_239 : decode cX7_init 239 = .ok (.bipush 111, 2) := by decide +kernel
theorem dX7_init_241 : decode cX7_init 241 = .ok (.iastore, 1) := by decide +kernel
theorem dX7_init_242 : decode cX7_init 242 = .ok (.dup, 1) := by decide +kernel
theorem dX7_init_243 : decode cX7_init 243 = .ok (.bipush 16, 2) := by decide +kernel
theorem dX7_init_245 : decode cX7_init 245 = .ok (.bipush 119, 2) := by decide +kernel
theorem dX7_init_247 : decode cX7_init 247 = .ok (.iastore, 1) := by decide +kernel
theorem dX7_init_248 : decode cX7_init 248 = .ok (.dup, 1) := by decide +kernel
theorem dX7_init_249 : decode cX7_init 249 = .ok (.bipush 17, 2) := by decide +kernel
theorem dX7_init_251 : decode cX7_init 251 = .ok (.bipush 115, 2) := by decide +kernel
theorem dX7_init_253 : decode cX7_init 253 = .ok (.iastore, 1) := by decide +kernel
theorem dX7_init_254 : decode cX7_init 254 = .ok (.dup, 1) := by decide +kernel
theorem dX7_init_255 : decode cX7_init 255 = .ok (.bipush 18, 2) := by decide +kernel
theorem dX7_init_257 : decode cX7_init 257 = .ok (.bipush 32, 2) := by decide +kernel
theorem dX7_init_259 : decode cX7_init 259 = .ok (.iastore, 1) := by decide +kernel
theorem dX7_init_260 : decode cX7_init 260 = .ok (.dup, 1) := by decide +kernel
theorem dX7_init_261 : decode cX7_init 261 = .ok (.bipush 19, 2) := by decide +kernel
theorem dX7_init_263 : decode cX7_init 263 = .ok (.bipush 49, 2) := by decide +kernel
theorem dX7_init_265 : decode cX7_init 265 = .ok (.iastore, 1) := by decide +kernel
theorem dX7_init_266 : decode cX7_init 266 = .ok (.dup, 1) := by decide +kernel
theorem dX7_init_267 : decode cX7_init 267 = .ok (.bipush 20, 2) := by decide +kernel
theorem dX7_init_269 : decode cX7_init 269 = .ok (.bipush 32, 2) := by decide +kernel
theorem dX7_init_271 : decode cX7_init 271 = .ok (.iastore, 1) := by decide +kernel
theorem dX7_init_272 : decode cX7_init 272 = .ok (.dup, 1) := by decide +kernel
theorem dX7_init_273 : decode cX7_init 273 = .ok (.bipush 21, 2) := by decide +kernel
theorem dX7_init_275 : decode cX7_init 275 = .ok (.bipush 59, 2) := by decide +kernel
theorem dX7_init_277 : decode cX7_init 277 = .ok (.iastore, 1) := by decide +kernel
theorem dX7_init_278 : decode cX7_init 278 = .ok (.dup, 1) := by decide +kernel
theorem dX7_init_279 : decode cX7_init 279 = .ok (.bipush 22, 2) := by decide +kernel
theorem dX7_init_281 : decode cX7_init 281 = .ok (.bipush 32, 2) := by decide +kernel
theorem dX7_init_283 : decode cX7_init 283 = .ok (.iastore, 1) := by decide +kernel
theorem dX7_init_284 : decode cX7_init 284 = .ok (.dup, 1) := by decide +kernel
theorem dX7_init_285 : decode cX7_init 285 = .ok (.bipush 23, 2) := by decide +kernel
theorem dX7_init_287 : decode cX7_init 287 = .ok (.bipush 99, 2) := by decide +kernel
theorem dX7_init_289 : decode cX7_init 289 = .ok (.iastore, 1) := by decide +kernel
theorem dX7_init_290 : decode cX7_init 290 = .ok (.dup, 1) := by decide +kernel
theorem dX7_init_291 : decode cX7_init 291 = .ok (.bipush 24, 2) := by decide +kernel
theorem dX7_init_293 : decode cX7_init 293 = .ok (.bipush 111, 2) := by decide +kernel
theorem dX7_init_295 : decode cX7_init 295 = .ok (.iastore, 1) := by decide +kernel
theorem dX7_init_296 : decode cX7_init 296 = .ok (.dup, 1) := by decide +kernel
theorem dX7_init_297 : decode cX7_init 297 = .ok (.bipush 25, 2) := by decide +kernel
theorem dX7_init_299 : decode cX7_init 299 = .ok (.bipush 115, 2) := by decide +kernel
theorem dX7_init_301 : decode cX7_init 301 = .ok (.iastore, 1) := by decide +kernel
theorem dX7_init_302 : decode cX7_init 302 = .ok (.dup, 1) := by decide +kernel
theorem dX7_init_303 : decode cX7_init 303 = .ok (.bipush 26, 2) := by decide +kernel
theorem dX7_init_305 : decode cX7_init 305 = .ok (.bipush 116, 2) := by decide +kernel
theorem dX7_init_307 : decode cX7_init 307 = .ok (.iastore, 1) := by decide +kernel
theorem dX7_init_308 : decode cX7_init 308 = .ok (.dup, 1) := by decide +kernel
theorem dX7_init_309 : decode cX7_init 309 = .ok (.bipush 27, 2) := by decide +kernel
theorem dX7_init_311 : decode cX7_init 311 = .ok (.bipush 115, 2) := by decide +kernel
theorem dX7_init_313 : decode cX7_init 313 = .ok (.iastore, 1) := by decide +kernel
theorem dX7_init_314 : decode cX7_init 314 = .ok (.dup, 1) := by decide +kernel
theorem dX7_init_315 : decode cX7_init 315 = .ok (.bipush 28, 2) := by decide +kernel
theorem dX7_init_317 : decode cX7_init 317 = .ok (.bipush 32, 2) := by decide +kernel
theorem dX7_init_319 : decode cX7_init 319 = .ok (.iastore, 1) := by decide +kernel
theorem dX7_init_320 : decode cX7_init 320 = .ok (.dup, 1) := by decide +kernel
theorem dX7_init_321 : decode cX7_init 321 = .ok (.bipush 29, 2) := by decide +kernel
theorem dX7_init_323 : decode cX7_init 323 = .ok (.bipush 53, 2) := by decide +kernel
theorem dX7_init_325 : decode cX7_init 325 = .ok (.iastore, 1) := by decide +kernel
theorem dX7_init_326 : decode cX7_init 326 = .ok (.dup, 1) := by decide +kernel
theorem dX7_init_327 : decode cX7_init 327 = .ok (.bipush 30, 2) := by decide +kernel
theorem dX7_init_329 : decode cX7_init 329 = .ok (.bipush 48, 2) := by decide +kernel
theorem dX7_init_331 : decode cX7_init 331 = .ok (.iastore, 1) := by decide +kernel
theorem dX7_init_332 : decode cX7_init 332 = .ok (.dup, 1) := by decide +kernel
theorem dX7_init_333 : decode cX7_init 333 = .ok (.bipush 31, 2) := by decide +kernel
theorem dX7_init_335 : decode cX7_init 335 = .ok (.bipush 32, 2) := by decide +kernel
theorem dX7_init_337 : decode cX7_init 337 = .ok (.iastore, 1) := by decide +kernel
theorem dX7_init_338 : decode cX7_init 338 = .ok (.dup, 1) := by decide +kernel
theorem dX7_init_339 : decode cX7_init 339 = .ok (.bipush 32, 2) := by decide +kernel
theorem dX7_init_341 : decode cX7_init 341 = .ok (.bipush 59, 2) := by decide +kernel
theorem dX7_init_343 : decode cX7_init 343 = .ok (.iastore, 1) := by decide +kernel
theorem dX7_init_344 : decode cX7_init 344 = .ok (.putfield 52, 3) := by decide +kernel
theorem dX7_init_347 : decode cX7_init 347 = .ok (.aload_n 0, 1) := by decide +kernel
theorem dX7_init_348 : decode cX7_init 348 = .ok (.bipush 96, 2) := by decide +kernel
theorem dX7_init_350 : decode cX7_init 350 = .ok (.newarray .int, 2) := by decide +kernel
theorem dX7_init_352 : decode cX7_init 352 = .ok (.dup, 1) := by decide +kernel
theorem dX7_init_353 : decode cX7_init 353 = .ok (.iconst 0, 1) := by decide +kernel
theorem dX7_init_354 : decode cX7_init 354 = .ok (.bipush 119, 2) := by decide +kernel
theorem dX7_init_356 : decode cX7_init 356 = .ok (.iastore, 1) := by decide +kernel
theorem dX7_init_357 : decode cX7_init 357 = .ok (.dup, 1) := by decide +kernel
theorem dX7_init_358 : decode cX7_init 358 = .ok (.iconst 1, 1) := by decide +kernel
theorem dX7_init_359 : decode cX7_init 359 = .ok (.bipush 101, 2) := by decide +kernel
theorem dX7_init_361 : decode cX7_init 361 = .ok (.iastore, 1) := by decide +kernel
theorem dX7_init_362 : decode cX7_init 362 = .ok (.dup, 1) := by decide +kernel
theorem dX7_init_363 : decode cX7_init 363 = .ok (.iconst 2, 1) := by decide +kernel
theorem dX7_init_364 : decode cX7_init 364 = .ok (.bipush 97, 2) := by decide +kernel
theorem dX7_init_366 : decode cX7_init 366 = .ok (.iastore, 1) := by decide +kernel
theorem dX7_init_367 : decode cX7_init 367 = .ok (.dup, 1) := by decide +kernel
theorem dX7_init_368 : decode cX7_init 368 = .ok (.iconst 3, 1) := by decide +kernel
theorem dX7_init_369 : decode cX7_init 369 = .ok (.bipush 114, 2) := by decide +kernel
theorem dX7_init_371 : decode cX7_init 371 = .ok (.iastore, 1) := by decide +kernel
theorem dX7_init_372 : decode cX7_init 372 = .ok (.dup, 1) := by decide +kernel
theorem dX7_init_373 : decode cX7_init 373 = .ok (.iconst 4, 1) := by decide +kernel
theorem dX7_init_374 : decode cX7_init 374 = .ok (.bipush 115, 2) := by decide +kernel
theorem dX7_init_376 : decode cX7_init 376 = .ok (.iastore, 1) := by decide +kernel
theorem dX7_init_377 : decode cX7_init 377 = .ok (.dup, 1) := by decide +kernel
theorem dX7_init_378 : decode cX7_init 378 = .ok (.iconst 5, 1) := by decide +kernel
theorem dX7_init_379 : decode cX7_init 379 = .ok (.bipush 32, 2) := by decide +kernel
theorem dX7_init_381 : decode cX7_init 381 = .ok (.iastore, 1) := by decide +kernel
theorem dX7_init_382 : decode cX7_init 382 = .ok (.dup, 1) := by decide +kernel
theorem dX7_init_383 : decode cX7_init 383 = .ok (.bipush 6, 2) := by decide +kernel
theorem dX7_init_385 : decode cX7_init 385 = .ok (.bipush 32, 2) := by decide +kernel
theorem dX7_init_387 : decode cX7_init 387 = .ok (.iastore, 1) := by decide +kernel
theorem dX7_init_388 : decode cX7_init 388 = .ok (.dup, 1) := by decide +kernel
theorem dX7_init_389 : decode cX7_init 389 = .ok (.bipush 7, 2) := by decide +kernel
theorem dX7_init_391 : decode cX7_init 391 = .ok (.bipush 32, 2) := by decide +kernel
theorem dX7_init_393 : decode cX7_init 393 = .ok (.iastore, 1) := by decide +kernel
theorem dX7_init_394 : decode cX7_init 394 = .ok (.dup, 1) := by decide +kernel
theorem dX7_init_395 : decode cX7_init 395 = .ok (.bipush 8, 2) := by decide +kernel
theorem dX7_init_397 : decode cX7_init 397 = .ok (.bipush 121, 2) := by decide +kernel
theorem dX7_init_399 : decode cX7_init 399 = .ok (.iastore, 1) := by decide +kernel
theorem dX7_init_400 : decode cX7_init 400 = .ok (.dup, 1) := by decide +kernel
theorem dX7_init_401 : decode cX7_init 401 = .ok (.bipush 9, 2) := by decide +kernel
theorem dX7_init_403 : decode cX7_init 403 = .ok (.bipush 101, 2) := by decide +kernel
theorem dX7_init_405 : decode cX7_init 405 = .ok (.iastore, 1) := by decide +kernel
theorem dX7_init_406 : decode cX7_init 406 = .ok (.dup, 1) := by decide +kernel
theorem dX7_init_407 : decode cX7_init 407 = .ok (.bipush 10, 2) := by decide +kernel
theorem dX7_init_409 : decode cX7_init 409 = .ok (.bipush 108, 2) := by decide +kernel
theorem dX7_init_411 : decode cX7_init 411 = .ok (.iastore, 1) := by decide +kernel
theorem dX7_init_412 : decode cX7_init 412 = .ok (.dup, 1) := by decide +kernel
theorem dX7_init_413 : decode cX7_init 413 = .ok (.bipush 11, 2) := by decide +kernel
theorem dX7_init_415 : decode cX7_init 415 = .ok (.bipush 108, 2) := by decide +kernel
theorem dX7_init_417 : decode cX7_init 417 = .ok (.iastore, 1) := by decide +kernel
theorem dX7_init_418 : decode cX7_init 418 = .ok (.dup, 1) := by decide +kernel
theorem dX7_init_419 : decode cX7_init 419 = .ok (.bipush 12, 2) := by decide +kernel
theorem dX7_init_421 : decode cX7_init 421 = .ok (.bipush 111, 2) := by decide +kernel
theorem dX7_init_423 : decode cX7_init 423 = .ok (.iastore, 1) := by decide +kernel
theorem dX7_init_424 : decode cX7_init 424 = .ok (.dup, 1) := by decide +kernel
theorem dX7_init_425 : decode cX7_init 425 = .ok (.bipush 13, 2) := by decide +kernel
theorem dX7_init_427 : decode cX7_init 427 = .ok (.bipush 119, 2) := by decide +kernel
theorem dX7_init_429 : decode cX7_init 429 = .ok (.iastore, 1) := by decide +kernel
theorem dX7_init_430 : decode cX7_init 430 = .ok (.dup, 1) := by decide +kernel
theorem dX7_init_431 : decode cX7_init 431 = .ok (.bipush 14, 2) := by decide +kernel
theorem dX7_init_433 : decode cX7_init 433 = .ok (.bipush 115, 2) := by decide +kernel
theorem dX7_init_435 : decode cX7_init 435 = .ok (.iastore, 1) := by decide +kernel
theorem dX7_init_436 : decode cX7_init 436 = .ok (.dup, 1) := by decide +kernel
theorem dX7_init_437 : decode cX7_init 437 = .ok (.bipush 15, 2) := by decide +kernel
theorem dX7_init_439 : decode cX7_init 439 = .ok (.bipush 32, 2) := by decide +kernel
theorem dX7_init_441 : decode cX7_init 441 = .ok (.iastore, 1) := by decide +kernel
theorem dX7_init_442 : decode cX7_init 442 = .ok (.dup, 1) := by decide +kernel
theorem dX7_init_443 : decode cX7_init 443 = .ok (.bipush 16, 2) := by decide +kernel
theorem dX7_init_445 : decode cX7_init 445 = .ok (.bipush 99, 2) := by decide +kernel
theorem dX7_init_447 : decode cX7_init 447 = .ok (.iastore, 1) := by decide +kernel
theorem dX7_init_448 : decode cX7_init 448 = .ok (.dup, 1) := by decide +kernel
theorem dX7_init_449 : decode cX7_init 449 = .ok (.bipush 17, 2) := by decide +kernel
theorem dX7_init_451 : decode cX7_init 451 = .ok (.bipush 111, 2) := by decide +kernel
theorem dX7_init_453 : decode cX7_init 453 = .ok (.iastore, 1) := by decide +kernel
theorem dX7_init_454 : decode cX7_init 454 = .ok (.dup, 1) := by decide +kernel
theorem dX7_init_455 : decode cX7_init 455 = .ok (.bipush 18, 2) := by decide +kernel
theorem dX7_init_457 : decode cX7_init 457 = .ok (.bipush 115, 2) := by decide +kernel
theorem dX7_init_459 : decode cX7_init 459 = .ok (.iastore, 1) := by decide +kernel
theorem dX7_init_460 : decode cX7_init 460 = .ok (.dup, 1) := by decide +kernel
theorem dX7_init_461 : decode cX7_init 461 = .ok (.bipush 19, 2) := by decide +kernel
theorem dX7_init_463 : decode cX7_init 463 = .ok (.bipush 116, 2) := by decide +kernel
theorem dX7_init_465 : decode cX7_init 465 = .ok (.iastore, 1) := by decide +kernel
theorem dX7_init_466 : decode cX7_init 466 = .ok (.dup, 1) := by decide +kernel
theorem dX7_init_467 : decode cX7_init 467 = .ok (.bipush 20, 2) := by decide +kernel
theorem dX7_init_469 : decode cX7_init 469 = .ok (.bipush 115, 2) := by decide +kernel
theorem dX7_init_471 : decode cX7_init 471 = .ok (.iastore, 1) := by decide +kernel
theorem dX7_init_472 : decode cX7_init 472 = .ok (.dup, 1) := by decide +kernel
theorem dX7_init_473 : decode cX7_init 473 = .ok (.bipush 21, 2) := by decide +kernel
theorem dX7_init_475 : decode cX7_init 475 = .ok (.bipush 32, 2) := by decide +kernel
theorem dX7_init_477 : decode cX7_init 477 = .ok (.iastore, 1) := by decide +kernel
theorem dX7_init_478 : decode cX7_init 478 = .ok (.dup, 1) := by decide +kernel
theorem dX7_init_479 : decode cX7_init 479 = .ok (.bipush 22, 2) := by decide +kernel
theorem dX7_init_481 : decode cX7_init 481 = .ok (.bipush 32, 2) := by decide +kernel
theorem dX7_init_483 : decode cX7_init 483 = .ok (.iastore, 1) := by decide +kernel
theorem dX7_init_484 : decode cX7_init 484 = .ok (.dup, 1) := by decide +kernel
theorem dX7_init_485 : decode cX7_init 485 = .ok (.bipush 23, 2) := by decide +kernel
theorem dX7_init_487 : decode cX7_init 487 = .ok (.bipush 32, 2) := by decide +kernel
theorem dX7_init_489 : decode cX7_init 489 = .ok (.iastore, 1) := by decide +kernel
theorem dX7_init_490 : decode cX7_init 490 = .ok (.dup, 1) := by decide +kernel
theorem dX7_init_491 : decode cX7_init 491 = .ok (.bipush 24, 2) := by decide +kernel
theorem dX7_init_493 : decode cX7_init 493 = .ok (.bipush 119, 2) := by decide +kernel
theorem dX7_init_495 : decode cX7_init 495 = .ok (.iastore, 1) := by decide +kernel
theorem dX7_init_496 : decode cX7_init 496 = .ok (.dup, 1) := by decide +kernel
theorem dX7_init_497 : decode cX7_init 497 = .ok (.bipush 25, 2) := by decide +kernel
theorem dX7_init_499 : decode cX7_init 499 = .ok (.bipush 111, 2) := by decide +kernel
theorem dX7_init_501 : decode cX7_init 501 = .ok (.iastore, 1) := by decide +kernel
theorem dX7_init_502 : decode cX7_init 502 = .ok (.dup, 1) := by decide +kernel
theorem dX7_init_503 : decode cX7_init 503 = .ok (.bipush 26, 2) := by decide +kernel
theorem dX7_init_505 : decode cX7_init 505 = .ok (.bipush 114, 2) := by decide +kernel
theorem dX7_init_507 : decode cX7_init 507 = .ok (.iastore, 1) := by decide +kernel
theorem dX7_init_508 : decode cX7_init 508 = .ok (.dup, 1) := by decide +kernel
theorem dX7_init_509 : decode cX7_init 509 = .ok (.bipush 27, 2) := by decide +kernel
theorem dX7_init_511 : decode cX7_init 511 = .ok (.bipush 110, 2) := by decide +kernel
theorem dX7_init_513 : decode cX7_init 513 = .ok (.iastore, 1) := by decide +kernel
theorem dX7_init_514 : decode cX7_init 514 = .ok (.dup, 1) := by decide +kernel
theorem dX7_init_515 : decode cX7_init 515 = .ok (.bipush 28, 2) := by decide +kernel
theorem dX7_init_517 : decode cX7_init 517 = .ok (.bipush 32, 2) := by decide +kernel
theorem dX7_init_519 : decode cX7_init 519 = .ok (.iastore, 1) := by decide +kernel
theorem dX7_init_520 : decode cX7_init 520 = .ok (.dup, 1) := by decide +kernel
theorem dX7_init_521 : decode cX7_init 521 = .ok (.bipush 29, 2) := by decide +kernel
theorem dX7_init_523 : decode cX7_init 523 = .ok (.bipush 32, 2) := by decide +kernel
theorem dX7_init_525 : decode cX7_init 525 = .ok (.iastore, 1) := by decide +kernel
theorem dX7_init_526 : decode cX7_init 526 = .ok (.dup, 1) := by decide +kernel
theorem dX7_init_527 : decode cX7_init 527 = .ok (.bipush 30, 2) := by decide +kernel
theorem dX7_init_529 : decode cX7_init 529 = .ok (.bipush 32, 2) := by decide +kernel
theorem dX7_init_531 : decode cX7_init 531 = .ok (.iastore, 1) := by decide +kernel
theorem dX7_init_532 : decode cX7_init 532 = .ok (.dup, 1) := by decide +kernel
theorem dX7_init_533 : decode cX7_init 533 = .ok (.bipush 31, 2) := by decide +kernel
theorem dX7_init_535 : decode cX7_init 535 = .ok (.bipush 32, 2) := by decide +kernel
theorem dX7_init_537 : decode cX7_init 537 = .ok (.iastore, 1) := by decide +kernel
theorem dX7_init_538 : decode cX7_init 538 = .ok (.dup, 1) := by decide +kernel
theorem dX7_init_539 : decode cX7_init 539 = .ok (.bipush 32, 2) := by decide +kernel
theorem dX7_init_541 : decode cX7_init 541 = .ok (.bipush 108, 2) := by decide +kernel
theorem dX7_init_543 : decode cX7_init 543 = .ok (.iastore, 1) := by decide +kernel
theorem dX7_init_544 : decode cX7_init 544 = .ok (.dup, 1) := by decide +kernel
theorem dX7_init_545 : decode cX7_init 545 = .ok (.bipush 33, 2) := by decide +kernel
theorem dX7_init_547 : decode cX7_init 547 = .ok (.bipush 97, 2) := by decide +kernel
theorem dX7_init_549 : decode cX7_init 549 = .ok (.iastore, 1) := by decide +kernel
theorem dX7_init_550 : decode cX7_init 550 = .ok (.dup, 1) := by decide +kernel
theorem dX7_init_551 : decode cX7_init 551 = .ok (.bipush 34, 2) := by decide +kernel
theorem dX7_init_553 : decode cX7_init 553 = .ok (.bipush 105, 2) := by decide +kernel
theorem dX7_init_555 : decode cX7_init 555 = .ok (.iastore, 1) := by decide +kernel
theorem dX7_init_556 : decode cX7_init 556 = .ok (.dup, 1) := by decide +kernel
theorem dX7_init_557 : decode cX7_init 557 = .ok (.bipush 35, 2) := by decide +kernel
theorem dX7_init_559 : decode cX7_init 559 = .ok (.bipush 110, 2) := by decide +kernel
theorem dX7_init_561 : decode cX7_init 561 = .ok (.iastore, 1) := by decide +kernel
theorem dX7_init_562 : decode cX7_init 562 = .ok (.dup, 1) := by decide +kernel
theorem dX7_init_563 : decode cX7_init 563 = .ok (.bipush 36, 2) := by decide +kernel
theorem dX7_init_565 : decode cX7_init 565 = .ok (.bipush 32, 2) := by decide +kernel
theorem dX7_init_567 : decode cX7_init 567 = .ok (.iastore, 1) := by decide +kernel
theorem dX7_init_568 : decode cX7_init 568 = .ok (.dup, 1) := by decide +kernel
theorem dX7_init_569 : decode cX7_init 569 = .ok (.bipush 37, 2) := by decide +kernel
theorem dX7_init_571 : decode cX7_init 571 = .ok (.bipush 32, 2) := by decide +kernel
theorem dX7_init_573 : decode cX7_init 573 = .ok (.iastore, 1) := by decide +kernel
theorem dX7_init_574 : decode cX7_init 574 = .ok (.dup, 1) := by decide +kernel
theorem dX7_init_575 : decode cX7_init 575 = .ok (.bipush 38, 2) := by decide +kernel
theorem dX7_init_577 : decode cX7_init 577 = .ok (.bipush 32, 2) := by decide +kernel
theorem dX7_init_579 : decode cX7_init 579 = .ok (.iastore, 1) := by decide +kernel
theorem dX7_init_580 : decode cX7_init 580 = .ok (.dup, 1) := by decide +kernel
theorem dX7_init_581 : decode cX7_init 581 = .ok (.bipush 39, 2) := by decide +kernel
theorem dX7_init_583 : decode cX7_init 583 = .ok (.bipush 32, 2) := by decide +kernel
theorem dX7_init_585 : decode cX7_init 585 = .ok (.iastore, 1) := by decide +kernel
theorem dX7_init_586 : decode cX7_init 586 = .ok (.dup, 1) := by decide +kernel
theorem dX7_init_587 : decode cX7_init 587 = .ok (.bipush 40, 2) := by decide +kernel
theorem dX7_init_589 : decode cX7_init 589 = .ok (.bipush 109, 2) := by decide +kernel
theorem dX7_init_591 : decode cX7_init 591 = .ok (.iastore, 1) := by decide +kernel
theorem dX7_init_592 : decode cX7_init 592 = .ok (.dup, 1) := by decide +kernel
theorem dX7_init_593 : decode cX7_init 593 = .ok (.bipush 41, 2) := by decide +kernel
theorem dX7_init_595 : decode cX7_init 595 = .ok (.bipush 111, 2) := by decide +kernel
theorem dX7_init_597 : decode cX7_init 597 = .ok (.iastore, 1) := by decide +kernel
theorem dX7_init_598 : decode cX7_init 598 = .ok (.dup, 1) := by decide +kernel
theorem dX7_init_599 : decode cX7_init 599 = .ok (.bipush 42, 2) := by decide +kernel
theorem dX7_init_601 : decode cX7_init 601 = .ok (.bipush 114, 2) := by decide +kernel
theorem dX7_init_603 : decode cX7_init 603 = .ok (.iastore, 1) := by decide +kernel
theorem dX7_init_604 : decode cX7_init 604 = .ok (.dup, 1) := by decide +kernel
theorem dX7_init_605 : decode cX7_init 605 = .ok (.bipush 43, 2) := by decide +kernel
theorem dX7_init_607 : decode cX7_init 607 = .ok (.bipush 101, 2) := by decide +kernel
theorem dX7_init_609 : decode cX7_init 609 = .ok (.iastore, 1) := by decide +kernel
theorem dX7_init_610 : decode cX7_init 610 = .ok (.dup, 1) := by decide +kernel
theorem dX7_init_611 : decode cX7_init 611 = .ok (.bipush 44, 2) := by decide +kernel
theorem dX7_init_613 : decode cX7_init 613 = .ok (.bipush 32, 2) := by decide +kernel
theorem dX7_init_615 : decode cX7_init 615 = .ok (.iastore, 1) := by decide +kernel
theorem dX7_init_616 : decode cX7_init 616 = .ok (.dup, 1) := by decide +kernel
theorem dX7_init_617 : decode cX7_init 617 = .ok (.bipush 45, 2) := by decide +kernel
theorem dX7_init_619 : decode cX7_init 619 = .ok (.bipush 32, 2) := by decide +kernel
theorem dX7_init_621 : decode cX7_init 621 = .ok (.iastore, 1) := by decide +kernel
theorem dX7_init_622 : decode cX7_init 622 = .ok (.dup, 1) := by decide +kernel
theorem dX7_init_623 : decode cX7_init 623 = .ok (.bipush 46, 2) := by decide +kernel
theorem dX7_init_625 : decode cX7_init 625 = .ok (.bipush 32, 2) := by decide +kernel
theorem dX7_init_627 : decode cX7_init 627 = .ok (.iastore, 1) := by decide +kernel
theorem dX7_init_628 : decode cX7_init 628 = .ok (.dup, 1) := by decide +kernel
theorem dX7_init_629 : decode cX7_init 629 = .ok (.bipush 47, 2) := by decide +kernel
theorem dX7_init_631 : decode cX7_init 631 = .ok (.bipush 32, 2) := by decide +kernel
theorem dX7_init_633 : decode cX7_init 633 = .ok (.iastore, 1) := by decide +kernel
theorem dX7_init_634 : decode cX7_init 634 = .ok (.dup, 1) := by decide +kernel
theorem dX7_init_635 : decode cX7_init 635 = .ok (.bipush 48, 2) := by decide +kernel
theorem dX7_init_637 : decode cX7_init 637 = .ok (.bipush 116, 2) := by decide +kernel
theorem dX7_init_639 : decode cX7_init 639 = .ok (.iastore, 1) := by decide +kernel
theorem dX7_init_640 : decode cX7_init 640 = .ok (.dup, 1) := by decide +kernel
theorem dX7_init_641 : decode cX7_init 641 = .ok (.bipush 49, 2) := by decide +kernel
theorem dX7_init_643 : decode cX7_init 643 = .ok (.bipush 117, 2) := by decide +kernel
theorem dX7_init_645 : decode cX7_init 645 = .ok (.iastore, 1) := by decide +kernel
theorem dX7_init_646 : decode cX7_init 646 = .ok (.dup, 1) := by decide +kernel
theorem dX7_init_647 : decode cX7_init 647 = .ok (.bipush 50, 2) := by decide +kernel
theorem dX7_init_649 : decode cX7_init 649 = .ok (.bipush 114, 2) := by decide +kernel
theorem dX7_init_651 : decode cX7_init 651 = .ok (.iastore, 1) := by decide +kernel
theorem dX7_init_652 : decode cX7_init 652 = .ok (.dup, 1) := by decide +kernel
theorem dX7_init_653 : decode cX7_init 653 = .ok (.bipush 51, 2) := by decide +kernel
theorem dX7_init_655 : decode cX7_init 655 = .ok (.bipush 110, 2) := by decide +kernel
theorem dX7_init_657 : decode cX7_init 657 = .ok (.iastore, 1) := by decide +kernel
theorem dX7_init_658 : decode cX7_init 658 = .ok (.dup, 1) := by decide +kernel
theorem dX7_init_659 : decode cX7_init 659 = .ok (.bipush 52, 2) := by decide +kernel
theorem dX7_init_661 : decode cX7_init 661 = .ok (.bipush 101, 2) := by decide +kernel
theorem dX7_init_663 : decode cX7_init 663 = .ok (.iastore, 1) := by decide +kernel
theorem dX7_init_664 : decode cX7_init 664 = .ok (.dup, 1) := by decide +kernel
theorem dX7_init_665 : decode cX7_init 665 = .ok (.bipush 53, 2) := by decide +kernel
theorem dX7_init_667 : decode cX7_init 667 = .ok (.bipush 100, 2) := by decide +kernel
theorem dX7_init_669 : decode cX7_init 669 = .ok (.iastore, 1) := by decide +kernel
theorem dX7_init_670 : decode cX7_init 670 = .ok (.dup, 1) := by decide +kernel
theorem dX7_init_671 : decode cX7_init 671 = .ok (.bipush 54, 2) := by decide +kernel
theorem dX7_init_673 : decode cX7_init 673 = .ok (.bipush 32, 2) := by decide +kernel
theorem dX7_init_675 : decode cX7_init 675 = .ok (.iastore, 1) := by decide +kernel
theorem dX7_init_676 : decode cX7_init 676 = .ok (.dup, 1) := by decide +kernel
theorem dX7_init_677 : decode cX7_init 677 = .ok (.bipush 55, 2) := by decide +kernel
theorem dX7_init_679 : decode cX7_init 679 = .ok (.bipush 32, 2) := by decide +kernel
theorem dX7_init_681 : decode cX7_init 681 = .ok (.iastore, 1) := by decide +kernel
theorem dX7_init_682 : decode cX7_init 682 = .ok (.dup, 1) := by decide +kernel
theorem dX7_init_683 : decode cX7_init 683 = .ok (.bipush 56, 2) := by decide +kernel
theorem dX7_init_685 : decode cX7_init 685 = .ok (.bipush 119, 2) := by decide +kernel
theorem dX7_init_687 : decode cX7_init 687 = .ok (.iastore, 1) := by decide +kernel
theorem dX7_init_688 : decode cX7_init 688 = .ok (.dup, 1) := by decide +kernel
theorem dX7_init_689 : decode cX7_init 689 = .ok (.bipush 57, 2) := by decide +kernel
theorem dX7_init_691 : decode cX7_init 691 = .ok (.bipush 101, 2) := by decide +kernel
theorem dX7_init_693 : decode cX7_init 693 = .ok (.iastore, 1) := by decide +kernel
theorem dX7_init_694 : decode cX7_init 694 = .ok (.dup, 1) := by decide +kernel
theorem dX7_init_695 : decode cX7_init 695 = .ok (.bipush 58, 2) := by decide +kernel
theorem dX7_init_697 : decode cX7_init 697 = .ok (.bipush 101, 2) := by decide +kernel
theorem dX7_init_699 : decode cX7_init 699 = .ok (.iastore, 1) := by decide +kernel
theorem dX7_init_700 : decode cX7_init 700 = .ok (.dup, 1) := by decide +kernel
theorem dX7_init_701 : decode cX7_init 701 = .ok (.bipush 59, 2) := by decide +kernel
theorem dX7_init_703 : decode cX7_init 703 = .ok (.bipush 107, 2) := by decide +kernel
theorem dX7_init_705 : decode cX7_init 705 = .ok (.iastore, 1) := by decide +kernel
theorem dX7_init_706 : decode cX7_init 706 = .ok (.dup, 1) := by decide +kernel
theorem dX7_init_707 : decode cX7_init 707 = .ok (.bipush 60, 2) := by decide +kernel
theorem dX7_init_709 : decode cX7_init 709 = .ok (.bipush 32, 2) := by decide +kernel
theorem dX7_init_711 : decode cX7_init 711 = .ok (.iastore, 1) := by decide +kernel
theorem dX7_init_712 : decode cX7_init 712 = .ok (.dup, 1) := by decide +kernel
theorem dX7_init_713 : decode cX7_init 713 = .ok (.bipush 61, 2) := by decide +kernel
theorem dX7_init_715 : decode cX7_init 715 = .ok (.bipush 32, 2) := by decide +kernel
theorem dX7_init_717 : decode cX7_init 717 = .ok (.iastore, 1) := by decide +kernel
theorem dX7_init_718 : decode cX7_init 718 = .ok (.dup, 1) := by decide +kernel
theorem dX7_init_719 : decode cX7_init 719 = .ok (.bipush 62, 2) := by decide +kernel
theorem dX7_init_721 : decode cX7_init 721 = .ok (.bipush 32, 2) := by decide +kernel
theorem dX7_init_723 : decode cX7_init 723 = .ok (.iastore, 1) := by decide +kernel
theorem dX7_init_724 : decode cX7_init 724 = .ok (.dup, 1) := by decide +kernel
theorem dX7_init_725 : decode cX7_init 725 = .ok (.bipush 63, 2) := by decide +kernel
theorem dX7_init_727 : decode cX7_init 727 = .ok (.bipush 32, 2) := by decide +kernel
theorem dX7_init_729 : decode cX7_init 729 = .ok (.iastore, 1) := by decide +kernel
theorem dX7_init_730 : decode cX7_init 730 = .ok (.dup, 1) := by decide +kernel
theorem dX7_init_731 : decode cX7_init 731 = .ok (.bipush 64, 2) := by decide +kernel
theorem dX7_init_733 : decode cX7_init 733 = .ok (.bipush 119, 2) := by decide +kernel
theorem dX7_init_735 : decode cX7_init 735 = .ok (.iastore, 1) := by decide +kernel
theorem dX7_init_736 : decode cX7_init 736 = .ok (.dup, 1) := by decide +kernel
theorem dX7_init_737 : decode cX7_init 737 = .ok (.bipush 65, 2) := by decide +kernel
theorem dX7_init_739 : decode cX7_init 739 = .ok (.bipush 97, 2) := by decide +kernel
theorem dX7_init_741 : decode cX7_init 741 = .ok (.iastore, 1) := by decide +kernel
theorem dX7_init_742 : decode cX7_init 742 = .ok (.dup, 1) := by decide +kernel
theorem dX7_init_743 : decode cX7_init 743 = .ok (.bipush 66, 2) := by decide +kernel
theorem dX7_init_745 : decode cX7_init 745 = .ok (.bipush 110, 2) := by decide +kernel
theorem dX7_init_747 : decode cX7_init 747 = .ok (.iastore, 1) := by decide +kernel
theorem dX7_init_748 : decode cX7_init 748 = .ok (.dup, 1) := by decide +kernel
theorem dX7_init_749 : decode cX7_init 749 = .ok (.bipush 67, 2) := by decide +kernel
theorem dX7_init_751 : decode cX7_init 751 = .ok (.bipush 116, 2) := by decide +kernel
theorem dX7_init_753 : decode cX7_init 753 = .ok (.iastore, 1) := by decide +kernel
theorem dX7_init_754 : decode cX7_init 754 = .ok (.dup, 1) := by decide +kernel
theorem dX7_init_755 : decode cX7_init 755 = .ok (.bipush 68, 2) := by decide +kernel
theorem dX7_init_757 : decode cX7_init 757 = .ok (.bipush 101, 2) := by decide +kernel
theorem dX7_init_759 : decode cX7_init 759 = .ok (.iastore, 1) := by decide +kernel
theorem dX7_init_760 : decode cX7_init 760 = .ok (.dup, 1) := by decide +kernel
theorem dX7_init_761 : decode cX7_init 761 = .ok (.bipush 69, 2) := by decide +kernel
theorem dX7_init_763 : decode cX7_init 763 = .ok (.bipush 100, 2) := by decide +kernel
theorem dX7_init_765 : decode cX7_init 765 = .ok (.iastore, 1) := by decide +kernel
theorem dX7_init_766 : decode cX7_init 766 = .ok (.dup, 1) := by decide +kernel
theorem dX7_init_767 : decode cX7_init 767 = .ok (.bipush 70, 2) := by decide +kernel
theorem dX7_init_769 : decode cX7_init 769 = .ok (.bipush 32, 2) := by decide +kernel
theorem dX7_init_771 : decode cX7_init 771 = .ok (.iastore, 1) := by decide +kernel
theorem dX7_init_772 : decode cX7_init 772 = .ok (.dup, 1) := by decide +kernel
theorem dX7_init_773 : decode cX7_init 773 = .ok (.bipush 71, 2) := by decide +kernel
theorem dX7_init_775 : decode cX7_init 775 = .ok (.bipush 32, 2) := by decide +kernel
theorem dX7_init_777 : decode cX7_init 777 = .ok (.iastore, 1) := by decide +kernel
theorem dX7_init_778 : decode cX7_init 778 = .ok (.dup, 1) := by decide +kernel
theorem dX7_init_779 : decode cX7_init 779 = .ok (.bipush 72, 2) := by decide +kernel
theorem dX7_init_781 : decode cX7_init 781 = .ok (.bipush 111, 2) := by decide +kernel
theorem dX7_init_783 : decode cX7_init 783 = .ok (.iastore, 1) := by decide +kernel
theorem dX7_init_784 : decode cX7_init 784 = .ok (.dup, 1) := by decide +kernel
theorem dX7_init_785 : decode cX7_init 785 = .ok (.bipush 73, 2) := by decide +kernel
theorem dX7_init_787 : decode cX7_init 787 = .ok (.bipush 114, 2) := by decide +kernel
theorem dX7_init_789 : decode cX7_init 789 = .ok (.iastore, 1) := by decide +kernel
theorem dX7_init_790 : decode cX7_init 790 = .ok (.dup, 1) := by decide +kernel
theorem dX7_init_791 : decode cX7_init 791 = .ok (.bipush 74, 2) := by decide +kernel
theorem dX7_init_793 : decode cX7_init 793 = .ok (.bipush 32, 2) := by decide +kernel
theorem dX7_init_795 : decode cX7_init 795 = .ok (.iastore, 1) := by decide +kernel
theorem dX7_init_796 : decode cX7_init 796 = .ok (.dup, 1) := by decide +kernel
theorem dX7_init_797 : decode cX7_init 797 = .ok (.bipush 75, 2) := by decide +kernel
theorem dX7_init_799 : decode cX7_init 799 = .ok (.bipush 32, 2) := by decide +kernel
theorem dX7_init_801 : decode cX7_init 801 = .ok (.iastore, 1) := by decide +kernel
theorem dX7_init_802 : decode cX7_init 802 = .ok (.dup, 1) := by decide +kernel
theorem dX7_init_803 : decode cX7_init 803 = .ok (.bipush 76, 2) := by decide +kernel
theorem dX7_init_805 : decode cX7_init 805 = .ok (.bipush 32, 2) := by decide +kernel
theorem dX7_init_807 : decode cX7_init 807 = .ok (.iastore, 1) := by decide +kernel
theorem dX7_init_808 : decode cX7_init 808 = .ok (.dup, 1) := by decide +kernel
theorem dX7_init_809 : decode cX7_init 809 = .ok (.bipush 77, 2) := by decide +kernel
theorem dX7_init_811 : decode cX7_init 811 = .ok (.bipush 32, 2) := by decide +kernel
theorem dX7_init_813 : decode cX7_init 813 = .ok (.iastore, 1) := by decide +kernel
theorem dX7_init_814 : decode cX7_init 814 = .ok (.dup, 1) := by decide +kernel
theorem dX7_init_815 : decode cX7_init 815 = .ok (.bipush 78, 2) := by decide +kernel
theorem dX7_init_817 : decode cX7_init 817 = .ok (.bipush 32, 2) := by decide +kernel
theorem dX7_init_819 : decode cX7_init 819 = .ok (.iastore, 1) := by decide +kernel
theorem dX7_init_820 : decode cX7_init 820 = .ok (.dup, 1) := by decide +kernel
theorem dX7_init_821 : decode cX7_init 821 = .ok (.bipush 79, 2) := by decide +kernel
theorem dX7_init_823 : decode cX7_init 823 = .ok (.bipush 32, 2) := by decide +kernel
theorem dX7_init_825 : decode cX7_init 825 = .ok (.iastore, 1) := by decide +kernel
theorem dX7_init_826 : decode cX7_init 826 = .ok (.dup, 1) := by decide +kernel
theorem dX7_init_827 : decode cX7_init 827 = .ok (.bipush 80, 2) := by decide +kernel
theorem dX7_init_829 : decode cX7_init 829 = .ok (.bipush 97, 2) := by decide +kernel
theorem dX7_init_831 : decode cX7_init 831 = .ok (.iastore, 1) := by decide +kernel
theorem dX7_init_832 : decode cX7_init 832 = .ok (.dup, 1) := by decide +kernel
theorem dX7_init_833 : decode cX7_init 833 = .ok (.bipush 81, 2) := by decide +kernel
theorem dX7_init_835 : decode cX7_init 835 = .ok (.bipush 110, 2) := by decide +kernel
theorem dX7_init_837 : decode cX7_init 837 = .ok (.iastore, 1) := by decide +kernel
theorem dX7_init_838 : decode cX7_init 838 = .ok (.dup, 1) := by decide +kernel
theorem dX7_init_839 : decode cX7_init 839 = .ok (.bipush 82, 2) := by decide +kernel
theorem dX7_init_841 : decode cX7_init 841 = .ok (.bipush 100, 2) := by decide +kernel
theorem dX7_init_843 : decode cX7_init 843 = .ok (.iastore, 1) := by decide +kernel
theorem dX7_init_844 : decode cX7_init 844 = .ok (.dup, 1) := by decide +kernel
theorem dX7_init_845 : decode cX7_init 845 = .ok (.bipush 83, 2) := by decide +kernel
theorem dX7_init_847 : decode cX7_init 847 = .ok (.bipush 32, 2) := by decide +kernel
theorem dX7_init_849 : decode cX7_init 849 = .ok (.iastore, 1) := by decide +kernel
theorem dX7_init_850 : decode cX7_init 850 = .ok (.dup, 1) := by decide +kernel
theorem dX7_init_851 : decode cX7_init 851 = .ok (.bipush 84, 2) := by decide +kernel
theorem dX7_init_853 : decode cX7_init 853 = .ok (.bipush 32, 2) := by decide +kernel
theorem dX7_init_855 : decode cX7_init 855 = .ok (.iastore, 1) := by decide +kernel
theorem dX7_init_856 : decode cX7_init 856 = .ok (.dup, 1) := by decide +kernel
theorem dX7_init_857 : decode cX7_init 857 = .ok (.bipush 85, 2) := by decide +kernel
theorem dX7_init_859 : decode cX7_init 859 = .ok (.bipush 32, 2) := by decide +kernel
theorem dX7_init_861 : decode cX7_init 861 = .ok (.iastore, 1) := by decide +kernel
theorem dX7_init_862 : decode cX7_init 862 = .ok (.dup, 1) := by decide +kernel
theorem dX7_init_863 : decode cX7_init 863 = .ok (.bipush 86, 2) := by decide +kernel
theorem dX7_init_865 : decode cX7_init 865 = .ok (.bipush 32, 2) := by decide +kernel
theorem dX7_init_867 : decode cX7_init 867 = .ok (.iastore, 1) := by decide +kernel
theorem dX7_init_868 : decode cX7_init 868 = .ok (.dup, 1) := by decide +kernel
theorem dX7_init_869 : decode cX7_init 869 = .ok (.bipush 87, 2) := by decide +kernel
theorem dX7_init_871 : decode cX7_init 871 = .ok (.bipush 32, 2) := by decide +kernel
theorem dX7_init_873 : decode cX7_init 873 = .ok (.iastore, 1) := by decide +kernel
theorem dX7_init_874 : decode cX7_init 874 = .ok (.dup, 1) := by decide +kernel
theorem dX7_init_875 : decode cX7_init 875 = .ok (.bipush 88, 2) := by decide +kernel
theorem dX7_init_877 : decode cX7_init 877 = .ok (.bipush 110, 2) := by decide +kernel
theorem dX7_init_879 : decode cX7_init 879 = .ok (.iastore, 1) := by decide +kernel
theorem dX7_init_880 : decode cX7_init 880 = .ok (.dup, 1) := by decide +kernel
theorem dX7_init_881 : decode cX7_init 881 = .ok (.bipush 89, 2) := by decide +kernel
theorem dX7_init_883 : decode cX7_init 883 = .ok (.bipush 111, 2) := by decide +kernel
theorem dX7_init_885 : decode cX7_init 885 = .ok (.iastore, 1) := by decide +kernel
theorem dX7_init_886 : decode cX7_init 886 = .ok (.dup, 1) := by decide +kernel
theorem dX7_init_887 : decode cX7_init 887 = .ok (.bipush 90, 2) := by decide +kernel
theorem dX7_init_889 : decode cX7_init 889 = .ok (.bipush 116, 2) := by decide +kernel
theorem dX7_init_891 : decode cX7_init 891 = .ok (.iastore, 1) := by decide +kernel
theorem dX7_init_892 : decode cX7_init 892 = .ok (.dup, 1) := by decide +kernel
theorem dX7_init_893 : decode cX7_init 893 = .ok (.bipush 91, 2) := by decide +kernel
theorem dX7_init_895 : decode cX7_init 895 = .ok (.bipush 32, 2) := by decide +kernel
theorem dX7_init_897 : decode cX7_init 897 = .ok (.iastore, 1) := by decide +kernel
theorem dX7_init_898 : decode cX7_init 898 = .ok (.dup, 1) := by decide +kernel
theorem dX7_init_899 : decode cX7_init 899 = .ok (.bipush 92, 2) := by decide +kernel
theorem dX7_init_901 : decode cX7_init 901 = .ok (.bipush 32, 2) := by decide +kernel
theorem dX7_init_903 : decode cX7_init 903 = .ok (.iastore, 1) := by decide +kernel
theorem dX7_init_904 : decode cX7_init 904 = .ok (.dup, 1) := by decide +kernel
theorem dX7_init_905 : decode cX7_init 905 = .ok (.bipush 93, 2) := by decide +kernel
theorem dX7_init_907 : decode cX7_init 907 = .ok (.bipush 32, 2) := by decide +kernel
theorem dX7_init_909 : decode cX7_init 909 = .ok (.iastore, 1) := by decide +kernel
theorem dX7_init_910 : decode cX7_init 910 = .ok (.dup, 1) := by decide +kernel
theorem dX7_init_911 : decode cX7_init 911 = .ok (.bipush 94, 2) := by decide +kernel
theorem dX7_init_913 : decode cX7_init 913 = .ok (.bipush 32, 2) := by decide +kernel
theorem dX7_init_915 : decode cX7_init 915 = .ok (.iastore, 1) := by decide +kernel
theorem dX7_init_916 : decode cX7_init 916 = .ok (.dup, 1) := by decide +kernel
theorem dX7_init_917 : decode cX7_init 917 = .ok (.bipush 95, 2) := by decide +kernel
theorem dX7_init_919 : decode cX7_init 919 = .ok (.bipush 32, 2) := by decide +kernel
theorem dX7_init_921 : decode cX7_init 921 = .ok (.iastore, 1) := by decide +kernel
theorem dX7_init_922 : decode cX7_init 922 = .ok (.putfield 55, 3) := by decide +kernel
theorem dX7_init_925 : decode cX7_init 925 = .ok (.aload_n 0, 1) := by decide +kernel
theorem dX7_init_926 : decode cX7_init 926 = .ok (.sipush 200, 3) := by decide +kernel
theorem dX7_init_929 : decode cX7_init 929 = .ok (.newarray .int, 2) := by decide +kernel
theorem dX7_init_931 : decode cX7_init 931 = .ok (.putfield 58, 3) := by decide +kernel
theorem dX7_init_934 : decode cX7_init 934 = .ok (.aload_n 0, 1) := by decide +kernel
theorem dX7_init_935 : decode cX7_init 935 = .ok (.sipush 200, 3) := by decide +kernel
theorem dX7_init_938 : decode cX7_init 938 = .ok (.newarray .int, 2) := by decide +kernel
theorem dX7_init_940 : decode cX7_init 940 = .ok (.putfield 61, 3) := by decide +kernel
theorem dX7_init_943 : decode cX7_init 943 = .ok (.aload_n 0, 1) := by decide +kernel
theorem dX7_init_944 : decode cX7_init 944 = .ok (.bipush 6, 2) := by decide +kernel
theorem dX7_init_946 : decode cX7_init 946 = .ok (.newarray .int, 2) := by decide +kernel
theorem dX7_init_948 : decode cX7_init 948 = .ok (.putfield 64, 3) := by decide +kernel
theorem dX7_init_951 : decode cX7_init 951 = .ok (.aload_n 0, 1) := by decide +kernel
theorem dX7_init_952 : decode cX7_init 952 = .ok (.bipush 8, 2) := by decide +kernel
theorem dX7_init_954 : decode cX7_init 954 = .ok (.newarray .int, 2) := by decide +kernel
theorem dX7_init_956 : decode cX7_init 956 = .ok (.putfield 67, 3) := by decide +kernel
theorem dX7_init_959 : decode cX7_init 959 = .ok (.aload_n 0, 1) := by decide +kernel
theorem dX7_init_960 : decode cX7_init 960 = .ok (.bipush 48, 2) := by decide +kernel
theorem dX7_init_962 : decode cX7_init 962 = .ok (.newarray .int, 2) := by decide +kernel
theorem dX7_init_964 : decode cX7_init 964 = .ok (.putfield 70, 3) := by decide +kernel
theorem dX7_init_967 : decode cX7_init 967 = .ok (.aload_n 0, 1) := by decide +kernel
theorem dX7_init_968 : decode cX7_init 968 = .ok (.bipush 9, 2) := by decide +kernel
theorem dX7_init_970 : decode cX7_init 970 = .ok (.newarray .int, 2) := by decide +kernel
theorem dX7_init_972 : decode cX7_init 972 = .ok (.putfield 73, 3) := by decide +kernel
theorem dX7_init_975 : decode cX7_init 975 = .ok (.aload_n 0, 1) := by decide +kernel
theorem dX7_init_976 : decode cX7_init 976 = .ok (.bipush 48, 2) := by decide +kernel
theorem dX7_init_978 : decode cX7_init 978 = .ok (.newarray .int, 2) := by decide +kernel
theorem dX7_init_980 : decode cX7_init 980 = .ok (.putfield 76, 3) := by decide +kernel
theorem dX7_init_983 : decode cX7_init 983 = .ok (.iconst 0, 1) := by decide +kernel
theorem dX7_init_984 : decode cX7_init 984 = .ok (.istore_n 1, 1) := by decide +kernel
theorem dX7_init_985 : decode cX7_init 985 = .ok (.iload_n 1, 1) := by decide +kernel
theorem dX7_init_986 : decode cX7_init 986 = .ok (.bipush 33, 2) := by decide +kernel
theorem dX7_init_988 : decode cX7_init 988 = .ok (.if_icmp .ge 21, 3) := by decide +kernel
theorem dX7_init_991 : decode cX7_init 991 = .ok (.aload_n 0, 1) := by decide +kernel
theorem dX7_init_992 : decode cX7_init 992 = .ok (.getfield 25, 3) := by decide +kernel
theorem dX7_init_995 : decode cX7_init 995 = .ok (.iload_n 1, 1) := by decide +kernel
theorem dX7_init_996 : decode cX7_init 996 = .ok (.aload_n 0, 1) := by decide +kernel
theorem dX7_init_997 : decode cX7_init 997 = .ok (.getfield 52, 3) := by decide +kernel
theorem dX7_init_1000 : decode cX7_init 1000 = .ok (.iload_n 1, 1) := by decide +kernel
theorem dX7_init_1001 : decode cX7_init 1001 = .ok (.iaload, 1) := by decide +kernel
theorem dX7_init_1002 : decode cX7_init 1002 = .ok (.iastore, 1) := by decide +kernel
theorem dX7_init_1003 : decode cX7_init 1003 = .ok (.iinc 1 1, 3) := by decide +kernel
theorem dX7_init_1006 : decode cX7_init 1006 = .ok (.goto (-21), 3) := by decide +kernel
theorem dX7_init_1009 : decode cX7_init 1009 = .ok (.aload_n 0, 1) := by decide +kernel
theorem dX7_init_1010 : decode cX7_init 1010 = .ok (.bipush 33, 2) := by decide +kernel
theorem dX7_init_1012 : decode cX7_init 1012 = .ok (.putfield 79, 3) := by decide +kernel
theorem dX7_init_1015 : decode cX7_init 1015 = .ok (.aload_n 0, 1) := by decide +kernel
theorem dX7_init_1016 : decode cX7_init 1016 = .ok (.invokevirtual 83, 3) := by decide +kernel
theorem dX7_init_1019 : decode cX7_init 1019 = .ok (.pop, 1) := by decide +kernel
theorem dX7_init_1020 : decode cX7_init 1020 = .ok (.return_, 1) := by decide +kernel
theorem dX7_in_0 : decode cX7_in 0 = .ok (.iload_n 0, 1) := by decide +kernel
theorem dX7_in_1 : decode cX7_in 1 = .ok (.iload_n 1, 1) := by decide +kernel
theorem dX7_in_2 : decode cX7_in 2 = .ok (.if_icmp .lt 12, 3) := by decide +kernel
theorem dX7_in_5 : decode cX7_in 5 = .ok (.iload_n 0, 1) := by decide +kernel
theorem dX7_in_6 : decode cX7_in 6 = .ok (.iload_n 2, 1) := by decide +kernel
theorem dX7_in_7 : decode cX7_in 7 = .ok (.if_icmp .gt 7, 3) := by decide +kernel
theorem dX7_in_10 : decode cX7_in 10 = .ok (.iconst 1, 1) := by decide +kernel
theorem dX7_in_11 : decode cX7_in 11 = .ok (.goto 4, 3) := by decide +kernel
theorem dX7_in_14 : decode cX7_in 14 = .ok (.iconst 0, 1) := by decide +kernel
theorem dX7_in_15 : decode cX7_in 15 = .ok (.ireturn, 1) := by decide +kernel
theorem dX7_within_0 : decode cX7_within 0 = .ok (.iload_n 0, 1) := by decide +kernel
theorem dX7_within_1 : decode cX7_within 1 = .ok (.iload_n 1, 1) := by decide +kernel
theorem dX7_within_2 : decode cX7_within 2 = .ok (.if_icmp .ge 7, 3) := by decide +kernel
theorem dX7_within_5 : decode cX7_within 5 = .ok (.iload_n 1, 1) := by decide +kernel
theorem dX7_within_6 : decode cX7_within 6 = .ok (.goto 13, 3) := by decide +kernel
theorem dX7_within_9 : decode cX7_within 9 = .ok (.iload_n 0, 1) := by decide +kernel
theorem dX7_within_10 : decode cX7_within 10 = .ok (.iload_n 2, 1) := by decide +kernel
theorem dX7_within_11 : decode cX7_within 11 = .ok (.if_icmp .le 7, 3) := by decide +kernel
theorem dX7_within_14 : decode cX7_within 14 = .ok (.iload_n 2, 1) := by decide +kernel
theorem dX7_within_15 : decode cX7_within 15 = .ok (.goto 4, 3) := by decide +kernel
theorem dX7_within_18 : decode cX7_within 18 = .ok (.iload_n 0, 1) := by decide +kernel
theorem dX7_within_19 : decode cX7_within 19 = .ok (.ireturn, 1) := by decide +kernel
theorem dX7_isLinen_0 : decode cX7_isLinen 0 = .ok (.iload_n 1, 1) := by decide +kernel
theorem dX7_isLinen_1 : decode cX7_isLinen 1 = .ok (.iconst 0, 1) := by decide +kernel
theorem dX7_isLinen_2 : decode cX7_isLinen 2 = .ok (.aload_n 0, 1) := by decide +kernel
theorem dX7_isLinen_3 : decode cX7_isLinen 3 = .ok (.getfield 87, 3) := by decide +kernel
theorem dX7_isLinen_6 : decode cX7_isLinen 6 = .ok (.iconst 1, 1) := by decide +kernel
theorem dX7_isLinen_7 : decode cX7_isLinen 7 = .ok (.isub, 1) := by decide +kernel
theorem dX7_isLinen_8 : decode cX7_isLinen 8 = .ok (.invokestatic 90, 3) := by decide +kernel
theorem dX7_isLinen_11 : decode cX7_isLinen 11 = .ok (.ireturn, 1) := by decide +kernel
theorem dX7_areWeeks_0 : decode cX7_areWeeks 0 = .ok (.iload_n 0, 1) := by decide +kernel
theorem dX7_areWeeks_1 : decode cX7_areWeeks 1 = .ok (.iconst 0, 1) := by decide +kernel
theorem dX7_areWeeks_2 : decode cX7_areWeeks 2 = .ok (.sipush 200, 3) := by decide +kernel
theorem dX7_areWeeks_5 : decode cX7_areWeeks 5 = .ok (.invokestatic 90, 3) := by decide +kernel
theorem dX7_areWeeks_8 : decode cX7_areWeeks 8 = .ok (.ireturn, 1) := by decide +kernel
theorem dX7_count_0 : decode cX7_count 0 = .ok (.iload_n 1, 1) := by decide +kernel
theorem dX7_count_1 : decode cX7_count 1 = .ok (.tableswitch 94 0 9 #[55, 60, 65, 65, 65, 65, 74, 79, 84, 89], 55) := by decide +kernel
theorem dX7_count_56 : decode cX7_count 56 = .ok (.aload_n 0, 1) := by decide +kernel
theorem dX7_count_57 : decode cX7_count 57 = .ok (.getfield 87, 3) := by decide +kernel
theorem dX7_count_60 : decode cX7_count 60 = .ok (.ireturn, 1) := by decide +kernel
theorem dX7_count_61 : decode cX7_count 61 = .ok (.aload_n 0, 1) := by decide +kernel
theorem dX7_count_62 : decode cX7_count 62 = .ok (.getfield 94, 3) := by decide +kernel
theorem dX7_count_65 : decode cX7_count 65 = .ok (.ireturn, 1) := by decide +kernel
theorem dX7_count_66 : decode cX7_count 66 = .ok (.aload_n 0, 1) := by decide +kernel
theorem dX7_count_67 : decode cX7_count 67 = .ok (.getfield 22, 3) := by decide +kernel
theorem dX7_count_70 : decode cX7_count 70 = .ok (.iload_n 1, 1) := by decide +kernel
theorem dX7_count_71 : decode cX7_count 71 = .ok (.iconst 2, 1) := by decide +kernel
theorem dX7_count_72 : decode cX7_count 72 = .ok (.isub, 1) := by decide +kernel
theorem dX7_count_73 : decode cX7_count 73 = .ok (.iaload, 1) := by decide +kernel
theorem dX7_count_74 : decode cX7_count 74 = .ok (.ireturn, 1) := by decide +kernel
theorem dX7_count_75 : decode cX7_count 75 = .ok (.aload_n 0, 1) := by decide +kernel
theorem dX7_count_76 : decode cX7_count 76 = .ok (.getfield 97, 3) := by decide +kernel
theorem dX7_count_79 : decode cX7_count 79 = .ok (.ireturn, 1) := by decide +kernel
theorem dX7_count_80 : decode cX7_count 80 = .ok (.aload_n 0, 1) := by decide +kernel
theorem dX7_count_81 : decode cX7_count 81 = .ok (.getfield 100, 3) := by decide +kernel
theorem dX7_count_84 : decode cX7_count 84 = .ok (.ireturn, 1) := by decide +kernel
theorem dX7_count_85 : decode cX7_count 85 = .ok (.aload_n 0, 1) := by decide +kernel
theorem dX7_count_86 : decode cX7_count 86 = .ok (.getfield 103, 3) := by decide +kernel
theorem dX7_count_89 : decode cX7_count 89 = .ok (.ireturn, 1) := by decide +kernel
theorem dX7_count_90 : decode cX7_count 90 = .ok (.aload_n 0, 1) := by decide +kernel
theorem dX7_count_91 : decode cX7_count 91 = .ok (.getfield 79, 3) := by decide +kernel
theorem dX7_count_94 : decode cX7_count 94 = .ok (.ireturn, 1) := by decide +kernel
theorem dX7_count_95 : decode cX7_count 95 = .ok (.bipush (-2), 2) := by decide +kernel
theorem dX7_count_97 : decode cX7_count 97 = .ok (.ireturn, 1) := by decide +kernel
theorem dX7_set_0 : decode cX7_set 0 = .ok (.iload_n 1, 1) := by decide +kernel
theorem dX7_set_1 : decode cX7_set 1 = .ok (.iconst 0, 1) := by decide +kernel
theorem dX7_set_2 : decode cX7_set 2 = .ok (.iconst 3, 1) := by decide +kernel
theorem dX7_set_3 : decode cX7_set 3 = .ok (.invokestatic 90, 3) := by decide +kernel
theorem dX7_set_6 : decode cX7_set 6 = .ok (.ifCond .ne 6, 3) := by decide +kernel
theorem dX7_set_9 : decode cX7_set 9 = .ok (.bipush (-5), 2) := by decide +kernel
theorem dX7_set_11 : decode cX7_set 11 = .ok (.ireturn, 1) := by decide +kernel
theorem dX7_set_12 : decode cX7_set 12 = .ok (.iload_n 2, 1) := by decide +kernel
theorem dX7_set_13 : decode cX7_set 13 = .ok (.iconst 0, 1) := by decide +kernel
theorem dX7_set_14 : decode cX7_set 14 = .ok (.iload_n 1, 1) := by decide +kernel
theorem dX7_set_15 : decode cX7_set 15 = .ok (.ifCond .ne 8, 3) := by decide +kernel
theorem dX7_set_18 : decode cX7_set 18 = .ok (.bipush 8, 2) := by decide +kernel
theorem dX7_set_20 : decode cX7_set 20 = .ok (.goto 13, 3) := by decide +kernel
theorem dX7_set_23 : decode cX7_set 23 = .ok (.iload_n 1, 1) := by decide +kernel
theorem dX7_set_24 : decode cX7_set 24 = .ok (.iconst 3, 1) := by decide +kernel
theorem dX7_set_25 : decode cX7_set 25 = .ok (.if_icmp .ne 7, 3) := by decide +kernel
theorem dX7_set_28 : decode cX7_set 28 = .ok (.iconst 2, 1) := by decide +kernel
theorem dX7_set_29 : decode cX7_set 29 = .ok (.goto 4, 3) := by decide +kernel
theorem dX7_set_32 : decode cX7_set 32 = .ok (.iconst 3, 1) := by decide +kernel
theorem dX7_set_33 : decode cX7_set 33 = .ok (.invokestatic 90, 3) := by decide +kernel
theorem dX7_set_36 : decode cX7_set 36 = .ok (.ifCond .ne 6, 3) := by decide +kernel
theorem dX7_set_39 : decode cX7_set 39 = .ok (.bipush (-7), 2) := by decide +kernel
theorem dX7_set_41 : decode cX7_set 41 = .ok (.ireturn, 1) := by decide +kernel
theorem dX7_set_42 : decode cX7_set 42 = .ok (.aload_n 0, 1) := by decide +kernel
theorem dX7_set_43 : decode cX7_set 43 = .ok (.getfield 22, 3) := by decide +kernel
theorem dX7_set_46 : decode cX7_set 46 = .ok (.iload_n 1, 1) := by decide +kernel
theorem dX7_set_47 : decode cX7_set 47 = .ok (.iaload, 1) := by decide +kernel
theorem dX7_set_48 : decode cX7_set 48 = .ok (.istore_n 3, 1) := by decide +kernel
theorem dX7_set_49 : decode cX7_set 49 = .ok (.aload_n 0, 1) := by decide +kernel
theorem dX7_set_50 : decode cX7_set 50 = .ok (.getfield 22, 3) := by decide +kernel
theorem dX7_set_53 : decode cX7_set 53 = .ok (.iload_n 1, 1) := by decide +kernel
theorem dX7_set_54 : decode cX7_set 54 = .ok (.iload_n 2, 1) := by decide +kernel
theorem dX7_set_55 : decode cX7_set 55 = .ok (.iastore, 1) := by decide +kernel
theorem dX7_set_56 : decode cX7_set 56 = .ok (.iload_n 3, 1) := by decide +kernel
theorem dX7_set_57 : decode cX7_set 57 = .ok (.ireturn, 1) := by decide +kernel
theorem dX7_isByte_0 : decode cX7_isByte 0 = .ok (.iload_n 0, 1) := by decide +kernel
theorem dX7_isByte_1 : decode cX7_isByte 1 = .ok (.iconst 0, 1) := by decide +kernel
theorem dX7_isByte_2 : decode cX7_isByte 2 = .ok (.sipush 255, 3) := by decide +kernel
theorem dX7_isByte_5 : decode cX7_isByte 5 = .ok (.invokestatic 90, 3) := by decide +kernel
theorem dX7_isByte_8 : decode cX7_isByte 8 = .ok (.ireturn, 1) := by decide +kernel
theorem dX7_feed_0 : decode cX7_feed 0 = .ok (.iload_n 1, 1) := by decide +kernel
theorem dX7_feed_1 : decode cX7_feed 1 = .ok (.iconst 1, 1) := by decide +kernel
theorem dX7_feed_2 : decode cX7_feed 2 = .ok (.iconst 5, 1) := by decide +kernel
theorem dX7_feed_3 : decode cX7_feed 3 = .ok (.invokestatic 90, 3) := by decide +kernel
theorem dX7_feed_6 : decode cX7_feed 6 = .ok (.ifCond .eq 41, 3) := by decide +kernel
theorem dX7_feed_9 : decode cX7_feed 9 = .ok (.iload_n 2, 1) := by decide +kernel
theorem dX7_feed_10 : decode cX7_feed 10 = .ok (.invokestatic 106, 3) := by decide +kernel
theorem dX7_feed_13 : decode cX7_feed 13 = .ok (.ifCond .eq 34, 3) := by decide +kernel
theorem dX7_feed_16 : decode cX7_feed 16 = .ok (.iload_n 3, 1) := by decide +kernel
theorem dX7_feed_17 : decode cX7_feed 17 = .ok (.invokestatic 106, 3) := by decide +kernel
theorem dX7_feed_20 : decode cX7_feed 20 = .ok (.ifCond .eq 27, 3) := by decide +kernel
theorem dX7_feed_23 : decode cX7_feed 23 = .ok (.iload 4, 2) := by decide +kernel
theorem dX7_feed_25 : decode cX7_feed 25 = .ok (.invokestatic 106, 3) := by decide +kernel
theorem dX7_feed_28 : decode cX7_feed 28 = .ok (.ifCond .eq 19, 3) := by decide +kernel
theorem dX7_feed_31 : decode cX7_feed 31 = .ok (.iload 5, 2) := by decide +kernel
theorem dX7_feed_33 : decode cX7_feed 33 = .ok (.invokestatic 106, 3) := by decide +kernel
theorem dX7_feed_36 : decode cX7_feed 36 = .ok (.ifCond .eq 11, 3) := by decide +kernel
theorem dX7_feed_39 : decode cX7_feed 39 = .ok (.iload 6, 2) := by decide +kernel
theorem dX7_feed_41 : decode cX7_feed 41 = .ok (.invokestatic 106, 3) := by decide +kernel
theorem dX7_feed_44 : decode cX7_feed 44 = .ok (.ifCond .ne 6, 3) := by decide +kernel
theorem dX7_feed_47 : decode cX7_feed 47 = .ok (.bipush (-2), 2) := by decide +kernel
theorem dX7_feed_49 : decode cX7_feed 49 = .ok (.ireturn, 1) := by decide +kernel
theorem dX7_feed_50 : decode cX7_feed 50 = .ok (.aload_n 0, 1) := by decide +kernel
theorem dX7_feed_51 : decode cX7_feed 51 = .ok (.getfield 79, 3) := by decide +kernel
theorem dX7_feed_54 : decode cX7_feed 54 = .ok (.iload_n 1, 1) := by decide +kernel
theorem dX7_feed_55 : decode cX7_feed 55 = .ok (.iadd, 1) := by decide +kernel
theorem dX7_feed_56 : decode cX7_feed 56 = .ok (.sipush 160, 3) := by decide +kernel
theorem dX7_feed_59 : decode cX7_feed 59 = .ok (.if_icmp .le 6, 3) := by decide +kernel
theorem dX7_feed_62 : decode cX7_feed 62 = .ok (.bipush (-4), 2) := by decide +kernel
theorem dX7_feed_64 : decode cX7_feed 64 = .ok (.ireturn, 1) := by decide +kernel
theorem dX7_feed_65 : decode cX7_feed 65 = .ok (.iconst 0, 1) := by decide +kernel
theorem dX7_feed_66 : decode cX7_feed 66 = .ok (.istore 7, 2) := by decide +kernel
theorem dX7_feed_68 : decode cX7_feed 68 = .ok (.iload 7, 2) := by decide +kernel
theorem dX7_feed_70 : decode cX7_feed 70 = .ok (.iload_n 1, 1) := by decide +kernel
theorem dX7_feed_71 : decode cX7_feed 71 = .ok (.if_icmp .ge 71, 3) := by decide +kernel
theorem dX7_feed_74 : decode cX7_feed 74 = .ok (.aload_n 0, 1) := by decide +kernel
theorem dX7_feed_75 : decode cX7_feed 75 = .ok (.getfield 25, 3) := by decide +kernel
theorem dX7_feed_78 : decode cX7_feed 78 = .ok (.aload_n 0, 1) := by decide +kernel
theorem dX7_feed_79 : decode cX7_feed 79 = .ok (.getfield 79, 3) := by decide +kernel
theorem dX7_feed_82 : decode cX7_feed 82 = .ok (.iload 7, 2) := by decide +kernel
theorem dX7_feed_84 : decode cX7_feed 84 = .ok (.ifCond .ne 7, 3) := by decide +kernel
theorem dX7_feed_87 : decode cX7_feed 87 = .ok (.iload_n 2, 1) := by decide +kernel
theorem dX7_feed_88 : decode cX7_feed 88 = .ok (.goto 37, 3) := by decide +kernel
theorem dX7_feed_91 : decode cX7_feed 91 = .ok (.iload 7, 2) := by decide +kernel
theorem dX7_feed_93 : decode cX7_feed 93 = .ok (.iconst 1, 1) := by decide +kernel
theorem dX7_feed_94 : decode cX7_feed 94 = .ok (.if_icmp .ne 7, 3) := by decide +kernel
theorem dX7_feed_97 : decode cX7_feed 97 = .ok (.iload_n 3, 1) := by decide +kernel
theorem dX7_feed_98 : decode cX7_feed 98 = .ok (.goto 27, 3) := by decide +kernel
theorem dX7_feed_101 : decode cX7_feed 101 = .ok (.iload 7, 2) := by decide +kernel
theorem dX7_feed_103 : decode cX7_feed 103 = .ok (.iconst 2, 1) := by decide +kernel
theorem dX7_feed_104 : decode cX7_feed 104 = .ok (.if_icmp .ne 8, 3) := by decide +kernel
theorem dX7_feed_107 : decode cX7_feed 107 = .ok (.iload 4, 2) := by decide +kernel
theorem dX7_feed_109 : decode cX7_feed 109 = .ok (.goto 16, 3) := by decide +kernel
theorem dX7_feed_112 : decode cX7_feed 112 = .ok (.iload 7, 2) := by decide +kernel
theorem dX7_feed_114 : decode cX7_feed 114 = .ok (.iconst 3, 1) := by decide +kernel
theorem dX7_feed_115 : decode cX7_feed 115 = .ok (.if_icmp .ne 8, 3) := by decide +kernel
theorem dX7_feed_118 : decode cX7_feed 118 = .ok (.iload 5, 2) := by decide +kernel
theorem dX7_feed_120 : decode cX7_feed 120 = .ok (.goto 5, 3) := by decide +kernel
theorem dX7_feed_123 : decode cX7_feed 123 = .ok (.iload 6, 2) := by decide +kernel
theorem dX7_feed_125 : decode cX7_feed 125 = .ok (.iastore, 1) := by decide +kernel
theorem dX7_feed_126 : decode cX7_feed 126 = .ok (.aload_n 0, 1) := by decide +kernel
theorem dX7_feed_127 : decode cX7_feed 127 = .ok (.dup, 1) := by decide +kernel
theorem dX7_feed_128 : decode cX7_feed 128 = .ok (.getfield 79, 3) := by decide +kernel
theorem dX7_feed_131 : decode cX7_feed 131 = .ok (.iconst 1, 1) := by decide +kernel
theorem dX7_feed_132 : decode cX7_feed 132 = .ok (.iadd, 1) := by decide +kernel
theorem dX7_feed_133 : decode cX7_feed 133 = .ok (.putfield 79, 3) := by decide +kernel
theorem dX7_feed_136 : decode cX7_feed 136 = .ok (.iinc 7 1, 3) := by decide +kernel
theorem dX7_feed_139 : decode cX7_feed 139 = .ok (.goto (-71), 3) := by decide +kernel
theorem dX7_feed_142 : decode cX7_feed 142 = .ok (.aload_n 0, 1) := by decide +kernel
theorem dX7_feed_143 : decode cX7_feed 143 = .ok (.getfield 79, 3) := by decide +kernel
theorem dX7_feed_146 : decode cX7_feed 146 = .ok (.ireturn, 1) := by decide +kernel
theorem dX7_wordFrom_0 : decode cX7_wordFrom 0 = .ok (.iconst 0, 1) := by decide +kernel
theorem dX7_wordFrom_1 : decode cX7_wordFrom 1 = .ok (.istore_n 3, 1) := by decide +kernel
theorem dX7_wordFrom_2 : decode cX7_wordFrom 2 = .ok (.iload_n 3, 1) := by decide +kernel
theorem dX7_wordFrom_3 : decode cX7_wordFrom 3 = .ok (.bipush 12, 2) := by decide +kernel
theorem dX7_wordFrom_5 : decode cX7_wordFrom 5 = .ok (.if_icmp .ge 96, 3) := by decide +kernel
theorem dX7_wordFrom_8 : decode cX7_wordFrom 8 = .ok (.iload_n 2, 1) := by decide +kernel
theorem dX7_wordFrom_9 : decode cX7_wordFrom 9 = .ok (.iload_n 1, 1) := by decide +kernel
theorem dX7_wordFrom_10 : decode cX7_wordFrom 10 = .ok (.isub, 1) := by decide +kernel
theorem dX7_wordFrom_11 : decode cX7_wordFrom 11 = .ok (.bipush 8, 2) := by decide +kernel
theorem dX7_wordFrom_13 : decode cX7_wordFrom 13 = .ok (.if_icmp .gt 7, 3) := by decide +kernel
theorem dX7_wordFrom_16 : decode cX7_wordFrom 16 = .ok (.iconst 1, 1) := by decide +kernel
theorem dX7_wordFrom_17 : decode cX7_wordFrom 17 = .ok (.goto 4, 3) := by decide +kernel
theorem dX7_wordFrom_20 : decode cX7_wordFrom 20 = .ok (.iconst 0, 1) := by decide +kernel
theorem dX7_wordFrom_21 : decode cX7_wordFrom 21 = .ok (.istore 4, 2) := by decide +kernel
theorem dX7_wordFrom_23 : decode cX7_wordFrom 23 = .ok (.iconst 0, 1) := by decide +kernel
theorem dX7_wordFrom_24 : decode cX7_wordFrom 24 = .ok (.istore 5, 2) := by decide +kernel
theorem dX7_wordFrom_26 : decode cX7_wordFrom 26 = .ok (.iload 5, 2) := by decide +kernel
theorem dX7_wordFrom_28 : decode cX7_wordFrom 28 = .ok (.bipush 8, 2) := by decide +kernel
theorem dX7_wordFrom_30 : decode cX7_wordFrom 30 = .ok (.if_icmp .ge 58, 3) := by decide +kernel
theorem dX7_wordFrom_33 : decode cX7_wordFrom 33 = .ok (.iload 4, 2) := by decide +kernel
theorem dX7_wordFrom_35 : decode cX7_wordFrom 35 = .ok (.ifCond .eq 53, 3) := by decide +kernel
theorem dX7_wordFrom_38 : decode cX7_wordFrom 38 = .ok (.aload_n 0, 1) := by decide +kernel
theorem dX7_wordFrom_39 : decode cX7_wordFrom 39 = .ok (.getfield 55, 3) := by decide +kernel
theorem dX7_wordFrom_42 : decode cX7_wordFrom 42 = .ok (.bipush 8, 2) := by decide +kernel
theorem dX7_wordFrom_44 : decode cX7_wordFrom 44 = .ok (.iload_n 3, 1) := by decide +kernel
theorem dX7_wordFrom_45 : decode cX7_wordFrom 45 = .ok (.imul, 1) := by decide +kernel
theorem dX7_wordFrom_46 : decode cX7_wordFrom 46 = .ok (.iload 5, 2) := by decide +kernel
theorem dX7_wordFrom_48 : decode cX7_wordFrom 48 = .ok (.iadd, 1) := by decide +kernel
theorem dX7_wordFrom_49 : decode cX7_wordFrom 49 = .ok (.iaload, 1) := by decide +kernel
theorem dX7_wordFrom_50 : decode cX7_wordFrom 50 = .ok (.iload_n 1, 1) := by decide +kernel
theorem dX7_wordFrom_51 : decode cX7_wordFrom 51 = .ok (.iload 5, 2) := by decide +kernel
theorem dX7_wordFrom_53 : decode cX7_wordFrom 53 = .ok (.iadd, 1) := by decide +kernel
theorem dX7_wordFrom_54 : decode cX7_wordFrom 54 = .ok (.iload_n 2, 1) := by decide +kernel
theorem dX7_wordFrom_55 : decode cX7_wordFrom 55 = .ok (.if_icmp .ge 15, 3) := by decide +kernel
theorem dX7_wordFrom_58 : decode cX7_wordFrom 58 = .ok (.aload_n 0, 1) := by decide +kernel
theorem dX7_wordFrom_59 : decode cX7_wordFrom 59 = .ok (.getfield 25, 3) := by decide +kernel
theorem dX7_wordFrom_62 : decode cX7_wordFrom 62 = .ok (.iload_n 1, 1) := by decide +kernel
theorem dX7_wordFrom_63 : decode cX7_wordFrom 63 = .ok (.iload 5, 2) := by decide +kernel
theorem dX7_wordFrom_65 : decode cX7_wordFrom 65 = .ok (.iadd, 1) := by decide +kernel
theorem dX7_wordFrom_66 : decode cX7_wordFrom 66 = .ok (.iaload, 1) := by decide +kernel
theorem dX7_wordFrom_67 : decode cX7_wordFrom 67 = .ok (.goto 5, 3) := by decide +kernel
theorem dX7_wordFrom_70 : decode cX7_wordFrom 70 = .ok (.bipush 32, 2) := by decide +kernel
theorem dX7_wordFrom_72 : decode cX7_wordFrom 72 = .ok (.if_icmp .ne 7, 3) := by decide +kernel
theorem dX7_wordFrom_75 : decode cX7_wordFrom 75 = .ok (.iconst 1, 1) := by decide +kernel
theorem dX7_wordFrom_76 : decode cX7_wordFrom 76 = .ok (.goto 4, 3) := by decide +kernel
theorem dX7_wordFrom_79 : decode cX7_wordFrom 79 = .ok (.iconst 0, 1) := by decide +kernel
theorem dX7_wordFrom_80 : decode cX7_wordFrom 80 = .ok (.istore 4, 2) := by decide +kernel
theorem dX7_wordFrom_82 : decode cX7_wordFrom 82 = .ok (.iinc 5 1, 3) := by decide +kernel
theorem dX7_wordFrom_85 : decode cX7_wordFrom 85 = .ok (.goto (-59), 3) := by decide +kernel
theorem dX7_wordFrom_88 : decode cX7_wordFrom 88 = .ok (.iload 4, 2) := by decide +kernel
theorem dX7_wordFrom_90 : decode cX7_wordFrom 90 = .ok (.ifCond .eq 5, 3) := by decide +kernel
theorem dX7_wordFrom_93 : decode cX7_wordFrom 93 = .ok (.iload_n 3, 1) := by decide +kernel
theorem dX7_wordFrom_94 : decode cX7_wordFrom 94 = .ok (.ireturn, 1) := by decide +kernel
theorem dX7_wordFrom_95 : decode cX7_wordFrom 95 = .ok (.iinc 3 1, 3) := by decide +kernel
theorem dX7_wordFrom_98 : decode cX7_wordFrom 98 = .ok (.goto (-96), 3) := by decide +kernel
theorem dX7_wordFrom_101 : decode cX7_wordFrom 101 = .ok (.bipush 12, 2) := by decide +kernel
theorem dX7_wordFrom_103 : decode cX7_wordFrom 103 = .ok (.ireturn, 1) := by decide +kernel
theorem dX7_goesNext_0 : decode cX7_goesNext 0 = .ok (.aload_n 0, 1) := by decide +kernel
theorem dX7_goesNext_1 : decode cX7_goesNext 1 = .ok (.getfield 110, 3) := by decide +kernel
theorem dX7_goesNext_4 : decode cX7_goesNext 4 = .ok (.aload_n 0, 1) := by decide +kernel
theorem dX7_goesNext_5 : decode cX7_goesNext 5 = .ok (.getfield 79, 3) := by decide +kernel
theorem dX7_goesNext_8 : decode cX7_goesNext 8 = .ok (.if_icmp .ge 44, 3) := by decide +kernel
theorem dX7_goesNext_11 : decode cX7_goesNext 11 = .ok (.aload_n 0, 1) := by decide +kernel
theorem dX7_goesNext_12 : decode cX7_goesNext 12 = .ok (.getfield 25, 3) := by decide +kernel
theorem dX7_goesNext_15 : decode cX7_goesNext 15 = .ok (.aload_n 0, 1) := by decide +kernel
theorem dX7_goesNext_16 : decode cX7_goesNext 16 = .ok (.getfield 110, 3) := by decide +kernel
theorem dX7_goesNext_19 : decode cX7_goesNext 19 = .ok (.iaload, 1) := by decide +kernel
theorem dX7_goesNext_20 : decode cX7_goesNext 20 = .ok (.bipush 32, 2) := by decide +kernel
theorem dX7_goesNext_22 : decode cX7_goesNext 22 = .ok (.if_icmp .eq 17, 3) := by decide +kernel
theorem dX7_goesNext_25 : decode cX7_goesNext 25 = .ok (.aload_n 0, 1) := by decide +kernel
theorem dX7_goesNext_26 : decode cX7_goesNext 26 = .ok (.getfield 25, 3) := by decide +kernel
theorem dX7_goesNext_29 : decode cX7_goesNext 29 = .ok (.aload_n 0, 1) := by decide +kernel
theorem dX7_goesNext_30 : decode cX7_goesNext 30 = .ok (.getfield 110, 3) := by decide +kernel
theorem dX7_goesNext_33 : decode cX7_goesNext 33 = .ok (.iaload, 1) := by decide +kernel
theorem dX7_goesNext_34 : decode cX7_goesNext 34 = .ok (.bipush 10, 2) := by decide +kernel
theorem dX7_goesNext_36 : decode cX7_goesNext 36 = .ok (.if_icmp .ne 16, 3) := by decide +kernel
theorem dX7_goesNext_39 : decode cX7_goesNext 39 = .ok (.aload_n 0, 1) := by decide +kernel
theorem dX7_goesNext_40 : decode cX7_goesNext 40 = .ok (.dup, 1) := by decide +kernel
theorem dX7_goesNext_41 : decode cX7_goesNext 41 = .ok (.getfield 110, 3) := by decide +kernel
theorem dX7_goesNext_44 : decode cX7_goesNext 44 = .ok (.iconst 1, 1) := by decide +kernel
theorem dX7_goesNext_45 : decode cX7_goesNext 45 = .ok (.iadd, 1) := by decide +kernel
theorem dX7_goesNext_46 : decode cX7_goesNext 46 = .ok (.putfield 110, 3) := by decide +kernel
theorem dX7_goesNext_49 : decode cX7_goesNext 49 = .ok (.goto (-49), 3) := by decide +kernel
theorem dX7_goesNext_52 : decode cX7_goesNext 52 = .ok (.aload_n 0, 1) := by decide +kernel
theorem dX7_goesNext_53 : decode cX7_goesNext 53 = .ok (.aload_n 0, 1) := by decide +kernel
theorem dX7_goesNext_54 : decode cX7_goesNext 54 = .ok (.getfield 110, 3) := by decide +kernel
theorem dX7_goesNext_57 : decode cX7_goesNext 57 = .ok (.putfield 113, 3) := by decide +kernel
theorem dX7_goesNext_60 : decode cX7_goesNext 60 = .ok (.aload_n 0, 1) := by decide +kernel
theorem dX7_goesNext_61 : decode cX7_goesNext 61 = .ok (.iconst 0, 1) := by decide +kernel
theorem dX7_goesNext_62 : decode cX7_goesNext 62 = .ok (.putfield 116, 3) := by decide +kernel
theorem dX7_goesNext_65 : decode cX7_goesNext 65 = .ok (.aload_n 0, 1) := by decide +kernel
theorem dX7_goesNext_66 : decode cX7_goesNext 66 = .ok (.iconst 0, 1) := by decide +kernel
theorem dX7_goesNext_67 : decode cX7_goesNext 67 = .ok (.putfield 119, 3) := by decide +kernel
theorem dX7_goesNext_70 : decode cX7_goesNext 70 = .ok (.aload_n 0, 1) := by decide +kernel
theorem dX7_goesNext_71 : decode cX7_goesNext 71 = .ok (.getfield 110, 3) := by decide +kernel
theorem dX7_goesNext_74 : decode cX7_goesNext 74 = .ok (.aload_n 0, 1) := by decide +kernel
theorem dX7_goesNext_75 : decode cX7_goesNext 75 = .ok (.getfield 79, 3) := by decide +kernel
theorem dX7_goesNext_78 : decode cX7_goesNext 78 = .ok (.if_icmp .ne 4, 3) := by decide +kernel
theorem dX7_goesNext_81 : decode cX7_goesNext 81 = .ok (.return_, 1) := by decide +kernel
theorem dX7_goesNext_82 : decode cX7_goesNext 82 = .ok (.aload_n 0, 1) := by decide +kernel
theorem dX7_goesNext_83 : decode cX7_goesNext 83 = .ok (.getfield 25, 3) := by decide +kernel
theorem dX7_goesNext_86 : decode cX7_goesNext 86 = .ok (.aload_n 0, 1) := by decide +kernel
theorem dX7_goesNext_87 : decode cX7_goesNext 87 = .ok (.getfield 110, 3) := by decide +kernel
theorem dX7_goesNext_90 : decode cX7_goesNext 90 = .ok (.iaload, 1) := by decide +kernel
theorem dX7_goesNext_91 : decode cX7_goesNext 91 = .ok (.istore_n 1, 1) := by decide +kernel
theorem dX7_goesNext_92 : decode cX7_goesNext 92 = .ok (.iload_n 1, 1) := by decide +kernel
theorem dX7_goesNext_93 : decode cX7_goesNext 93 = .ok (.bipush 97, 2) := by decide +kernel
theorem dX7_goesNext_95 : decode cX7_goesNext 95 = .ok (.bipush 122, 2) := by decide +kernel
theorem dX7_goesNext_97 : decode cX7_goesNext 97 = .ok (.invokestatic 90, 3) := by decide +kernel
theorem dX7_goesNext_100 : decode cX7_goesNext 100 = .ok (.ifCond .eq 117, 3) := by decide +kernel
theorem dX7_goesNext_103 : decode cX7_goesNext 103 = .ok (.aload_n 0, 1) := by decide +kernel
theorem dX7_goesNext_104 : decode cX7_goesNext 104 = .ok (.getfield 110, 3) := by decide +kernel
theorem dX7_goesNext_107 : decode cX7_goesNext 107 = .ok (.aload_n 0, 1) := by decide +kernel
theorem dX7_goesNext_108 : decode cX7_goesNext 108 = .ok (.getfield 79, 3) := by decide +kernel
theorem dX7_goesNext_111 : decode cX7_goesNext 111 = .ok (.if_icmp .ge 35, 3) := by decide +kernel
theorem dX7_goesNext_114 : decode cX7_goesNext 114 = .ok (.aload_n 0, 1) := by decide +kernel
theorem dX7_goesNext_115 : decode cX7_goesNext 115 = .ok (.getfield 25, 3) := by decide +kernel
theorem dX7_goesNext_118 : decode cX7_goesNext 118 = .ok (.aload_n 0, 1) := by decide +kernel
theorem dX7_goesNext_119 : decode cX7_goesNext 119 = .ok (.getfield 110, 3) := by decide +kernel
theorem dX7_goesNext_122 : decode cX7_goesNext 122 = .ok (.iaload, 1) := by decide +kernel
theorem dX7_goesNext_123 : decode cX7_goesNext 123 = .ok (.bipush 97, 2) := by decide +kernel
theorem dX7_goesNext_125 : decode cX7_goesNext 125 = .ok (.bipush 122, 2) := by decide +kernel
theorem dX7_goesNext_127 : decode cX7_goesNext 127 = .ok (.invokestatic 90, 3) := by decide +kernel
theorem dX7_goesNext_130 : decode cX7_goesNext 130 = .ok (.ifCond .eq 16, 3) := by decide +kernel
theorem dX7_goesNext_133 : decode cX7_goesNext 133 = .ok (.aload_n 0, 1) := by decide +kernel
theorem dX7_goesNext_134 : decode cX7_goesNext 134 = .ok (.dup, 1) := by decide +kernel
theorem dX7_goesNext_135 : decode cX7_goesNext 135 = .ok (.getfield 110, 3) := by decide +kernel
theorem dX7_goesNext_138 : decode cX7_goesNext 138 = .ok (.iconst 1, 1) := by decide +kernel
theorem dX7_goesNext_139 : decode cX7_goesNext 139 = .ok (.iadd, 1) := by decide +kernel
theorem dX7_goesNext_140 : decode cX7_goesNext 140 = .ok (.putfield 110, 3) := by decide +kernel
theorem dX7_goesNext_143 : decode cX7_goesNext 143 = .ok (.goto (-40), 3) := by decide +kernel
theorem dX7_goesNext_146 : decode cX7_goesNext 146 = .ok (.aload_n 0, 1) := by decide +kernel
theorem dX7_goesNext_147 : decode cX7_goesNext 147 = .ok (.aload_n 0, 1) := by decide +kernel
theorem dX7_goesNext_148 : decode cX7_goesNext 148 = .ok (.getfield 113, 3) := by decide +kernel
theorem dX7_goesNext_151 : decode cX7_goesNext 151 = .ok (.aload_n 0, 1) := by decide +kernel
theorem dX7_goesNext_152 : decode cX7_goesNext 152 = .ok (.getfield 110, 3) := by decide +kernel
theorem dX7_goesNext_155 : decode cX7_goesNext 155 = .ok (.invokevirtual 122, 3) := by decide +kernel
theorem dX7_goesNext_158 : decode cX7_goesNext 158 = .ok (.istore_n 2, 1) := by decide +kernel
theorem dX7_goesNext_159 : decode cX7_goesNext 159 = .ok (.aload_n 0, 1) := by decide +kernel
theorem dX7_goesNext_160 : decode cX7_goesNext 160 = .ok (.iload_n 2, 1) := by decide +kernel
theorem dX7_goesNext_161 : decode cX7_goesNext 161 = .ok (.iconst 3, 1) := by decide +kernel
theorem dX7_goesNext_162 : decode cX7_goesNext 162 = .ok (.if_icmp .ge 7, 3) := by decide +kernel
theorem dX7_goesNext_165 : decode cX7_goesNext 165 = .ok (.iconst 3, 1) := by decide +kernel
theorem dX7_goesNext_166 : decode cX7_goesNext 166 = .ok (.goto 29, 3) := by decide +kernel
theorem dX7_goesNext_169 : decode cX7_goesNext 169 = .ok (.iload_n 2, 1) := by decide +kernel
theorem dX7_goesNext_170 : decode cX7_goesNext 170 = .ok (.bipush 9, 2) := by decide +kernel
theorem dX7_goesNext_172 : decode cX7_goesNext 172 = .ok (.if_icmp .ge 7, 3) := by decide +kernel
theorem dX7_goesNext_175 : decode cX7_goesNext 175 = .ok (.iconst 2, 1) := by decide +kernel
theorem dX7_goesNext_176 : decode cX7_goesNext 176 = .ok (.goto 19, 3) := by decide +kernel
theorem dX7_goesNext_179 : decode cX7_goesNext 179 = .ok (.iload_n 2, 1) := by decide +kernel
theorem dX7_goesNext_180 : decode cX7_goesNext 180 = .ok (.bipush 12, 2) := by decide +kernel
theorem dX7_goesNext_182 : decode cX7_goesNext 182 = .ok (.if_icmp .ne 7, 3) := by decide +kernel
theorem dX7_goesNext_185 : decode cX7_goesNext 185 = .ok (.iconst (-1), 1) := by decide +kernel
theorem dX7_goesNext_186 : decode cX7_goesNext 186 = .ok (.goto 9, 3) := by decide +kernel
theorem dX7_goesNext_189 : decode cX7_goesNext 189 = .ok (.iconst 4, 1) := by decide +kernel
theorem dX7_goesNext_190 : decode cX7_goesNext 190 = .ok (.iload_n 2, 1) := by decide +kernel
theorem dX7_goesNext_191 : decode cX7_goesNext 191 = .ok (.iadd, 1) := by decide +kernel
theorem dX7_goesNext_192 : decode cX7_goesNext 192 = .ok (.bipush 9, 2) := by decide +kernel
theorem dX7_goesNext_194 : decode cX7_goesNext 194 = .ok (.isub, 1) := by decide +kernel
theorem dX7_goesNext_195 : decode cX7_goesNext 195 = .ok (.putfield 116, 3) := by decide +kernel
theorem dX7_goesNext_198 : decode cX7_goesNext 198 = .ok (.aload_n 0, 1) := by decide +kernel
theorem dX7_goesNext_199 : decode cX7_goesNext 199 = .ok (.iload_n 2, 1) := by decide +kernel
theorem dX7_goesNext_200 : decode cX7_goesNext 200 = .ok (.iconst 3, 1) := by decide +kernel
theorem dX7_goesNext_201 : decode cX7_goesNext 201 = .ok (.if_icmp .ge 7, 3) := by decide +kernel
theorem dX7_goesNext_204 : decode cX7_goesNext 204 = .ok (.iload_n 2, 1) := by decide +kernel
theorem dX7_goesNext_205 : decode cX7_goesNext 205 = .ok (.goto 6, 3) := by decide +kernel
theorem dX7_goesNext_208 : decode cX7_goesNext 208 = .ok (.iload_n 2, 1) := by decide +kernel
theorem dX7_goesNext_209 : decode cX7_goesNext 209 = .ok (.iconst 3, 1) := by decide +kernel
theorem dX7_goesNext_210 : decode cX7_goesNext 210 = .ok (.isub, 1) := by decide +kernel
theorem dX7_goesNext_211 : decode cX7_goesNext 211 = .ok (.putfield 119, 3) := by decide +kernel
theorem dX7_goesNext_214 : decode cX7_goesNext 214 = .ok (.goto 189, 3) := by decide +kernel
theorem dX7_goesNext_217 : decode cX7_goesNext 217 = .ok (.iload_n 1, 1) := by decide +kernel
theorem dX7_goesNext_218 : decode cX7_goesNext 218 = .ok (.bipush 48, 2) := by decide +kernel
theorem dX7_goesNext_220 : decode cX7_goesNext 220 = .ok (.bipush 57, 2) := by decide +kernel
theorem dX7_goesNext_222 : decode cX7_goesNext 222 = .ok (.invokestatic 90, 3) := by decide +kernel
theorem dX7_goesNext_225 : decode cX7_goesNext 225 = .ok (.ifCond .eq 101, 3) := by decide +kernel
theorem dX7_goesNext_228 : decode cX7_goesNext 228 = .ok (.iconst 0, 1) := by decide +kernel
theorem dX7_goesNext_229 : decode cX7_goesNext 229 = .ok (.istore_n 2, 1) := by decide +kernel
theorem dX7_goesNext_230 : decode cX7_goesNext 230 = .ok (.aload_n 0, 1) := by decide +kernel
theorem dX7_goesNext_231 : decode cX7_goesNext 231 = .ok (.getfield 110, 3) := by decide +kernel
theorem dX7_goesNext_234 : decode cX7_goesNext 234 = .ok (.aload_n 0, 1) := by decide +kernel
theorem dX7_goesNext_235 : decode cX7_goesNext 235 = .ok (.getfield 79, 3) := by decide +kernel
theorem dX7_goesNext_238 : decode cX7_goesNext 238 = .ok (.if_icmp .ge 71, 3) := by decide +kernel
theorem dX7_goesNext_241 : decode cX7_goesNext 241 = .ok (.aload_n 0, 1) := by decide +kernel
theorem dX7_goesNext_242 : decode cX7_goesNext 242 = .ok (.getfield 25, 3) := by decide +kernel
theorem dX7_goesNext_245 : decode cX7_goesNext 245 = .ok (.aload_n 0, 1) := by decide +kernel
theorem dX7_goesNext_246 : decode cX7_goesNext 246 = .ok (.getfield 110, 3) := by decide +kernel
theorem dX7_goesNext_249 : decode cX7_goesNext 249 = .ok (.iaload, 1) := by decide +kernel
theorem dX7_goesNext_250 : decode cX7_goesNext 250 = .ok (.bipush 48, 2) := by decide +kernel
theorem dX7_goesNext_252 : decode cX7_goesNext 252 = .ok (.bipush 57, 2) := by decide +kernel
theorem dX7_goesNext_254 : decode cX7_goesNext 254 = .ok (.invokestatic 90, 3) := by decide +kernel
theorem dX7_goesNext_257 : decode cX7_goesNext 257 = .ok (.ifCond .eq 52, 3) := by decide +kernel
theorem dX7_goesNext_260 : decode cX7_goesNext 260 = .ok (.aload_n 0, 1) := by decide +kernel
theorem dX7_goesNext_261 : decode cX7_goesNext 261 = .ok (.iload_n 2, 1) := by decide +kernel
theorem dX7_goesNext_262 : decode cX7_goesNext 262 = .ok (.iconst 4, 1) := by decide +kernel
theorem dX7_goesNext_263 : decode cX7_goesNext 263 = .ok (.if_icmp .ge 26, 3) := by decide +kernel
theorem dX7_goesNext_266 : decode cX7_goesNext 266 = .ok (.bipush 10, 2) := by decide +kernel
theorem dX7_goesNext_268 : decode cX7_goesNext 268 = .ok (.aload_n 0, 1) := by decide +kernel
theorem dX7_goesNext_269 : decode cX7_goesNext 269 = .ok (.getfield 119, 3) := by decide +kernel
theorem dX7_goesNext_272 : decode cX7_goesNext 272 = .ok (.imul, 1) := by decide +kernel
theorem dX7_goesNext_273 : decode cX7_goesNext 273 = .ok (.aload_n 0, 1) := by decide +kernel
theorem dX7_goesNext_274 : decode cX7_goesNext 274 = .ok (.getfield 25, 3) := by decide +kernel
theorem dX7_goesNext_277 : decode cX7_goesNext 277 = .ok (.aload_n 0, 1) := by decide +kernel
theorem dX7_goesNext_278 : decode cX7_goesNext 278 = .ok (.getfield 110, 3) := by decide +kernel
theorem dX7_goesNext_281 : decode cX7_goesNext 281 = .ok (.iaload, 1) := by decide +kernel
theorem dX7_goesNext_282 : decode cX7_goesNext 282 = .ok (.iadd, 1) := by decide +kernel
theorem dX7_goesNext_283 : decode cX7_goesNext 283 = .ok (.bipush 48, 2) := by decide +kernel
theorem dX7_goesNext_285 : decode cX7_goesNext 285 = .ok (.isub, 1) := by decide +kernel
theorem dX7_goesNext_286 : decode cX7_goesNext 286 = .ok (.goto 4, 3) := by decide +kernel
theorem dX7_goesNext_289 : decode cX7_goesNext 289 = .ok (.iconst 0, 1) := by decide +kernel
theorem dX7_goesNext_290 : decode cX7_goesNext 290 = .ok (.putfield 119, 3) := by decide +kernel
theorem dX7_goesNext_293 : decode cX7_goesNext 293 = .ok (.iinc 2 1, 3) := by decide +kernel
theorem dX7_goesNext_296 : decode cX7_goesNext 296 = .ok (.aload_n 0, 1) := by decide +kernel
theorem dX7_goesNext_297 : decode cX7_goesNext 297 = .ok (.dup, 1) := by decide +kernel
theorem dX7_goesNext_298 : decode cX7_goesNext 298 = .ok (.getfield 110, 3) := by decide +kernel
theorem dX7_goesNext_301 : decode cX7_goesNext 301 = .ok (.iconst 1, 1) := by decide +kernel
theorem dX7_goesNext_302 : decode cX7_goesNext 302 = .ok (.iadd, 1) := by decide +kernel
theorem dX7_goesNext_303 : decode cX7_goesNext 303 = .ok (.putfield 110, 3) := by decide +kernel
theorem dX7_goesNext_306 : decode cX7_goesNext 306 = .ok (.goto (-76), 3) := by decide +kernel
theorem dX7_goesNext_309 : decode cX7_goesNext 309 = .ok (.aload_n 0, 1) := by decide +kernel
theorem dX7_goesNext_310 : decode cX7_goesNext 310 = .ok (.iload_n 2, 1) := by decide +kernel
theorem dX7_goesNext_311 : decode cX7_goesNext 311 = .ok (.iconst 4, 1) := by decide +kernel
theorem dX7_goesNext_312 : decode cX7_goesNext 312 = .ok (.if_icmp .le 7, 3) := by decide +kernel
theorem dX7_goesNext_315 : decode cX7_goesNext 315 = .ok (.iconst (-1), 1) := by decide +kernel
theorem dX7_goesNext_316 : decode cX7_goesNext 316 = .ok (.goto 4, 3) := by decide +kernel
theorem dX7_goesNext_319 : decode cX7_goesNext 319 = .ok (.iconst 1, 1) := by decide +kernel
theorem dX7_goesNext_320 : decode cX7_goesNext 320 = .ok (.putfield 116, 3) := by decide +kernel
theorem dX7_goesNext_323 : decode cX7_goesNext 323 = .ok (.goto 80, 3) := by decide +kernel
theorem dX7_goesNext_326 : decode cX7_goesNext 326 = .ok (.iload_n 1, 1) := by decide +kernel
theorem dX7_goesNext_327 : decode cX7_goesNext 327 = .ok (.bipush 40, 2) := by decide +kernel
theorem dX7_goesNext_329 : decode cX7_goesNext 329 = .ok (.if_icmp .eq 45, 3) := by decide +kernel
theorem dX7_goesNext_332 : decode cX7_goesNext 332 = .ok (.iload_n 1, 1) := by decide +kernel
theorem dX7_goesNext_333 : decode cX7_goesNext 333 = .ok (.bipush 41, 2) := by decide +kernel
theorem dX7_goesNext_335 : decode cX7_goesNext 335 = .ok (.if_icmp .eq 39, 3) := by decide +kernel
theorem dX7_goesNext_338 : decode cX7_goesNext 338 = .ok (.iload_n 1, 1) := by decide +kernel
theorem dX7_goesNext_339 : decode cX7_goesNext 339 = .ok (.bipush 59, 2) := by decide +kernel
theorem dX7_goesNext_341 : decode cX7_goesNext 341 = .ok (.if_icmp .eq 33, 3) := by decide +kernel
theorem dX7_goesNext_344 : decode cX7_goesNext 344 = .ok (.iload_n 1, 1) := by decide +kernel
theorem dX7_goesNext_345 : decode cX7_goesNext 345 = .ok (.bipush 43, 2) := by decide +kernel
theorem dX7_goesNext_347 : decode cX7_goesNext 347 = .ok (.if_icmp .eq 27, 3) := by decide +kernel
theorem dX7_goesNext_350 : decode cX7_goesNext 350 = .ok (.iload_n 1, 1) := by decide +kernel
theorem dX7_goesNext_351 : decode cX7_goesNext 351 = .ok (.bipush 45, 2) := by decide +kernel
theorem dX7_goesNext_353 : decode cX7_goesNext 353 = .ok (.if_icmp .eq 21, 3) := by decide +kernel
theorem dX7_goesNext_356 : decode cX7_goesNext 356 = .ok (.iload_n 1, 1) := by decide +kernel
theorem dX7_goesNext_357 : decode cX7_goesNext 357 = .ok (.bipush 42, 2) := by decide +kernel
theorem dX7_goesNext_359 : decode cX7_goesNext 359 = .ok (.if_icmp .eq 15, 3) := by decide +kernel
theorem dX7_goesNext_362 : decode cX7_goesNext 362 = .ok (.iload_n 1, 1) := by decide +kernel
theorem dX7_goesNext_363 : decode cX7_goesNext 363 = .ok (.bipush 60, 2) := by decide +kernel
theorem dX7_goesNext_365 : decode cX7_goesNext 365 = .ok (.if_icmp .eq 9, 3) := by decide +kernel
theorem dX7_goesNext_368 : decode cX7_goesNext 368 = .ok (.iload_n 1, 1) := by decide +kernel
theorem dX7_goesNext_369 : decode cX7_goesNext 369 = .ok (.bipush 61, 2) := by decide +kernel
theorem dX7_goesNext_371 : decode cX7_goesNext 371 = .ok (.if_icmp .ne 7, 3) := by decide +kernel
theorem dX7_goesNext_374 : decode cX7_goesNext 374 = .ok (.iconst 1, 1) := by decide +kernel
theorem dX7_goesNext_375 : decode cX7_goesNext 375 = .ok (.goto 4, 3) := by decide +kernel
theorem dX7_goesNext_378 : decode cX7_goesNext 378 = .ok (.iconst 0, 1) := by decide +kernel
theorem dX7_goesNext_379 : decode cX7_goesNext 379 = .ok (.istore_n 2, 1) := by decide +kernel
theorem dX7_goesNext_380 : decode cX7_goesNext 380 = .ok (.aload_n 0, 1) := by decide +kernel
theorem dX7_goesNext_381 : decode cX7_goesNext 381 = .ok (.iload_n 2, 1) := by decide +kernel
theorem dX7_goesNext_382 : decode cX7_goesNext 382 = .ok (.ifCond .eq 7, 3) := by decide +kernel
theorem dX7_goesNext_385 : decode cX7_goesNext 385 = .ok (.iload_n 1, 1) := by decide +kernel
theorem dX7_goesNext_386 : decode cX7_goesNext 386 = .ok (.goto 4, 3) := by decide +kernel
theorem dX7_goesNext_389 : decode cX7_goesNext 389 = .ok (.iconst (-1), 1) := by decide +kernel
theorem dX7_goesNext_390 : decode cX7_goesNext 390 = .ok (.putfield 116, 3) := by decide +kernel
theorem dX7_goesNext_393 : decode cX7_goesNext 393 = .ok (.aload_n 0, 1) := by decide +kernel
theorem dX7_goesNext_394 : decode cX7_goesNext 394 = .ok (.dup, 1) := by decide +kernel
theorem dX7_goesNext_395 : decode cX7_goesNext 395 = .ok (.getfield 110, 3) := by decide +kernel
theorem dX7_goesNext_398 : decode cX7_goesNext 398 = .ok (.iconst 1, 1) := by decide +kernel
theorem dX7_goesNext_399 : decode cX7_goesNext 399 = .ok (.iadd, 1) := by decide +kernel
theorem dX7_goesNext_400 : decode cX7_goesNext 400 = .ok (.putfield 110, 3) := by decide +kernel
theorem dX7_goesNext_403 : decode cX7_goesNext 403 = .ok (.return_, 1) := by decide +kernel
theorem dX7_rank_0 : decode cX7_rank 0 = .ok (.iload_n 0, 1) := by decide +kernel
theorem dX7_rank_1 : decode cX7_rank 1 = .ok (.ifCond .ne 7, 3) := by decide +kernel
theorem dX7_rank_4 : decode cX7_rank 4 = .ok (.iconst 0, 1) := by decide +kernel
theorem dX7_rank_5 : decode cX7_rank 5 = .ok (.goto 66, 3) := by decide +kernel
theorem dX7_rank_8 : decode cX7_rank 8 = .ok (.iload_n 0, 1) := by decide +kernel
theorem dX7_rank_9 : decode cX7_rank 9 = .ok (.bipush 11, 2) := by decide +kernel
theorem dX7_rank_11 : decode cX7_rank 11 = .ok (.if_icmp .ne 7, 3) := by decide +kernel
theorem dX7_rank_14 : decode cX7_rank 14 = .ok (.iconst 1, 1) := by decide +kernel
theorem dX7_rank_15 : decode cX7_rank 15 = .ok (.goto 56, 3) := by decide +kernel
theorem dX7_rank_18 : decode cX7_rank 18 = .ok (.iload_n 0, 1) := by decide +kernel
theorem dX7_rank_19 : decode cX7_rank 19 = .ok (.bipush 12, 2) := by decide +kernel
theorem dX7_rank_21 : decode cX7_rank 21 = .ok (.if_icmp .ne 7, 3) := by decide +kernel
theorem dX7_rank_24 : decode cX7_rank 24 = .ok (.iconst 2, 1) := by decide +kernel
theorem dX7_rank_25 : decode cX7_rank 25 = .ok (.goto 46, 3) := by decide +kernel
theorem dX7_rank_28 : decode cX7_rank 28 = .ok (.iload_n 0, 1) := by decide +kernel
theorem dX7_rank_29 : decode cX7_rank 29 = .ok (.bipush 13, 2) := by decide +kernel
theorem dX7_rank_31 : decode cX7_rank 31 = .ok (.if_icmp .ne 7, 3) := by decide +kernel
theorem dX7_rank_34 : decode cX7_rank 34 = .ok (.iconst 3, 1) := by decide +kernel
theorem dX7_rank_35 : decode cX7_rank 35 = .ok (.goto 36, 3) := by decide +kernel
theorem dX7_rank_38 : decode cX7_rank 38 = .ok (.iload_n 0, 1) := by decide +kernel
theorem dX7_rank_39 : decode cX7_rank 39 = .ok (.bipush 15, 2) := by decide +kernel
theorem dX7_rank_41 : decode cX7_rank 41 = .ok (.if_icmp .gt 7, 3) := by decide +kernel
theorem dX7_rank_44 : decode cX7_rank 44 = .ok (.iconst 4, 1) := by decide +kernel
theorem dX7_rank_45 : decode cX7_rank 45 = .ok (.goto 26, 3) := by decide +kernel
theorem dX7_rank_48 : decode cX7_rank 48 = .ok (.iload_n 0, 1) := by decide +kernel
theorem dX7_rank_49 : decode cX7_rank 49 = .ok (.bipush 17, 2) := by decide +kernel
theorem dX7_rank_51 : decode cX7_rank 51 = .ok (.if_icmp .gt 7, 3) := by decide +kernel
theorem dX7_rank_54 : decode cX7_rank 54 = .ok (.iconst 5, 1) := by decide +kernel
theorem dX7_rank_55 : decode cX7_rank 55 = .ok (.goto 16, 3) := by decide +kernel
theorem dX7_rank_58 : decode cX7_rank 58 = .ok (.iload_n 0, 1) := by decide +kernel
theorem dX7_rank_59 : decode cX7_rank 59 = .ok (.bipush 18, 2) := by decide +kernel
theorem dX7_rank_61 : decode cX7_rank 61 = .ok (.if_icmp .ne 8, 3) := by decide +kernel
theorem dX7_rank_64 : decode cX7_rank 64 = .ok (.bipush 6, 2) := by decide +kernel
theorem dX7_rank_66 : decode cX7_rank 66 = .ok (.goto 5, 3) := by decide +kernel
theorem dX7_rank_69 : decode cX7_rank 69 = .ok (.bipush 7, 2) := by decide +kernel
theorem dX7_rank_71 : decode cX7_rank 71 = .ok (.ireturn, 1) := by decide +kernel
theorem dX7_puts_0 : decode cX7_puts 0 = .ok (.aload_n 0, 1) := by decide +kernel
theorem dX7_puts_1 : decode cX7_puts 1 = .ok (.getfield 28, 3) := by decide +kernel
theorem dX7_puts_4 : decode cX7_puts 4 = .ok (.sipush 200, 3) := by decide +kernel
theorem dX7_puts_7 : decode cX7_puts 7 = .ok (.aload_n 0, 1) := by decide +kernel
theorem dX7_puts_8 : decode cX7_puts 8 = .ok (.getfield 100, 3) := by decide +kernel
theorem dX7_puts_11 : decode cX7_puts 11 = .ok (.imul, 1) := by decide +kernel
theorem dX7_puts_12 : decode cX7_puts 12 = .ok (.aload_n 0, 1) := by decide +kernel
theorem dX7_puts_13 : decode cX7_puts 13 = .ok (.getfield 126, 3) := by decide +kernel
theorem dX7_puts_16 : decode cX7_puts 16 = .ok (.iadd, 1) := by decide +kernel
theorem dX7_puts_17 : decode cX7_puts 17 = .ok (.iload_n 1, 1) := by decide +kernel
theorem dX7_puts_18 : decode cX7_puts 18 = .ok (.iastore, 1) := by decide +kernel
theorem dX7_puts_19 : decode cX7_puts 19 = .ok (.aload_n 0, 1) := by decide +kernel
theorem dX7_puts_20 : decode cX7_puts 20 = .ok (.dup, 1) := by decide +kernel
theorem dX7_puts_21 : decode cX7_puts 21 = .ok (.getfield 126, 3) := by decide +kernel
theorem dX7_puts_24 : decode cX7_puts 24 = .ok (.iconst 1, 1) := by decide +kernel
theorem dX7_puts_25 : decode cX7_puts 25 = .ok (.iadd, 1) := by decide +kernel
theorem dX7_puts_26 : decode cX7_puts 26 = .ok (.putfield 126, 3) := by decide +kernel
theorem dX7_puts_29 : decode cX7_puts 29 = .ok (.return_, 1) := by decide +kernel
theorem dX7_unwinds_0 : decode cX7_unwinds 0 = .ok (.aload_n 0, 1) := by decide +kernel
theorem dX7_unwinds_1 : decode cX7_unwinds 1 = .ok (.getfield 129, 3) := by decide +kernel
theorem dX7_unwinds_4 : decode cX7_unwinds 4 = .ok (.ifCond .le 75, 3) := by decide +kernel
theorem dX7_unwinds_7 : decode cX7_unwinds 7 = .ok (.aload_n 0, 1) := by decide +kernel
theorem dX7_unwinds_8 : decode cX7_unwinds 8 = .ok (.getfield 58, 3) := by decide +kernel
theorem dX7_unwinds_11 : decode cX7_unwinds 11 = .ok (.aload_n 0, 1) := by decide +kernel
theorem dX7_unwinds_12 : decode cX7_unwinds 12 = .ok (.getfield 129, 3) := by decide +kernel
theorem dX7_unwinds_15 : decode cX7_unwinds 15 = .ok (.iconst 1, 1) := by decide +kernel
theorem dX7_unwinds_16 : decode cX7_unwinds 16 = .ok (.isub, 1) := by decide +kernel
theorem dX7_unwinds_17 : decode cX7_unwinds 17 = .ok (.iaload, 1) := by decide +kernel
theorem dX7_unwinds_18 : decode cX7_unwinds 18 = .ok (.invokestatic 132, 3) := by decide +kernel
theorem dX7_unwinds_21 : decode cX7_unwinds 21 = .ok (.iload_n 1, 1) := by decide +kernel
theorem dX7_unwinds_22 : decode cX7_unwinds 22 = .ok (.if_icmp .lt 57, 3) := by decide +kernel
theorem dX7_unwinds_25 : decode cX7_unwinds 25 = .ok (.aload_n 0, 1) := by decide +kernel
theorem dX7_unwinds_26 : decode cX7_unwinds 26 = .ok (.dup, 1) := by decide +kernel
theorem dX7_unwinds_27 : decode cX7_unwinds 27 = .ok (.getfield 129, 3) := by decide +kernel
theorem dX7_unwinds_30 : decode cX7_unwinds 30 = .ok (.iconst 1, 1) := by decide +kernel
theorem dX7_unwinds_31 : decode cX7_unwinds 31 = .ok (.isub, 1) := by decide +kernel
theorem dX7_unwinds_32 : decode cX7_unwinds 32 = .ok (.putfield 129, 3) := by decide +kernel
theorem dX7_unwinds_35 : decode cX7_unwinds 35 = .ok (.aload_n 0, 1) := by decide +kernel
theorem dX7_unwinds_36 : decode cX7_unwinds 36 = .ok (.getfield 58, 3) := by decide +kernel
theorem dX7_unwinds_39 : decode cX7_unwinds 39 = .ok (.aload_n 0, 1) := by decide +kernel
theorem dX7_unwinds_40 : decode cX7_unwinds 40 = .ok (.getfield 129, 3) := by decide +kernel
theorem dX7_unwinds_43 : decode cX7_unwinds 43 = .ok (.iaload, 1) := by decide +kernel
theorem dX7_unwinds_44 : decode cX7_unwinds 44 = .ok (.istore_n 2, 1) := by decide +kernel
theorem dX7_unwinds_45 : decode cX7_unwinds 45 = .ok (.aload_n 0, 1) := by decide +kernel
theorem dX7_unwinds_46 : decode cX7_unwinds 46 = .ok (.dup, 1) := by decide +kernel
theorem dX7_unwinds_47 : decode cX7_unwinds 47 = .ok (.getfield 136, 3) := by decide +kernel
theorem dX7_unwinds_50 : decode cX7_unwinds 50 = .ok (.iload_n 2, 1) := by decide +kernel
theorem dX7_unwinds_51 : decode cX7_unwinds 51 = .ok (.bipush 13, 2) := by decide +kernel
theorem dX7_unwinds_53 : decode cX7_unwinds 53 = .ok (.if_icmp .eq 9, 3) := by decide +kernel
theorem dX7_unwinds_56 : decode cX7_unwinds 56 = .ok (.iload_n 2, 1) := by decide +kernel
theorem dX7_unwinds_57 : decode cX7_unwinds 57 = .ok (.bipush 19, 2) := by decide +kernel
theorem dX7_unwinds_59 : decode cX7_unwinds 59 = .ok (.if_icmp .ne 7, 3) := by decide +kernel
theorem dX7_unwinds_62 : decode cX7_unwinds 62 = .ok (.iconst 1, 1) := by decide +kernel
theorem dX7_unwinds_63 : decode cX7_unwinds 63 = .ok (.goto 4, 3) := by decide +kernel
theorem dX7_unwinds_66 : decode cX7_unwinds 66 = .ok (.iconst 0, 1) := by decide +kernel
theorem dX7_unwinds_67 : decode cX7_unwinds 67 = .ok (.isub, 1) := by decide +kernel
theorem dX7_unwinds_68 : decode cX7_unwinds 68 = .ok (.putfield 136, 3) := by decide +kernel
theorem dX7_unwinds_71 : decode cX7_unwinds 71 = .ok (.aload_n 0, 1) := by decide +kernel
theorem dX7_unwinds_72 : decode cX7_unwinds 72 = .ok (.iload_n 2, 1) := by decide +kernel
theorem dX7_unwinds_73 : decode cX7_unwinds 73 = .ok (.invokevirtual 139, 3) := by decide +kernel
theorem dX7_unwinds_76 : decode cX7_unwinds 76 = .ok (.goto (-76), 3) := by decide +kernel
theorem dX7_unwinds_79 : decode cX7_unwinds 79 = .ok (.return_, 1) := by decide +kernel
theorem dX7_holds_0 : decode cX7_holds 0 = .ok (.aload_n 0, 1) := by decide +kernel
theorem dX7_holds_1 : decode cX7_holds 1 = .ok (.getfield 58, 3) := by decide +kernel
theorem dX7_holds_4 : decode cX7_holds 4 = .ok (.aload_n 0, 1) := by decide +kernel
theorem dX7_holds_5 : decode cX7_holds 5 = .ok (.getfield 129, 3) := by decide +kernel
theorem dX7_holds_8 : decode cX7_holds 8 = .ok (.iload_n 1, 1) := by decide +kernel
theorem dX7_holds_9 : decode cX7_holds 9 = .ok (.iastore, 1) := by decide +kernel
theorem dX7_holds_10 : decode cX7_holds 10 = .ok (.aload_n 0, 1) := by decide +kernel
theorem dX7_holds_11 : decode cX7_holds 11 = .ok (.dup, 1) := by decide +kernel
theorem dX7_holds_12 : decode cX7_holds 12 = .ok (.getfield 129, 3) := by decide +kernel
theorem dX7_holds_15 : decode cX7_holds 15 = .ok (.iconst 1, 1) := by decide +kernel
theorem dX7_holds_16 : decode cX7_holds 16 = .ok (.iadd, 1) := by decide +kernel
theorem dX7_holds_17 : decode cX7_holds 17 = .ok (.putfield 129, 3) := by decide +kernel
theorem dX7_holds_20 : decode cX7_holds 20 = .ok (.return_, 1) := by decide +kernel
theorem dX7_opensOne_0 : decode cX7_opensOne 0 = .ok (.aload_n 0, 1) := by decide +kernel
theorem dX7_opensOne_1 : decode cX7_opensOne 1 = .ok (.getfield 136, 3) := by decide +kernel
theorem dX7_opensOne_4 : decode cX7_opensOne 4 = .ok (.iconst 5, 1) := by decide +kernel
theorem dX7_opensOne_5 : decode cX7_opensOne 5 = .ok (.if_icmp .ne 5, 3) := by decide +kernel
theorem dX7_opensOne_8 : decode cX7_opensOne 8 = .ok (.iconst 0, 1) := by decide +kernel
theorem dX7_opensOne_9 : decode cX7_opensOne 9 = .ok (.ireturn, 1) := by decide +kernel
theorem dX7_opensOne_10 : decode cX7_opensOne 10 = .ok (.aload_n 0, 1) := by decide +kernel
theorem dX7_opensOne_11 : decode cX7_opensOne 11 = .ok (.dup, 1) := by decide +kernel
theorem dX7_opensOne_12 : decode cX7_opensOne 12 = .ok (.getfield 136, 3) := by decide +kernel
theorem dX7_opensOne_15 : decode cX7_opensOne 15 = .ok (.iconst 1, 1) := by decide +kernel
theorem dX7_opensOne_16 : decode cX7_opensOne 16 = .ok (.iadd, 1) := by decide +kernel
theorem dX7_opensOne_17 : decode cX7_opensOne 17 = .ok (.putfield 136, 3) := by decide +kernel
theorem dX7_opensOne_20 : decode cX7_opensOne 20 = .ok (.aload_n 0, 1) := by decide +kernel
theorem dX7_opensOne_21 : decode cX7_opensOne 21 = .ok (.iload_n 1, 1) := by decide +kernel
theorem dX7_opensOne_22 : decode cX7_opensOne 22 = .ok (.invokevirtual 143, 3) := by decide +kernel
theorem dX7_opensOne_25 : decode cX7_opensOne 25 = .ok (.iconst 1, 1) := by decide +kernel
theorem dX7_opensOne_26 : decode cX7_opensOne 26 = .ok (.ireturn, 1) := by decide +kernel
theorem dX7_between_0 : decode cX7_between 0 = .ok (.aload_n 0, 1) := by decide +kernel
theorem dX7_between_1 : decode cX7_between 1 = .ok (.iload_n 1, 1) := by decide +kernel
theorem dX7_between_2 : decode cX7_between 2 = .ok (.invokestatic 132, 3) := by decide +kernel
theorem dX7_between_5 : decode cX7_between 5 = .ok (.iconst 4, 1) := by decide +kernel
theorem dX7_between_6 : decode cX7_between 6 = .ok (.if_icmp .ne 7, 3) := by decide +kernel
theorem dX7_between_9 : decode cX7_between 9 = .ok (.iconst 5, 1) := by decide +kernel
theorem dX7_between_10 : decode cX7_between 10 = .ok (.goto 7, 3) := by decide +kernel
theorem dX7_between_13 : decode cX7_between 13 = .ok (.iload_n 1, 1) := by decide +kernel
theorem dX7_between_14 : decode cX7_between 14 = .ok (.invokestatic 132, 3) := by decide +kernel
theorem dX7_between_17 : decode cX7_between 17 = .ok (.invokevirtual 146, 3) := by decide +kernel
theorem dX7_between_20 : decode cX7_between 20 = .ok (.iload_n 1, 1) := by decide +kernel
theorem dX7_between_21 : decode cX7_between 21 = .ok (.invokestatic 132, 3) := by decide +kernel
theorem dX7_between_24 : decode cX7_between 24 = .ok (.iconst 4, 1) := by decide +kernel
theorem dX7_between_25 : decode cX7_between 25 = .ok (.if_icmp .ne 30, 3) := by decide +kernel
theorem dX7_between_28 : decode cX7_between 28 = .ok (.aload_n 0, 1) := by decide +kernel
theorem dX7_between_29 : decode cX7_between 29 = .ok (.getfield 129, 3) := by decide +kernel
theorem dX7_between_32 : decode cX7_between 32 = .ok (.ifCond .le 23, 3) := by decide +kernel
theorem dX7_between_35 : decode cX7_between 35 = .ok (.aload_n 0, 1) := by decide +kernel
theorem dX7_between_36 : decode cX7_between 36 = .ok (.getfield 58, 3) := by decide +kernel
theorem dX7_between_39 : decode cX7_between 39 = .ok (.aload_n 0, 1) := by decide +kernel
theorem dX7_between_40 : decode cX7_between 40 = .ok (.getfield 129, 3) := by decide +kernel
theorem dX7_between_43 : decode cX7_between 43 = .ok (.iconst 1, 1) := by decide +kernel
theorem dX7_between_44 : decode cX7_between 44 = .ok (.isub, 1) := by decide +kernel
theorem dX7_between_45 : decode cX7_between 45 = .ok (.iaload, 1) := by decide +kernel
theorem dX7_between_46 : decode cX7_between 46 = .ok (.invokestatic 132, 3) := by decide +kernel
theorem dX7_between_49 : decode cX7_between 49 = .ok (.iconst 4, 1) := by decide +kernel
theorem dX7_between_50 : decode cX7_between 50 = .ok (.if_icmp .ne 5, 3) := by decide +kernel
theorem dX7_between_53 : decode cX7_between 53 = .ok (.iconst 0, 1) := by decide +kernel
theorem dX7_between_54 : decode cX7_between 54 = .ok (.ireturn, 1) := by decide +kernel
theorem dX7_between_55 : decode cX7_between 55 = .ok (.aload_n 0, 1) := by decide +kernel
theorem dX7_between_56 : decode cX7_between 56 = .ok (.iload_n 1, 1) := by decide +kernel
theorem dX7_between_57 : decode cX7_between 57 = .ok (.invokevirtual 143, 3) := by decide +kernel
theorem dX7_between_60 : decode cX7_between 60 = .ok (.iconst 1, 1) := by decide +kernel
theorem dX7_between_61 : decode cX7_between 61 = .ok (.ireturn, 1) := by decide +kernel
theorem dX7_signOf_0 : decode cX7_signOf 0 = .ok (.aload_n 0, 1) := by decide +kernel
theorem dX7_signOf_1 : decode cX7_signOf 1 = .ok (.getfield 116, 3) := by decide +kernel
theorem dX7_signOf_4 : decode cX7_signOf 4 = .ok (.iconst 4, 1) := by decide +kernel
theorem dX7_signOf_5 : decode cX7_signOf 5 = .ok (.if_icmp .ne 8, 3) := by decide +kernel
theorem dX7_signOf_8 : decode cX7_signOf 8 = .ok (.bipush 11, 2) := by decide +kernel
theorem dX7_signOf_10 : decode cX7_signOf 10 = .ok (.goto 87, 3) := by decide +kernel
theorem dX7_signOf_13 : decode cX7_signOf 13 = .ok (.aload_n 0, 1) := by decide +kernel
theorem dX7_signOf_14 : decode cX7_signOf 14 = .ok (.getfield 116, 3) := by decide +kernel
theorem dX7_signOf_17 : decode cX7_signOf 17 = .ok (.iconst 5, 1) := by decide +kernel
theorem dX7_signOf_18 : decode cX7_signOf 18 = .ok (.if_icmp .ne 8, 3) := by decide +kernel
theorem dX7_signOf_21 : decode cX7_signOf 21 = .ok (.bipush 12, 2) := by decide +kernel
theorem dX7_signOf_23 : decode cX7_signOf 23 = .ok (.goto 74, 3) := by decide +kernel
theorem dX7_signOf_26 : decode cX7_signOf 26 = .ok (.aload_n 0, 1) := by decide +kernel
theorem dX7_signOf_27 : decode cX7_signOf 27 = .ok (.getfield 116, 3) := by decide +kernel
theorem dX7_signOf_30 : decode cX7_signOf 30 = .ok (.bipush 60, 2) := by decide +kernel
theorem dX7_signOf_32 : decode cX7_signOf 32 = .ok (.if_icmp .ne 8, 3) := by decide +kernel
theorem dX7_signOf_35 : decode cX7_signOf 35 = .ok (.bipush 14, 2) := by decide +kernel
theorem dX7_signOf_37 : decode cX7_signOf 37 = .ok (.goto 60, 3) := by decide +kernel
theorem dX7_signOf_40 : decode cX7_signOf 40 = .ok (.aload_n 0, 1) := by decide +kernel
theorem dX7_signOf_41 : decode cX7_signOf 41 = .ok (.getfield 116, 3) := by decide +kernel
theorem dX7_signOf_44 : decode cX7_signOf 44 = .ok (.bipush 61, 2) := by decide +kernel
theorem dX7_signOf_46 : decode cX7_signOf 46 = .ok (.if_icmp .ne 8, 3) := by decide +kernel
theorem dX7_signOf_49 : decode cX7_signOf 49 = .ok (.bipush 15, 2) := by decide +kernel
theorem dX7_signOf_51 : decode cX7_signOf 51 = .ok (.goto 46, 3) := by decide +kernel
theorem dX7_signOf_54 : decode cX7_signOf 54 = .ok (.aload_n 0, 1) := by decide +kernel
theorem dX7_signOf_55 : decode cX7_signOf 55 = .ok (.getfield 116, 3) := by decide +kernel
theorem dX7_signOf_58 : decode cX7_signOf 58 = .ok (.bipush 43, 2) := by decide +kernel
theorem dX7_signOf_60 : decode cX7_signOf 60 = .ok (.if_icmp .ne 8, 3) := by decide +kernel
theorem dX7_signOf_63 : decode cX7_signOf 63 = .ok (.bipush 16, 2) := by decide +kernel
theorem dX7_signOf_65 : decode cX7_signOf 65 = .ok (.goto 32, 3) := by decide +kernel
theorem dX7_signOf_68 : decode cX7_signOf 68 = .ok (.aload_n 0, 1) := by decide +kernel
theorem dX7_signOf_69 : decode cX7_signOf 69 = .ok (.getfield 116, 3) := by decide +kernel
theorem dX7_signOf_72 : decode cX7_signOf 72 = .ok (.bipush 45, 2) := by decide +kernel
theorem dX7_signOf_74 : decode cX7_signOf 74 = .ok (.if_icmp .ne 8, 3) := by decide +kernel
theorem dX7_signOf_77 : decode cX7_signOf 77 = .ok (.bipush 17, 2) := by decide +kernel
theorem dX7_signOf_79 : decode cX7_signOf 79 = .ok (.goto 18, 3) := by decide +kernel
theorem dX7_signOf_82 : decode cX7_signOf 82 = .ok (.aload_n 0, 1) := by decide +kernel
theorem dX7_signOf_83 : decode cX7_signOf 83 = .ok (.getfield 116, 3) := by decide +kernel
theorem dX7_signOf_86 : decode cX7_signOf 86 = .ok (.bipush 42, 2) := by decide +kernel
theorem dX7_signOf_88 : decode cX7_signOf 88 = .ok (.if_icmp .ne 8, 3) := by decide +kernel
theorem dX7_signOf_91 : decode cX7_signOf 91 = .ok (.bipush 18, 2) := by decide +kernel
theorem dX7_signOf_93 : decode cX7_signOf 93 = .ok (.goto 4, 3) := by decide +kernel
theorem dX7_signOf_96 : decode cX7_signOf 96 = .ok (.iconst (-1), 1) := by decide +kernel
theorem dX7_signOf_97 : decode cX7_signOf 97 = .ok (.ireturn, 1) := by decide +kernel
theorem dX7_eRead_0 : decode cX7_eRead 0 = .ok (.aload_n 0, 1) := by decide +kernel
theorem dX7_eRead_1 : decode cX7_eRead 1 = .ok (.iconst 0, 1) := by decide +kernel
theorem dX7_eRead_2 : decode cX7_eRead 2 = .ok (.putfield 129, 3) := by decide +kernel
theorem dX7_eRead_5 : decode cX7_eRead 5 = .ok (.aload_n 0, 1) := by decide +kernel
theorem dX7_eRead_6 : decode cX7_eRead 6 = .ok (.iconst 0, 1) := by decide +kernel
theorem dX7_eRead_7 : decode cX7_eRead 7 = .ok (.putfield 136, 3) := by decide +kernel
theorem dX7_eRead_10 : decode cX7_eRead 10 = .ok (.iconst 1, 1) := by decide +kernel
theorem dX7_eRead_11 : decode cX7_eRead 11 = .ok (.istore_n 1, 1) := by decide +kernel
theorem dX7_eRead_12 : decode cX7_eRead 12 = .ok (.iconst 1, 1) := by decide +kernel
theorem dX7_eRead_13 : decode cX7_eRead 13 = .ok (.istore_n 2, 1) := by decide +kernel
theorem dX7_eRead_14 : decode cX7_eRead 14 = .ok (.aload_n 0, 1) := by decide +kernel
theorem dX7_eRead_15 : decode cX7_eRead 15 = .ok (.invokevirtual 149, 3) := by decide +kernel
theorem dX7_eRead_18 : decode cX7_eRead 18 = .ok (.iload_n 1, 1) := by decide +kernel
theorem dX7_eRead_19 : decode cX7_eRead 19 = .ok (.ifCond .eq 131, 3) := by decide +kernel
theorem dX7_eRead_22 : decode cX7_eRead 22 = .ok (.aload_n 0, 1) := by decide +kernel
theorem dX7_eRead_23 : decode cX7_eRead 23 = .ok (.getfield 116, 3) := by decide +kernel
theorem dX7_eRead_26 : decode cX7_eRead 26 = .ok (.iconst 1, 1) := by decide +kernel
theorem dX7_eRead_27 : decode cX7_eRead 27 = .ok (.if_icmp .eq 11, 3) := by decide +kernel
theorem dX7_eRead_30 : decode cX7_eRead 30 = .ok (.aload_n 0, 1) := by decide +kernel
theorem dX7_eRead_31 : decode cX7_eRead 31 = .ok (.getfield 116, 3) := by decide +kernel
theorem dX7_eRead_34 : decode cX7_eRead 34 = .ok (.iconst 2, 1) := by decide +kernel
theorem dX7_eRead_35 : decode cX7_eRead 35 = .ok (.if_icmp .ne 40, 3) := by decide +kernel
theorem dX7_eRead_38 : decode cX7_eRead 38 = .ok (.aload_n 0, 1) := by decide +kernel
theorem dX7_eRead_39 : decode cX7_eRead 39 = .ok (.aload_n 0, 1) := by decide +kernel
theorem dX7_eRead_40 : decode cX7_eRead 40 = .ok (.getfield 116, 3) := by decide +kernel
theorem dX7_eRead_43 : decode cX7_eRead 43 = .ok (.iconst 1, 1) := by decide +kernel
theorem dX7_eRead_44 : decode cX7_eRead 44 = .ok (.if_icmp .ne 13, 3) := by decide +kernel
theorem dX7_eRead_47 : decode cX7_eRead 47 = .ok (.ldc 152, 2) := by decide +kernel
theorem dX7_eRead_49 : decode cX7_eRead 49 = .ok (.aload_n 0, 1) := by decide +kernel
theorem dX7_eRead_50 : decode cX7_eRead 50 = .ok (.getfield 119, 3) := by decide +kernel
theorem dX7_eRead_53 : decode cX7_eRead 53 = .ok (.iadd, 1) := by decide +kernel
theorem dX7_eRead_54 : decode cX7_eRead 54 = .ok (.goto 7, 3) := by decide +kernel
theorem dX7_eRead_57 : decode cX7_eRead 57 = .ok (.aload_n 0, 1) := by decide +kernel
theorem dX7_eRead_58 : decode cX7_eRead 58 = .ok (.getfield 119, 3) := by decide +kernel
theorem dX7_eRead_61 : decode cX7_eRead 61 = .ok (.invokevirtual 139, 3) := by decide +kernel
theorem dX7_eRead_64 : decode cX7_eRead 64 = .ok (.aload_n 0, 1) := by decide +kernel
theorem dX7_eRead_65 : decode cX7_eRead 65 = .ok (.bipush 7, 2) := by decide +kernel
theorem dX7_eRead_67 : decode cX7_eRead 67 = .ok (.invokevirtual 146, 3) := by decide +kernel
theorem dX7_eRead_70 : decode cX7_eRead 70 = .ok (.iconst 0, 1) := by decide +kernel
theorem dX7_eRead_71 : decode cX7_eRead 71 = .ok (.istore_n 1, 1) := by decide +kernel
theorem dX7_eRead_72 : decode cX7_eRead 72 = .ok (.goto (-58), 3) := by decide +kernel
theorem dX7_eRead_75 : decode cX7_eRead 75 = .ok (.aload_n 0, 1) := by decide +kernel
theorem dX7_eRead_76 : decode cX7_eRead 76 = .ok (.getfield 116, 3) := by decide +kernel
theorem dX7_eRead_79 : decode cX7_eRead 79 = .ok (.bipush 6, 2) := by decide +kernel
theorem dX7_eRead_81 : decode cX7_eRead 81 = .ok (.if_icmp .ne 18, 3) := by decide +kernel
theorem dX7_eRead_84 : decode cX7_eRead 84 = .ok (.iload_n 2, 1) := by decide +kernel
theorem dX7_eRead_85 : decode cX7_eRead 85 = .ok (.ifCond .eq 14, 3) := by decide +kernel
theorem dX7_eRead_88 : decode cX7_eRead 88 = .ok (.aload_n 0, 1) := by decide +kernel
theorem dX7_eRead_89 : decode cX7_eRead 89 = .ok (.bipush 13, 2) := by decide +kernel
theorem dX7_eRead_91 : decode cX7_eRead 91 = .ok (.invokevirtual 153, 3) := by decide +kernel
theorem dX7_eRead_94 : decode cX7_eRead 94 = .ok (.ifCond .ne (-80), 3) := by decide +kernel
theorem dX7_eRead_97 : decode cX7_eRead 97 = .ok (.iconst 0, 1) := by decide +kernel
theorem dX7_eRead_98 : decode cX7_eRead 98 = .ok (.ireturn, 1) := by decide +kernel
theorem dX7_eRead_99 : decode cX7_eRead 99 = .ok (.aload_n 0, 1) := by decide +kernel
theorem dX7_eRead_100 : decode cX7_eRead 100 = .ok (.getfield 116, 3) := by decide +kernel
theorem dX7_eRead_103 : decode cX7_eRead 103 = .ok (.bipush 45, 2) := by decide +kernel
theorem dX7_eRead_105 : decode cX7_eRead 105 = .ok (.if_icmp .ne 19, 3) := by decide +kernel
theorem dX7_eRead_108 : decode cX7_eRead 108 = .ok (.aload_n 0, 1) := by decide +kernel
theorem dX7_eRead_109 : decode cX7_eRead 109 = .ok (.bipush 19, 2) := by decide +kernel
theorem dX7_eRead_111 : decode cX7_eRead 111 = .ok (.invokevirtual 153, 3) := by decide +kernel
theorem dX7_eRead_114 : decode cX7_eRead 114 = .ok (.ifCond .ne 5, 3) := by decide +kernel
theorem dX7_eRead_117 : decode cX7_eRead 117 = .ok (.iconst 0, 1) := by decide +kernel
theorem dX7_eRead_118 : decode cX7_eRead 118 = .ok (.ireturn, 1) := by decide +kernel
theorem dX7_eRead_119 : decode cX7_eRead 119 = .ok (.iconst 0, 1) := by decide +kernel
theorem dX7_eRead_120 : decode cX7_eRead 120 = .ok (.istore_n 2, 1) := by decide +kernel
theorem dX7_eRead_121 : decode cX7_eRead 121 = .ok (.goto (-107), 3) := by decide +kernel
theorem dX7_eRead_124 : decode cX7_eRead 124 = .ok (.aload_n 0, 1) := by decide +kernel
theorem dX7_eRead_125 : decode cX7_eRead 125 = .ok (.getfield 116, 3) := by decide +kernel
theorem dX7_eRead_128 : decode cX7_eRead 128 = .ok (.bipush 40, 2) := by decide +kernel
theorem dX7_eRead_130 : decode cX7_eRead 130 = .ok (.if_icmp .ne 18, 3) := by decide +kernel
theorem dX7_eRead_133 : decode cX7_eRead 133 = .ok (.aload_n 0, 1) := by decide +kernel
theorem dX7_eRead_134 : decode cX7_eRead 134 = .ok (.iconst 0, 1) := by decide +kernel
theorem dX7_eRead_135 : decode cX7_eRead 135 = .ok (.invokevirtual 153, 3) := by decide +kernel
theorem dX7_eRead_138 : decode cX7_eRead 138 = .ok (.ifCond .ne 5, 3) := by decide +kernel
theorem dX7_eRead_141 : decode cX7_eRead 141 = .ok (.iconst 0, 1) := by decide +kernel
theorem dX7_eRead_142 : decode cX7_eRead 142 = .ok (.ireturn, 1) := by decide +kernel
theorem dX7_eRead_143 : decode cX7_eRead 143 = .ok (.iconst 1, 1) := by decide +kernel
theorem dX7_eRead_144 : decode cX7_eRead 144 = .ok (.istore_n 2, 1) := by decide +kernel
theorem dX7_eRead_145 : decode cX7_eRead 145 = .ok (.goto (-131), 3) := by decide +kernel
theorem dX7_eRead_148 : decode cX7_eRead 148 = .ok (.iconst 0, 1) := by decide +kernel
theorem dX7_eRead_149 : decode cX7_eRead 149 = .ok (.ireturn, 1) := by decide +kernel
theorem dX7_eRead_150 : decode cX7_eRead 150 = .ok (.aload_n 0, 1) := by decide +kernel
theorem dX7_eRead_151 : decode cX7_eRead 151 = .ok (.getfield 116, 3) := by decide +kernel
theorem dX7_eRead_154 : decode cX7_eRead 154 = .ok (.bipush 59, 2) := by decide +kernel
theorem dX7_eRead_156 : decode cX7_eRead 156 = .ok (.if_icmp .ne 21, 3) := by decide +kernel
theorem dX7_eRead_159 : decode cX7_eRead 159 = .ok (.aload_n 0, 1) := by decide +kernel
theorem dX7_eRead_160 : decode cX7_eRead 160 = .ok (.iconst 1, 1) := by decide +kernel
theorem dX7_eRead_161 : decode cX7_eRead 161 = .ok (.invokevirtual 146, 3) := by decide +kernel
theorem dX7_eRead_164 : decode cX7_eRead 164 = .ok (.aload_n 0, 1) := by decide +kernel
theorem dX7_eRead_165 : decode cX7_eRead 165 = .ok (.getfield 129, 3) := by decide +kernel
theorem dX7_eRead_168 : decode cX7_eRead 168 = .ok (.ifCond .ne 7, 3) := by decide +kernel
theorem dX7_eRead_171 : decode cX7_eRead 171 = .ok (.iconst 1, 1) := by decide +kernel
theorem dX7_eRead_172 : decode cX7_eRead 172 = .ok (.goto 4, 3) := by decide +kernel
theorem dX7_eRead_175 : decode cX7_eRead 175 = .ok (.iconst 0, 1) := by decide +kernel
theorem dX7_eRead_176 : decode cX7_eRead 176 = .ok (.ireturn, 1) := by decide +kernel
theorem dX7_eRead_177 : decode cX7_eRead 177 = .ok (.aload_n 0, 1) := by decide +kernel
theorem dX7_eRead_178 : decode cX7_eRead 178 = .ok (.getfield 116, 3) := by decide +kernel
theorem dX7_eRead_181 : decode cX7_eRead 181 = .ok (.bipush 41, 2) := by decide +kernel
theorem dX7_eRead_183 : decode cX7_eRead 183 = .ok (.if_icmp .ne 46, 3) := by decide +kernel
theorem dX7_eRead_186 : decode cX7_eRead 186 = .ok (.aload_n 0, 1) := by decide +kernel
theorem dX7_eRead_187 : decode cX7_eRead 187 = .ok (.iconst 1, 1) := by decide +kernel
theorem dX7_eRead_188 : decode cX7_eRead 188 = .ok (.invokevirtual 146, 3) := by decide +kernel
theorem dX7_eRead_191 : decode cX7_eRead 191 = .ok (.aload_n 0, 1) := by decide +kernel
theorem dX7_eRead_192 : decode cX7_eRead 192 = .ok (.getfield 129, 3) := by decide +kernel
theorem dX7_eRead_195 : decode cX7_eRead 195 = .ok (.ifCond .ne 5, 3) := by decide +kernel
theorem dX7_eRead_198 : decode cX7_eRead 198 = .ok (.iconst 0, 1) := by decide +kernel
theorem dX7_eRead_199 : decode cX7_eRead 199 = .ok (.ireturn, 1) := by decide +kernel
theorem dX7_eRead_200 : decode cX7_eRead 200 = .ok (.aload_n 0, 1) := by decide +kernel
theorem dX7_eRead_201 : decode cX7_eRead 201 = .ok (.dup, 1) := by decide +kernel
theorem dX7_eRead_202 : decode cX7_eRead 202 = .ok (.getfield 129, 3) := by decide +kernel
theorem dX7_eRead_205 : decode cX7_eRead 205 = .ok (.iconst 1, 1) := by decide +kernel
theorem dX7_eRead_206 : decode cX7_eRead 206 = .ok (.isub, 1) := by decide +kernel
theorem dX7_eRead_207 : decode cX7_eRead 207 = .ok (.putfield 129, 3) := by decide +kernel
theorem dX7_eRead_210 : decode cX7_eRead 210 = .ok (.aload_n 0, 1) := by decide +kernel
theorem dX7_eRead_211 : decode cX7_eRead 211 = .ok (.dup, 1) := by decide +kernel
theorem dX7_eRead_212 : decode cX7_eRead 212 = .ok (.getfield 136, 3) := by decide +kernel
theorem dX7_eRead_215 : decode cX7_eRead 215 = .ok (.iconst 1, 1) := by decide +kernel
theorem dX7_eRead_216 : decode cX7_eRead 216 = .ok (.isub, 1) := by decide +kernel
theorem dX7_eRead_217 : decode cX7_eRead 217 = .ok (.putfield 136, 3) := by decide +kernel
theorem dX7_eRead_220 : decode cX7_eRead 220 = .ok (.aload_n 0, 1) := by decide +kernel
theorem dX7_eRead_221 : decode cX7_eRead 221 = .ok (.bipush 7, 2) := by decide +kernel
theorem dX7_eRead_223 : decode cX7_eRead 223 = .ok (.invokevirtual 146, 3) := by decide +kernel
theorem dX7_eRead_226 : decode cX7_eRead 226 = .ok (.goto (-212), 3) := by decide +kernel
theorem dX7_eRead_229 : decode cX7_eRead 229 = .ok (.aload_n 0, 1) := by decide +kernel
theorem dX7_eRead_230 : decode cX7_eRead 230 = .ok (.invokevirtual 156, 3) := by decide +kernel
theorem dX7_eRead_233 : decode cX7_eRead 233 = .ok (.istore_n 3, 1) := by decide +kernel
theorem dX7_eRead_234 : decode cX7_eRead 234 = .ok (.iload_n 3, 1) := by decide +kernel
theorem dX7_eRead_235 : decode cX7_eRead 235 = .ok (.iconst (-1), 1) := by decide +kernel
theorem dX7_eRead_236 : decode cX7_eRead 236 = .ok (.if_icmp .eq 11, 3) := by decide +kernel
theorem dX7_eRead_239 : decode cX7_eRead 239 = .ok (.aload_n 0, 1) := by decide +kernel
theorem dX7_eRead_240 : decode cX7_eRead 240 = .ok (.iload_n 3, 1) := by decide +kernel
theorem dX7_eRead_241 : decode cX7_eRead 241 = .ok (.invokevirtual 159, 3) := by decide +kernel
theorem dX7_eRead_244 : decode cX7_eRead 244 = .ok (.ifCond .ne 5, 3) := by decide +kernel
theorem dX7_eRead_247 : decode cX7_eRead 247 = .ok (.iconst 0, 1) := by decide +kernel
theorem dX7_eRead_248 : decode cX7_eRead 248 = .ok (.ireturn, 1) := by decide +kernel
theorem dX7_eRead_249 : decode cX7_eRead 249 = .ok (.iconst 1, 1) := by decide +kernel
theorem dX7_eRead_250 : decode cX7_eRead 250 = .ok (.istore_n 1, 1) := by decide +kernel
theorem dX7_eRead_251 : decode cX7_eRead 251 = .ok (.iload_n 3, 1) := by decide +kernel
theorem dX7_eRead_252 : decode cX7_eRead 252 = .ok (.bipush 12, 2) := by decide +kernel
theorem dX7_eRead_254 : decode cX7_eRead 254 = .ok (.if_icmp .gt 7, 3) := by decide +kernel
theorem dX7_eRead_257 : decode cX7_eRead 257 = .ok (.iconst 1, 1) := by decide +kernel
theorem dX7_eRead_258 : decode cX7_eRead 258 = .ok (.goto 4, 3) := by decide +kernel
theorem dX7_eRead_261 : decode cX7_eRead 261 = .ok (.iconst 0, 1) := by decide +kernel
theorem dX7_eRead_262 : decode cX7_eRead 262 = .ok (.istore_n 2, 1) := by decide +kernel
theorem dX7_eRead_263 : decode cX7_eRead 263 = .ok (.goto (-249), 3) := by decide +kernel
theorem dX7_text_0 : decode cX7_text 0 = .ok (.aload_n 0, 1) := by decide +kernel
theorem dX7_text_1 : decode cX7_text 1 = .ok (.getfield 100, 3) := by decide +kernel
theorem dX7_text_4 : decode cX7_text 4 = .ok (.bipush 6, 2) := by decide +kernel
theorem dX7_text_6 : decode cX7_text 6 = .ok (.if_icmp .ne 6, 3) := by decide +kernel
theorem dX7_text_9 : decode cX7_text 9 = .ok (.bipush (-4), 2) := by decide +kernel
theorem dX7_text_11 : decode cX7_text 11 = .ok (.ireturn, 1) := by decide +kernel
theorem dX7_text_12 : decode cX7_text 12 = .ok (.aload_n 0, 1) := by decide +kernel
theorem dX7_text_13 : decode cX7_text 13 = .ok (.iconst 0, 1) := by decide +kernel
theorem dX7_text_14 : decode cX7_text 14 = .ok (.putfield 110, 3) := by decide +kernel
theorem dX7_text_17 : decode cX7_text 17 = .ok (.aload_n 0, 1) := by decide +kernel
theorem dX7_text_18 : decode cX7_text 18 = .ok (.iconst 0, 1) := by decide +kernel
theorem dX7_text_19 : decode cX7_text 19 = .ok (.putfield 126, 3) := by decide +kernel
theorem dX7_text_22 : decode cX7_text 22 = .ok (.iconst 1, 1) := by decide +kernel
theorem dX7_text_23 : decode cX7_text 23 = .ok (.istore_n 1, 1) := by decide +kernel
theorem dX7_text_24 : decode cX7_text 24 = .ok (.iconst 0, 1) := by decide +kernel
theorem dX7_text_25 : decode cX7_text 25 = .ok (.istore_n 2, 1) := by decide +kernel
theorem dX7_text_26 : decode cX7_text 26 = .ok (.iload_n 2, 1) := by decide +kernel
theorem dX7_text_27 : decode cX7_text 27 = .ok (.iconst 3, 1) := by decide +kernel
theorem dX7_text_28 : decode cX7_text 28 = .ok (.if_icmp .ge 73, 3) := by decide +kernel
theorem dX7_text_31 : decode cX7_text 31 = .ok (.iload_n 1, 1) := by decide +kernel
theorem dX7_text_32 : decode cX7_text 32 = .ok (.ifCond .eq 69, 3) := by decide +kernel
theorem dX7_text_35 : decode cX7_text 35 = .ok (.aload_n 0, 1) := by decide +kernel
theorem dX7_text_36 : decode cX7_text 36 = .ok (.invokevirtual 149, 3) := by decide +kernel
theorem dX7_text_39 : decode cX7_text 39 = .ok (.aload_n 0, 1) := by decide +kernel
theorem dX7_text_40 : decode cX7_text 40 = .ok (.getfield 116, 3) := by decide +kernel
theorem dX7_text_43 : decode cX7_text 43 = .ok (.iconst 3, 1) := by decide +kernel
theorem dX7_text_44 : decode cX7_text 44 = .ok (.if_icmp .ne 15, 3) := by decide +kernel
theorem dX7_text_47 : decode cX7_text 47 = .ok (.aload_n 0, 1) := by decide +kernel
theorem dX7_text_48 : decode cX7_text 48 = .ok (.getfield 119, 3) := by decide +kernel
theorem dX7_text_51 : decode cX7_text 51 = .ok (.iload_n 2, 1) := by decide +kernel
theorem dX7_text_52 : decode cX7_text 52 = .ok (.if_icmp .ne 7, 3) := by decide +kernel
theorem dX7_text_55 : decode cX7_text 55 = .ok (.iconst 1, 1) := by decide +kernel
theorem dX7_text_56 : decode cX7_text 56 = .ok (.goto 4, 3) := by decide +kernel
theorem dX7_text_59 : decode cX7_text 59 = .ok (.iconst 0, 1) := by decide +kernel
theorem dX7_text_60 : decode cX7_text 60 = .ok (.istore_n 1, 1) := by decide +kernel
theorem dX7_text_61 : decode cX7_text 61 = .ok (.aload_n 0, 1) := by decide +kernel
theorem dX7_text_62 : decode cX7_text 62 = .ok (.getfield 31, 3) := by decide +kernel
theorem dX7_text_65 : decode cX7_text 65 = .ok (.iconst 4, 1) := by decide +kernel
theorem dX7_text_66 : decode cX7_text 66 = .ok (.aload_n 0, 1) := by decide +kernel
theorem dX7_text_67 : decode cX7_text 67 = .ok (.getfield 100, 3) := by decide +kernel
theorem dX7_text_70 : decode cX7_text 70 = .ok (.imul, 1) := by decide +kernel
theorem dX7_text_71 : decode cX7_text 71 = .ok (.iload_n 2, 1) := by decide +kernel
theorem dX7_text_72 : decode cX7_text 72 = .ok (.iadd, 1) := by decide +kernel
theorem dX7_text_73 : decode cX7_text 73 = .ok (.aload_n 0, 1) := by decide +kernel
theorem dX7_text_74 : decode cX7_text 74 = .ok (.getfield 126, 3) := by decide +kernel
theorem dX7_text_77 : decode cX7_text 77 = .ok (.iastore, 1) := by decide +kernel
theorem dX7_text_78 : decode cX7_text 78 = .ok (.iload_n 1, 1) := by decide +kernel
theorem dX7_text_79 : decode cX7_text 79 = .ok (.ifCond .eq 14, 3) := by decide +kernel
theorem dX7_text_82 : decode cX7_text 82 = .ok (.aload_n 0, 1) := by decide +kernel
theorem dX7_text_83 : decode cX7_text 83 = .ok (.invokevirtual 162, 3) := by decide +kernel
theorem dX7_text_86 : decode cX7_text 86 = .ok (.ifCond .eq 7, 3) := by decide +kernel
theorem dX7_text_89 : decode cX7_text 89 = .ok (.iconst 1, 1) := by decide +kernel
theorem dX7_text_90 : decode cX7_text 90 = .ok (.goto 4, 3) := by decide +kernel
theorem dX7_text_93 : decode cX7_text 93 = .ok (.iconst 0, 1) := by decide +kernel
theorem dX7_text_94 : decode cX7_text 94 = .ok (.istore_n 1, 1) := by decide +kernel
theorem dX7_text_95 : decode cX7_text 95 = .ok (.iinc 2 1, 3) := by decide +kernel
theorem dX7_text_98 : decode cX7_text 98 = .ok (.goto (-72), 3) := by decide +kernel
theorem dX7_text_101 : decode cX7_text 101 = .ok (.iload_n 1, 1) := by decide +kernel
theorem dX7_text_102 : decode cX7_text 102 = .ok (.ifCond .eq 20, 3) := by decide +kernel
theorem dX7_text_105 : decode cX7_text 105 = .ok (.aload_n 0, 1) := by decide +kernel
theorem dX7_text_106 : decode cX7_text 106 = .ok (.invokevirtual 149, 3) := by decide +kernel
theorem dX7_text_109 : decode cX7_text 109 = .ok (.aload_n 0, 1) := by decide +kernel
theorem dX7_text_110 : decode cX7_text 110 = .ok (.getfield 116, 3) := by decide +kernel
theorem dX7_text_113 : decode cX7_text 113 = .ok (.ifCond .ne 7, 3) := by decide +kernel
theorem dX7_text_116 : decode cX7_text 116 = .ok (.iconst 1, 1) := by decide +kernel
theorem dX7_text_117 : decode cX7_text 117 = .ok (.goto 4, 3) := by decide +kernel
theorem dX7_text_120 : decode cX7_text 120 = .ok (.iconst 0, 1) := by decide +kernel
theorem dX7_text_121 : decode cX7_text 121 = .ok (.istore_n 1, 1) := by decide +kernel
theorem dX7_text_122 : decode cX7_text 122 = .ok (.aload_n 0, 1) := by decide +kernel
theorem dX7_text_123 : decode cX7_text 123 = .ok (.getfield 31, 3) := by decide +kernel
theorem dX7_text_126 : decode cX7_text 126 = .ok (.iconst 4, 1) := by decide +kernel
theorem dX7_text_127 : decode cX7_text 127 = .ok (.aload_n 0, 1) := by decide +kernel
theorem dX7_text_128 : decode cX7_text 128 = .ok (.getfield 100, 3) := by decide +kernel
theorem dX7_text_131 : decode cX7_text 131 = .ok (.imul, 1) := by decide +kernel
theorem dX7_text_132 : decode cX7_text 132 = .ok (.iconst 3, 1) := by decide +kernel
theorem dX7_text_133 : decode cX7_text 133 = .ok (.iadd, 1) := by decide +kernel
theorem dX7_text_134 : decode cX7_text 134 = .ok (.aload_n 0, 1) := by decide +kernel
theorem dX7_text_135 : decode cX7_text 135 = .ok (.getfield 126, 3) := by decide +kernel
theorem dX7_text_138 : decode cX7_text 138 = .ok (.iastore, 1) := by decide +kernel
theorem dX7_text_139 : decode cX7_text 139 = .ok (.aload_n 0, 1) := by decide +kernel
theorem dX7_text_140 : decode cX7_text 140 = .ok (.iconst 0, 1) := by decide +kernel
theorem dX7_text_141 : decode cX7_text 141 = .ok (.putfield 79, 3) := by decide +kernel
theorem dX7_text_144 : decode cX7_text 144 = .ok (.iload_n 1, 1) := by decide +kernel
theorem dX7_text_145 : decode cX7_text 145 = .ok (.ifCond .ne 11, 3) := by decide +kernel
theorem dX7_text_148 : decode cX7_text 148 = .ok (.bipush (-100), 2) := by decide +kernel
theorem dX7_text_150 : decode cX7_text 150 = .ok (.aload_n 0, 1) := by decide +kernel
theorem dX7_text_151 : decode cX7_text 151 = .ok (.getfield 113, 3) := by decide +kernel
theorem dX7_text_154 : decode cX7_text 154 = .ok (.isub, 1) := by decide +kernel
theorem dX7_text_155 : decode cX7_text 155 = .ok (.ireturn, 1) := by decide +kernel
theorem dX7_text_156 : decode cX7_text 156 = .ok (.aload_n 0, 1) := by decide +kernel
theorem dX7_text_157 : decode cX7_text 157 = .ok (.dup, 1) := by decide +kernel
theorem dX7_text_158 : decode cX7_text 158 = .ok (.getfield 100, 3) := by decide +kernel
theorem dX7_text_161 : decode cX7_text 161 = .ok (.iconst 1, 1) := by decide +kernel
theorem dX7_text_162 : decode cX7_text 162 = .ok (.iadd, 1) := by decide +kernel
theorem dX7_text_163 : decode cX7_text 163 = .ok (.putfield 100, 3) := by decide +kernel
theorem dX7_text_166 : decode cX7_text 166 = .ok (.aload_n 0, 1) := by decide +kernel
theorem dX7_text_167 : decode cX7_text 167 = .ok (.getfield 100, 3) := by decide +kernel
theorem dX7_text_170 : decode cX7_text 170 = .ok (.iconst 1, 1) := by decide +kernel
theorem dX7_text_171 : decode cX7_text 171 = .ok (.isub, 1) := by decide +kernel
theorem dX7_text_172 : decode cX7_text 172 = .ok (.ireturn, 1) := by decide +kernel
theorem dX7_two_0 : decode cX7_two 0 = .ok (.iload_n 0, 1) := by decide +kernel
theorem dX7_two_1 : decode cX7_two 1 = .ok (.tableswitch 101 11 17 #[43, 57, 101, 71, 82, 93, 97], 43) := by decide +kernel
theorem dX7_two_44 : decode cX7_two 44 = .ok (.iload_n 1, 1) := by decide +kernel
theorem dX7_two_45 : decode cX7_two 45 = .ok (.ifCond .ne 7, 3) := by decide +kernel
theorem dX7_two_48 : decode cX7_two 48 = .ok (.iload_n 2, 1) := by decide +kernel
theorem dX7_two_49 : decode cX7_two 49 = .ok (.ifCond .eq 7, 3) := by decide +kernel
theorem dX7_two_52 : decode cX7_two 52 = .ok (.iconst 1, 1) := by decide +kernel
theorem dX7_two_53 : decode cX7_two 53 = .ok (.goto 4, 3) := by decide +kernel
theorem dX7_two_56 : decode cX7_two 56 = .ok (.iconst 0, 1) := by decide +kernel
theorem dX7_two_57 : decode cX7_two 57 = .ok (.ireturn, 1) := by decide +kernel
theorem dX7_two_58 : decode cX7_two 58 = .ok (.iload_n 1, 1) := by decide +kernel
theorem dX7_two_59 : decode cX7_two 59 = .ok (.ifCond .eq 11, 3) := by decide +kernel
theorem dX7_two_62 : decode cX7_two 62 = .ok (.iload_n 2, 1) := by decide +kernel
theorem dX7_two_63 : decode cX7_two 63 = .ok (.ifCond .eq 7, 3) := by decide +kernel
theorem dX7_two_66 : decode cX7_two 66 = .ok (.iconst 1, 1) := by decide +kernel
theorem dX7_two_67 : decode cX7_two 67 = .ok (.goto 4, 3) := by decide +kernel
theorem dX7_two_70 : decode cX7_two 70 = .ok (.iconst 0, 1) := by decide +kernel
theorem dX7_two_71 : decode cX7_two 71 = .ok (.ireturn, 1) := by decide +kernel
theorem dX7_two_72 : decode cX7_two 72 = .ok (.iload_n 1, 1) := by decide +kernel
theorem dX7_two_73 : decode cX7_two 73 = .ok (.iload_n 2, 1) := by decide +kernel
theorem dX7_two_74 : decode cX7_two 74 = .ok (.if_icmp .ge 7, 3) := by decide +kernel
theorem dX7_two_77 : decode cX7_two 77 = .ok (.iconst 1, 1) := by decide +kernel
theorem dX7_two_78 : decode cX7_two 78 = .ok (.goto 4, 3) := by decide +kernel
theorem dX7_two_81 : decode cX7_two 81 = .ok (.iconst 0, 1) := by decide +kernel
theorem dX7_two_82 : decode cX7_two 82 = .ok (.ireturn, 1) := by decide +kernel
theorem dX7_two_83 : decode cX7_two 83 = .ok (.iload_n 1, 1) := by decide +kernel
theorem dX7_two_84 : decode cX7_two 84 = .ok (.iload_n 2, 1) := by decide +kernel
theorem dX7_two_85 : decode cX7_two 85 = .ok (.if_icmp .ne 7, 3) := by decide +kernel
theorem dX7_two_88 : decode cX7_two 88 = .ok (.iconst 1, 1) := by decide +kernel
theorem dX7_two_89 : decode cX7_two 89 = .ok (.goto 4, 3) := by decide +kernel
theorem dX7_two_92 : decode cX7_two 92 = .ok (.iconst 0, 1) := by decide +kernel
theorem dX7_two_93 : decode cX7_two 93 = .ok (.ireturn, 1) := by decide +kernel
theorem dX7_two_94 : decode cX7_two 94 = .ok (.iload_n 1, 1) := by decide +kernel
theorem dX7_two_95 : decode cX7_two 95 = .ok (.iload_n 2, 1) := by decide +kernel
theorem dX7_two_96 : decode cX7_two 96 = .ok (.iadd, 1) := by decide +kernel
theorem dX7_two_97 : decode cX7_two 97 = .ok (.ireturn, 1) := by decide +kernel
theorem dX7_two_98 : decode cX7_two 98 = .ok (.iload_n 1, 1) := by decide +kernel
theorem dX7_two_99 : decode cX7_two 99 = .ok (.iload_n 2, 1) := by decide +kernel
theorem dX7_two_100 : decode cX7_two 100 = .ok (.isub, 1) := by decide +kernel
theorem dX7_two_101 : decode cX7_two 101 = .ok (.ireturn, 1) := by decide +kernel
theorem dX7_two_102 : decode cX7_two 102 = .ok (.iload_n 1, 1) := by decide +kernel
theorem dX7_two_103 : decode cX7_two 103 = .ok (.iload_n 2, 1) := by decide +kernel
theorem dX7_two_104 : decode cX7_two 104 = .ok (.imul, 1) := by decide +kernel
theorem dX7_two_105 : decode cX7_two 105 = .ok (.ireturn, 1) := by decide +kernel
theorem dX7_says_0 : decode cX7_says 0 = .ok (.iconst 0, 1) := by decide +kernel
theorem dX7_says_1 : decode cX7_says 1 = .ok (.istore_n 2, 1) := by decide +kernel
theorem dX7_says_2 : decode cX7_says 2 = .ok (.aload_n 0, 1) := by decide +kernel
theorem dX7_says_3 : decode cX7_says 3 = .ok (.getfield 31, 3) := by decide +kernel
theorem dX7_says_6 : decode cX7_says 6 = .ok (.iconst 4, 1) := by decide +kernel
theorem dX7_says_7 : decode cX7_says 7 = .ok (.aload_n 0, 1) := by decide +kernel
theorem dX7_says_8 : decode cX7_says 8 = .ok (.getfield 103, 3) := by decide +kernel
theorem dX7_says_11 : decode cX7_says 11 = .ok (.imul, 1) := by decide +kernel
theorem dX7_says_12 : decode cX7_says 12 = .ok (.iload_n 1, 1) := by decide +kernel
theorem dX7_says_13 : decode cX7_says 13 = .ok (.iadd, 1) := by decide +kernel
theorem dX7_says_14 : decode cX7_says 14 = .ok (.iaload, 1) := by decide +kernel
theorem dX7_says_15 : decode cX7_says 15 = .ok (.istore_n 3, 1) := by decide +kernel
theorem dX7_says_16 : decode cX7_says 16 = .ok (.iload_n 3, 1) := by decide +kernel
theorem dX7_says_17 : decode cX7_says 17 = .ok (.aload_n 0, 1) := by decide +kernel
theorem dX7_says_18 : decode cX7_says 18 = .ok (.getfield 31, 3) := by decide +kernel
theorem dX7_says_21 : decode cX7_says 21 = .ok (.iconst 4, 1) := by decide +kernel
theorem dX7_says_22 : decode cX7_says 22 = .ok (.aload_n 0, 1) := by decide +kernel
theorem dX7_says_23 : decode cX7_says 23 = .ok (.getfield 103, 3) := by decide +kernel
theorem dX7_says_26 : decode cX7_says 26 = .ok (.imul, 1) := by decide +kernel
theorem dX7_says_27 : decode cX7_says 27 = .ok (.iload_n 1, 1) := by decide +kernel
theorem dX7_says_28 : decode cX7_says 28 = .ok (.iadd, 1) := by decide +kernel
theorem dX7_says_29 : decode cX7_says 29 = .ok (.iconst 1, 1) := by decide +kernel
theorem dX7_says_30 : decode cX7_says 30 = .ok (.iadd, 1) := by decide +kernel
theorem dX7_says_31 : decode cX7_says 31 = .ok (.iaload, 1) := by decide +kernel
theorem dX7_says_32 : decode cX7_says 32 = .ok (.if_icmp .ge 165, 3) := by decide +kernel
theorem dX7_says_35 : decode cX7_says 35 = .ok (.aload_n 0, 1) := by decide +kernel
theorem dX7_says_36 : decode cX7_says 36 = .ok (.getfield 28, 3) := by decide +kernel
theorem dX7_says_39 : decode cX7_says 39 = .ok (.sipush 200, 3) := by decide +kernel
theorem dX7_says_42 : decode cX7_says 42 = .ok (.aload_n 0, 1) := by decide +kernel
theorem dX7_says_43 : decode cX7_says 43 = .ok (.getfield 103, 3) := by decide +kernel
theorem dX7_says_46 : decode cX7_says 46 = .ok (.imul, 1) := by decide +kernel
theorem dX7_says_47 : decode cX7_says 47 = .ok (.iload_n 3, 1) := by decide +kernel
theorem dX7_says_48 : decode cX7_says 48 = .ok (.iadd, 1) := by decide +kernel
theorem dX7_says_49 : decode cX7_says 49 = .ok (.iaload, 1) := by decide +kernel
theorem dX7_says_50 : decode cX7_says 50 = .ok (.istore 4, 2) := by decide +kernel
theorem dX7_says_52 : decode cX7_says 52 = .ok (.iload 4, 2) := by decide +kernel
theorem dX7_says_54 : decode cX7_says 54 = .ok (.ldc 152, 2) := by decide +kernel
theorem dX7_says_56 : decode cX7_says 56 = .ok (.if_icmp .ge 10, 3) := by decide +kernel
theorem dX7_says_59 : decode cX7_says 59 = .ok (.iload 4, 2) := by decide +kernel
theorem dX7_says_61 : decode cX7_says 61 = .ok (.bipush 11, 2) := by decide +kernel
theorem dX7_says_63 : decode cX7_says 63 = .ok (.if_icmp .ge 37, 3) := by decide +kernel
theorem dX7_says_66 : decode cX7_says 66 = .ok (.aload_n 0, 1) := by decide +kernel
theorem dX7_says_67 : decode cX7_says 67 = .ok (.getfield 61, 3) := by decide +kernel
theorem dX7_says_70 : decode cX7_says 70 = .ok (.iload_n 2, 1) := by decide +kernel
theorem dX7_says_71 : decode cX7_says 71 = .ok (.iload 4, 2) := by decide +kernel
theorem dX7_says_73 : decode cX7_says 73 = .ok (.bipush 11, 2) := by decide +kernel
theorem dX7_says_75 : decode cX7_says 75 = .ok (.if_icmp .ge 13, 3) := by decide +kernel
theorem dX7_says_78 : decode cX7_says 78 = .ok (.aload_n 0, 1) := by decide +kernel
theorem dX7_says_79 : decode cX7_says 79 = .ok (.getfield 64, 3) := by decide +kernel
theorem dX7_says_82 : decode cX7_says 82 = .ok (.iload 4, 2) := by decide +kernel
theorem dX7_says_84 : decode cX7_says 84 = .ok (.iaload, 1) := by decide +kernel
theorem dX7_says_85 : decode cX7_says 85 = .ok (.goto 8, 3) := by decide +kernel
theorem dX7_says_88 : decode cX7_says 88 = .ok (.iload 4, 2) := by decide +kernel
theorem dX7_says_90 : decode cX7_says 90 = .ok (.ldc 152, 2) := by decide +kernel
theorem dX7_says_92 : decode cX7_says 92 = .ok (.isub, 1) := by decide +kernel
theorem dX7_says_93 : decode cX7_says 93 = .ok (.iastore, 1) := by decide +kernel
theorem dX7_says_94 : decode cX7_says 94 = .ok (.iinc 2 1, 3) := by decide +kernel
theorem dX7_says_97 : decode cX7_says 97 = .ok (.goto 94, 3) := by decide +kernel
theorem dX7_says_100 : decode cX7_says 100 = .ok (.iload 4, 2) := by decide +kernel
theorem dX7_says_102 : decode cX7_says 102 = .ok (.bipush 13, 2) := by decide +kernel
theorem dX7_says_104 : decode cX7_says 104 = .ok (.if_icmp .ne 30, 3) := by decide +kernel
theorem dX7_says_107 : decode cX7_says 107 = .ok (.aload_n 0, 1) := by decide +kernel
theorem dX7_says_108 : decode cX7_says 108 = .ok (.getfield 61, 3) := by decide +kernel
theorem dX7_says_111 : decode cX7_says 111 = .ok (.iload_n 2, 1) := by decide +kernel
theorem dX7_says_112 : decode cX7_says 112 = .ok (.iconst 1, 1) := by decide +kernel
theorem dX7_says_113 : decode cX7_says 113 = .ok (.isub, 1) := by decide +kernel
theorem dX7_says_114 : decode cX7_says 114 = .ok (.aload_n 0, 1) := by decide +kernel
theorem dX7_says_115 : decode cX7_says 115 = .ok (.getfield 61, 3) := by decide +kernel
theorem dX7_says_118 : decode cX7_says 118 = .ok (.iload_n 2, 1) := by decide +kernel
theorem dX7_says_119 : decode cX7_says 119 = .ok (.iconst 1, 1) := by decide +kernel
theorem dX7_says_120 : decode cX7_says 120 = .ok (.isub, 1) := by decide +kernel
theorem dX7_says_121 : decode cX7_says 121 = .ok (.iaload, 1) := by decide +kernel
theorem dX7_says_122 : decode cX7_says 122 = .ok (.ifCond .ne 7, 3) := by decide +kernel
theorem dX7_says_125 : decode cX7_says 125 = .ok (.iconst 1, 1) := by decide +kernel
theorem dX7_says_126 : decode cX7_says 126 = .ok (.goto 4, 3) := by decide +kernel
theorem dX7_says_129 : decode cX7_says 129 = .ok (.iconst 0, 1) := by decide +kernel
theorem dX7_says_130 : decode cX7_says 130 = .ok (.iastore, 1) := by decide +kernel
theorem dX7_says_131 : decode cX7_says 131 = .ok (.goto 60, 3) := by decide +kernel
theorem dX7_says_134 : decode cX7_says 134 = .ok (.iload 4, 2) := by decide +kernel
theorem dX7_says_136 : decode cX7_says 136 = .ok (.bipush 19, 2) := by decide +kernel
theorem dX7_says_138 : decode cX7_says 138 = .ok (.if_icmp .ne 23, 3) := by decide +kernel
theorem dX7_says_141 : decode cX7_says 141 = .ok (.aload_n 0, 1) := by decide +kernel
theorem dX7_says_142 : decode cX7_says 142 = .ok (.getfield 61, 3) := by decide +kernel
theorem dX7_says_145 : decode cX7_says 145 = .ok (.iload_n 2, 1) := by decide +kernel
theorem dX7_says_146 : decode cX7_says 146 = .ok (.iconst 1, 1) := by decide +kernel
theorem dX7_says_147 : decode cX7_says 147 = .ok (.isub, 1) := by decide +kernel
theorem dX7_says_148 : decode cX7_says 148 = .ok (.aload_n 0, 1) := by decide +kernel
theorem dX7_says_149 : decode cX7_says 149 = .ok (.getfield 61, 3) := by decide +kernel
theorem dX7_says_152 : decode cX7_says 152 = .ok (.iload_n 2, 1) := by decide +kernel
theorem dX7_says_153 : decode cX7_says 153 = .ok (.iconst 1, 1) := by decide +kernel
theorem dX7_says_154 : decode cX7_says 154 = .ok (.isub, 1) := by decide +kernel
theorem dX7_says_155 : decode cX7_says 155 = .ok (.iaload, 1) := by decide +kernel
theorem dX7_says_156 : decode cX7_says 156 = .ok (.ineg, 1) := by decide +kernel
theorem dX7_says_157 : decode cX7_says 157 = .ok (.iastore, 1) := by decide +kernel
theorem dX7_says_158 : decode cX7_says 158 = .ok (.goto 33, 3) := by decide +kernel
theorem dX7_says_161 : decode cX7_says 161 = .ok (.iinc 2 (-1), 3) := by decide +kernel
theorem dX7_says_164 : decode cX7_says 164 = .ok (.aload_n 0, 1) := by decide +kernel
theorem dX7_says_165 : decode cX7_says 165 = .ok (.getfield 61, 3) := by decide +kernel
theorem dX7_says_168 : decode cX7_says 168 = .ok (.iload_n 2, 1) := by decide +kernel
theorem dX7_says_169 : decode cX7_says 169 = .ok (.iconst 1, 1) := by decide +kernel
theorem dX7_says_170 : decode cX7_says 170 = .ok (.isub, 1) := by decide +kernel
theorem dX7_says_171 : decode cX7_says 171 = .ok (.iload 4, 2) := by decide +kernel
theorem dX7_says_173 : decode cX7_says 173 = .ok (.aload_n 0, 1) := by decide +kernel
theorem dX7_says_174 : decode cX7_says 174 = .ok (.getfield 61, 3) := by decide +kernel
theorem dX7_says_177 : decode cX7_says 177 = .ok (.iload_n 2, 1) := by decide +kernel
theorem dX7_says_178 : decode cX7_says 178 = .ok (.iconst 1, 1) := by decide +kernel
theorem dX7_says_179 : decode cX7_says 179 = .ok (.isub, 1) := by decide +kernel
theorem dX7_says_180 : decode cX7_says 180 = .ok (.iaload, 1) := by decide +kernel
theorem dX7_says_181 : decode cX7_says 181 = .ok (.aload_n 0, 1) := by decide +kernel
theorem dX7_says_182 : decode cX7_says 182 = .ok (.getfield 61, 3) := by decide +kernel
theorem dX7_says_185 : decode cX7_says 185 = .ok (.iload_n 2, 1) := by decide +kernel
theorem dX7_says_186 : decode cX7_says 186 = .ok (.iaload, 1) := by decide +kernel
theorem dX7_says_187 : decode cX7_says 187 = .ok (.invokestatic 166, 3) := by decide +kernel
theorem dX7_says_190 : decode cX7_says 190 = .ok (.iastore, 1) := by decide +kernel
theorem dX7_says_191 : decode cX7_says 191 = .ok (.iinc 3 1, 3) := by decide +kernel
theorem dX7_says_194 : decode cX7_says 194 = .ok (.goto (-178), 3) := by decide +kernel
theorem dX7_says_197 : decode cX7_says 197 = .ok (.aload_n 0, 1) := by decide +kernel
theorem dX7_says_198 : decode cX7_says 198 = .ok (.getfield 61, 3) := by decide +kernel
theorem dX7_says_201 : decode cX7_says 201 = .ok (.iconst 0, 1) := by decide +kernel
theorem dX7_says_202 : decode cX7_says 202 = .ok (.iaload, 1) := by decide +kernel
theorem dX7_says_203 : decode cX7_says 203 = .ok (.ireturn, 1) := by decide +kernel
theorem dX7_force_0 : decode cX7_force 0 = .ok (.iload_n 1, 1) := by decide +kernel
theorem dX7_force_1 : decode cX7_force 1 = .ok (.iconst 0, 1) := by decide +kernel
theorem dX7_force_2 : decode cX7_force 2 = .ok (.aload_n 0, 1) := by decide +kernel
theorem dX7_force_3 : decode cX7_force 3 = .ok (.getfield 100, 3) := by decide +kernel
theorem dX7_force_6 : decode cX7_force 6 = .ok (.iconst 1, 1) := by decide +kernel
theorem dX7_force_7 : decode cX7_force 7 = .ok (.isub, 1) := by decide +kernel
theorem dX7_force_8 : decode cX7_force 8 = .ok (.invokestatic 90, 3) := by decide +kernel
theorem dX7_force_11 : decode cX7_force 11 = .ok (.ifCond .ne 6, 3) := by decide +kernel
theorem dX7_force_14 : decode cX7_force 14 = .ok (.bipush (-2), 2) := by decide +kernel
theorem dX7_force_16 : decode cX7_force 16 = .ok (.ireturn, 1) := by decide +kernel
theorem dX7_force_17 : decode cX7_force 17 = .ok (.aload_n 0, 1) := by decide +kernel
theorem dX7_force_18 : decode cX7_force 18 = .ok (.getfield 103, 3) := by decide +kernel
theorem dX7_force_21 : decode cX7_force 21 = .ok (.istore_n 2, 1) := by decide +kernel
theorem dX7_force_22 : decode cX7_force 22 = .ok (.aload_n 0, 1) := by decide +kernel
theorem dX7_force_23 : decode cX7_force 23 = .ok (.iload_n 1, 1) := by decide +kernel
theorem dX7_force_24 : decode cX7_force 24 = .ok (.putfield 103, 3) := by decide +kernel
theorem dX7_force_27 : decode cX7_force 27 = .ok (.iload_n 2, 1) := by decide +kernel
theorem dX7_force_28 : decode cX7_force 28 = .ok (.ireturn, 1) := by decide +kernel
theorem dX7_asksOf_0 : decode cX7_asksOf 0 = .ok (.aload_n 0, 1) := by decide +kernel
theorem dX7_asksOf_1 : decode cX7_asksOf 1 = .ok (.getfield 64, 3) := by decide +kernel
theorem dX7_asksOf_4 : decode cX7_asksOf 4 = .ok (.iconst 0, 1) := by decide +kernel
theorem dX7_asksOf_5 : decode cX7_asksOf 5 = .ok (.iload_n 2, 1) := by decide +kernel
theorem dX7_asksOf_6 : decode cX7_asksOf 6 = .ok (.iastore, 1) := by decide +kernel
theorem dX7_asksOf_7 : decode cX7_asksOf 7 = .ok (.aload_n 0, 1) := by decide +kernel
theorem dX7_asksOf_8 : decode cX7_asksOf 8 = .ok (.getfield 64, 3) := by decide +kernel
theorem dX7_asksOf_11 : decode cX7_asksOf 11 = .ok (.iconst 1, 1) := by decide +kernel
theorem dX7_asksOf_12 : decode cX7_asksOf 12 = .ok (.iload_n 3, 1) := by decide +kernel
theorem dX7_asksOf_13 : decode cX7_asksOf 13 = .ok (.iastore, 1) := by decide +kernel
theorem dX7_asksOf_14 : decode cX7_asksOf 14 = .ok (.aload_n 0, 1) := by decide +kernel
theorem dX7_asksOf_15 : decode cX7_asksOf 15 = .ok (.getfield 64, 3) := by decide +kernel
theorem dX7_asksOf_18 : decode cX7_asksOf 18 = .ok (.iconst 2, 1) := by decide +kernel
theorem dX7_asksOf_19 : decode cX7_asksOf 19 = .ok (.iload 4, 2) := by decide +kernel
theorem dX7_asksOf_21 : decode cX7_asksOf 21 = .ok (.iastore, 1) := by decide +kernel
theorem dX7_asksOf_22 : decode cX7_asksOf 22 = .ok (.aload_n 0, 1) := by decide +kernel
theorem dX7_asksOf_23 : decode cX7_asksOf 23 = .ok (.getfield 64, 3) := by decide +kernel
theorem dX7_asksOf_26 : decode cX7_asksOf 26 = .ok (.iconst 3, 1) := by decide +kernel
theorem dX7_asksOf_27 : decode cX7_asksOf 27 = .ok (.iload 5, 2) := by decide +kernel
theorem dX7_asksOf_29 : decode cX7_asksOf 29 = .ok (.iastore, 1) := by decide +kernel
theorem dX7_asksOf_30 : decode cX7_asksOf 30 = .ok (.aload_n 0, 1) := by decide +kernel
theorem dX7_asksOf_31 : decode cX7_asksOf 31 = .ok (.getfield 64, 3) := by decide +kernel
theorem dX7_asksOf_34 : decode cX7_asksOf 34 = .ok (.iconst 4, 1) := by decide +kernel
theorem dX7_asksOf_35 : decode cX7_asksOf 35 = .ok (.aload_n 0, 1) := by decide +kernel
theorem dX7_asksOf_36 : decode cX7_asksOf 36 = .ok (.getfield 97, 3) := by decide +kernel
theorem dX7_asksOf_39 : decode cX7_asksOf 39 = .ok (.iastore, 1) := by decide +kernel
theorem dX7_asksOf_40 : decode cX7_asksOf 40 = .ok (.aload_n 0, 1) := by decide +kernel
theorem dX7_asksOf_41 : decode cX7_asksOf 41 = .ok (.getfield 64, 3) := by decide +kernel
theorem dX7_asksOf_44 : decode cX7_asksOf 44 = .ok (.iconst 5, 1) := by decide +kernel
theorem dX7_asksOf_45 : decode cX7_asksOf 45 = .ok (.aload_n 0, 1) := by decide +kernel
theorem dX7_asksOf_46 : decode cX7_asksOf 46 = .ok (.getfield 22, 3) := by decide +kernel
theorem dX7_asksOf_49 : decode cX7_asksOf 49 = .ok (.iconst 0, 1) := by decide +kernel
theorem dX7_asksOf_50 : decode cX7_asksOf 50 = .ok (.iaload, 1) := by decide +kernel
theorem dX7_asksOf_51 : decode cX7_asksOf 51 = .ok (.iastore, 1) := by decide +kernel
theorem dX7_asksOf_52 : decode cX7_asksOf 52 = .ok (.aload_n 0, 1) := by decide +kernel
theorem dX7_asksOf_53 : decode cX7_asksOf 53 = .ok (.iload_n 1, 1) := by decide +kernel
theorem dX7_asksOf_54 : decode cX7_asksOf 54 = .ok (.invokevirtual 170, 3) := by decide +kernel
theorem dX7_asksOf_57 : decode cX7_asksOf 57 = .ok (.iconst 0, 1) := by decide +kernel
theorem dX7_asksOf_58 : decode cX7_asksOf 58 = .ok (.bipush 99, 2) := by decide +kernel
theorem dX7_asksOf_60 : decode cX7_asksOf 60 = .ok (.invokestatic 173, 3) := by decide +kernel
theorem dX7_asksOf_63 : decode cX7_asksOf 63 = .ok (.ireturn, 1) := by decide +kernel
theorem dX7_asks_0 : decode cX7_asks 0 = .ok (.iload_n 1, 1) := by decide +kernel
theorem dX7_asks_1 : decode cX7_asks 1 = .ok (.iconst 0, 1) := by decide +kernel
theorem dX7_asks_2 : decode cX7_asks 2 = .ok (.iconst 2, 1) := by decide +kernel
theorem dX7_asks_3 : decode cX7_asks 3 = .ok (.invokestatic 90, 3) := by decide +kernel
theorem dX7_asks_6 : decode cX7_asks 6 = .ok (.ifCond .eq 49, 3) := by decide +kernel
theorem dX7_asks_9 : decode cX7_asks 9 = .ok (.iload_n 2, 1) := by decide +kernel
theorem dX7_asks_10 : decode cX7_asks 10 = .ok (.iconst 0, 1) := by decide +kernel
theorem dX7_asks_11 : decode cX7_asks 11 = .ok (.sipush 999, 3) := by decide +kernel
theorem dX7_asks_14 : decode cX7_asks 14 = .ok (.invokestatic 90, 3) := by decide +kernel
theorem dX7_asks_17 : decode cX7_asks 17 = .ok (.ifCond .eq 38, 3) := by decide +kernel
theorem dX7_asks_20 : decode cX7_asks 20 = .ok (.iload_n 3, 1) := by decide +kernel
theorem dX7_asks_21 : decode cX7_asks 21 = .ok (.iconst 0, 1) := by decide +kernel
theorem dX7_asks_22 : decode cX7_asks 22 = .ok (.sipush 999, 3) := by decide +kernel
theorem dX7_asks_25 : decode cX7_asks 25 = .ok (.invokestatic 90, 3) := by decide +kernel
theorem dX7_asks_28 : decode cX7_asks 28 = .ok (.ifCond .eq 27, 3) := by decide +kernel
theorem dX7_asks_31 : decode cX7_asks 31 = .ok (.iload 4, 2) := by decide +kernel
theorem dX7_asks_33 : decode cX7_asks 33 = .ok (.iconst 0, 1) := by decide +kernel
theorem dX7_asks_34 : decode cX7_asks 34 = .ok (.bipush 91, 2) := by decide +kernel
theorem dX7_asks_36 : decode cX7_asks 36 = .ok (.invokestatic 90, 3) := by decide +kernel
theorem dX7_asks_39 : decode cX7_asks 39 = .ok (.ifCond .eq 16, 3) := by decide +kernel
theorem dX7_asks_42 : decode cX7_asks 42 = .ok (.iload 4, 2) := by decide +kernel
theorem dX7_asks_44 : decode cX7_asks 44 = .ok (.bipush 10, 2) := by decide +kernel
theorem dX7_asks_46 : decode cX7_asks 46 = .ok (.irem, 1) := by decide +kernel
theorem dX7_asks_47 : decode cX7_asks 47 = .ok (.iconst 2, 1) := by decide +kernel
theorem dX7_asks_48 : decode cX7_asks 48 = .ok (.if_icmp .ge 7, 3) := by decide +kernel
theorem dX7_asks_51 : decode cX7_asks 51 = .ok (.iconst 1, 1) := by decide +kernel
theorem dX7_asks_52 : decode cX7_asks 52 = .ok (.goto 4, 3) := by decide +kernel
theorem dX7_asks_55 : decode cX7_asks 55 = .ok (.iconst 0, 1) := by decide +kernel
theorem dX7_asks_56 : decode cX7_asks 56 = .ok (.istore 5, 2) := by decide +kernel
theorem dX7_asks_58 : decode cX7_asks 58 = .ok (.iload 5, 2) := by decide +kernel
theorem dX7_asks_60 : decode cX7_asks 60 = .ok (.ifCond .eq 23, 3) := by decide +kernel
theorem dX7_asks_63 : decode cX7_asks 63 = .ok (.aload_n 0, 1) := by decide +kernel
theorem dX7_asks_64 : decode cX7_asks 64 = .ok (.iload_n 1, 1) := by decide +kernel
theorem dX7_asks_65 : decode cX7_asks 65 = .ok (.iload_n 2, 1) := by decide +kernel
theorem dX7_asks_66 : decode cX7_asks 66 = .ok (.iload_n 3, 1) := by decide +kernel
theorem dX7_asks_67 : decode cX7_asks 67 = .ok (.iload 4, 2) := by decide +kernel
theorem dX7_asks_69 : decode cX7_asks 69 = .ok (.bipush 10, 2) := by decide +kernel
theorem dX7_asks_71 : decode cX7_asks 71 = .ok (.idiv, 1) := by decide +kernel
theorem dX7_asks_72 : decode cX7_asks 72 = .ok (.iload 4, 2) := by decide +kernel
theorem dX7_asks_74 : decode cX7_asks 74 = .ok (.bipush 10, 2) := by decide +kernel
theorem dX7_asks_76 : decode cX7_asks 76 = .ok (.irem, 1) := by decide +kernel
theorem dX7_asks_77 : decode cX7_asks 77 = .ok (.invokevirtual 176, 3) := by decide +kernel
theorem dX7_asks_80 : decode cX7_asks 80 = .ok (.goto 5, 3) := by decide +kernel
theorem dX7_asks_83 : decode cX7_asks 83 = .ok (.bipush (-2), 2) := by decide +kernel
theorem dX7_asks_85 : decode cX7_asks 85 = .ok (.ireturn, 1) := by decide +kernel
theorem dX7_laysAt_0 : decode cX7_laysAt 0 = .ok (.aload_n 0, 1) := by decide +kernel
theorem dX7_laysAt_1 : decode cX7_laysAt 1 = .ok (.getfield 94, 3) := by decide +kernel
theorem dX7_laysAt_4 : decode cX7_laysAt 4 = .ok (.istore_n 3, 1) := by decide +kernel
theorem dX7_laysAt_5 : decode cX7_laysAt 5 = .ok (.iload_n 3, 1) := by decide +kernel
theorem dX7_laysAt_6 : decode cX7_laysAt 6 = .ok (.iload_n 2, 1) := by decide +kernel
theorem dX7_laysAt_7 : decode cX7_laysAt 7 = .ok (.if_icmp .le 23, 3) := by decide +kernel
theorem dX7_laysAt_10 : decode cX7_laysAt 10 = .ok (.aload_n 0, 1) := by decide +kernel
theorem dX7_laysAt_11 : decode cX7_laysAt 11 = .ok (.getfield 19, 3) := by decide +kernel
theorem dX7_laysAt_14 : decode cX7_laysAt 14 = .ok (.iload_n 3, 1) := by decide +kernel
theorem dX7_laysAt_15 : decode cX7_laysAt 15 = .ok (.aload_n 0, 1) := by decide +kernel
theorem dX7_laysAt_16 : decode cX7_laysAt 16 = .ok (.getfield 19, 3) := by decide +kernel
theorem dX7_laysAt_19 : decode cX7_laysAt 19 = .ok (.iload_n 3, 1) := by decide +kernel
theorem dX7_laysAt_20 : decode cX7_laysAt 20 = .ok (.iconst 1, 1) := by decide +kernel
theorem dX7_laysAt_21 : decode cX7_laysAt 21 = .ok (.isub, 1) := by decide +kernel
theorem dX7_laysAt_22 : decode cX7_laysAt 22 = .ok (.iaload, 1) := by decide +kernel
theorem dX7_laysAt_23 : decode cX7_laysAt 23 = .ok (.iastore, 1) := by decide +kernel
theorem dX7_laysAt_24 : decode cX7_laysAt 24 = .ok (.iinc 3 (-1), 3) := by decide +kernel
theorem dX7_laysAt_27 : decode cX7_laysAt 27 = .ok (.goto (-22), 3) := by decide +kernel
theorem dX7_laysAt_30 : decode cX7_laysAt 30 = .ok (.aload_n 0, 1) := by decide +kernel
theorem dX7_laysAt_31 : decode cX7_laysAt 31 = .ok (.getfield 19, 3) := by decide +kernel
theorem dX7_laysAt_34 : decode cX7_laysAt 34 = .ok (.iload_n 2, 1) := by decide +kernel
theorem dX7_laysAt_35 : decode cX7_laysAt 35 = .ok (.iload_n 1, 1) := by decide +kernel
theorem dX7_laysAt_36 : decode cX7_laysAt 36 = .ok (.iastore, 1) := by decide +kernel
theorem dX7_laysAt_37 : decode cX7_laysAt 37 = .ok (.aload_n 0, 1) := by decide +kernel
theorem dX7_laysAt_38 : decode cX7_laysAt 38 = .ok (.dup, 1) := by decide +kernel
theorem dX7_laysAt_39 : decode cX7_laysAt 39 = .ok (.getfield 94, 3) := by decide +kernel
theorem dX7_laysAt_42 : decode cX7_laysAt 42 = .ok (.iconst 1, 1) := by decide +kernel
theorem dX7_laysAt_43 : decode cX7_laysAt 43 = .ok (.iadd, 1) := by decide +kernel
theorem dX7_laysAt_44 : decode cX7_laysAt 44 = .ok (.putfield 94, 3) := by decide +kernel
theorem dX7_laysAt_47 : decode cX7_laysAt 47 = .ok (.return_, 1) := by decide +kernel
theorem dX7_lays_0 : decode cX7_lays 0 = .ok (.aload_n 0, 1) := by decide +kernel
theorem dX7_lays_1 : decode cX7_lays 1 = .ok (.getfield 22, 3) := by decide +kernel
theorem dX7_lays_4 : decode cX7_lays 4 = .ok (.iconst 3, 1) := by decide +kernel
theorem dX7_lays_5 : decode cX7_lays 5 = .ok (.iaload, 1) := by decide +kernel
theorem dX7_lays_6 : decode cX7_lays 6 = .ok (.iconst 1, 1) := by decide +kernel
theorem dX7_lays_7 : decode cX7_lays 7 = .ok (.if_icmp .ne 10, 3) := by decide +kernel
theorem dX7_lays_10 : decode cX7_lays 10 = .ok (.aload_n 0, 1) := by decide +kernel
theorem dX7_lays_11 : decode cX7_lays 11 = .ok (.getfield 94, 3) := by decide +kernel
theorem dX7_lays_14 : decode cX7_lays 14 = .ok (.goto 4, 3) := by decide +kernel
theorem dX7_lays_17 : decode cX7_lays 17 = .ok (.iconst 0, 1) := by decide +kernel
theorem dX7_lays_18 : decode cX7_lays 18 = .ok (.istore_n 2, 1) := by decide +kernel
theorem dX7_lays_19 : decode cX7_lays 19 = .ok (.aload_n 0, 1) := by decide +kernel
theorem dX7_lays_20 : decode cX7_lays 20 = .ok (.getfield 22, 3) := by decide +kernel
theorem dX7_lays_23 : decode cX7_lays 23 = .ok (.iconst 3, 1) := by decide +kernel
theorem dX7_lays_24 : decode cX7_lays 24 = .ok (.iaload, 1) := by decide +kernel
theorem dX7_lays_25 : decode cX7_lays 25 = .ok (.iconst 2, 1) := by decide +kernel
theorem dX7_lays_26 : decode cX7_lays 26 = .ok (.if_icmp .ne 33, 3) := by decide +kernel
theorem dX7_lays_29 : decode cX7_lays 29 = .ok (.iload_n 2, 1) := by decide +kernel
theorem dX7_lays_30 : decode cX7_lays 30 = .ok (.aload_n 0, 1) := by decide +kernel
theorem dX7_lays_31 : decode cX7_lays 31 = .ok (.getfield 94, 3) := by decide +kernel
theorem dX7_lays_34 : decode cX7_lays 34 = .ok (.if_icmp .ge 25, 3) := by decide +kernel
theorem dX7_lays_37 : decode cX7_lays 37 = .ok (.aload_n 0, 1) := by decide +kernel
theorem dX7_lays_38 : decode cX7_lays 38 = .ok (.getfield 19, 3) := by decide +kernel
theorem dX7_lays_41 : decode cX7_lays 41 = .ok (.iload_n 2, 1) := by decide +kernel
theorem dX7_lays_42 : decode cX7_lays 42 = .ok (.iconst 0, 1) := by decide +kernel
theorem dX7_lays_43 : decode cX7_lays 43 = .ok (.bipush 8, 2) := by decide +kernel
theorem dX7_lays_45 : decode cX7_lays 45 = .ok (.invokestatic 173, 3) := by decide +kernel
theorem dX7_lays_48 : decode cX7_lays 48 = .ok (.iaload, 1) := by decide +kernel
theorem dX7_lays_49 : decode cX7_lays 49 = .ok (.iload_n 1, 1) := by decide +kernel
theorem dX7_lays_50 : decode cX7_lays 50 = .ok (.if_icmp .ge 9, 3) := by decide +kernel
theorem dX7_lays_53 : decode cX7_lays 53 = .ok (.iinc 2 1, 3) := by decide +kernel
theorem dX7_lays_56 : decode cX7_lays 56 = .ok (.goto (-37), 3) := by decide +kernel
theorem dX7_lays_59 : decode cX7_lays 59 = .ok (.aload_n 0, 1) := by decide +kernel
theorem dX7_lays_60 : decode cX7_lays 60 = .ok (.iload_n 1, 1) := by decide +kernel
theorem dX7_lays_61 : decode cX7_lays 61 = .ok (.iload_n 2, 1) := by decide +kernel
theorem dX7_lays_62 : decode cX7_lays 62 = .ok (.invokevirtual 180, 3) := by decide +kernel
theorem dX7_lays_65 : decode cX7_lays 65 = .ok (.return_, 1) := by decide +kernel
theorem dX7_takesFrom_0 : decode cX7_takesFrom 0 = .ok (.aload_n 0, 1) := by decide +kernel
theorem dX7_takesFrom_1 : decode cX7_takesFrom 1 = .ok (.getfield 19, 3) := by decide +kernel
theorem dX7_takesFrom_4 : decode cX7_takesFrom 4 = .ok (.iload_n 1, 1) := by decide +kernel
theorem dX7_takesFrom_5 : decode cX7_takesFrom 5 = .ok (.iaload, 1) := by decide +kernel
theorem dX7_takesFrom_6 : decode cX7_takesFrom 6 = .ok (.istore_n 2, 1) := by decide +kernel
theorem dX7_takesFrom_7 : decode cX7_takesFrom 7 = .ok (.aload_n 0, 1) := by decide +kernel
theorem dX7_takesFrom_8 : decode cX7_takesFrom 8 = .ok (.dup, 1) := by decide +kernel
theorem dX7_takesFrom_9 : decode cX7_takesFrom 9 = .ok (.getfield 94, 3) := by decide +kernel
theorem dX7_takesFrom_12 : decode cX7_takesFrom 12 = .ok (.iconst 1, 1) := by decide +kernel
theorem dX7_takesFrom_13 : decode cX7_takesFrom 13 = .ok (.isub, 1) := by decide +kernel
theorem dX7_takesFrom_14 : decode cX7_takesFrom 14 = .ok (.putfield 94, 3) := by decide +kernel
theorem dX7_takesFrom_17 : decode cX7_takesFrom 17 = .ok (.iload_n 1, 1) := by decide +kernel
theorem dX7_takesFrom_18 : decode cX7_takesFrom 18 = .ok (.istore_n 3, 1) := by decide +kernel
theorem dX7_takesFrom_19 : decode cX7_takesFrom 19 = .ok (.iload_n 3, 1) := by decide +kernel
theorem dX7_takesFrom_20 : decode cX7_takesFrom 20 = .ok (.aload_n 0, 1) := by decide +kernel
theorem dX7_takesFrom_21 : decode cX7_takesFrom 21 = .ok (.getfield 94, 3) := by decide +kernel
theorem dX7_takesFrom_24 : decode cX7_takesFrom 24 = .ok (.if_icmp .ge 23, 3) := by decide +kernel
theorem dX7_takesFrom_27 : decode cX7_takesFrom 27 = .ok (.aload_n 0, 1) := by decide +kernel
theorem dX7_takesFrom_28 : decode cX7_takesFrom 28 = .ok (.getfield 19, 3) := by decide +kernel
theorem dX7_takesFrom_31 : decode cX7_takesFrom 31 = .ok (.iload_n 3, 1) := by decide +kernel
theorem dX7_takesFrom_32 : decode cX7_takesFrom 32 = .ok (.aload_n 0, 1) := by decide +kernel
theorem dX7_takesFrom_33 : decode cX7_takesFrom 33 = .ok (.getfield 19, 3) := by decide +kernel
theorem dX7_takesFrom_36 : decode cX7_takesFrom 36 = .ok (.iload_n 3, 1) := by decide +kernel
theorem dX7_takesFrom_37 : decode cX7_takesFrom 37 = .ok (.iconst 1, 1) := by decide +kernel
theorem dX7_takesFrom_38 : decode cX7_takesFrom 38 = .ok (.iadd, 1) := by decide +kernel
theorem dX7_takesFrom_39 : decode cX7_takesFrom 39 = .ok (.iaload, 1) := by decide +kernel
theorem dX7_takesFrom_40 : decode cX7_takesFrom 40 = .ok (.iastore, 1) := by decide +kernel
theorem dX7_takesFrom_41 : decode cX7_takesFrom 41 = .ok (.iinc 3 1, 3) := by decide +kernel
theorem dX7_takesFrom_44 : decode cX7_takesFrom 44 = .ok (.goto (-25), 3) := by decide +kernel
theorem dX7_takesFrom_47 : decode cX7_takesFrom 47 = .ok (.iload_n 2, 1) := by decide +kernel
theorem dX7_takesFrom_48 : decode cX7_takesFrom 48 = .ok (.ireturn, 1) := by decide +kernel
theorem dX7_placeBy_0 : decode cX7_placeBy 0 = .ok (.iload_n 1, 1) := by decide +kernel
theorem dX7_placeBy_1 : decode cX7_placeBy 1 = .ok (.iconst 1, 1) := by decide +kernel
theorem dX7_placeBy_2 : decode cX7_placeBy 2 = .ok (.if_icmp .ne 12, 3) := by decide +kernel
theorem dX7_placeBy_5 : decode cX7_placeBy 5 = .ok (.aload_n 0, 1) := by decide +kernel
theorem dX7_placeBy_6 : decode cX7_placeBy 6 = .ok (.getfield 94, 3) := by decide +kernel
theorem dX7_placeBy_9 : decode cX7_placeBy 9 = .ok (.iconst 1, 1) := by decide +kernel
theorem dX7_placeBy_10 : decode cX7_placeBy 10 = .ok (.isub, 1) := by decide +kernel
theorem dX7_placeBy_11 : decode cX7_placeBy 11 = .ok (.goto 4, 3) := by decide +kernel
theorem dX7_placeBy_14 : decode cX7_placeBy 14 = .ok (.iconst 0, 1) := by decide +kernel
theorem dX7_placeBy_15 : decode cX7_placeBy 15 = .ok (.istore_n 2, 1) := by decide +kernel
theorem dX7_placeBy_16 : decode cX7_placeBy 16 = .ok (.iconst 1, 1) := by decide +kernel
theorem dX7_placeBy_17 : decode cX7_placeBy 17 = .ok (.istore_n 3, 1) := by decide +kernel
theorem dX7_placeBy_18 : decode cX7_placeBy 18 = .ok (.iload_n 3, 1) := by decide +kernel
theorem dX7_placeBy_19 : decode cX7_placeBy 19 = .ok (.aload_n 0, 1) := by decide +kernel
theorem dX7_placeBy_20 : decode cX7_placeBy 20 = .ok (.getfield 94, 3) := by decide +kernel
theorem dX7_placeBy_23 : decode cX7_placeBy 23 = .ok (.if_icmp .ge 90, 3) := by decide +kernel
theorem dX7_placeBy_26 : decode cX7_placeBy 26 = .ok (.iload_n 1, 1) := by decide +kernel
theorem dX7_placeBy_27 : decode cX7_placeBy 27 = .ok (.iconst 1, 1) := by decide +kernel
theorem dX7_placeBy_28 : decode cX7_placeBy 28 = .ok (.if_icmp .le 85, 3) := by decide +kernel
theorem dX7_placeBy_31 : decode cX7_placeBy 31 = .ok (.bipush 6, 2) := by decide +kernel
theorem dX7_placeBy_33 : decode cX7_placeBy 33 = .ok (.aload_n 0, 1) := by decide +kernel
theorem dX7_placeBy_34 : decode cX7_placeBy 34 = .ok (.getfield 19, 3) := by decide +kernel
theorem dX7_placeBy_37 : decode cX7_placeBy 37 = .ok (.iload_n 3, 1) := by decide +kernel
theorem dX7_placeBy_38 : decode cX7_placeBy 38 = .ok (.iaload, 1) := by decide +kernel
theorem dX7_placeBy_39 : decode cX7_placeBy 39 = .ok (.imul, 1) := by decide +kernel
theorem dX7_placeBy_40 : decode cX7_placeBy 40 = .ok (.istore 4, 2) := by decide +kernel
theorem dX7_placeBy_42 : decode cX7_placeBy 42 = .ok (.bipush 6, 2) := by decide +kernel
theorem dX7_placeBy_44 : decode cX7_placeBy 44 = .ok (.aload_n 0, 1) := by decide +kernel
theorem dX7_placeBy_45 : decode cX7_placeBy 45 = .ok (.getfield 19, 3) := by decide +kernel
theorem dX7_placeBy_48 : decode cX7_placeBy 48 = .ok (.iload_n 2, 1) := by decide +kernel
theorem dX7_placeBy_49 : decode cX7_placeBy 49 = .ok (.iaload, 1) := by decide +kernel
theorem dX7_placeBy_50 : decode cX7_placeBy 50 = .ok (.imul, 1) := by decide +kernel
theorem dX7_placeBy_51 : decode cX7_placeBy 51 = .ok (.istore 5, 2) := by decide +kernel
theorem dX7_placeBy_53 : decode cX7_placeBy 53 = .ok (.iload_n 1, 1) := by decide +kernel
theorem dX7_placeBy_54 : decode cX7_placeBy 54 = .ok (.iconst 2, 1) := by decide +kernel
theorem dX7_placeBy_55 : decode cX7_placeBy 55 = .ok (.if_icmp .ne 20, 3) := by decide +kernel
theorem dX7_placeBy_58 : decode cX7_placeBy 58 = .ok (.aload_n 0, 1) := by decide +kernel
theorem dX7_placeBy_59 : decode cX7_placeBy 59 = .ok (.getfield 16, 3) := by decide +kernel
theorem dX7_placeBy_62 : decode cX7_placeBy 62 = .ok (.iload 4, 2) := by decide +kernel
theorem dX7_placeBy_64 : decode cX7_placeBy 64 = .ok (.iaload, 1) := by decide +kernel
theorem dX7_placeBy_65 : decode cX7_placeBy 65 = .ok (.aload_n 0, 1) := by decide +kernel
theorem dX7_placeBy_66 : decode cX7_placeBy 66 = .ok (.getfield 16, 3) := by decide +kernel
theorem dX7_placeBy_69 : decode cX7_placeBy 69 = .ok (.iload 5, 2) := by decide +kernel
theorem dX7_placeBy_71 : decode cX7_placeBy 71 = .ok (.iaload, 1) := by decide +kernel
theorem dX7_placeBy_72 : decode cX7_placeBy 72 = .ok (.if_icmp .lt 29, 3) := by decide +kernel
theorem dX7_placeBy_75 : decode cX7_placeBy 75 = .ok (.iload_n 1, 1) := by decide +kernel
theorem dX7_placeBy_76 : decode cX7_placeBy 76 = .ok (.iconst 3, 1) := by decide +kernel
theorem dX7_placeBy_77 : decode cX7_placeBy 77 = .ok (.if_icmp .ne 28, 3) := by decide +kernel
theorem dX7_placeBy_80 : decode cX7_placeBy 80 = .ok (.aload_n 0, 1) := by decide +kernel
theorem dX7_placeBy_81 : decode cX7_placeBy 81 = .ok (.getfield 16, 3) := by decide +kernel
theorem dX7_placeBy_84 : decode cX7_placeBy 84 = .ok (.iload 4, 2) := by decide +kernel
theorem dX7_placeBy_86 : decode cX7_placeBy 86 = .ok (.iconst 2, 1) := by decide +kernel
theorem dX7_placeBy_87 : decode cX7_placeBy 87 = .ok (.iadd, 1) := by decide +kernel
theorem dX7_placeBy_88 : decode cX7_placeBy 88 = .ok (.iaload, 1) := by decide +kernel
theorem dX7_placeBy_89 : decode cX7_placeBy 89 = .ok (.aload_n 0, 1) := by decide +kernel
theorem dX7_placeBy_90 : decode cX7_placeBy 90 = .ok (.getfield 16, 3) := by decide +kernel
theorem dX7_placeBy_93 : decode cX7_placeBy 93 = .ok (.iload 5, 2) := by decide +kernel
theorem dX7_placeBy_95 : decode cX7_placeBy 95 = .ok (.iconst 2, 1) := by decide +kernel
theorem dX7_placeBy_96 : decode cX7_placeBy 96 = .ok (.iadd, 1) := by decide +kernel
theorem dX7_placeBy_97 : decode cX7_placeBy 97 = .ok (.iaload, 1) := by decide +kernel
theorem dX7_placeBy_98 : decode cX7_placeBy 98 = .ok (.if_icmp .le 7, 3) := by decide +kernel
theorem dX7_placeBy_101 : decode cX7_placeBy 101 = .ok (.iload_n 3, 1) := by decide +kernel
theorem dX7_placeBy_102 : decode cX7_placeBy 102 = .ok (.goto 4, 3) := by decide +kernel
theorem dX7_placeBy_105 : decode cX7_placeBy 105 = .ok (.iload_n 2, 1) := by decide +kernel
theorem dX7_placeBy_106 : decode cX7_placeBy 106 = .ok (.istore_n 2, 1) := by decide +kernel
theorem dX7_placeBy_107 : decode cX7_placeBy 107 = .ok (.iinc 3 1, 3) := by decide +kernel
theorem dX7_placeBy_110 : decode cX7_placeBy 110 = .ok (.goto (-92), 3) := by decide +kernel
theorem dX7_placeBy_113 : decode cX7_placeBy 113 = .ok (.iload_n 2, 1) := by decide +kernel
theorem dX7_placeBy_114 : decode cX7_placeBy 114 = .ok (.ireturn, 1) := by decide +kernel
theorem dX7_placeOf_0 : decode cX7_placeOf 0 = .ok (.iconst 0, 1) := by decide +kernel
theorem dX7_placeOf_1 : decode cX7_placeOf 1 = .ok (.istore_n 2, 1) := by decide +kernel
theorem dX7_placeOf_2 : decode cX7_placeOf 2 = .ok (.iload_n 2, 1) := by decide +kernel
theorem dX7_placeOf_3 : decode cX7_placeOf 3 = .ok (.aload_n 0, 1) := by decide +kernel
theorem dX7_placeOf_4 : decode cX7_placeOf 4 = .ok (.getfield 94, 3) := by decide +kernel
theorem dX7_placeOf_7 : decode cX7_placeOf 7 = .ok (.if_icmp .ge 21, 3) := by decide +kernel
theorem dX7_placeOf_10 : decode cX7_placeOf 10 = .ok (.aload_n 0, 1) := by decide +kernel
theorem dX7_placeOf_11 : decode cX7_placeOf 11 = .ok (.getfield 19, 3) := by decide +kernel
theorem dX7_placeOf_14 : decode cX7_placeOf 14 = .ok (.iload_n 2, 1) := by decide +kernel
theorem dX7_placeOf_15 : decode cX7_placeOf 15 = .ok (.iaload, 1) := by decide +kernel
theorem dX7_placeOf_16 : decode cX7_placeOf 16 = .ok (.iload_n 1, 1) := by decide +kernel
theorem dX7_placeOf_17 : decode cX7_placeOf 17 = .ok (.if_icmp .ne 5, 3) := by decide +kernel
theorem dX7_placeOf_20 : decode cX7_placeOf 20 = .ok (.iload_n 2, 1) := by decide +kernel
theorem dX7_placeOf_21 : decode cX7_placeOf 21 = .ok (.ireturn, 1) := by decide +kernel
theorem dX7_placeOf_22 : decode cX7_placeOf 22 = .ok (.iinc 2 1, 3) := by decide +kernel
theorem dX7_placeOf_25 : decode cX7_placeOf 25 = .ok (.goto (-23), 3) := by decide +kernel
theorem dX7_placeOf_28 : decode cX7_placeOf 28 = .ok (.iconst (-1), 1) := by decide +kernel
theorem dX7_placeOf_29 : decode cX7_placeOf 29 = .ok (.ireturn, 1) := by decide +kernel
theorem dX7_buy_0 : decode cX7_buy 0 = .ok (.iload_n 1, 1) := by decide +kernel
theorem dX7_buy_1 : decode cX7_buy 1 = .ok (.iconst 0, 1) := by decide +kernel
theorem dX7_buy_2 : decode cX7_buy 2 = .ok (.bipush 59, 2) := by decide +kernel
theorem dX7_buy_4 : decode cX7_buy 4 = .ok (.invokestatic 90, 3) := by decide +kernel
theorem dX7_buy_7 : decode cX7_buy 7 = .ok (.ifCond .eq 14, 3) := by decide +kernel
theorem dX7_buy_10 : decode cX7_buy 10 = .ok (.iload_n 2, 1) := by decide +kernel
theorem dX7_buy_11 : decode cX7_buy 11 = .ok (.iconst 0, 1) := by decide +kernel
theorem dX7_buy_12 : decode cX7_buy 12 = .ok (.sipush 999, 3) := by decide +kernel
theorem dX7_buy_15 : decode cX7_buy 15 = .ok (.invokestatic 90, 3) := by decide +kernel
theorem dX7_buy_18 : decode cX7_buy 18 = .ok (.ifCond .ne 6, 3) := by decide +kernel
theorem dX7_buy_21 : decode cX7_buy 21 = .ok (.bipush (-2), 2) := by decide +kernel
theorem dX7_buy_23 : decode cX7_buy 23 = .ok (.ireturn, 1) := by decide +kernel
theorem dX7_buy_24 : decode cX7_buy 24 = .ok (.aload_n 0, 1) := by decide +kernel
theorem dX7_buy_25 : decode cX7_buy 25 = .ok (.getfield 87, 3) := by decide +kernel
theorem dX7_buy_28 : decode cX7_buy 28 = .ok (.bipush 8, 2) := by decide +kernel
theorem dX7_buy_30 : decode cX7_buy 30 = .ok (.if_icmp .ne 6, 3) := by decide +kernel
theorem dX7_buy_33 : decode cX7_buy 33 = .ok (.bipush (-4), 2) := by decide +kernel
theorem dX7_buy_35 : decode cX7_buy 35 = .ok (.ireturn, 1) := by decide +kernel
theorem dX7_buy_36 : decode cX7_buy 36 = .ok (.aload_n 0, 1) := by decide +kernel
theorem dX7_buy_37 : decode cX7_buy 37 = .ok (.getfield 7, 3) := by decide +kernel
theorem dX7_buy_40 : decode cX7_buy 40 = .ok (.aload_n 0, 1) := by decide +kernel
theorem dX7_buy_41 : decode cX7_buy 41 = .ok (.getfield 87, 3) := by decide +kernel
theorem dX7_buy_44 : decode cX7_buy 44 = .ok (.iload_n 1, 1) := by decide +kernel
theorem dX7_buy_45 : decode cX7_buy 45 = .ok (.bipush 10, 2) := by decide +kernel
theorem dX7_buy_47 : decode cX7_buy 47 = .ok (.idiv, 1) := by decide +kernel
theorem dX7_buy_48 : decode cX7_buy 48 = .ok (.iastore, 1) := by decide +kernel
theorem dX7_buy_49 : decode cX7_buy 49 = .ok (.aload_n 0, 1) := by decide +kernel
theorem dX7_buy_50 : decode cX7_buy 50 = .ok (.getfield 13, 3) := by decide +kernel
theorem dX7_buy_53 : decode cX7_buy 53 = .ok (.aload_n 0, 1) := by decide +kernel
theorem dX7_buy_54 : decode cX7_buy 54 = .ok (.getfield 87, 3) := by decide +kernel
theorem dX7_buy_57 : decode cX7_buy 57 = .ok (.iload_n 1, 1) := by decide +kernel
theorem dX7_buy_58 : decode cX7_buy 58 = .ok (.bipush 10, 2) := by decide +kernel
theorem dX7_buy_60 : decode cX7_buy 60 = .ok (.irem, 1) := by decide +kernel
theorem dX7_buy_61 : decode cX7_buy 61 = .ok (.iastore, 1) := by decide +kernel
theorem dX7_buy_62 : decode cX7_buy 62 = .ok (.iconst 0, 1) := by decide +kernel
theorem dX7_buy_63 : decode cX7_buy 63 = .ok (.istore_n 3, 1) := by decide +kernel
theorem dX7_buy_64 : decode cX7_buy 64 = .ok (.iload_n 3, 1) := by decide +kernel
theorem dX7_buy_65 : decode cX7_buy 65 = .ok (.bipush 6, 2) := by decide +kernel
theorem dX7_buy_67 : decode cX7_buy 67 = .ok (.if_icmp .ge 32, 3) := by decide +kernel
theorem dX7_buy_70 : decode cX7_buy 70 = .ok (.aload_n 0, 1) := by decide +kernel
theorem dX7_buy_71 : decode cX7_buy 71 = .ok (.getfield 16, 3) := by decide +kernel
theorem dX7_buy_74 : decode cX7_buy 74 = .ok (.bipush 6, 2) := by decide +kernel
theorem dX7_buy_76 : decode cX7_buy 76 = .ok (.aload_n 0, 1) := by decide +kernel
theorem dX7_buy_77 : decode cX7_buy 77 = .ok (.getfield 87, 3) := by decide +kernel
theorem dX7_buy_80 : decode cX7_buy 80 = .ok (.imul, 1) := by decide +kernel
theorem dX7_buy_81 : decode cX7_buy 81 = .ok (.iload_n 3, 1) := by decide +kernel
theorem dX7_buy_82 : decode cX7_buy 82 = .ok (.iadd, 1) := by decide +kernel
theorem dX7_buy_83 : decode cX7_buy 83 = .ok (.iload_n 3, 1) := by decide +kernel
theorem dX7_buy_84 : decode cX7_buy 84 = .ok (.ifCond .ne 7, 3) := by decide +kernel
theorem dX7_buy_87 : decode cX7_buy 87 = .ok (.iload_n 2, 1) := by decide +kernel
theorem dX7_buy_88 : decode cX7_buy 88 = .ok (.goto 4, 3) := by decide +kernel
theorem dX7_buy_91 : decode cX7_buy 91 = .ok (.iconst 0, 1) := by decide +kernel
theorem dX7_buy_92 : decode cX7_buy 92 = .ok (.iastore, 1) := by decide +kernel
theorem dX7_buy_93 : decode cX7_buy 93 = .ok (.iinc 3 1, 3) := by decide +kernel
theorem dX7_buy_96 : decode cX7_buy 96 = .ok (.goto (-32), 3) := by decide +kernel
theorem dX7_buy_99 : decode cX7_buy 99 = .ok (.aload_n 0, 1) := by decide +kernel
theorem dX7_buy_100 : decode cX7_buy 100 = .ok (.aload_n 0, 1) := by decide +kernel
theorem dX7_buy_101 : decode cX7_buy 101 = .ok (.getfield 87, 3) := by decide +kernel
theorem dX7_buy_104 : decode cX7_buy 104 = .ok (.invokevirtual 184, 3) := by decide +kernel
theorem dX7_buy_107 : decode cX7_buy 107 = .ok (.aload_n 0, 1) := by decide +kernel
theorem dX7_buy_108 : decode cX7_buy 108 = .ok (.dup, 1) := by decide +kernel
theorem dX7_buy_109 : decode cX7_buy 109 = .ok (.getfield 87, 3) := by decide +kernel
theorem dX7_buy_112 : decode cX7_buy 112 = .ok (.iconst 1, 1) := by decide +kernel
theorem dX7_buy_113 : decode cX7_buy 113 = .ok (.iadd, 1) := by decide +kernel
theorem dX7_buy_114 : decode cX7_buy 114 = .ok (.putfield 87, 3) := by decide +kernel
theorem dX7_buy_117 : decode cX7_buy 117 = .ok (.aload_n 0, 1) := by decide +kernel
theorem dX7_buy_118 : decode cX7_buy 118 = .ok (.getfield 87, 3) := by decide +kernel
theorem dX7_buy_121 : decode cX7_buy 121 = .ok (.iconst 1, 1) := by decide +kernel
theorem dX7_buy_122 : decode cX7_buy 122 = .ok (.isub, 1) := by decide +kernel
theorem dX7_buy_123 : decode cX7_buy 123 = .ok (.ireturn, 1) := by decide +kernel
theorem dX7_lastsOf_0 : decode cX7_lastsOf 0 = .ok (.aload_n 0, 1) := by decide +kernel
theorem dX7_lastsOf_1 : decode cX7_lastsOf 1 = .ok (.getfield 13, 3) := by decide +kernel
theorem dX7_lastsOf_4 : decode cX7_lastsOf 4 = .ok (.iload_n 1, 1) := by decide +kernel
theorem dX7_lastsOf_5 : decode cX7_lastsOf 5 = .ok (.iaload, 1) := by decide +kernel
theorem dX7_lastsOf_6 : decode cX7_lastsOf 6 = .ok (.istore_n 2, 1) := by decide +kernel
theorem dX7_lastsOf_7 : decode cX7_lastsOf 7 = .ok (.aload_n 0, 1) := by decide +kernel
theorem dX7_lastsOf_8 : decode cX7_lastsOf 8 = .ok (.getfield 7, 3) := by decide +kernel
theorem dX7_lastsOf_11 : decode cX7_lastsOf 11 = .ok (.iload_n 1, 1) := by decide +kernel
theorem dX7_lastsOf_12 : decode cX7_lastsOf 12 = .ok (.iaload, 1) := by decide +kernel
theorem dX7_lastsOf_13 : decode cX7_lastsOf 13 = .ok (.tableswitch 67 2 5 #[31, 40, 49, 58], 31) := by decide +kernel
theorem dX7_lastsOf_44 : decode cX7_lastsOf 44 = .ok (.sipush 400, 3) := by decide +kernel
theorem dX7_lastsOf_47 : decode cX7_lastsOf 47 = .ok (.bipush 20, 2) := by decide +kernel
theorem dX7_lastsOf_49 : decode cX7_lastsOf 49 = .ok (.iload_n 2, 1) := by decide +kernel
theorem dX7_lastsOf_50 : decode cX7_lastsOf 50 = .ok (.imul, 1) := by decide +kernel
theorem dX7_lastsOf_51 : decode cX7_lastsOf 51 = .ok (.isub, 1) := by decide +kernel
theorem dX7_lastsOf_52 : decode cX7_lastsOf 52 = .ok (.ireturn, 1) := by decide +kernel
theorem dX7_lastsOf_53 : decode cX7_lastsOf 53 = .ok (.sipush 400, 3) := by decide +kernel
theorem dX7_lastsOf_56 : decode cX7_lastsOf 56 = .ok (.bipush 10, 2) := by decide +kernel
theorem dX7_lastsOf_58 : decode cX7_lastsOf 58 = .ok (.iload_n 2, 1) := by decide +kernel
theorem dX7_lastsOf_59 : decode cX7_lastsOf 59 = .ok (.imul, 1) := by decide +kernel
theorem dX7_lastsOf_60 : decode cX7_lastsOf 60 = .ok (.iadd, 1) := by decide +kernel
theorem dX7_lastsOf_61 : decode cX7_lastsOf 61 = .ok (.ireturn, 1) := by decide +kernel
theorem dX7_lastsOf_62 : decode cX7_lastsOf 62 = .ok (.sipush 500, 3) := by decide +kernel
theorem dX7_lastsOf_65 : decode cX7_lastsOf 65 = .ok (.bipush 20, 2) := by decide +kernel
theorem dX7_lastsOf_67 : decode cX7_lastsOf 67 = .ok (.iload_n 2, 1) := by decide +kernel
theorem dX7_lastsOf_68 : decode cX7_lastsOf 68 = .ok (.imul, 1) := by decide +kernel
theorem dX7_lastsOf_69 : decode cX7_lastsOf 69 = .ok (.isub, 1) := by decide +kernel
theorem dX7_lastsOf_70 : decode cX7_lastsOf 70 = .ok (.ireturn, 1) := by decide +kernel
theorem dX7_lastsOf_71 : decode cX7_lastsOf 71 = .ok (.sipush 150, 3) := by decide +kernel
theorem dX7_lastsOf_74 : decode cX7_lastsOf 74 = .ok (.bipush 10, 2) := by decide +kernel
theorem dX7_lastsOf_76 : decode cX7_lastsOf 76 = .ok (.iload_n 2, 1) := by decide +kernel
theorem dX7_lastsOf_77 : decode cX7_lastsOf 77 = .ok (.imul, 1) := by decide +kernel
theorem dX7_lastsOf_78 : decode cX7_lastsOf 78 = .ok (.iadd, 1) := by decide +kernel
theorem dX7_lastsOf_79 : decode cX7_lastsOf 79 = .ok (.ireturn, 1) := by decide +kernel
theorem dX7_lastsOf_80 : decode cX7_lastsOf 80 = .ok (.sipush 400, 3) := by decide +kernel
theorem dX7_lastsOf_83 : decode cX7_lastsOf 83 = .ok (.ireturn, 1) := by decide +kernel
theorem dX7_wearsOf_0 : decode cX7_wearsOf 0 = .ok (.bipush 6, 2) := by decide +kernel
theorem dX7_wearsOf_2 : decode cX7_wearsOf 2 = .ok (.iload_n 1, 1) := by decide +kernel
theorem dX7_wearsOf_3 : decode cX7_wearsOf 3 = .ok (.imul, 1) := by decide +kernel
theorem dX7_wearsOf_4 : decode cX7_wearsOf 4 = .ok (.istore_n 2, 1) := by decide +kernel
theorem dX7_wearsOf_5 : decode cX7_wearsOf 5 = .ok (.aload_n 0, 1) := by decide +kernel
theorem dX7_wearsOf_6 : decode cX7_wearsOf 6 = .ok (.getfield 13, 3) := by decide +kernel
theorem dX7_wearsOf_9 : decode cX7_wearsOf 9 = .ok (.iload_n 1, 1) := by decide +kernel
theorem dX7_wearsOf_10 : decode cX7_wearsOf 10 = .ok (.iaload, 1) := by decide +kernel
theorem dX7_wearsOf_11 : decode cX7_wearsOf 11 = .ok (.istore_n 3, 1) := by decide +kernel
theorem dX7_wearsOf_12 : decode cX7_wearsOf 12 = .ok (.aload_n 0, 1) := by decide +kernel
theorem dX7_wearsOf_13 : decode cX7_wearsOf 13 = .ok (.iconst 0, 1) := by decide +kernel
theorem dX7_wearsOf_14 : decode cX7_wearsOf 14 = .ok (.aload_n 0, 1) := by decide +kernel
theorem dX7_wearsOf_15 : decode cX7_wearsOf 15 = .ok (.getfield 16, 3) := by decide +kernel
theorem dX7_wearsOf_18 : decode cX7_wearsOf 18 = .ok (.iload_n 2, 1) := by decide +kernel
theorem dX7_wearsOf_19 : decode cX7_wearsOf 19 = .ok (.iaload, 1) := by decide +kernel
theorem dX7_wearsOf_20 : decode cX7_wearsOf 20 = .ok (.aload_n 0, 1) := by decide +kernel
theorem dX7_wearsOf_21 : decode cX7_wearsOf 21 = .ok (.getfield 16, 3) := by decide +kernel
theorem dX7_wearsOf_24 : decode cX7_wearsOf 24 = .ok (.iload_n 2, 1) := by decide +kernel
theorem dX7_wearsOf_25 : decode cX7_wearsOf 25 = .ok (.iconst 2, 1) := by decide +kernel
theorem dX7_wearsOf_26 : decode cX7_wearsOf 26 = .ok (.iadd, 1) := by decide +kernel
theorem dX7_wearsOf_27 : decode cX7_wearsOf 27 = .ok (.iaload, 1) := by decide +kernel
theorem dX7_wearsOf_28 : decode cX7_wearsOf 28 = .ok (.iload_n 3, 1) := by decide +kernel
theorem dX7_wearsOf_29 : decode cX7_wearsOf 29 = .ok (.aload_n 0, 1) := by decide +kernel
theorem dX7_wearsOf_30 : decode cX7_wearsOf 30 = .ok (.getfield 16, 3) := by decide +kernel
theorem dX7_wearsOf_33 : decode cX7_wearsOf 33 = .ok (.iload_n 2, 1) := by decide +kernel
theorem dX7_wearsOf_34 : decode cX7_wearsOf 34 = .ok (.iconst 3, 1) := by decide +kernel
theorem dX7_wearsOf_35 : decode cX7_wearsOf 35 = .ok (.iadd, 1) := by decide +kernel
theorem dX7_wearsOf_36 : decode cX7_wearsOf 36 = .ok (.iaload, 1) := by decide +kernel
theorem dX7_wearsOf_37 : decode cX7_wearsOf 37 = .ok (.invokevirtual 176, 3) := by decide +kernel
theorem dX7_wearsOf_40 : decode cX7_wearsOf 40 = .ok (.istore 4, 2) := by decide +kernel
theorem dX7_wearsOf_42 : decode cX7_wearsOf 42 = .ok (.aload_n 0, 1) := by decide +kernel
theorem dX7_wearsOf_43 : decode cX7_wearsOf 43 = .ok (.getfield 7, 3) := by decide +kernel
theorem dX7_wearsOf_46 : decode cX7_wearsOf 46 = .ok (.iload_n 1, 1) := by decide +kernel
theorem dX7_wearsOf_47 : decode cX7_wearsOf 47 = .ok (.iaload, 1) := by decide +kernel
theorem dX7_wearsOf_48 : decode cX7_wearsOf 48 = .ok (.tableswitch 108 1 5 #[36, 47, 36, 72, 99], 36) := by decide +kernel
theorem dX7_wearsOf_84 : decode cX7_wearsOf 84 = .ok (.iload 4, 2) := by decide +kernel
theorem dX7_wearsOf_86 : decode cX7_wearsOf 86 = .ok (.iload_n 3, 1) := by decide +kernel
theorem dX7_wearsOf_87 : decode cX7_wearsOf 87 = .ok (.iconst 2, 1) := by decide +kernel
theorem dX7_wearsOf_88 : decode cX7_wearsOf 88 = .ok (.idiv, 1) := by decide +kernel
theorem dX7_wearsOf_89 : decode cX7_wearsOf 89 = .ok (.isub, 1) := by decide +kernel
theorem dX7_wearsOf_90 : decode cX7_wearsOf 90 = .ok (.istore 4, 2) := by decide +kernel
theorem dX7_wearsOf_92 : decode cX7_wearsOf 92 = .ok (.goto 64, 3) := by decide +kernel
theorem dX7_wearsOf_95 : decode cX7_wearsOf 95 = .ok (.iload 4, 2) := by decide +kernel
theorem dX7_wearsOf_97 : decode cX7_wearsOf 97 = .ok (.aload_n 0, 1) := by decide +kernel
theorem dX7_wearsOf_98 : decode cX7_wearsOf 98 = .ok (.getfield 16, 3) := by decide +kernel
theorem dX7_wearsOf_101 : decode cX7_wearsOf 101 = .ok (.iload_n 2, 1) := by decide +kernel
theorem dX7_wearsOf_102 : decode cX7_wearsOf 102 = .ok (.iaload, 1) := by decide +kernel
theorem dX7_wearsOf_103 : decode cX7_wearsOf 103 = .ok (.sipush 200, 3) := by decide +kernel
theorem dX7_wearsOf_106 : decode cX7_wearsOf 106 = .ok (.if_icmp .le 7, 3) := by decide +kernel
theorem dX7_wearsOf_109 : decode cX7_wearsOf 109 = .ok (.iload_n 3, 1) := by decide +kernel
theorem dX7_wearsOf_110 : decode cX7_wearsOf 110 = .ok (.goto 4, 3) := by decide +kernel
theorem dX7_wearsOf_113 : decode cX7_wearsOf 113 = .ok (.iconst 0, 1) := by decide +kernel
theorem dX7_wearsOf_114 : decode cX7_wearsOf 114 = .ok (.iadd, 1) := by decide +kernel
theorem dX7_wearsOf_115 : decode cX7_wearsOf 115 = .ok (.istore 4, 2) := by decide +kernel
theorem dX7_wearsOf_117 : decode cX7_wearsOf 117 = .ok (.goto 39, 3) := by decide +kernel
theorem dX7_wearsOf_120 : decode cX7_wearsOf 120 = .ok (.iload 4, 2) := by decide +kernel
theorem dX7_wearsOf_122 : decode cX7_wearsOf 122 = .ok (.aload_n 0, 1) := by decide +kernel
theorem dX7_wearsOf_123 : decode cX7_wearsOf 123 = .ok (.getfield 16, 3) := by decide +kernel
theorem dX7_wearsOf_126 : decode cX7_wearsOf 126 = .ok (.iload_n 2, 1) := by decide +kernel
theorem dX7_wearsOf_127 : decode cX7_wearsOf 127 = .ok (.iaload, 1) := by decide +kernel
theorem dX7_wearsOf_128 : decode cX7_wearsOf 128 = .ok (.sipush 200, 3) := by decide +kernel
theorem dX7_wearsOf_131 : decode cX7_wearsOf 131 = .ok (.if_icmp .le 9, 3) := by decide +kernel
theorem dX7_wearsOf_134 : decode cX7_wearsOf 134 = .ok (.iload_n 3, 1) := by decide +kernel
theorem dX7_wearsOf_135 : decode cX7_wearsOf 135 = .ok (.iconst 2, 1) := by decide +kernel
theorem dX7_wearsOf_136 : decode cX7_wearsOf 136 = .ok (.iadd, 1) := by decide +kernel
theorem dX7_wearsOf_137 : decode cX7_wearsOf 137 = .ok (.goto 4, 3) := by decide +kernel
theorem dX7_wearsOf_140 : decode cX7_wearsOf 140 = .ok (.iconst 2, 1) := by decide +kernel
theorem dX7_wearsOf_141 : decode cX7_wearsOf 141 = .ok (.iadd, 1) := by decide +kernel
theorem dX7_wearsOf_142 : decode cX7_wearsOf 142 = .ok (.istore 4, 2) := by decide +kernel
theorem dX7_wearsOf_144 : decode cX7_wearsOf 144 = .ok (.goto 12, 3) := by decide +kernel
theorem dX7_wearsOf_147 : decode cX7_wearsOf 147 = .ok (.iload 4, 2) := by decide +kernel
theorem dX7_wearsOf_149 : decode cX7_wearsOf 149 = .ok (.iconst 2, 1) := by decide +kernel
theorem dX7_wearsOf_150 : decode cX7_wearsOf 150 = .ok (.idiv, 1) := by decide +kernel
theorem dX7_wearsOf_151 : decode cX7_wearsOf 151 = .ok (.istore 4, 2) := by decide +kernel
theorem dX7_wearsOf_153 : decode cX7_wearsOf 153 = .ok (.goto 3, 3) := by decide +kernel
theorem dX7_wearsOf_156 : decode cX7_wearsOf 156 = .ok (.iload 4, 2) := by decide +kernel
theorem dX7_wearsOf_158 : decode cX7_wearsOf 158 = .ok (.ifCond .ge 7, 3) := by decide +kernel
theorem dX7_wearsOf_161 : decode cX7_wearsOf 161 = .ok (.iconst 0, 1) := by decide +kernel
theorem dX7_wearsOf_162 : decode cX7_wearsOf 162 = .ok (.goto 5, 3) := by decide +kernel
theorem dX7_wearsOf_165 : decode cX7_wearsOf 165 = .ok (.iload 4, 2) := by decide +kernel
theorem dX7_wearsOf_167 : decode cX7_wearsOf 167 = .ok (.ireturn, 1) := by decide +kernel
theorem dX7_yellowsOf_0 : decode cX7_yellowsOf 0 = .ok (.bipush 6, 2) := by decide +kernel
theorem dX7_yellowsOf_2 : decode cX7_yellowsOf 2 = .ok (.iload_n 1, 1) := by decide +kernel
theorem dX7_yellowsOf_3 : decode cX7_yellowsOf 3 = .ok (.imul, 1) := by decide +kernel
theorem dX7_yellowsOf_4 : decode cX7_yellowsOf 4 = .ok (.istore_n 2, 1) := by decide +kernel
theorem dX7_yellowsOf_5 : decode cX7_yellowsOf 5 = .ok (.aload_n 0, 1) := by decide +kernel
theorem dX7_yellowsOf_6 : decode cX7_yellowsOf 6 = .ok (.iconst 1, 1) := by decide +kernel
theorem dX7_yellowsOf_7 : decode cX7_yellowsOf 7 = .ok (.aload_n 0, 1) := by decide +kernel
theorem dX7_yellowsOf_8 : decode cX7_yellowsOf 8 = .ok (.getfield 16, 3) := by decide +kernel
theorem dX7_yellowsOf_11 : decode cX7_yellowsOf 11 = .ok (.iload_n 2, 1) := by decide +kernel
theorem dX7_yellowsOf_12 : decode cX7_yellowsOf 12 = .ok (.iaload, 1) := by decide +kernel
theorem dX7_yellowsOf_13 : decode cX7_yellowsOf 13 = .ok (.aload_n 0, 1) := by decide +kernel
theorem dX7_yellowsOf_14 : decode cX7_yellowsOf 14 = .ok (.getfield 16, 3) := by decide +kernel
theorem dX7_yellowsOf_17 : decode cX7_yellowsOf 17 = .ok (.iload_n 2, 1) := by decide +kernel
theorem dX7_yellowsOf_18 : decode cX7_yellowsOf 18 = .ok (.iconst 2, 1) := by decide +kernel
theorem dX7_yellowsOf_19 : decode cX7_yellowsOf 19 = .ok (.iadd, 1) := by decide +kernel
theorem dX7_yellowsOf_20 : decode cX7_yellowsOf 20 = .ok (.iaload, 1) := by decide +kernel
theorem dX7_yellowsOf_21 : decode cX7_yellowsOf 21 = .ok (.aload_n 0, 1) := by decide +kernel
theorem dX7_yellowsOf_22 : decode cX7_yellowsOf 22 = .ok (.getfield 13, 3) := by decide +kernel
theorem dX7_yellowsOf_25 : decode cX7_yellowsOf 25 = .ok (.iload_n 1, 1) := by decide +kernel
theorem dX7_yellowsOf_26 : decode cX7_yellowsOf 26 = .ok (.iaload, 1) := by decide +kernel
theorem dX7_yellowsOf_27 : decode cX7_yellowsOf 27 = .ok (.aload_n 0, 1) := by decide +kernel
theorem dX7_yellowsOf_28 : decode cX7_yellowsOf 28 = .ok (.getfield 16, 3) := by decide +kernel
theorem dX7_yellowsOf_31 : decode cX7_yellowsOf 31 = .ok (.iload_n 2, 1) := by decide +kernel
theorem dX7_yellowsOf_32 : decode cX7_yellowsOf 32 = .ok (.iconst 3, 1) := by decide +kernel
theorem dX7_yellowsOf_33 : decode cX7_yellowsOf 33 = .ok (.iadd, 1) := by decide +kernel
theorem dX7_yellowsOf_34 : decode cX7_yellowsOf 34 = .ok (.iaload, 1) := by decide +kernel
theorem dX7_yellowsOf_35 : decode cX7_yellowsOf 35 = .ok (.invokevirtual 176, 3) := by decide +kernel
theorem dX7_yellowsOf_38 : decode cX7_yellowsOf 38 = .ok (.istore_n 3, 1) := by decide +kernel
theorem dX7_yellowsOf_39 : decode cX7_yellowsOf 39 = .ok (.aload_n 0, 1) := by decide +kernel
theorem dX7_yellowsOf_40 : decode cX7_yellowsOf 40 = .ok (.getfield 7, 3) := by decide +kernel
theorem dX7_yellowsOf_43 : decode cX7_yellowsOf 43 = .ok (.iload_n 1, 1) := by decide +kernel
theorem dX7_yellowsOf_44 : decode cX7_yellowsOf 44 = .ok (.iaload, 1) := by decide +kernel
theorem dX7_yellowsOf_45 : decode cX7_yellowsOf 45 = .ok (.iconst 1, 1) := by decide +kernel
theorem dX7_yellowsOf_46 : decode cX7_yellowsOf 46 = .ok (.if_icmp .ne 9, 3) := by decide +kernel
theorem dX7_yellowsOf_49 : decode cX7_yellowsOf 49 = .ok (.iload_n 3, 1) := by decide +kernel
theorem dX7_yellowsOf_50 : decode cX7_yellowsOf 50 = .ok (.iconst 1, 1) := by decide +kernel
theorem dX7_yellowsOf_51 : decode cX7_yellowsOf 51 = .ok (.iadd, 1) := by decide +kernel
theorem dX7_yellowsOf_52 : decode cX7_yellowsOf 52 = .ok (.goto 41, 3) := by decide +kernel
theorem dX7_yellowsOf_55 : decode cX7_yellowsOf 55 = .ok (.aload_n 0, 1) := by decide +kernel
theorem dX7_yellowsOf_56 : decode cX7_yellowsOf 56 = .ok (.getfield 7, 3) := by decide +kernel
theorem dX7_yellowsOf_59 : decode cX7_yellowsOf 59 = .ok (.iload_n 1, 1) := by decide +kernel
theorem dX7_yellowsOf_60 : decode cX7_yellowsOf 60 = .ok (.iaload, 1) := by decide +kernel
theorem dX7_yellowsOf_61 : decode cX7_yellowsOf 61 = .ok (.iconst 3, 1) := by decide +kernel
theorem dX7_yellowsOf_62 : decode cX7_yellowsOf 62 = .ok (.if_icmp .ne 30, 3) := by decide +kernel
theorem dX7_yellowsOf_65 : decode cX7_yellowsOf 65 = .ok (.aload_n 0, 1) := by decide +kernel
theorem dX7_yellowsOf_66 : decode cX7_yellowsOf 66 = .ok (.getfield 16, 3) := by decide +kernel
theorem dX7_yellowsOf_69 : decode cX7_yellowsOf 69 = .ok (.iload_n 2, 1) := by decide +kernel
theorem dX7_yellowsOf_70 : decode cX7_yellowsOf 70 = .ok (.iconst 2, 1) := by decide +kernel
theorem dX7_yellowsOf_71 : decode cX7_yellowsOf 71 = .ok (.iadd, 1) := by decide +kernel
theorem dX7_yellowsOf_72 : decode cX7_yellowsOf 72 = .ok (.iaload, 1) := by decide +kernel
theorem dX7_yellowsOf_73 : decode cX7_yellowsOf 73 = .ok (.bipush 10, 2) := by decide +kernel
theorem dX7_yellowsOf_75 : decode cX7_yellowsOf 75 = .ok (.if_icmp .le 11, 3) := by decide +kernel
theorem dX7_yellowsOf_78 : decode cX7_yellowsOf 78 = .ok (.iconst 2, 1) := by decide +kernel
theorem dX7_yellowsOf_79 : decode cX7_yellowsOf 79 = .ok (.iload_n 3, 1) := by decide +kernel
theorem dX7_yellowsOf_80 : decode cX7_yellowsOf 80 = .ok (.iconst 1, 1) := by decide +kernel
theorem dX7_yellowsOf_81 : decode cX7_yellowsOf 81 = .ok (.iadd, 1) := by decide +kernel
theorem dX7_yellowsOf_82 : decode cX7_yellowsOf 82 = .ok (.imul, 1) := by decide +kernel
theorem dX7_yellowsOf_83 : decode cX7_yellowsOf 83 = .ok (.goto 10, 3) := by decide +kernel
theorem dX7_yellowsOf_86 : decode cX7_yellowsOf 86 = .ok (.iload_n 3, 1) := by decide +kernel
theorem dX7_yellowsOf_87 : decode cX7_yellowsOf 87 = .ok (.iconst 1, 1) := by decide +kernel
theorem dX7_yellowsOf_88 : decode cX7_yellowsOf 88 = .ok (.iadd, 1) := by decide +kernel
theorem dX7_yellowsOf_89 : decode cX7_yellowsOf 89 = .ok (.goto 4, 3) := by decide +kernel
theorem dX7_yellowsOf_92 : decode cX7_yellowsOf 92 = .ok (.iload_n 3, 1) := by decide +kernel
theorem dX7_yellowsOf_93 : decode cX7_yellowsOf 93 = .ok (.ireturn, 1) := by decide +kernel
theorem dX7_told_0 : decode cX7_told 0 = .ok (.aload_n 0, 1) := by decide +kernel
theorem dX7_told_1 : decode cX7_told 1 = .ok (.iload_n 1, 1) := by decide +kernel
theorem dX7_told_2 : decode cX7_told 2 = .ok (.invokevirtual 187, 3) := by decide +kernel
theorem dX7_told_5 : decode cX7_told 5 = .ok (.ifCond .ne 6, 3) := by decide +kernel
theorem dX7_told_8 : decode cX7_told 8 = .ok (.bipush (-5), 2) := by decide +kernel
theorem dX7_told_10 : decode cX7_told 10 = .ok (.ireturn, 1) := by decide +kernel
theorem dX7_told_11 : decode cX7_told 11 = .ok (.iload_n 2, 1) := by decide +kernel
theorem dX7_told_12 : decode cX7_told 12 = .ok (.tableswitch 113 0 7 #[48, 55, 62, 62, 62, 62, 76, 107], 48) := by decide +kernel
theorem dX7_told_60 : decode cX7_told 60 = .ok (.aload_n 0, 1) := by decide +kernel
theorem dX7_told_61 : decode cX7_told 61 = .ok (.getfield 7, 3) := by decide +kernel
theorem dX7_told_64 : decode cX7_told 64 = .ok (.iload_n 1, 1) := by decide +kernel
theorem dX7_told_65 : decode cX7_told 65 = .ok (.iaload, 1) := by decide +kernel
theorem dX7_told_66 : decode cX7_told 66 = .ok (.ireturn, 1) := by decide +kernel
theorem dX7_told_67 : decode cX7_told 67 = .ok (.aload_n 0, 1) := by decide +kernel
theorem dX7_told_68 : decode cX7_told 68 = .ok (.getfield 13, 3) := by decide +kernel
theorem dX7_told_71 : decode cX7_told 71 = .ok (.iload_n 1, 1) := by decide +kernel
theorem dX7_told_72 : decode cX7_told 72 = .ok (.iaload, 1) := by decide +kernel
theorem dX7_told_73 : decode cX7_told 73 = .ok (.ireturn, 1) := by decide +kernel
theorem dX7_told_74 : decode cX7_told 74 = .ok (.aload_n 0, 1) := by decide +kernel
theorem dX7_told_75 : decode cX7_told 75 = .ok (.getfield 16, 3) := by decide +kernel
theorem dX7_told_78 : decode cX7_told 78 = .ok (.bipush 6, 2) := by decide +kernel
theorem dX7_told_80 : decode cX7_told 80 = .ok (.iload_n 1, 1) := by decide +kernel
theorem dX7_told_81 : decode cX7_told 81 = .ok (.imul, 1) := by decide +kernel
theorem dX7_told_82 : decode cX7_told 82 = .ok (.iload_n 2, 1) := by decide +kernel
theorem dX7_told_83 : decode cX7_told 83 = .ok (.iadd, 1) := by decide +kernel
theorem dX7_told_84 : decode cX7_told 84 = .ok (.iconst 2, 1) := by decide +kernel
theorem dX7_told_85 : decode cX7_told 85 = .ok (.isub, 1) := by decide +kernel
theorem dX7_told_86 : decode cX7_told 86 = .ok (.iaload, 1) := by decide +kernel
theorem dX7_told_87 : decode cX7_told 87 = .ok (.ireturn, 1) := by decide +kernel
theorem dX7_told_88 : decode cX7_told 88 = .ok (.aload_n 0, 1) := by decide +kernel
theorem dX7_told_89 : decode cX7_told 89 = .ok (.getfield 16, 3) := by decide +kernel
theorem dX7_told_92 : decode cX7_told 92 = .ok (.bipush 6, 2) := by decide +kernel
theorem dX7_told_94 : decode cX7_told 94 = .ok (.iload_n 1, 1) := by decide +kernel
theorem dX7_told_95 : decode cX7_told 95 = .ok (.imul, 1) := by decide +kernel
theorem dX7_told_96 : decode cX7_told 96 = .ok (.iconst 5, 1) := by decide +kernel
theorem dX7_told_97 : decode cX7_told 97 = .ok (.iadd, 1) := by decide +kernel
theorem dX7_told_98 : decode cX7_told 98 = .ok (.iaload, 1) := by decide +kernel
theorem dX7_told_99 : decode cX7_told 99 = .ok (.iconst 1, 1) := by decide +kernel
theorem dX7_told_100 : decode cX7_told 100 = .ok (.if_icmp .ne 7, 3) := by decide +kernel
theorem dX7_told_103 : decode cX7_told 103 = .ok (.iconst (-1), 1) := by decide +kernel
theorem dX7_told_104 : decode cX7_told 104 = .ok (.goto 14, 3) := by decide +kernel
theorem dX7_told_107 : decode cX7_told 107 = .ok (.aload_n 0, 1) := by decide +kernel
theorem dX7_told_108 : decode cX7_told 108 = .ok (.getfield 16, 3) := by decide +kernel
theorem dX7_told_111 : decode cX7_told 111 = .ok (.bipush 6, 2) := by decide +kernel
theorem dX7_told_113 : decode cX7_told 113 = .ok (.iload_n 1, 1) := by decide +kernel
theorem dX7_told_114 : decode cX7_told 114 = .ok (.imul, 1) := by decide +kernel
theorem dX7_told_115 : decode cX7_told 115 = .ok (.iconst 4, 1) := by decide +kernel
theorem dX7_told_116 : decode cX7_told 116 = .ok (.iadd, 1) := by decide +kernel
theorem dX7_told_117 : decode cX7_told 117 = .ok (.iaload, 1) := by decide +kernel
theorem dX7_told_118 : decode cX7_told 118 = .ok (.ireturn, 1) := by decide +kernel
theorem dX7_told_119 : decode cX7_told 119 = .ok (.aload_n 0, 1) := by decide +kernel
theorem dX7_told_120 : decode cX7_told 120 = .ok (.iload_n 1, 1) := by decide +kernel
theorem dX7_told_121 : decode cX7_told 121 = .ok (.invokevirtual 190, 3) := by decide +kernel
theorem dX7_told_124 : decode cX7_told 124 = .ok (.ireturn, 1) := by decide +kernel
theorem dX7_told_125 : decode cX7_told 125 = .ok (.bipush (-7), 2) := by decide +kernel
theorem dX7_told_127 : decode cX7_told 127 = .ok (.ireturn, 1) := by decide +kernel
theorem dX7_put_0 : decode cX7_put 0 = .ok (.aload_n 0, 1) := by decide +kernel
theorem dX7_put_1 : decode cX7_put 1 = .ok (.iload_n 1, 1) := by decide +kernel
theorem dX7_put_2 : decode cX7_put 2 = .ok (.invokevirtual 187, 3) := by decide +kernel
theorem dX7_put_5 : decode cX7_put 5 = .ok (.ifCond .ne 6, 3) := by decide +kernel
theorem dX7_put_8 : decode cX7_put 8 = .ok (.bipush (-5), 2) := by decide +kernel
theorem dX7_put_10 : decode cX7_put 10 = .ok (.ireturn, 1) := by decide +kernel
theorem dX7_put_11 : decode cX7_put 11 = .ok (.iload_n 2, 1) := by decide +kernel
theorem dX7_put_12 : decode cX7_put 12 = .ok (.iconst 0, 1) := by decide +kernel
theorem dX7_put_13 : decode cX7_put 13 = .ok (.iconst 2, 1) := by decide +kernel
theorem dX7_put_14 : decode cX7_put 14 = .ok (.invokestatic 90, 3) := by decide +kernel
theorem dX7_put_17 : decode cX7_put 17 = .ok (.ifCond .eq 24, 3) := by decide +kernel
theorem dX7_put_20 : decode cX7_put 20 = .ok (.iload_n 3, 1) := by decide +kernel
theorem dX7_put_21 : decode cX7_put 21 = .ok (.iconst 0, 1) := by decide +kernel
theorem dX7_put_22 : decode cX7_put 22 = .ok (.iload_n 2, 1) := by decide +kernel
theorem dX7_put_23 : decode cX7_put 23 = .ok (.iconst 1, 1) := by decide +kernel
theorem dX7_put_24 : decode cX7_put 24 = .ok (.if_icmp .ne 8, 3) := by decide +kernel
theorem dX7_put_27 : decode cX7_put 27 = .ok (.bipush 99, 2) := by decide +kernel
theorem dX7_put_29 : decode cX7_put 29 = .ok (.goto 6, 3) := by decide +kernel
theorem dX7_put_32 : decode cX7_put 32 = .ok (.sipush 999, 3) := by decide +kernel
theorem dX7_put_35 : decode cX7_put 35 = .ok (.invokestatic 90, 3) := by decide +kernel
theorem dX7_put_38 : decode cX7_put 38 = .ok (.ifCond .ne 6, 3) := by decide +kernel
theorem dX7_put_41 : decode cX7_put 41 = .ok (.bipush (-7), 2) := by decide +kernel
theorem dX7_put_43 : decode cX7_put 43 = .ok (.ireturn, 1) := by decide +kernel
theorem dX7_put_44 : decode cX7_put 44 = .ok (.aload_n 0, 1) := by decide +kernel
theorem dX7_put_45 : decode cX7_put 45 = .ok (.getfield 16, 3) := by decide +kernel
theorem dX7_put_48 : decode cX7_put 48 = .ok (.bipush 6, 2) := by decide +kernel
theorem dX7_put_50 : decode cX7_put 50 = .ok (.iload_n 1, 1) := by decide +kernel
theorem dX7_put_51 : decode cX7_put 51 = .ok (.imul, 1) := by decide +kernel
theorem dX7_put_52 : decode cX7_put 52 = .ok (.iload_n 2, 1) := by decide +kernel
theorem dX7_put_53 : decode cX7_put 53 = .ok (.iadd, 1) := by decide +kernel
theorem dX7_put_54 : decode cX7_put 54 = .ok (.iaload, 1) := by decide +kernel
theorem dX7_put_55 : decode cX7_put 55 = .ok (.istore 4, 2) := by decide +kernel
theorem dX7_put_57 : decode cX7_put 57 = .ok (.aload_n 0, 1) := by decide +kernel
theorem dX7_put_58 : decode cX7_put 58 = .ok (.getfield 16, 3) := by decide +kernel
theorem dX7_put_61 : decode cX7_put 61 = .ok (.bipush 6, 2) := by decide +kernel
theorem dX7_put_63 : decode cX7_put 63 = .ok (.iload_n 1, 1) := by decide +kernel
theorem dX7_put_64 : decode cX7_put 64 = .ok (.imul, 1) := by decide +kernel
theorem dX7_put_65 : decode cX7_put 65 = .ok (.iload_n 2, 1) := by decide +kernel
theorem dX7_put_66 : decode cX7_put 66 = .ok (.iadd, 1) := by decide +kernel
theorem dX7_put_67 : decode cX7_put 67 = .ok (.iload_n 3, 1) := by decide +kernel
theorem dX7_put_68 : decode cX7_put 68 = .ok (.iastore, 1) := by decide +kernel
theorem dX7_put_69 : decode cX7_put 69 = .ok (.iload 4, 2) := by decide +kernel
theorem dX7_put_71 : decode cX7_put 71 = .ok (.ireturn, 1) := by decide +kernel
theorem dX7_lies_0 : decode cX7_lies 0 = .ok (.iload_n 1, 1) := by decide +kernel
theorem dX7_lies_1 : decode cX7_lies 1 = .ok (.iconst 0, 1) := by decide +kernel
theorem dX7_lies_2 : decode cX7_lies 2 = .ok (.aload_n 0, 1) := by decide +kernel
theorem dX7_lies_3 : decode cX7_lies 3 = .ok (.getfield 94, 3) := by decide +kernel
theorem dX7_lies_6 : decode cX7_lies 6 = .ok (.iconst 1, 1) := by decide +kernel
theorem dX7_lies_7 : decode cX7_lies 7 = .ok (.isub, 1) := by decide +kernel
theorem dX7_lies_8 : decode cX7_lies 8 = .ok (.invokestatic 90, 3) := by decide +kernel
theorem dX7_lies_11 : decode cX7_lies 11 = .ok (.ifCond .eq 12, 3) := by decide +kernel
theorem dX7_lies_14 : decode cX7_lies 14 = .ok (.aload_n 0, 1) := by decide +kernel
theorem dX7_lies_15 : decode cX7_lies 15 = .ok (.getfield 19, 3) := by decide +kernel
theorem dX7_lies_18 : decode cX7_lies 18 = .ok (.iload_n 1, 1) := by decide +kernel
theorem dX7_lies_19 : decode cX7_lies 19 = .ok (.iaload, 1) := by decide +kernel
theorem dX7_lies_20 : decode cX7_lies 20 = .ok (.goto 5, 3) := by decide +kernel
theorem dX7_lies_23 : decode cX7_lies 23 = .ok (.bipush (-6), 2) := by decide +kernel
theorem dX7_lies_25 : decode cX7_lies 25 = .ok (.ireturn, 1) := by decide +kernel
theorem dX7_mayTurn_0 : decode cX7_mayTurn 0 = .ok (.aload_n 0, 1) := by decide +kernel
theorem dX7_mayTurn_1 : decode cX7_mayTurn 1 = .ok (.getfield 16, 3) := by decide +kernel
theorem dX7_mayTurn_4 : decode cX7_mayTurn 4 = .ok (.bipush 6, 2) := by decide +kernel
theorem dX7_mayTurn_6 : decode cX7_mayTurn 6 = .ok (.iload_n 1, 1) := by decide +kernel
theorem dX7_mayTurn_7 : decode cX7_mayTurn 7 = .ok (.imul, 1) := by decide +kernel
theorem dX7_mayTurn_8 : decode cX7_mayTurn 8 = .ok (.iconst 3, 1) := by decide +kernel
theorem dX7_mayTurn_9 : decode cX7_mayTurn 9 = .ok (.iadd, 1) := by decide +kernel
theorem dX7_mayTurn_10 : decode cX7_mayTurn 10 = .ok (.iaload, 1) := by decide +kernel
theorem dX7_mayTurn_11 : decode cX7_mayTurn 11 = .ok (.ifCond .ne 16, 3) := by decide +kernel
theorem dX7_mayTurn_14 : decode cX7_mayTurn 14 = .ok (.aload_n 0, 1) := by decide +kernel
theorem dX7_mayTurn_15 : decode cX7_mayTurn 15 = .ok (.iload_n 1, 1) := by decide +kernel
theorem dX7_mayTurn_16 : decode cX7_mayTurn 16 = .ok (.invokevirtual 193, 3) := by decide +kernel
theorem dX7_mayTurn_19 : decode cX7_mayTurn 19 = .ok (.iconst (-1), 1) := by decide +kernel
theorem dX7_mayTurn_20 : decode cX7_mayTurn 20 = .ok (.if_icmp .eq 7, 3) := by decide +kernel
theorem dX7_mayTurn_23 : decode cX7_mayTurn 23 = .ok (.iconst 1, 1) := by decide +kernel
theorem dX7_mayTurn_24 : decode cX7_mayTurn 24 = .ok (.goto 4, 3) := by decide +kernel
theorem dX7_mayTurn_27 : decode cX7_mayTurn 27 = .ok (.iconst 0, 1) := by decide +kernel
theorem dX7_mayTurn_28 : decode cX7_mayTurn 28 = .ok (.ireturn, 1) := by decide +kernel
theorem dX7_turns_0 : decode cX7_turns 0 = .ok (.aload_n 0, 1) := by decide +kernel
theorem dX7_turns_1 : decode cX7_turns 1 = .ok (.getfield 16, 3) := by decide +kernel
theorem dX7_turns_4 : decode cX7_turns 4 = .ok (.bipush 6, 2) := by decide +kernel
theorem dX7_turns_6 : decode cX7_turns 6 = .ok (.iload_n 1, 1) := by decide +kernel
theorem dX7_turns_7 : decode cX7_turns 7 = .ok (.imul, 1) := by decide +kernel
theorem dX7_turns_8 : decode cX7_turns 8 = .ok (.dup2, 1) := by decide +kernel
theorem dX7_turns_9 : decode cX7_turns 9 = .ok (.iaload, 1) := by decide +kernel
theorem dX7_turns_10 : decode cX7_turns 10 = .ok (.iconst 2, 1) := by decide +kernel
theorem dX7_turns_11 : decode cX7_turns 11 = .ok (.idiv, 1) := by decide +kernel
theorem dX7_turns_12 : decode cX7_turns 12 = .ok (.iastore, 1) := by decide +kernel
theorem dX7_turns_13 : decode cX7_turns 13 = .ok (.aload_n 0, 1) := by decide +kernel
theorem dX7_turns_14 : decode cX7_turns 14 = .ok (.getfield 16, 3) := by decide +kernel
theorem dX7_turns_17 : decode cX7_turns 17 = .ok (.bipush 6, 2) := by decide +kernel
theorem dX7_turns_19 : decode cX7_turns 19 = .ok (.iload_n 1, 1) := by decide +kernel
theorem dX7_turns_20 : decode cX7_turns 20 = .ok (.imul, 1) := by decide +kernel
theorem dX7_turns_21 : decode cX7_turns 21 = .ok (.iconst 3, 1) := by decide +kernel
theorem dX7_turns_22 : decode cX7_turns 22 = .ok (.iadd, 1) := by decide +kernel
theorem dX7_turns_23 : decode cX7_turns 23 = .ok (.iconst 1, 1) := by decide +kernel
theorem dX7_turns_24 : decode cX7_turns 24 = .ok (.iastore, 1) := by decide +kernel
theorem dX7_turns_25 : decode cX7_turns 25 = .ok (.return_, 1) := by decide +kernel
theorem dX7_turn_0 : decode cX7_turn 0 = .ok (.aload_n 0, 1) := by decide +kernel
theorem dX7_turn_1 : decode cX7_turn 1 = .ok (.iload_n 1, 1) := by decide +kernel
theorem dX7_turn_2 : decode cX7_turn 2 = .ok (.invokevirtual 187, 3) := by decide +kernel
theorem dX7_turn_5 : decode cX7_turn 5 = .ok (.ifCond .ne 6, 3) := by decide +kernel
theorem dX7_turn_8 : decode cX7_turn 8 = .ok (.bipush (-5), 2) := by decide +kernel
theorem dX7_turn_10 : decode cX7_turn 10 = .ok (.ireturn, 1) := by decide +kernel
theorem dX7_turn_11 : decode cX7_turn 11 = .ok (.aload_n 0, 1) := by decide +kernel
theorem dX7_turn_12 : decode cX7_turn 12 = .ok (.iload_n 1, 1) := by decide +kernel
theorem dX7_turn_13 : decode cX7_turn 13 = .ok (.invokevirtual 196, 3) := by decide +kernel
theorem dX7_turn_16 : decode cX7_turn 16 = .ok (.ifCond .ne 6, 3) := by decide +kernel
theorem dX7_turn_19 : decode cX7_turn 19 = .ok (.bipush (-3), 2) := by decide +kernel
theorem dX7_turn_21 : decode cX7_turn 21 = .ok (.ireturn, 1) := by decide +kernel
theorem dX7_turn_22 : decode cX7_turn 22 = .ok (.aload_n 0, 1) := by decide +kernel
theorem dX7_turn_23 : decode cX7_turn 23 = .ok (.iload_n 1, 1) := by decide +kernel
theorem dX7_turn_24 : decode cX7_turn 24 = .ok (.invokevirtual 199, 3) := by decide +kernel
theorem dX7_turn_27 : decode cX7_turn 27 = .ok (.aload_n 0, 1) := by decide +kernel
theorem dX7_turn_28 : decode cX7_turn 28 = .ok (.getfield 16, 3) := by decide +kernel
theorem dX7_turn_31 : decode cX7_turn 31 = .ok (.bipush 6, 2) := by decide +kernel
theorem dX7_turn_33 : decode cX7_turn 33 = .ok (.iload_n 1, 1) := by decide +kernel
theorem dX7_turn_34 : decode cX7_turn 34 = .ok (.imul, 1) := by decide +kernel
theorem dX7_turn_35 : decode cX7_turn 35 = .ok (.iaload, 1) := by decide +kernel
theorem dX7_turn_36 : decode cX7_turn 36 = .ok (.ireturn, 1) := by decide +kernel
theorem dX7_next_0 : decode cX7_next 0 = .ok (.aload_n 0, 1) := by decide +kernel
theorem dX7_next_1 : decode cX7_next 1 = .ok (.getfield 94, 3) := by decide +kernel
theorem dX7_next_4 : decode cX7_next 4 = .ok (.ifCond .ne 7, 3) := by decide +kernel
theorem dX7_next_7 : decode cX7_next 7 = .ok (.iconst (-1), 1) := by decide +kernel
theorem dX7_next_8 : decode cX7_next 8 = .ok (.goto 18, 3) := by decide +kernel
theorem dX7_next_11 : decode cX7_next 11 = .ok (.aload_n 0, 1) := by decide +kernel
theorem dX7_next_12 : decode cX7_next 12 = .ok (.getfield 19, 3) := by decide +kernel
theorem dX7_next_15 : decode cX7_next 15 = .ok (.aload_n 0, 1) := by decide +kernel
theorem dX7_next_16 : decode cX7_next 16 = .ok (.aload_n 0, 1) := by decide +kernel
theorem dX7_next_17 : decode cX7_next 17 = .ok (.getfield 22, 3) := by decide +kernel
theorem dX7_next_20 : decode cX7_next 20 = .ok (.iconst 2, 1) := by decide +kernel
theorem dX7_next_21 : decode cX7_next 21 = .ok (.iaload, 1) := by decide +kernel
theorem dX7_next_22 : decode cX7_next 22 = .ok (.invokevirtual 202, 3) := by decide +kernel
theorem dX7_next_25 : decode cX7_next 25 = .ok (.iaload, 1) := by decide +kernel
theorem dX7_next_26 : decode cX7_next 26 = .ok (.ireturn, 1) := by decide +kernel
theorem dX7_areWrong_0 : decode cX7_areWrong 0 = .ok (.iload_n 1, 1) := by decide +kernel
theorem dX7_areWrong_1 : decode cX7_areWrong 1 = .ok (.ifCond .ne 32, 3) := by decide +kernel
theorem dX7_areWrong_4 : decode cX7_areWrong 4 = .ok (.aload_n 0, 1) := by decide +kernel
theorem dX7_areWrong_5 : decode cX7_areWrong 5 = .ok (.getfield 16, 3) := by decide +kernel
theorem dX7_areWrong_8 : decode cX7_areWrong 8 = .ok (.bipush 6, 2) := by decide +kernel
theorem dX7_areWrong_10 : decode cX7_areWrong 10 = .ok (.iload_n 3, 1) := by decide +kernel
theorem dX7_areWrong_11 : decode cX7_areWrong 11 = .ok (.imul, 1) := by decide +kernel
theorem dX7_areWrong_12 : decode cX7_areWrong 12 = .ok (.iaload, 1) := by decide +kernel
theorem dX7_areWrong_13 : decode cX7_areWrong 13 = .ok (.aload_n 0, 1) := by decide +kernel
theorem dX7_areWrong_14 : decode cX7_areWrong 14 = .ok (.getfield 16, 3) := by decide +kernel
theorem dX7_areWrong_17 : decode cX7_areWrong 17 = .ok (.bipush 6, 2) := by decide +kernel
theorem dX7_areWrong_19 : decode cX7_areWrong 19 = .ok (.iload_n 2, 1) := by decide +kernel
theorem dX7_areWrong_20 : decode cX7_areWrong 20 = .ok (.imul, 1) := by decide +kernel
theorem dX7_areWrong_21 : decode cX7_areWrong 21 = .ok (.iaload, 1) := by decide +kernel
theorem dX7_areWrong_22 : decode cX7_areWrong 22 = .ok (.if_icmp .ge 7, 3) := by decide +kernel
theorem dX7_areWrong_25 : decode cX7_areWrong 25 = .ok (.iconst 1, 1) := by decide +kernel
theorem dX7_areWrong_26 : decode cX7_areWrong 26 = .ok (.goto 51, 3) := by decide +kernel
theorem dX7_areWrong_29 : decode cX7_areWrong 29 = .ok (.iconst 0, 1) := by decide +kernel
theorem dX7_areWrong_30 : decode cX7_areWrong 30 = .ok (.goto 47, 3) := by decide +kernel
theorem dX7_areWrong_33 : decode cX7_areWrong 33 = .ok (.iload_n 1, 1) := by decide +kernel
theorem dX7_areWrong_34 : decode cX7_areWrong 34 = .ok (.iconst 1, 1) := by decide +kernel
theorem dX7_areWrong_35 : decode cX7_areWrong 35 = .ok (.if_icmp .ne 32, 3) := by decide +kernel
theorem dX7_areWrong_38 : decode cX7_areWrong 38 = .ok (.aload_n 0, 1) := by decide +kernel
theorem dX7_areWrong_39 : decode cX7_areWrong 39 = .ok (.getfield 16, 3) := by decide +kernel
theorem dX7_areWrong_42 : decode cX7_areWrong 42 = .ok (.bipush 6, 2) := by decide +kernel
theorem dX7_areWrong_44 : decode cX7_areWrong 44 = .ok (.iload_n 3, 1) := by decide +kernel
theorem dX7_areWrong_45 : decode cX7_areWrong 45 = .ok (.imul, 1) := by decide +kernel
theorem dX7_areWrong_46 : decode cX7_areWrong 46 = .ok (.iaload, 1) := by decide +kernel
theorem dX7_areWrong_47 : decode cX7_areWrong 47 = .ok (.aload_n 0, 1) := by decide +kernel
theorem dX7_areWrong_48 : decode cX7_areWrong 48 = .ok (.getfield 16, 3) := by decide +kernel
theorem dX7_areWrong_51 : decode cX7_areWrong 51 = .ok (.bipush 6, 2) := by decide +kernel
theorem dX7_areWrong_53 : decode cX7_areWrong 53 = .ok (.iload_n 2, 1) := by decide +kernel
theorem dX7_areWrong_54 : decode cX7_areWrong 54 = .ok (.imul, 1) := by decide +kernel
theorem dX7_areWrong_55 : decode cX7_areWrong 55 = .ok (.iaload, 1) := by decide +kernel
theorem dX7_areWrong_56 : decode cX7_areWrong 56 = .ok (.if_icmp .le 7, 3) := by decide +kernel
theorem dX7_areWrong_59 : decode cX7_areWrong 59 = .ok (.iconst 1, 1) := by decide +kernel
theorem dX7_areWrong_60 : decode cX7_areWrong 60 = .ok (.goto 17, 3) := by decide +kernel
theorem dX7_areWrong_63 : decode cX7_areWrong 63 = .ok (.iconst 0, 1) := by decide +kernel
theorem dX7_areWrong_64 : decode cX7_areWrong 64 = .ok (.goto 13, 3) := by decide +kernel
theorem dX7_areWrong_67 : decode cX7_areWrong 67 = .ok (.iload_n 3, 1) := by decide +kernel
theorem dX7_areWrong_68 : decode cX7_areWrong 68 = .ok (.iload_n 2, 1) := by decide +kernel
theorem dX7_areWrong_69 : decode cX7_areWrong 69 = .ok (.if_icmp .ge 7, 3) := by decide +kernel
theorem dX7_areWrong_72 : decode cX7_areWrong 72 = .ok (.iconst 1, 1) := by decide +kernel
theorem dX7_areWrong_73 : decode cX7_areWrong 73 = .ok (.goto 4, 3) := by decide +kernel
theorem dX7_areWrong_76 : decode cX7_areWrong 76 = .ok (.iconst 0, 1) := by decide +kernel
theorem dX7_areWrong_77 : decode cX7_areWrong 77 = .ok (.ireturn, 1) := by decide +kernel
theorem dX7_turnsOver_0 : decode cX7_turnsOver 0 = .ok (.iconst 0, 1) := by decide +kernel
theorem dX7_turnsOver_1 : decode cX7_turnsOver 1 = .ok (.istore_n 1, 1) := by decide +kernel
theorem dX7_turnsOver_2 : decode cX7_turnsOver 2 = .ok (.iload_n 1, 1) := by decide +kernel
theorem dX7_turnsOver_3 : decode cX7_turnsOver 3 = .ok (.aload_n 0, 1) := by decide +kernel
theorem dX7_turnsOver_4 : decode cX7_turnsOver 4 = .ok (.getfield 94, 3) := by decide +kernel
theorem dX7_turnsOver_7 : decode cX7_turnsOver 7 = .ok (.iconst 2, 1) := by decide +kernel
theorem dX7_turnsOver_8 : decode cX7_turnsOver 8 = .ok (.idiv, 1) := by decide +kernel
theorem dX7_turnsOver_9 : decode cX7_turnsOver 9 = .ok (.if_icmp .ge 49, 3) := by decide +kernel
theorem dX7_turnsOver_12 : decode cX7_turnsOver 12 = .ok (.aload_n 0, 1) := by decide +kernel
theorem dX7_turnsOver_13 : decode cX7_turnsOver 13 = .ok (.getfield 19, 3) := by decide +kernel
theorem dX7_turnsOver_16 : decode cX7_turnsOver 16 = .ok (.iload_n 1, 1) := by decide +kernel
theorem dX7_turnsOver_17 : decode cX7_turnsOver 17 = .ok (.iaload, 1) := by decide +kernel
theorem dX7_turnsOver_18 : decode cX7_turnsOver 18 = .ok (.istore_n 2, 1) := by decide +kernel
theorem dX7_turnsOver_19 : decode cX7_turnsOver 19 = .ok (.aload_n 0, 1) := by decide +kernel
theorem dX7_turnsOver_20 : decode cX7_turnsOver 20 = .ok (.getfield 19, 3) := by decide +kernel
theorem dX7_turnsOver_23 : decode cX7_turnsOver 23 = .ok (.iload_n 1, 1) := by decide +kernel
theorem dX7_turnsOver_24 : decode cX7_turnsOver 24 = .ok (.aload_n 0, 1) := by decide +kernel
theorem dX7_turnsOver_25 : decode cX7_turnsOver 25 = .ok (.getfield 19, 3) := by decide +kernel
theorem dX7_turnsOver_28 : decode cX7_turnsOver 28 = .ok (.aload_n 0, 1) := by decide +kernel
theorem dX7_turnsOver_29 : decode cX7_turnsOver 29 = .ok (.getfield 94, 3) := by decide +kernel
theorem dX7_turnsOver_32 : decode cX7_turnsOver 32 = .ok (.iconst 1, 1) := by decide +kernel
theorem dX7_turnsOver_33 : decode cX7_turnsOver 33 = .ok (.isub, 1) := by decide +kernel
theorem dX7_turnsOver_34 : decode cX7_turnsOver 34 = .ok (.iload_n 1, 1) := by decide +kernel
theorem dX7_turnsOver_35 : decode cX7_turnsOver 35 = .ok (.isub, 1) := by decide +kernel
theorem dX7_turnsOver_36 : decode cX7_turnsOver 36 = .ok (.iaload, 1) := by decide +kernel
theorem dX7_turnsOver_37 : decode cX7_turnsOver 37 = .ok (.iastore, 1) := by decide +kernel
theorem dX7_turnsOver_38 : decode cX7_turnsOver 38 = .ok (.aload_n 0, 1) := by decide +kernel
theorem dX7_turnsOver_39 : decode cX7_turnsOver 39 = .ok (.getfield 19, 3) := by decide +kernel
theorem dX7_turnsOver_42 : decode cX7_turnsOver 42 = .ok (.aload_n 0, 1) := by decide +kernel
theorem dX7_turnsOver_43 : decode cX7_turnsOver 43 = .ok (.getfield 94, 3) := by decide +kernel
theorem dX7_turnsOver_46 : decode cX7_turnsOver 46 = .ok (.iconst 1, 1) := by decide +kernel
theorem dX7_turnsOver_47 : decode cX7_turnsOver 47 = .ok (.isub, 1) := by decide +kernel
theorem dX7_turnsOver_48 : decode cX7_turnsOver 48 = .ok (.iload_n 1, 1) := by decide +kernel
theorem dX7_turnsOver_49 : decode cX7_turnsOver 49 = .ok (.isub, 1) := by decide +kernel
theorem dX7_turnsOver_50 : decode cX7_turnsOver 50 = .ok (.iload_n 2, 1) := by decide +kernel
theorem dX7_turnsOver_51 : decode cX7_turnsOver 51 = .ok (.iastore, 1) := by decide +kernel
theorem dX7_turnsOver_52 : decode cX7_turnsOver 52 = .ok (.iinc 1 1, 3) := by decide +kernel
theorem dX7_turnsOver_55 : decode cX7_turnsOver 55 = .ok (.goto (-53), 3) := by decide +kernel
theorem dX7_turnsOver_58 : decode cX7_turnsOver 58 = .ok (.return_, 1) := by decide +kernel
theorem dX7_pileUp_0 : decode cX7_pileUp 0 = .ok (.iload_n 1, 1) := by decide +kernel
theorem dX7_pileUp_1 : decode cX7_pileUp 1 = .ok (.iconst 0, 1) := by decide +kernel
theorem dX7_pileUp_2 : decode cX7_pileUp 2 = .ok (.iconst 3, 1) := by decide +kernel
theorem dX7_pileUp_3 : decode cX7_pileUp 3 = .ok (.invokestatic 90, 3) := by decide +kernel
theorem dX7_pileUp_6 : decode cX7_pileUp 6 = .ok (.ifCond .ne 6, 3) := by decide +kernel
theorem dX7_pileUp_9 : decode cX7_pileUp 9 = .ok (.bipush (-2), 2) := by decide +kernel
theorem dX7_pileUp_11 : decode cX7_pileUp 11 = .ok (.ireturn, 1) := by decide +kernel
theorem dX7_pileUp_12 : decode cX7_pileUp 12 = .ok (.iload_n 1, 1) := by decide +kernel
theorem dX7_pileUp_13 : decode cX7_pileUp 13 = .ok (.iconst 3, 1) := by decide +kernel
theorem dX7_pileUp_14 : decode cX7_pileUp 14 = .ok (.if_icmp .ne 7, 3) := by decide +kernel
theorem dX7_pileUp_17 : decode cX7_pileUp 17 = .ok (.aload_n 0, 1) := by decide +kernel
theorem dX7_pileUp_18 : decode cX7_pileUp 18 = .ok (.invokevirtual 205, 3) := by decide +kernel
theorem dX7_pileUp_21 : decode cX7_pileUp 21 = .ok (.iconst 1, 1) := by decide +kernel
theorem dX7_pileUp_22 : decode cX7_pileUp 22 = .ok (.istore_n 2, 1) := by decide +kernel
theorem dX7_pileUp_23 : decode cX7_pileUp 23 = .ok (.iload_n 2, 1) := by decide +kernel
theorem dX7_pileUp_24 : decode cX7_pileUp 24 = .ok (.aload_n 0, 1) := by decide +kernel
theorem dX7_pileUp_25 : decode cX7_pileUp 25 = .ok (.getfield 94, 3) := by decide +kernel
theorem dX7_pileUp_28 : decode cX7_pileUp 28 = .ok (.if_icmp .ge 85, 3) := by decide +kernel
theorem dX7_pileUp_31 : decode cX7_pileUp 31 = .ok (.iload_n 1, 1) := by decide +kernel
theorem dX7_pileUp_32 : decode cX7_pileUp 32 = .ok (.iconst 3, 1) := by decide +kernel
theorem dX7_pileUp_33 : decode cX7_pileUp 33 = .ok (.if_icmp .ge 80, 3) := by decide +kernel
theorem dX7_pileUp_36 : decode cX7_pileUp 36 = .ok (.aload_n 0, 1) := by decide +kernel
theorem dX7_pileUp_37 : decode cX7_pileUp 37 = .ok (.getfield 94, 3) := by decide +kernel
theorem dX7_pileUp_40 : decode cX7_pileUp 40 = .ok (.iconst 1, 1) := by decide +kernel
theorem dX7_pileUp_41 : decode cX7_pileUp 41 = .ok (.isub, 1) := by decide +kernel
theorem dX7_pileUp_42 : decode cX7_pileUp 42 = .ok (.istore_n 3, 1) := by decide +kernel
theorem dX7_pileUp_43 : decode cX7_pileUp 43 = .ok (.iload_n 3, 1) := by decide +kernel
theorem dX7_pileUp_44 : decode cX7_pileUp 44 = .ok (.ifCond .le 63, 3) := by decide +kernel
theorem dX7_pileUp_47 : decode cX7_pileUp 47 = .ok (.aload_n 0, 1) := by decide +kernel
theorem dX7_pileUp_48 : decode cX7_pileUp 48 = .ok (.iload_n 1, 1) := by decide +kernel
theorem dX7_pileUp_49 : decode cX7_pileUp 49 = .ok (.aload_n 0, 1) := by decide +kernel
theorem dX7_pileUp_50 : decode cX7_pileUp 50 = .ok (.getfield 19, 3) := by decide +kernel
theorem dX7_pileUp_53 : decode cX7_pileUp 53 = .ok (.iload_n 3, 1) := by decide +kernel
theorem dX7_pileUp_54 : decode cX7_pileUp 54 = .ok (.iconst 1, 1) := by decide +kernel
theorem dX7_pileUp_55 : decode cX7_pileUp 55 = .ok (.isub, 1) := by decide +kernel
theorem dX7_pileUp_56 : decode cX7_pileUp 56 = .ok (.iaload, 1) := by decide +kernel
theorem dX7_pileUp_57 : decode cX7_pileUp 57 = .ok (.aload_n 0, 1) := by decide +kernel
theorem dX7_pileUp_58 : decode cX7_pileUp 58 = .ok (.getfield 19, 3) := by decide +kernel
theorem dX7_pileUp_61 : decode cX7_pileUp 61 = .ok (.iload_n 3, 1) := by decide +kernel
theorem dX7_pileUp_62 : decode cX7_pileUp 62 = .ok (.iaload, 1) := by decide +kernel
theorem dX7_pileUp_63 : decode cX7_pileUp 63 = .ok (.invokevirtual 208, 3) := by decide +kernel
theorem dX7_pileUp_66 : decode cX7_pileUp 66 = .ok (.ifCond .eq 35, 3) := by decide +kernel
theorem dX7_pileUp_69 : decode cX7_pileUp 69 = .ok (.aload_n 0, 1) := by decide +kernel
theorem dX7_pileUp_70 : decode cX7_pileUp 70 = .ok (.getfield 19, 3) := by decide +kernel
theorem dX7_pileUp_73 : decode cX7_pileUp 73 = .ok (.iload_n 3, 1) := by decide +kernel
theorem dX7_pileUp_74 : decode cX7_pileUp 74 = .ok (.iaload, 1) := by decide +kernel
theorem dX7_pileUp_75 : decode cX7_pileUp 75 = .ok (.istore 4, 2) := by decide +kernel
theorem dX7_pileUp_77 : decode cX7_pileUp 77 = .ok (.aload_n 0, 1) := by decide +kernel
theorem dX7_pileUp_78 : decode cX7_pileUp 78 = .ok (.getfield 19, 3) := by decide +kernel
theorem dX7_pileUp_81 : decode cX7_pileUp 81 = .ok (.iload_n 3, 1) := by decide +kernel
theorem dX7_pileUp_82 : decode cX7_pileUp 82 = .ok (.aload_n 0, 1) := by decide +kernel
theorem dX7_pileUp_83 : decode cX7_pileUp 83 = .ok (.getfield 19, 3) := by decide +kernel
theorem dX7_pileUp_86 : decode cX7_pileUp 86 = .ok (.iload_n 3, 1) := by decide +kernel
theorem dX7_pileUp_87 : decode cX7_pileUp 87 = .ok (.iconst 1, 1) := by decide +kernel
theorem dX7_pileUp_88 : decode cX7_pileUp 88 = .ok (.isub, 1) := by decide +kernel
theorem dX7_pileUp_89 : decode cX7_pileUp 89 = .ok (.iaload, 1) := by decide +kernel
theorem dX7_pileUp_90 : decode cX7_pileUp 90 = .ok (.iastore, 1) := by decide +kernel
theorem dX7_pileUp_91 : decode cX7_pileUp 91 = .ok (.aload_n 0, 1) := by decide +kernel
theorem dX7_pileUp_92 : decode cX7_pileUp 92 = .ok (.getfield 19, 3) := by decide +kernel
theorem dX7_pileUp_95 : decode cX7_pileUp 95 = .ok (.iload_n 3, 1) := by decide +kernel
theorem dX7_pileUp_96 : decode cX7_pileUp 96 = .ok (.iconst 1, 1) := by decide +kernel
theorem dX7_pileUp_97 : decode cX7_pileUp 97 = .ok (.isub, 1) := by decide +kernel
theorem dX7_pileUp_98 : decode cX7_pileUp 98 = .ok (.iload 4, 2) := by decide +kernel
theorem dX7_pileUp_100 : decode cX7_pileUp 100 = .ok (.iastore, 1) := by decide +kernel
theorem dX7_pileUp_101 : decode cX7_pileUp 101 = .ok (.iinc 3 (-1), 3) := by decide +kernel
theorem dX7_pileUp_104 : decode cX7_pileUp 104 = .ok (.goto (-61), 3) := by decide +kernel
theorem dX7_pileUp_107 : decode cX7_pileUp 107 = .ok (.iinc 2 1, 3) := by decide +kernel
theorem dX7_pileUp_110 : decode cX7_pileUp 110 = .ok (.goto (-87), 3) := by decide +kernel
theorem dX7_pileUp_113 : decode cX7_pileUp 113 = .ok (.aload_n 0, 1) := by decide +kernel
theorem dX7_pileUp_114 : decode cX7_pileUp 114 = .ok (.getfield 94, 3) := by decide +kernel
theorem dX7_pileUp_117 : decode cX7_pileUp 117 = .ok (.ifCond .ne 7, 3) := by decide +kernel
theorem dX7_pileUp_120 : decode cX7_pileUp 120 = .ok (.iconst (-1), 1) := by decide +kernel
theorem dX7_pileUp_121 : decode cX7_pileUp 121 = .ok (.goto 9, 3) := by decide +kernel
theorem dX7_pileUp_124 : decode cX7_pileUp 124 = .ok (.aload_n 0, 1) := by decide +kernel
theorem dX7_pileUp_125 : decode cX7_pileUp 125 = .ok (.getfield 19, 3) := by decide +kernel
theorem dX7_pileUp_128 : decode cX7_pileUp 128 = .ok (.iconst 0, 1) := by decide +kernel
theorem dX7_pileUp_129 : decode cX7_pileUp 129 = .ok (.iaload, 1) := by decide +kernel
theorem dX7_pileUp_130 : decode cX7_pileUp 130 = .ok (.ireturn, 1) := by decide +kernel
theorem dX7_goesToCloths_0 : decode cX7_goesToCloths 0 = .ok (.aload_n 0, 1) := by decide +kernel
theorem dX7_goesToCloths_1 : decode cX7_goesToCloths 1 = .ok (.getfield 16, 3) := by decide +kernel
theorem dX7_goesToCloths_4 : decode cX7_goesToCloths 4 = .ok (.bipush 6, 2) := by decide +kernel
theorem dX7_goesToCloths_6 : decode cX7_goesToCloths 6 = .ok (.iload_n 1, 1) := by decide +kernel
theorem dX7_goesToCloths_7 : decode cX7_goesToCloths 7 = .ok (.imul, 1) := by decide +kernel
theorem dX7_goesToCloths_8 : decode cX7_goesToCloths 8 = .ok (.iconst 5, 1) := by decide +kernel
theorem dX7_goesToCloths_9 : decode cX7_goesToCloths 9 = .ok (.iadd, 1) := by decide +kernel
theorem dX7_goesToCloths_10 : decode cX7_goesToCloths 10 = .ok (.iconst 1, 1) := by decide +kernel
theorem dX7_goesToCloths_11 : decode cX7_goesToCloths 11 = .ok (.iastore, 1) := by decide +kernel
theorem dX7_goesToCloths_12 : decode cX7_goesToCloths 12 = .ok (.aload_n 0, 1) := by decide +kernel
theorem dX7_goesToCloths_13 : decode cX7_goesToCloths 13 = .ok (.getfield 67, 3) := by decide +kernel
theorem dX7_goesToCloths_16 : decode cX7_goesToCloths 16 = .ok (.iload_n 1, 1) := by decide +kernel
theorem dX7_goesToCloths_17 : decode cX7_goesToCloths 17 = .ok (.iload_n 2, 1) := by decide +kernel
theorem dX7_goesToCloths_18 : decode cX7_goesToCloths 18 = .ok (.iastore, 1) := by decide +kernel
theorem dX7_goesToCloths_19 : decode cX7_goesToCloths 19 = .ok (.aload_n 0, 1) := by decide +kernel
theorem dX7_goesToCloths_20 : decode cX7_goesToCloths 20 = .ok (.aload_n 0, 1) := by decide +kernel
theorem dX7_goesToCloths_21 : decode cX7_goesToCloths 21 = .ok (.getfield 211, 3) := by decide +kernel
theorem dX7_goesToCloths_24 : decode cX7_goesToCloths 24 = .ok (.iconst (-1), 1) := by decide +kernel
theorem dX7_goesToCloths_25 : decode cX7_goesToCloths 25 = .ok (.if_icmp .ne 7, 3) := by decide +kernel
theorem dX7_goesToCloths_28 : decode cX7_goesToCloths 28 = .ok (.iload_n 2, 1) := by decide +kernel
theorem dX7_goesToCloths_29 : decode cX7_goesToCloths 29 = .ok (.goto 7, 3) := by decide +kernel
theorem dX7_goesToCloths_32 : decode cX7_goesToCloths 32 = .ok (.aload_n 0, 1) := by decide +kernel
theorem dX7_goesToCloths_33 : decode cX7_goesToCloths 33 = .ok (.getfield 211, 3) := by decide +kernel
theorem dX7_goesToCloths_36 : decode cX7_goesToCloths 36 = .ok (.putfield 211, 3) := by decide +kernel
theorem dX7_goesToCloths_39 : decode cX7_goesToCloths 39 = .ok (.return_, 1) := by decide +kernel
theorem dX7_comesBack_0 : decode cX7_comesBack 0 = .ok (.iconst 0, 1) := by decide +kernel
theorem dX7_comesBack_1 : decode cX7_comesBack 1 = .ok (.istore_n 1, 1) := by decide +kernel
theorem dX7_comesBack_2 : decode cX7_comesBack 2 = .ok (.iload_n 1, 1) := by decide +kernel
theorem dX7_comesBack_3 : decode cX7_comesBack 3 = .ok (.aload_n 0, 1) := by decide +kernel
theorem dX7_comesBack_4 : decode cX7_comesBack 4 = .ok (.getfield 87, 3) := by decide +kernel
theorem dX7_comesBack_7 : decode cX7_comesBack 7 = .ok (.if_icmp .ge 60, 3) := by decide +kernel
theorem dX7_comesBack_10 : decode cX7_comesBack 10 = .ok (.bipush 6, 2) := by decide +kernel
theorem dX7_comesBack_12 : decode cX7_comesBack 12 = .ok (.iload_n 1, 1) := by decide +kernel
theorem dX7_comesBack_13 : decode cX7_comesBack 13 = .ok (.imul, 1) := by decide +kernel
theorem dX7_comesBack_14 : decode cX7_comesBack 14 = .ok (.iconst 4, 1) := by decide +kernel
theorem dX7_comesBack_15 : decode cX7_comesBack 15 = .ok (.iadd, 1) := by decide +kernel
theorem dX7_comesBack_16 : decode cX7_comesBack 16 = .ok (.istore_n 2, 1) := by decide +kernel
theorem dX7_comesBack_17 : decode cX7_comesBack 17 = .ok (.aload_n 0, 1) := by decide +kernel
theorem dX7_comesBack_18 : decode cX7_comesBack 18 = .ok (.getfield 16, 3) := by decide +kernel
theorem dX7_comesBack_21 : decode cX7_comesBack 21 = .ok (.iload_n 2, 1) := by decide +kernel
theorem dX7_comesBack_22 : decode cX7_comesBack 22 = .ok (.iaload, 1) := by decide +kernel
theorem dX7_comesBack_23 : decode cX7_comesBack 23 = .ok (.ifCond .le 38, 3) := by decide +kernel
theorem dX7_comesBack_26 : decode cX7_comesBack 26 = .ok (.aload_n 0, 1) := by decide +kernel
theorem dX7_comesBack_27 : decode cX7_comesBack 27 = .ok (.getfield 16, 3) := by decide +kernel
theorem dX7_comesBack_30 : decode cX7_comesBack 30 = .ok (.iload_n 2, 1) := by decide +kernel
theorem dX7_comesBack_31 : decode cX7_comesBack 31 = .ok (.iconst 1, 1) := by decide +kernel
theorem dX7_comesBack_32 : decode cX7_comesBack 32 = .ok (.iadd, 1) := by decide +kernel
theorem dX7_comesBack_33 : decode cX7_comesBack 33 = .ok (.iaload, 1) := by decide +kernel
theorem dX7_comesBack_34 : decode cX7_comesBack 34 = .ok (.ifCond .ne 27, 3) := by decide +kernel
theorem dX7_comesBack_37 : decode cX7_comesBack 37 = .ok (.aload_n 0, 1) := by decide +kernel
theorem dX7_comesBack_38 : decode cX7_comesBack 38 = .ok (.getfield 16, 3) := by decide +kernel
theorem dX7_comesBack_41 : decode cX7_comesBack 41 = .ok (.iload_n 2, 1) := by decide +kernel
theorem dX7_comesBack_42 : decode cX7_comesBack 42 = .ok (.dup2, 1) := by decide +kernel
theorem dX7_comesBack_43 : decode cX7_comesBack 43 = .ok (.iaload, 1) := by decide +kernel
theorem dX7_comesBack_44 : decode cX7_comesBack 44 = .ok (.iconst 1, 1) := by decide +kernel
theorem dX7_comesBack_45 : decode cX7_comesBack 45 = .ok (.isub, 1) := by decide +kernel
theorem dX7_comesBack_46 : decode cX7_comesBack 46 = .ok (.iastore, 1) := by decide +kernel
theorem dX7_comesBack_47 : decode cX7_comesBack 47 = .ok (.aload_n 0, 1) := by decide +kernel
theorem dX7_comesBack_48 : decode cX7_comesBack 48 = .ok (.getfield 16, 3) := by decide +kernel
theorem dX7_comesBack_51 : decode cX7_comesBack 51 = .ok (.iload_n 2, 1) := by decide +kernel
theorem dX7_comesBack_52 : decode cX7_comesBack 52 = .ok (.iaload, 1) := by decide +kernel
theorem dX7_comesBack_53 : decode cX7_comesBack 53 = .ok (.ifCond .ne 8, 3) := by decide +kernel
theorem dX7_comesBack_56 : decode cX7_comesBack 56 = .ok (.aload_n 0, 1) := by decide +kernel
theorem dX7_comesBack_57 : decode cX7_comesBack 57 = .ok (.iload_n 1, 1) := by decide +kernel
theorem dX7_comesBack_58 : decode cX7_comesBack 58 = .ok (.invokevirtual 184, 3) := by decide +kernel
theorem dX7_comesBack_61 : decode cX7_comesBack 61 = .ok (.iinc 1 1, 3) := by decide +kernel
theorem dX7_comesBack_64 : decode cX7_comesBack 64 = .ok (.goto (-62), 3) := by decide +kernel
theorem dX7_comesBack_67 : decode cX7_comesBack 67 = .ok (.return_, 1) := by decide +kernel
theorem dX7_takesSo_0 : decode cX7_takesSo 0 = .ok (.iconst 0, 1) := by decide +kernel
theorem dX7_takesSo_1 : decode cX7_takesSo 1 = .ok (.istore_n 3, 1) := by decide +kernel
theorem dX7_takesSo_2 : decode cX7_takesSo 2 = .ok (.iconst 0, 1) := by decide +kernel
theorem dX7_takesSo_3 : decode cX7_takesSo 3 = .ok (.istore 4, 2) := by decide +kernel
theorem dX7_takesSo_5 : decode cX7_takesSo 5 = .ok (.iload 4, 2) := by decide +kernel
theorem dX7_takesSo_7 : decode cX7_takesSo 7 = .ok (.iload_n 1, 1) := by decide +kernel
theorem dX7_takesSo_8 : decode cX7_takesSo 8 = .ok (.if_icmp .ge 43, 3) := by decide +kernel
theorem dX7_takesSo_11 : decode cX7_takesSo 11 = .ok (.aload_n 0, 1) := by decide +kernel
theorem dX7_takesSo_12 : decode cX7_takesSo 12 = .ok (.getfield 94, 3) := by decide +kernel
theorem dX7_takesSo_15 : decode cX7_takesSo 15 = .ok (.ifCond .ne 16, 3) := by decide +kernel
theorem dX7_takesSo_18 : decode cX7_takesSo 18 = .ok (.aload_n 0, 1) := by decide +kernel
theorem dX7_takesSo_19 : decode cX7_takesSo 19 = .ok (.dup, 1) := by decide +kernel
theorem dX7_takesSo_20 : decode cX7_takesSo 20 = .ok (.getfield 214, 3) := by decide +kernel
theorem dX7_takesSo_23 : decode cX7_takesSo 23 = .ok (.iconst 1, 1) := by decide +kernel
theorem dX7_takesSo_24 : decode cX7_takesSo 24 = .ok (.iadd, 1) := by decide +kernel
theorem dX7_takesSo_25 : decode cX7_takesSo 25 = .ok (.putfield 214, 3) := by decide +kernel
theorem dX7_takesSo_28 : decode cX7_takesSo 28 = .ok (.goto 17, 3) := by decide +kernel
theorem dX7_takesSo_31 : decode cX7_takesSo 31 = .ok (.iload_n 3, 1) := by decide +kernel
theorem dX7_takesSo_32 : decode cX7_takesSo 32 = .ok (.iconst 1, 1) := by decide +kernel
theorem dX7_takesSo_33 : decode cX7_takesSo 33 = .ok (.aload_n 0, 1) := by decide +kernel
theorem dX7_takesSo_34 : decode cX7_takesSo 34 = .ok (.aload_n 0, 1) := by decide +kernel
theorem dX7_takesSo_35 : decode cX7_takesSo 35 = .ok (.iload_n 2, 1) := by decide +kernel
theorem dX7_takesSo_36 : decode cX7_takesSo 36 = .ok (.invokevirtual 202, 3) := by decide +kernel
theorem dX7_takesSo_39 : decode cX7_takesSo 39 = .ok (.invokevirtual 217, 3) := by decide +kernel
theorem dX7_takesSo_42 : decode cX7_takesSo 42 = .ok (.ishl, 1) := by decide +kernel
theorem dX7_takesSo_43 : decode cX7_takesSo 43 = .ok (.ior, 1) := by decide +kernel
theorem dX7_takesSo_44 : decode cX7_takesSo 44 = .ok (.istore_n 3, 1) := by decide +kernel
theorem dX7_takesSo_45 : decode cX7_takesSo 45 = .ok (.iinc 4 1, 3) := by decide +kernel
theorem dX7_takesSo_48 : decode cX7_takesSo 48 = .ok (.goto (-43), 3) := by decide +kernel
theorem dX7_takesSo_51 : decode cX7_takesSo 51 = .ok (.iload_n 3, 1) := by decide +kernel
theorem dX7_takesSo_52 : decode cX7_takesSo 52 = .ok (.ireturn, 1) := by decide +kernel
theorem dX7_lie_0 : decode cX7_lie 0 = .ok (.iconst 0, 1) := by decide +kernel
theorem dX7_lie_1 : decode cX7_lie 1 = .ok (.istore_n 1, 1) := by decide +kernel
theorem dX7_lie_2 : decode cX7_lie 2 = .ok (.iload_n 1, 1) := by decide +kernel
theorem dX7_lie_3 : decode cX7_lie 3 = .ok (.aload_n 0, 1) := by decide +kernel
theorem dX7_lie_4 : decode cX7_lie 4 = .ok (.getfield 94, 3) := by decide +kernel
theorem dX7_lie_7 : decode cX7_lie 7 = .ok (.if_icmp .ge 77, 3) := by decide +kernel
theorem dX7_lie_10 : decode cX7_lie 10 = .ok (.bipush 6, 2) := by decide +kernel
theorem dX7_lie_12 : decode cX7_lie 12 = .ok (.aload_n 0, 1) := by decide +kernel
theorem dX7_lie_13 : decode cX7_lie 13 = .ok (.getfield 19, 3) := by decide +kernel
theorem dX7_lie_16 : decode cX7_lie 16 = .ok (.iload_n 1, 1) := by decide +kernel
theorem dX7_lie_17 : decode cX7_lie 17 = .ok (.iaload, 1) := by decide +kernel
theorem dX7_lie_18 : decode cX7_lie 18 = .ok (.imul, 1) := by decide +kernel
theorem dX7_lie_19 : decode cX7_lie 19 = .ok (.istore_n 2, 1) := by decide +kernel
theorem dX7_lie_20 : decode cX7_lie 20 = .ok (.aload_n 0, 1) := by decide +kernel
theorem dX7_lie_21 : decode cX7_lie 21 = .ok (.getfield 16, 3) := by decide +kernel
theorem dX7_lie_24 : decode cX7_lie 24 = .ok (.iload_n 2, 1) := by decide +kernel
theorem dX7_lie_25 : decode cX7_lie 25 = .ok (.iconst 1, 1) := by decide +kernel
theorem dX7_lie_26 : decode cX7_lie 26 = .ok (.iadd, 1) := by decide +kernel
theorem dX7_lie_27 : decode cX7_lie 27 = .ok (.aload_n 0, 1) := by decide +kernel
theorem dX7_lie_28 : decode cX7_lie 28 = .ok (.getfield 16, 3) := by decide +kernel
theorem dX7_lie_31 : decode cX7_lie 31 = .ok (.iload_n 2, 1) := by decide +kernel
theorem dX7_lie_32 : decode cX7_lie 32 = .ok (.iconst 1, 1) := by decide +kernel
theorem dX7_lie_33 : decode cX7_lie 33 = .ok (.iadd, 1) := by decide +kernel
theorem dX7_lie_34 : decode cX7_lie 34 = .ok (.iaload, 1) := by decide +kernel
theorem dX7_lie_35 : decode cX7_lie 35 = .ok (.aload_n 0, 1) := by decide +kernel
theorem dX7_lie_36 : decode cX7_lie 36 = .ok (.aload_n 0, 1) := by decide +kernel
theorem dX7_lie_37 : decode cX7_lie 37 = .ok (.getfield 19, 3) := by decide +kernel
theorem dX7_lie_40 : decode cX7_lie 40 = .ok (.iload_n 1, 1) := by decide +kernel
theorem dX7_lie_41 : decode cX7_lie 41 = .ok (.iaload, 1) := by decide +kernel
theorem dX7_lie_42 : decode cX7_lie 42 = .ok (.invokevirtual 220, 3) := by decide +kernel
theorem dX7_lie_45 : decode cX7_lie 45 = .ok (.iadd, 1) := by decide +kernel
theorem dX7_lie_46 : decode cX7_lie 46 = .ok (.iconst 0, 1) := by decide +kernel
theorem dX7_lie_47 : decode cX7_lie 47 = .ok (.bipush 99, 2) := by decide +kernel
theorem dX7_lie_49 : decode cX7_lie 49 = .ok (.invokestatic 173, 3) := by decide +kernel
theorem dX7_lie_52 : decode cX7_lie 52 = .ok (.iastore, 1) := by decide +kernel
theorem dX7_lie_53 : decode cX7_lie 53 = .ok (.aload_n 0, 1) := by decide +kernel
theorem dX7_lie_54 : decode cX7_lie 54 = .ok (.getfield 16, 3) := by decide +kernel
theorem dX7_lie_57 : decode cX7_lie 57 = .ok (.iload_n 2, 1) := by decide +kernel
theorem dX7_lie_58 : decode cX7_lie 58 = .ok (.iconst 2, 1) := by decide +kernel
theorem dX7_lie_59 : decode cX7_lie 59 = .ok (.iadd, 1) := by decide +kernel
theorem dX7_lie_60 : decode cX7_lie 60 = .ok (.aload_n 0, 1) := by decide +kernel
theorem dX7_lie_61 : decode cX7_lie 61 = .ok (.getfield 16, 3) := by decide +kernel
theorem dX7_lie_64 : decode cX7_lie 64 = .ok (.iload_n 2, 1) := by decide +kernel
theorem dX7_lie_65 : decode cX7_lie 65 = .ok (.iconst 2, 1) := by decide +kernel
theorem dX7_lie_66 : decode cX7_lie 66 = .ok (.iadd, 1) := by decide +kernel
theorem dX7_lie_67 : decode cX7_lie 67 = .ok (.iaload, 1) := by decide +kernel
theorem dX7_lie_68 : decode cX7_lie 68 = .ok (.iconst 1, 1) := by decide +kernel
theorem dX7_lie_69 : decode cX7_lie 69 = .ok (.iadd, 1) := by decide +kernel
theorem dX7_lie_70 : decode cX7_lie 70 = .ok (.iconst 0, 1) := by decide +kernel
theorem dX7_lie_71 : decode cX7_lie 71 = .ok (.sipush 999, 3) := by decide +kernel
theorem dX7_lie_74 : decode cX7_lie 74 = .ok (.invokestatic 173, 3) := by decide +kernel
theorem dX7_lie_77 : decode cX7_lie 77 = .ok (.iastore, 1) := by decide +kernel
theorem dX7_lie_78 : decode cX7_lie 78 = .ok (.iinc 1 1, 3) := by decide +kernel
theorem dX7_lie_81 : decode cX7_lie 81 = .ok (.goto (-79), 3) := by decide +kernel
theorem dX7_lie_84 : decode cX7_lie 84 = .ok (.return_, 1) := by decide +kernel
theorem dX7_washes_0 : decode cX7_washes 0 = .ok (.iconst 0, 1) := by decide +kernel
theorem dX7_washes_1 : decode cX7_washes 1 = .ok (.istore_n 3, 1) := by decide +kernel
theorem dX7_washes_2 : decode cX7_washes 2 = .ok (.iload_n 3, 1) := by decide +kernel
theorem dX7_washes_3 : decode cX7_washes 3 = .ok (.aload_n 0, 1) := by decide +kernel
theorem dX7_washes_4 : decode cX7_washes 4 = .ok (.getfield 87, 3) := by decide +kernel
theorem dX7_washes_7 : decode cX7_washes 7 = .ok (.if_icmp .ge 114, 3) := by decide +kernel
theorem dX7_washes_10 : decode cX7_washes 10 = .ok (.iload_n 1, 1) := by decide +kernel
theorem dX7_washes_11 : decode cX7_washes 11 = .ok (.iload_n 3, 1) := by decide +kernel
theorem dX7_washes_12 : decode cX7_washes 12 = .ok (.ishr, 1) := by decide +kernel
theorem dX7_washes_13 : decode cX7_washes 13 = .ok (.iconst 1, 1) := by decide +kernel
theorem dX7_washes_14 : decode cX7_washes 14 = .ok (.iand, 1) := by decide +kernel
theorem dX7_washes_15 : decode cX7_washes 15 = .ok (.iconst 1, 1) := by decide +kernel
theorem dX7_washes_16 : decode cX7_washes 16 = .ok (.if_icmp .ne 99, 3) := by decide +kernel
theorem dX7_washes_19 : decode cX7_washes 19 = .ok (.bipush 6, 2) := by decide +kernel
theorem dX7_washes_21 : decode cX7_washes 21 = .ok (.iload_n 3, 1) := by decide +kernel
theorem dX7_washes_22 : decode cX7_washes 22 = .ok (.imul, 1) := by decide +kernel
theorem dX7_washes_23 : decode cX7_washes 23 = .ok (.istore 4, 2) := by decide +kernel
theorem dX7_washes_25 : decode cX7_washes 25 = .ok (.aload_n 0, 1) := by decide +kernel
theorem dX7_washes_26 : decode cX7_washes 26 = .ok (.getfield 16, 3) := by decide +kernel
theorem dX7_washes_29 : decode cX7_washes 29 = .ok (.iload 4, 2) := by decide +kernel
theorem dX7_washes_31 : decode cX7_washes 31 = .ok (.aload_n 0, 1) := by decide +kernel
theorem dX7_washes_32 : decode cX7_washes 32 = .ok (.getfield 16, 3) := by decide +kernel
theorem dX7_washes_35 : decode cX7_washes 35 = .ok (.iload 4, 2) := by decide +kernel
theorem dX7_washes_37 : decode cX7_washes 37 = .ok (.iaload, 1) := by decide +kernel
theorem dX7_washes_38 : decode cX7_washes 38 = .ok (.aload_n 0, 1) := by decide +kernel
theorem dX7_washes_39 : decode cX7_washes 39 = .ok (.iload_n 3, 1) := by decide +kernel
theorem dX7_washes_40 : decode cX7_washes 40 = .ok (.invokevirtual 223, 3) := by decide +kernel
theorem dX7_washes_43 : decode cX7_washes 43 = .ok (.iadd, 1) := by decide +kernel
theorem dX7_washes_44 : decode cX7_washes 44 = .ok (.iconst 0, 1) := by decide +kernel
theorem dX7_washes_45 : decode cX7_washes 45 = .ok (.sipush 999, 3) := by decide +kernel
theorem dX7_washes_48 : decode cX7_washes 48 = .ok (.invokestatic 173, 3) := by decide +kernel
theorem dX7_washes_51 : decode cX7_washes 51 = .ok (.iastore, 1) := by decide +kernel
theorem dX7_washes_52 : decode cX7_washes 52 = .ok (.aload_n 0, 1) := by decide +kernel
theorem dX7_washes_53 : decode cX7_washes 53 = .ok (.getfield 16, 3) := by decide +kernel
theorem dX7_washes_56 : decode cX7_washes 56 = .ok (.iload 4, 2) := by decide +kernel
theorem dX7_washes_58 : decode cX7_washes 58 = .ok (.iconst 2, 1) := by decide +kernel
theorem dX7_washes_59 : decode cX7_washes 59 = .ok (.iadd, 1) := by decide +kernel
theorem dX7_washes_60 : decode cX7_washes 60 = .ok (.iconst 0, 1) := by decide +kernel
theorem dX7_washes_61 : decode cX7_washes 61 = .ok (.iastore, 1) := by decide +kernel
theorem dX7_washes_62 : decode cX7_washes 62 = .ok (.aload_n 0, 1) := by decide +kernel
theorem dX7_washes_63 : decode cX7_washes 63 = .ok (.getfield 16, 3) := by decide +kernel
theorem dX7_washes_66 : decode cX7_washes 66 = .ok (.iload 4, 2) := by decide +kernel
theorem dX7_washes_68 : decode cX7_washes 68 = .ok (.iconst 4, 1) := by decide +kernel
theorem dX7_washes_69 : decode cX7_washes 69 = .ok (.iadd, 1) := by decide +kernel
theorem dX7_washes_70 : decode cX7_washes 70 = .ok (.aload_n 0, 1) := by decide +kernel
theorem dX7_washes_71 : decode cX7_washes 71 = .ok (.getfield 22, 3) := by decide +kernel
theorem dX7_washes_74 : decode cX7_washes 74 = .ok (.iconst 1, 1) := by decide +kernel
theorem dX7_washes_75 : decode cX7_washes 75 = .ok (.iaload, 1) := by decide +kernel
theorem dX7_washes_76 : decode cX7_washes 76 = .ok (.iastore, 1) := by decide +kernel
theorem dX7_washes_77 : decode cX7_washes 77 = .ok (.aload_n 0, 1) := by decide +kernel
theorem dX7_washes_78 : decode cX7_washes 78 = .ok (.getfield 16, 3) := by decide +kernel
theorem dX7_washes_81 : decode cX7_washes 81 = .ok (.iload 4, 2) := by decide +kernel
theorem dX7_washes_83 : decode cX7_washes 83 = .ok (.iaload, 1) := by decide +kernel
theorem dX7_washes_84 : decode cX7_washes 84 = .ok (.aload_n 0, 1) := by decide +kernel
theorem dX7_washes_85 : decode cX7_washes 85 = .ok (.iload_n 3, 1) := by decide +kernel
theorem dX7_washes_86 : decode cX7_washes 86 = .ok (.invokevirtual 190, 3) := by decide +kernel
theorem dX7_washes_89 : decode cX7_washes 89 = .ok (.if_icmp .lt 12, 3) := by decide +kernel
theorem dX7_washes_92 : decode cX7_washes 92 = .ok (.aload_n 0, 1) := by decide +kernel
theorem dX7_washes_93 : decode cX7_washes 93 = .ok (.iload_n 3, 1) := by decide +kernel
theorem dX7_washes_94 : decode cX7_washes 94 = .ok (.iload_n 2, 1) := by decide +kernel
theorem dX7_washes_95 : decode cX7_washes 95 = .ok (.invokevirtual 226, 3) := by decide +kernel
theorem dX7_washes_98 : decode cX7_washes 98 = .ok (.goto 17, 3) := by decide +kernel
theorem dX7_washes_101 : decode cX7_washes 101 = .ok (.aload_n 0, 1) := by decide +kernel
theorem dX7_washes_102 : decode cX7_washes 102 = .ok (.getfield 22, 3) := by decide +kernel
theorem dX7_washes_105 : decode cX7_washes 105 = .ok (.iconst 1, 1) := by decide +kernel
theorem dX7_washes_106 : decode cX7_washes 106 = .ok (.iaload, 1) := by decide +kernel
theorem dX7_washes_107 : decode cX7_washes 107 = .ok (.ifCond .ne 8, 3) := by decide +kernel
theorem dX7_washes_110 : decode cX7_washes 110 = .ok (.aload_n 0, 1) := by decide +kernel
theorem dX7_washes_111 : decode cX7_washes 111 = .ok (.iload_n 3, 1) := by decide +kernel
theorem dX7_washes_112 : decode cX7_washes 112 = .ok (.invokevirtual 184, 3) := by decide +kernel
theorem dX7_washes_115 : decode cX7_washes 115 = .ok (.iinc 3 1, 3) := by decide +kernel
theorem dX7_washes_118 : decode cX7_washes 118 = .ok (.goto (-116), 3) := by decide +kernel
theorem dX7_washes_121 : decode cX7_washes 121 = .ok (.return_, 1) := by decide +kernel
theorem dX7_sorts_0 : decode cX7_sorts 0 = .ok (.aload_n 0, 1) := by decide +kernel
theorem dX7_sorts_1 : decode cX7_sorts 1 = .ok (.getfield 94, 3) := by decide +kernel
theorem dX7_sorts_4 : decode cX7_sorts 4 = .ok (.iconst 1, 1) := by decide +kernel
theorem dX7_sorts_5 : decode cX7_sorts 5 = .ok (.isub, 1) := by decide +kernel
theorem dX7_sorts_6 : decode cX7_sorts 6 = .ok (.istore_n 2, 1) := by decide +kernel
theorem dX7_sorts_7 : decode cX7_sorts 7 = .ok (.iload_n 2, 1) := by decide +kernel
theorem dX7_sorts_8 : decode cX7_sorts 8 = .ok (.ifCond .lt 40, 3) := by decide +kernel
theorem dX7_sorts_11 : decode cX7_sorts 11 = .ok (.aload_n 0, 1) := by decide +kernel
theorem dX7_sorts_12 : decode cX7_sorts 12 = .ok (.getfield 16, 3) := by decide +kernel
theorem dX7_sorts_15 : decode cX7_sorts 15 = .ok (.bipush 6, 2) := by decide +kernel
theorem dX7_sorts_17 : decode cX7_sorts 17 = .ok (.aload_n 0, 1) := by decide +kernel
theorem dX7_sorts_18 : decode cX7_sorts 18 = .ok (.getfield 19, 3) := by decide +kernel
theorem dX7_sorts_21 : decode cX7_sorts 21 = .ok (.iload_n 2, 1) := by decide +kernel
theorem dX7_sorts_22 : decode cX7_sorts 22 = .ok (.iaload, 1) := by decide +kernel
theorem dX7_sorts_23 : decode cX7_sorts 23 = .ok (.imul, 1) := by decide +kernel
theorem dX7_sorts_24 : decode cX7_sorts 24 = .ok (.iconst 1, 1) := by decide +kernel
theorem dX7_sorts_25 : decode cX7_sorts 25 = .ok (.iadd, 1) := by decide +kernel
theorem dX7_sorts_26 : decode cX7_sorts 26 = .ok (.iaload, 1) := by decide +kernel
theorem dX7_sorts_27 : decode cX7_sorts 27 = .ok (.bipush 99, 2) := by decide +kernel
theorem dX7_sorts_29 : decode cX7_sorts 29 = .ok (.if_icmp .ne 13, 3) := by decide +kernel
theorem dX7_sorts_32 : decode cX7_sorts 32 = .ok (.aload_n 0, 1) := by decide +kernel
theorem dX7_sorts_33 : decode cX7_sorts 33 = .ok (.aload_n 0, 1) := by decide +kernel
theorem dX7_sorts_34 : decode cX7_sorts 34 = .ok (.iload_n 2, 1) := by decide +kernel
theorem dX7_sorts_35 : decode cX7_sorts 35 = .ok (.invokevirtual 217, 3) := by decide +kernel
theorem dX7_sorts_38 : decode cX7_sorts 38 = .ok (.iload_n 1, 1) := by decide +kernel
theorem dX7_sorts_39 : decode cX7_sorts 39 = .ok (.invokevirtual 226, 3) := by decide +kernel
theorem dX7_sorts_42 : decode cX7_sorts 42 = .ok (.iinc 2 (-1), 3) := by decide +kernel
theorem dX7_sorts_45 : decode cX7_sorts 45 = .ok (.goto (-38), 3) := by decide +kernel
theorem dX7_sorts_48 : decode cX7_sorts 48 = .ok (.return_, 1) := by decide +kernel
theorem dX7_weekBy_0 : decode cX7_weekBy 0 = .ok (.aload_n 0, 1) := by decide +kernel
theorem dX7_weekBy_1 : decode cX7_weekBy 1 = .ok (.invokevirtual 229, 3) := by decide +kernel
theorem dX7_weekBy_4 : decode cX7_weekBy 4 = .ok (.aload_n 0, 1) := by decide +kernel
theorem dX7_weekBy_5 : decode cX7_weekBy 5 = .ok (.iload_n 2, 1) := by decide +kernel
theorem dX7_weekBy_6 : decode cX7_weekBy 6 = .ok (.iload_n 3, 1) := by decide +kernel
theorem dX7_weekBy_7 : decode cX7_weekBy 7 = .ok (.invokevirtual 232, 3) := by decide +kernel
theorem dX7_weekBy_10 : decode cX7_weekBy 10 = .ok (.istore 4, 2) := by decide +kernel
theorem dX7_weekBy_12 : decode cX7_weekBy 12 = .ok (.aload_n 0, 1) := by decide +kernel
theorem dX7_weekBy_13 : decode cX7_weekBy 13 = .ok (.dup, 1) := by decide +kernel
theorem dX7_weekBy_14 : decode cX7_weekBy 14 = .ok (.getfield 235, 3) := by decide +kernel
theorem dX7_weekBy_17 : decode cX7_weekBy 17 = .ok (.iload 4, 2) := by decide +kernel
theorem dX7_weekBy_19 : decode cX7_weekBy 19 = .ok (.ior, 1) := by decide +kernel
theorem dX7_weekBy_20 : decode cX7_weekBy 20 = .ok (.putfield 235, 3) := by decide +kernel
theorem dX7_weekBy_23 : decode cX7_weekBy 23 = .ok (.aload_n 0, 1) := by decide +kernel
theorem dX7_weekBy_24 : decode cX7_weekBy 24 = .ok (.invokevirtual 238, 3) := by decide +kernel
theorem dX7_weekBy_27 : decode cX7_weekBy 27 = .ok (.aload_n 0, 1) := by decide +kernel
theorem dX7_weekBy_28 : decode cX7_weekBy 28 = .ok (.iload 4, 2) := by decide +kernel
theorem dX7_weekBy_30 : decode cX7_weekBy 30 = .ok (.iload_n 1, 1) := by decide +kernel
theorem dX7_weekBy_31 : decode cX7_weekBy 31 = .ok (.invokevirtual 241, 3) := by decide +kernel
theorem dX7_weekBy_34 : decode cX7_weekBy 34 = .ok (.aload_n 0, 1) := by decide +kernel
theorem dX7_weekBy_35 : decode cX7_weekBy 35 = .ok (.iload_n 1, 1) := by decide +kernel
theorem dX7_weekBy_36 : decode cX7_weekBy 36 = .ok (.invokevirtual 244, 3) := by decide +kernel
theorem dX7_weekBy_39 : decode cX7_weekBy 39 = .ok (.aload_n 0, 1) := by decide +kernel
theorem dX7_weekBy_40 : decode cX7_weekBy 40 = .ok (.dup, 1) := by decide +kernel
theorem dX7_weekBy_41 : decode cX7_weekBy 41 = .ok (.getfield 97, 3) := by decide +kernel
theorem dX7_weekBy_44 : decode cX7_weekBy 44 = .ok (.iconst 1, 1) := by decide +kernel
theorem dX7_weekBy_45 : decode cX7_weekBy 45 = .ok (.iadd, 1) := by decide +kernel
theorem dX7_weekBy_46 : decode cX7_weekBy 46 = .ok (.putfield 97, 3) := by decide +kernel
theorem dX7_weekBy_49 : decode cX7_weekBy 49 = .ok (.return_, 1) := by decide +kernel
theorem dX7_begins_0 : decode cX7_begins 0 = .ok (.aload_n 0, 1) := by decide +kernel
theorem dX7_begins_1 : decode cX7_begins 1 = .ok (.iconst 0, 1) := by decide +kernel
theorem dX7_begins_2 : decode cX7_begins 2 = .ok (.putfield 214, 3) := by decide +kernel
theorem dX7_begins_5 : decode cX7_begins 5 = .ok (.aload_n 0, 1) := by decide +kernel
theorem dX7_begins_6 : decode cX7_begins 6 = .ok (.iconst 0, 1) := by decide +kernel
theorem dX7_begins_7 : decode cX7_begins 7 = .ok (.putfield 235, 3) := by decide +kernel
theorem dX7_begins_10 : decode cX7_begins 10 = .ok (.aload_n 0, 1) := by decide +kernel
theorem dX7_begins_11 : decode cX7_begins 11 = .ok (.iconst (-1), 1) := by decide +kernel
theorem dX7_begins_12 : decode cX7_begins 12 = .ok (.putfield 211, 3) := by decide +kernel
theorem dX7_begins_15 : decode cX7_begins 15 = .ok (.iconst 0, 1) := by decide +kernel
theorem dX7_begins_16 : decode cX7_begins 16 = .ok (.istore_n 1, 1) := by decide +kernel
theorem dX7_begins_17 : decode cX7_begins 17 = .ok (.iload_n 1, 1) := by decide +kernel
theorem dX7_begins_18 : decode cX7_begins 18 = .ok (.bipush 8, 2) := by decide +kernel
theorem dX7_begins_20 : decode cX7_begins 20 = .ok (.if_icmp .ge 16, 3) := by decide +kernel
theorem dX7_begins_23 : decode cX7_begins 23 = .ok (.aload_n 0, 1) := by decide +kernel
theorem dX7_begins_24 : decode cX7_begins 24 = .ok (.getfield 67, 3) := by decide +kernel
theorem dX7_begins_27 : decode cX7_begins 27 = .ok (.iload_n 1, 1) := by decide +kernel
theorem dX7_begins_28 : decode cX7_begins 28 = .ok (.iconst (-1), 1) := by decide +kernel
theorem dX7_begins_29 : decode cX7_begins 29 = .ok (.iastore, 1) := by decide +kernel
theorem dX7_begins_30 : decode cX7_begins 30 = .ok (.iinc 1 1, 3) := by decide +kernel
theorem dX7_begins_33 : decode cX7_begins 33 = .ok (.goto (-16), 3) := by decide +kernel
theorem dX7_begins_36 : decode cX7_begins 36 = .ok (.return_, 1) := by decide +kernel
theorem dX7_live_0 : decode cX7_live 0 = .ok (.aload_n 0, 1) := by decide +kernel
theorem dX7_live_1 : decode cX7_live 1 = .ok (.getfield 97, 3) := by decide +kernel
theorem dX7_live_4 : decode cX7_live 4 = .ok (.sipush 999, 3) := by decide +kernel
theorem dX7_live_7 : decode cX7_live 7 = .ok (.if_icmp .ne 6, 3) := by decide +kernel
theorem dX7_live_10 : decode cX7_live 10 = .ok (.bipush (-4), 2) := by decide +kernel
theorem dX7_live_12 : decode cX7_live 12 = .ok (.ireturn, 1) := by decide +kernel
theorem dX7_live_13 : decode cX7_live 13 = .ok (.aload_n 0, 1) := by decide +kernel
theorem dX7_live_14 : decode cX7_live 14 = .ok (.invokevirtual 247, 3) := by decide +kernel
theorem dX7_live_17 : decode cX7_live 17 = .ok (.aload_n 0, 1) := by decide +kernel
theorem dX7_live_18 : decode cX7_live 18 = .ok (.iconst 0, 1) := by decide +kernel
theorem dX7_live_19 : decode cX7_live 19 = .ok (.aload_n 0, 1) := by decide +kernel
theorem dX7_live_20 : decode cX7_live 20 = .ok (.getfield 22, 3) := by decide +kernel
theorem dX7_live_23 : decode cX7_live 23 = .ok (.iconst 0, 1) := by decide +kernel
theorem dX7_live_24 : decode cX7_live 24 = .ok (.iaload, 1) := by decide +kernel
theorem dX7_live_25 : decode cX7_live 25 = .ok (.aload_n 0, 1) := by decide +kernel
theorem dX7_live_26 : decode cX7_live 26 = .ok (.getfield 22, 3) := by decide +kernel
theorem dX7_live_29 : decode cX7_live 29 = .ok (.iconst 2, 1) := by decide +kernel
theorem dX7_live_30 : decode cX7_live 30 = .ok (.iaload, 1) := by decide +kernel
theorem dX7_live_31 : decode cX7_live 31 = .ok (.invokevirtual 250, 3) := by decide +kernel
theorem dX7_live_34 : decode cX7_live 34 = .ok (.aload_n 0, 1) := by decide +kernel
theorem dX7_live_35 : decode cX7_live 35 = .ok (.getfield 214, 3) := by decide +kernel
theorem dX7_live_38 : decode cX7_live 38 = .ok (.ireturn, 1) := by decide +kernel
theorem dX7_keeps_0 : decode cX7_keeps 0 = .ok (.iconst 0, 1) := by decide +kernel
theorem dX7_keeps_1 : decode cX7_keeps 1 = .ok (.istore_n 1, 1) := by decide +kernel
theorem dX7_keeps_2 : decode cX7_keeps 2 = .ok (.iload_n 1, 1) := by decide +kernel
theorem dX7_keeps_3 : decode cX7_keeps 3 = .ok (.bipush 48, 2) := by decide +kernel
theorem dX7_keeps_5 : decode cX7_keeps 5 = .ok (.if_icmp .ge 21, 3) := by decide +kernel
theorem dX7_keeps_8 : decode cX7_keeps 8 = .ok (.aload_n 0, 1) := by decide +kernel
theorem dX7_keeps_9 : decode cX7_keeps 9 = .ok (.getfield 70, 3) := by decide +kernel
theorem dX7_keeps_12 : decode cX7_keeps 12 = .ok (.iload_n 1, 1) := by decide +kernel
theorem dX7_keeps_13 : decode cX7_keeps 13 = .ok (.aload_n 0, 1) := by decide +kernel
theorem dX7_keeps_14 : decode cX7_keeps 14 = .ok (.getfield 16, 3) := by decide +kernel
theorem dX7_keeps_17 : decode cX7_keeps 17 = .ok (.iload_n 1, 1) := by decide +kernel
theorem dX7_keeps_18 : decode cX7_keeps 18 = .ok (.iaload, 1) := by decide +kernel
theorem dX7_keeps_19 : decode cX7_keeps 19 = .ok (.iastore, 1) := by decide +kernel
theorem dX7_keeps_20 : decode cX7_keeps 20 = .ok (.iinc 1 1, 3) := by decide +kernel
theorem dX7_keeps_23 : decode cX7_keeps 23 = .ok (.goto (-21), 3) := by decide +kernel
theorem dX7_keeps_26 : decode cX7_keeps 26 = .ok (.iconst 0, 1) := by decide +kernel
theorem dX7_keeps_27 : decode cX7_keeps 27 = .ok (.istore_n 1, 1) := by decide +kernel
theorem dX7_keeps_28 : decode cX7_keeps 28 = .ok (.iload_n 1, 1) := by decide +kernel
theorem dX7_keeps_29 : decode cX7_keeps 29 = .ok (.bipush 9, 2) := by decide +kernel
theorem dX7_keeps_31 : decode cX7_keeps 31 = .ok (.if_icmp .ge 21, 3) := by decide +kernel
theorem dX7_keeps_34 : decode cX7_keeps 34 = .ok (.aload_n 0, 1) := by decide +kernel
theorem dX7_keeps_35 : decode cX7_keeps 35 = .ok (.getfield 73, 3) := by decide +kernel
theorem dX7_keeps_38 : decode cX7_keeps 38 = .ok (.iload_n 1, 1) := by decide +kernel
theorem dX7_keeps_39 : decode cX7_keeps 39 = .ok (.aload_n 0, 1) := by decide +kernel
theorem dX7_keeps_40 : decode cX7_keeps 40 = .ok (.getfield 19, 3) := by decide +kernel
theorem dX7_keeps_43 : decode cX7_keeps 43 = .ok (.iload_n 1, 1) := by decide +kernel
theorem dX7_keeps_44 : decode cX7_keeps 44 = .ok (.iaload, 1) := by decide +kernel
theorem dX7_keeps_45 : decode cX7_keeps 45 = .ok (.iastore, 1) := by decide +kernel
theorem dX7_keeps_46 : decode cX7_keeps 46 = .ok (.iinc 1 1, 3) := by decide +kernel
theorem dX7_keeps_49 : decode cX7_keeps 49 = .ok (.goto (-21), 3) := by decide +kernel
theorem dX7_keeps_52 : decode cX7_keeps 52 = .ok (.aload_n 0, 1) := by decide +kernel
theorem dX7_keeps_53 : decode cX7_keeps 53 = .ok (.aload_n 0, 1) := by decide +kernel
theorem dX7_keeps_54 : decode cX7_keeps 54 = .ok (.getfield 94, 3) := by decide +kernel
theorem dX7_keeps_57 : decode cX7_keeps 57 = .ok (.putfield 254, 3) := by decide +kernel
theorem dX7_keeps_60 : decode cX7_keeps 60 = .ok (.aload_n 0, 1) := by decide +kernel
theorem dX7_keeps_61 : decode cX7_keeps 61 = .ok (.aload_n 0, 1) := by decide +kernel
theorem dX7_keeps_62 : decode cX7_keeps 62 = .ok (.getfield 97, 3) := by decide +kernel
theorem dX7_keeps_65 : decode cX7_keeps 65 = .ok (.putfield 257, 3) := by decide +kernel
theorem dX7_keeps_68 : decode cX7_keeps 68 = .ok (.aload_n 0, 1) := by decide +kernel
theorem dX7_keeps_69 : decode cX7_keeps 69 = .ok (.invokevirtual 247, 3) := by decide +kernel
theorem dX7_keeps_72 : decode cX7_keeps 72 = .ok (.return_, 1) := by decide +kernel
theorem dX7_laysBack_0 : decode cX7_laysBack 0 = .ok (.iconst 0, 1) := by decide +kernel
theorem dX7_laysBack_1 : decode cX7_laysBack 1 = .ok (.istore_n 1, 1) := by decide +kernel
theorem dX7_laysBack_2 : decode cX7_laysBack 2 = .ok (.iload_n 1, 1) := by decide +kernel
theorem dX7_laysBack_3 : decode cX7_laysBack 3 = .ok (.bipush 48, 2) := by decide +kernel
theorem dX7_laysBack_5 : decode cX7_laysBack 5 = .ok (.if_icmp .ge 33, 3) := by decide +kernel
theorem dX7_laysBack_8 : decode cX7_laysBack 8 = .ok (.aload_n 0, 1) := by decide +kernel
theorem dX7_laysBack_9 : decode cX7_laysBack 9 = .ok (.getfield 76, 3) := by decide +kernel
theorem dX7_laysBack_12 : decode cX7_laysBack 12 = .ok (.iload_n 1, 1) := by decide +kernel
theorem dX7_laysBack_13 : decode cX7_laysBack 13 = .ok (.aload_n 0, 1) := by decide +kernel
theorem dX7_laysBack_14 : decode cX7_laysBack 14 = .ok (.getfield 16, 3) := by decide +kernel
theorem dX7_laysBack_17 : decode cX7_laysBack 17 = .ok (.iload_n 1, 1) := by decide +kernel
theorem dX7_laysBack_18 : decode cX7_laysBack 18 = .ok (.iaload, 1) := by decide +kernel
theorem dX7_laysBack_19 : decode cX7_laysBack 19 = .ok (.iastore, 1) := by decide +kernel
theorem dX7_laysBack_20 : decode cX7_laysBack 20 = .ok (.aload_n 0, 1) := by decide +kernel
theorem dX7_laysBack_21 : decode cX7_laysBack 21 = .ok (.getfield 16, 3) := by decide +kernel
theorem dX7_laysBack_24 : decode cX7_laysBack 24 = .ok (.iload_n 1, 1) := by decide +kernel
theorem dX7_laysBack_25 : decode cX7_laysBack 25 = .ok (.aload_n 0, 1) := by decide +kernel
theorem dX7_laysBack_26 : decode cX7_laysBack 26 = .ok (.getfield 70, 3) := by decide +kernel
theorem dX7_laysBack_29 : decode cX7_laysBack 29 = .ok (.iload_n 1, 1) := by decide +kernel
theorem dX7_laysBack_30 : decode cX7_laysBack 30 = .ok (.iaload, 1) := by decide +kernel
theorem dX7_laysBack_31 : decode cX7_laysBack 31 = .ok (.iastore, 1) := by decide +kernel
theorem dX7_laysBack_32 : decode cX7_laysBack 32 = .ok (.iinc 1 1, 3) := by decide +kernel
theorem dX7_laysBack_35 : decode cX7_laysBack 35 = .ok (.goto (-33), 3) := by decide +kernel
theorem dX7_laysBack_38 : decode cX7_laysBack 38 = .ok (.iconst 0, 1) := by decide +kernel
theorem dX7_laysBack_39 : decode cX7_laysBack 39 = .ok (.istore_n 1, 1) := by decide +kernel
theorem dX7_laysBack_40 : decode cX7_laysBack 40 = .ok (.iload_n 1, 1) := by decide +kernel
theorem dX7_laysBack_41 : decode cX7_laysBack 41 = .ok (.bipush 9, 2) := by decide +kernel
theorem dX7_laysBack_43 : decode cX7_laysBack 43 = .ok (.if_icmp .ge 21, 3) := by decide +kernel
theorem dX7_laysBack_46 : decode cX7_laysBack 46 = .ok (.aload_n 0, 1) := by decide +kernel
theorem dX7_laysBack_47 : decode cX7_laysBack 47 = .ok (.getfield 19, 3) := by decide +kernel
theorem dX7_laysBack_50 : decode cX7_laysBack 50 = .ok (.iload_n 1, 1) := by decide +kernel
theorem dX7_laysBack_51 : decode cX7_laysBack 51 = .ok (.aload_n 0, 1) := by decide +kernel
theorem dX7_laysBack_52 : decode cX7_laysBack 52 = .ok (.getfield 73, 3) := by decide +kernel
theorem dX7_laysBack_55 : decode cX7_laysBack 55 = .ok (.iload_n 1, 1) := by decide +kernel
theorem dX7_laysBack_56 : decode cX7_laysBack 56 = .ok (.iaload, 1) := by decide +kernel
theorem dX7_laysBack_57 : decode cX7_laysBack 57 = .ok (.iastore, 1) := by decide +kernel
theorem dX7_laysBack_58 : decode cX7_laysBack 58 = .ok (.iinc 1 1, 3) := by decide +kernel
theorem dX7_laysBack_61 : decode cX7_laysBack 61 = .ok (.goto (-21), 3) := by decide +kernel
theorem dX7_laysBack_64 : decode cX7_laysBack 64 = .ok (.aload_n 0, 1) := by decide +kernel
theorem dX7_laysBack_65 : decode cX7_laysBack 65 = .ok (.aload_n 0, 1) := by decide +kernel
theorem dX7_laysBack_66 : decode cX7_laysBack 66 = .ok (.getfield 254, 3) := by decide +kernel
theorem dX7_laysBack_69 : decode cX7_laysBack 69 = .ok (.putfield 94, 3) := by decide +kernel
theorem dX7_laysBack_72 : decode cX7_laysBack 72 = .ok (.aload_n 0, 1) := by decide +kernel
theorem dX7_laysBack_73 : decode cX7_laysBack 73 = .ok (.aload_n 0, 1) := by decide +kernel
theorem dX7_laysBack_74 : decode cX7_laysBack 74 = .ok (.getfield 257, 3) := by decide +kernel
theorem dX7_laysBack_77 : decode cX7_laysBack 77 = .ok (.putfield 97, 3) := by decide +kernel
theorem dX7_laysBack_80 : decode cX7_laysBack 80 = .ok (.return_, 1) := by decide +kernel
theorem dX7_goes_0 : decode cX7_goes 0 = .ok (.aload_n 0, 1) := by decide +kernel
theorem dX7_goes_1 : decode cX7_goes 1 = .ok (.invokevirtual 260, 3) := by decide +kernel
theorem dX7_goes_4 : decode cX7_goes 4 = .ok (.iconst 0, 1) := by decide +kernel
theorem dX7_goes_5 : decode cX7_goes 5 = .ok (.istore_n 2, 1) := by decide +kernel
theorem dX7_goes_6 : decode cX7_goes 6 = .ok (.iload_n 2, 1) := by decide +kernel
theorem dX7_goes_7 : decode cX7_goes 7 = .ok (.iload_n 1, 1) := by decide +kernel
theorem dX7_goes_8 : decode cX7_goes 8 = .ok (.if_icmp .ge 26, 3) := by decide +kernel
theorem dX7_goes_11 : decode cX7_goes 11 = .ok (.aload_n 0, 1) := by decide +kernel
theorem dX7_goes_12 : decode cX7_goes 12 = .ok (.iload_n 2, 1) := by decide +kernel
theorem dX7_goes_13 : decode cX7_goes 13 = .ok (.aload_n 0, 1) := by decide +kernel
theorem dX7_goes_14 : decode cX7_goes 14 = .ok (.getfield 22, 3) := by decide +kernel
theorem dX7_goes_17 : decode cX7_goes 17 = .ok (.iconst 0, 1) := by decide +kernel
theorem dX7_goes_18 : decode cX7_goes 18 = .ok (.iaload, 1) := by decide +kernel
theorem dX7_goes_19 : decode cX7_goes 19 = .ok (.aload_n 0, 1) := by decide +kernel
theorem dX7_goes_20 : decode cX7_goes 20 = .ok (.getfield 22, 3) := by decide +kernel
theorem dX7_goes_23 : decode cX7_goes 23 = .ok (.iconst 2, 1) := by decide +kernel
theorem dX7_goes_24 : decode cX7_goes 24 = .ok (.iaload, 1) := by decide +kernel
theorem dX7_goes_25 : decode cX7_goes 25 = .ok (.invokevirtual 250, 3) := by decide +kernel
theorem dX7_goes_28 : decode cX7_goes 28 = .ok (.iinc 2 1, 3) := by decide +kernel
theorem dX7_goes_31 : decode cX7_goes 31 = .ok (.goto (-25), 3) := by decide +kernel
theorem dX7_goes_34 : decode cX7_goes 34 = .ok (.aload_n 0, 1) := by decide +kernel
theorem dX7_goes_35 : decode cX7_goes 35 = .ok (.invokevirtual 263, 3) := by decide +kernel
theorem dX7_goes_38 : decode cX7_goes 38 = .ok (.return_, 1) := by decide +kernel
theorem dX7_leftMany_0 : decode cX7_leftMany 0 = .ok (.iconst 0, 1) := by decide +kernel
theorem dX7_leftMany_1 : decode cX7_leftMany 1 = .ok (.istore_n 1, 1) := by decide +kernel
theorem dX7_leftMany_2 : decode cX7_leftMany 2 = .ok (.iconst 0, 1) := by decide +kernel
theorem dX7_leftMany_3 : decode cX7_leftMany 3 = .ok (.istore_n 2, 1) := by decide +kernel
theorem dX7_leftMany_4 : decode cX7_leftMany 4 = .ok (.iload_n 2, 1) := by decide +kernel
theorem dX7_leftMany_5 : decode cX7_leftMany 5 = .ok (.aload_n 0, 1) := by decide +kernel
theorem dX7_leftMany_6 : decode cX7_leftMany 6 = .ok (.getfield 87, 3) := by decide +kernel
theorem dX7_leftMany_9 : decode cX7_leftMany 9 = .ok (.if_icmp .ge 25, 3) := by decide +kernel
theorem dX7_leftMany_12 : decode cX7_leftMany 12 = .ok (.iload_n 1, 1) := by decide +kernel
theorem dX7_leftMany_13 : decode cX7_leftMany 13 = .ok (.iconst 1, 1) := by decide +kernel
theorem dX7_leftMany_14 : decode cX7_leftMany 14 = .ok (.aload_n 0, 1) := by decide +kernel
theorem dX7_leftMany_15 : decode cX7_leftMany 15 = .ok (.getfield 76, 3) := by decide +kernel
theorem dX7_leftMany_18 : decode cX7_leftMany 18 = .ok (.bipush 6, 2) := by decide +kernel
theorem dX7_leftMany_20 : decode cX7_leftMany 20 = .ok (.iload_n 2, 1) := by decide +kernel
theorem dX7_leftMany_21 : decode cX7_leftMany 21 = .ok (.imul, 1) := by decide +kernel
theorem dX7_leftMany_22 : decode cX7_leftMany 22 = .ok (.iconst 5, 1) := by decide +kernel
theorem dX7_leftMany_23 : decode cX7_leftMany 23 = .ok (.iadd, 1) := by decide +kernel
theorem dX7_leftMany_24 : decode cX7_leftMany 24 = .ok (.iaload, 1) := by decide +kernel
theorem dX7_leftMany_25 : decode cX7_leftMany 25 = .ok (.isub, 1) := by decide +kernel
theorem dX7_leftMany_26 : decode cX7_leftMany 26 = .ok (.iadd, 1) := by decide +kernel
theorem dX7_leftMany_27 : decode cX7_leftMany 27 = .ok (.istore_n 1, 1) := by decide +kernel
theorem dX7_leftMany_28 : decode cX7_leftMany 28 = .ok (.iinc 2 1, 3) := by decide +kernel
theorem dX7_leftMany_31 : decode cX7_leftMany 31 = .ok (.goto (-27), 3) := by decide +kernel
theorem dX7_leftMany_34 : decode cX7_leftMany 34 = .ok (.iload_n 1, 1) := by decide +kernel
theorem dX7_leftMany_35 : decode cX7_leftMany 35 = .ok (.ireturn, 1) := by decide +kernel
theorem dX7_mostWorn_0 : decode cX7_mostWorn 0 = .ok (.iconst (-1), 1) := by decide +kernel
theorem dX7_mostWorn_1 : decode cX7_mostWorn 1 = .ok (.istore_n 1, 1) := by decide +kernel
theorem dX7_mostWorn_2 : decode cX7_mostWorn 2 = .ok (.iconst 0, 1) := by decide +kernel
theorem dX7_mostWorn_3 : decode cX7_mostWorn 3 = .ok (.istore_n 2, 1) := by decide +kernel
theorem dX7_mostWorn_4 : decode cX7_mostWorn 4 = .ok (.iload_n 2, 1) := by decide +kernel
theorem dX7_mostWorn_5 : decode cX7_mostWorn 5 = .ok (.aload_n 0, 1) := by decide +kernel
theorem dX7_mostWorn_6 : decode cX7_mostWorn 6 = .ok (.getfield 87, 3) := by decide +kernel
theorem dX7_mostWorn_9 : decode cX7_mostWorn 9 = .ok (.if_icmp .ge 36, 3) := by decide +kernel
theorem dX7_mostWorn_12 : decode cX7_mostWorn 12 = .ok (.aload_n 0, 1) := by decide +kernel
theorem dX7_mostWorn_13 : decode cX7_mostWorn 13 = .ok (.getfield 76, 3) := by decide +kernel
theorem dX7_mostWorn_16 : decode cX7_mostWorn 16 = .ok (.bipush 6, 2) := by decide +kernel
theorem dX7_mostWorn_18 : decode cX7_mostWorn 18 = .ok (.iload_n 2, 1) := by decide +kernel
theorem dX7_mostWorn_19 : decode cX7_mostWorn 19 = .ok (.imul, 1) := by decide +kernel
theorem dX7_mostWorn_20 : decode cX7_mostWorn 20 = .ok (.iaload, 1) := by decide +kernel
theorem dX7_mostWorn_21 : decode cX7_mostWorn 21 = .ok (.iload_n 1, 1) := by decide +kernel
theorem dX7_mostWorn_22 : decode cX7_mostWorn 22 = .ok (.if_icmp .le 15, 3) := by decide +kernel
theorem dX7_mostWorn_25 : decode cX7_mostWorn 25 = .ok (.aload_n 0, 1) := by decide +kernel
theorem dX7_mostWorn_26 : decode cX7_mostWorn 26 = .ok (.getfield 76, 3) := by decide +kernel
theorem dX7_mostWorn_29 : decode cX7_mostWorn 29 = .ok (.bipush 6, 2) := by decide +kernel
theorem dX7_mostWorn_31 : decode cX7_mostWorn 31 = .ok (.iload_n 2, 1) := by decide +kernel
theorem dX7_mostWorn_32 : decode cX7_mostWorn 32 = .ok (.imul, 1) := by decide +kernel
theorem dX7_mostWorn_33 : decode cX7_mostWorn 33 = .ok (.iaload, 1) := by decide +kernel
theorem dX7_mostWorn_34 : decode cX7_mostWorn 34 = .ok (.goto 4, 3) := by decide +kernel
theorem dX7_mostWorn_37 : decode cX7_mostWorn 37 = .ok (.iload_n 1, 1) := by decide +kernel
theorem dX7_mostWorn_38 : decode cX7_mostWorn 38 = .ok (.istore_n 1, 1) := by decide +kernel
theorem dX7_mostWorn_39 : decode cX7_mostWorn 39 = .ok (.iinc 2 1, 3) := by decide +kernel
theorem dX7_mostWorn_42 : decode cX7_mostWorn 42 = .ok (.goto (-38), 3) := by decide +kernel
theorem dX7_mostWorn_45 : decode cX7_mostWorn 45 = .ok (.iload_n 1, 1) := by decide +kernel
theorem dX7_mostWorn_46 : decode cX7_mostWorn 46 = .ok (.ireturn, 1) := by decide +kernel
theorem dX7_run_0 : decode cX7_run 0 = .ok (.iload_n 1, 1) := by decide +kernel
theorem dX7_run_1 : decode cX7_run 1 = .ok (.invokestatic 266, 3) := by decide +kernel
theorem dX7_run_4 : decode cX7_run 4 = .ok (.ifCond .eq 12, 3) := by decide +kernel
theorem dX7_run_7 : decode cX7_run 7 = .ok (.iload_n 2, 1) := by decide +kernel
theorem dX7_run_8 : decode cX7_run 8 = .ok (.iconst 0, 1) := by decide +kernel
theorem dX7_run_9 : decode cX7_run 9 = .ok (.iconst 4, 1) := by decide +kernel
theorem dX7_run_10 : decode cX7_run 10 = .ok (.invokestatic 90, 3) := by decide +kernel
theorem dX7_run_13 : decode cX7_run 13 = .ok (.ifCond .ne 6, 3) := by decide +kernel
theorem dX7_run_16 : decode cX7_run 16 = .ok (.bipush (-2), 2) := by decide +kernel
theorem dX7_run_18 : decode cX7_run 18 = .ok (.ireturn, 1) := by decide +kernel
theorem dX7_run_19 : decode cX7_run 19 = .ok (.aload_n 0, 1) := by decide +kernel
theorem dX7_run_20 : decode cX7_run 20 = .ok (.iload_n 1, 1) := by decide +kernel
theorem dX7_run_21 : decode cX7_run 21 = .ok (.invokevirtual 269, 3) := by decide +kernel
theorem dX7_run_24 : decode cX7_run 24 = .ok (.iload_n 2, 1) := by decide +kernel
theorem dX7_run_25 : decode cX7_run 25 = .ok (.ifCond .ne 10, 3) := by decide +kernel
theorem dX7_run_28 : decode cX7_run 28 = .ok (.aload_n 0, 1) := by decide +kernel
theorem dX7_run_29 : decode cX7_run 29 = .ok (.invokevirtual 272, 3) := by decide +kernel
theorem dX7_run_32 : decode cX7_run 32 = .ok (.goto 43, 3) := by decide +kernel
theorem dX7_run_35 : decode cX7_run 35 = .ok (.iload_n 2, 1) := by decide +kernel
theorem dX7_run_36 : decode cX7_run 36 = .ok (.iconst 1, 1) := by decide +kernel
theorem dX7_run_37 : decode cX7_run 37 = .ok (.if_icmp .ne 10, 3) := by decide +kernel
theorem dX7_run_40 : decode cX7_run 40 = .ok (.aload_n 0, 1) := by decide +kernel
theorem dX7_run_41 : decode cX7_run 41 = .ok (.getfield 211, 3) := by decide +kernel
theorem dX7_run_44 : decode cX7_run 44 = .ok (.goto 31, 3) := by decide +kernel
theorem dX7_run_47 : decode cX7_run 47 = .ok (.iload_n 2, 1) := by decide +kernel
theorem dX7_run_48 : decode cX7_run 48 = .ok (.iconst 2, 1) := by decide +kernel
theorem dX7_run_49 : decode cX7_run 49 = .ok (.if_icmp .ne 10, 3) := by decide +kernel
theorem dX7_run_52 : decode cX7_run 52 = .ok (.aload_n 0, 1) := by decide +kernel
theorem dX7_run_53 : decode cX7_run 53 = .ok (.getfield 214, 3) := by decide +kernel
theorem dX7_run_56 : decode cX7_run 56 = .ok (.goto 19, 3) := by decide +kernel
theorem dX7_run_59 : decode cX7_run 59 = .ok (.iload_n 2, 1) := by decide +kernel
theorem dX7_run_60 : decode cX7_run 60 = .ok (.iconst 3, 1) := by decide +kernel
theorem dX7_run_61 : decode cX7_run 61 = .ok (.if_icmp .ne 10, 3) := by decide +kernel
theorem dX7_run_64 : decode cX7_run 64 = .ok (.aload_n 0, 1) := by decide +kernel
theorem dX7_run_65 : decode cX7_run 65 = .ok (.getfield 235, 3) := by decide +kernel
theorem dX7_run_68 : decode cX7_run 68 = .ok (.goto 7, 3) := by decide +kernel
theorem dX7_run_71 : decode cX7_run 71 = .ok (.aload_n 0, 1) := by decide +kernel
theorem dX7_run_72 : decode cX7_run 72 = .ok (.invokevirtual 275, 3) := by decide +kernel
theorem dX7_run_75 : decode cX7_run 75 = .ok (.ireturn, 1) := by decide +kernel
theorem dX7_then_0 : decode cX7_then 0 = .ok (.aload_n 0, 1) := by decide +kernel
theorem dX7_then_1 : decode cX7_then 1 = .ok (.iload_n 1, 1) := by decide +kernel
theorem dX7_then_2 : decode cX7_then 2 = .ok (.invokevirtual 187, 3) := by decide +kernel
theorem dX7_then_5 : decode cX7_then 5 = .ok (.ifCond .ne 6, 3) := by decide +kernel
theorem dX7_then_8 : decode cX7_then 8 = .ok (.bipush (-5), 2) := by decide +kernel
theorem dX7_then_10 : decode cX7_then 10 = .ok (.ireturn, 1) := by decide +kernel
theorem dX7_then_11 : decode cX7_then 11 = .ok (.iload_n 2, 1) := by decide +kernel
theorem dX7_then_12 : decode cX7_then 12 = .ok (.invokestatic 266, 3) := by decide +kernel
theorem dX7_then_15 : decode cX7_then 15 = .ok (.ifCond .eq 12, 3) := by decide +kernel
theorem dX7_then_18 : decode cX7_then 18 = .ok (.iload_n 3, 1) := by decide +kernel
theorem dX7_then_19 : decode cX7_then 19 = .ok (.iconst 0, 1) := by decide +kernel
theorem dX7_then_20 : decode cX7_then 20 = .ok (.iconst 1, 1) := by decide +kernel
theorem dX7_then_21 : decode cX7_then 21 = .ok (.invokestatic 90, 3) := by decide +kernel
theorem dX7_then_24 : decode cX7_then 24 = .ok (.ifCond .ne 6, 3) := by decide +kernel
theorem dX7_then_27 : decode cX7_then 27 = .ok (.bipush (-7), 2) := by decide +kernel
theorem dX7_then_29 : decode cX7_then 29 = .ok (.ireturn, 1) := by decide +kernel
theorem dX7_then_30 : decode cX7_then 30 = .ok (.aload_n 0, 1) := by decide +kernel
theorem dX7_then_31 : decode cX7_then 31 = .ok (.iload_n 2, 1) := by decide +kernel
theorem dX7_then_32 : decode cX7_then 32 = .ok (.invokevirtual 269, 3) := by decide +kernel
theorem dX7_then_35 : decode cX7_then 35 = .ok (.aload_n 0, 1) := by decide +kernel
theorem dX7_then_36 : decode cX7_then 36 = .ok (.getfield 76, 3) := by decide +kernel
theorem dX7_then_39 : decode cX7_then 39 = .ok (.bipush 6, 2) := by decide +kernel
theorem dX7_then_41 : decode cX7_then 41 = .ok (.iload_n 1, 1) := by decide +kernel
theorem dX7_then_42 : decode cX7_then 42 = .ok (.imul, 1) := by decide +kernel
theorem dX7_then_43 : decode cX7_then 43 = .ok (.iload_n 3, 1) := by decide +kernel
theorem dX7_then_44 : decode cX7_then 44 = .ok (.iadd, 1) := by decide +kernel
theorem dX7_then_45 : decode cX7_then 45 = .ok (.iaload, 1) := by decide +kernel
theorem dX7_then_46 : decode cX7_then 46 = .ok (.ireturn, 1) := by decide +kernel
theorem dX7_cost_0 : decode cX7_cost 0 = .ok (.iload_n 1, 1) := by decide +kernel
theorem dX7_cost_1 : decode cX7_cost 1 = .ok (.invokestatic 266, 3) := by decide +kernel
theorem dX7_cost_4 : decode cX7_cost 4 = .ok (.ifCond .ne 6, 3) := by decide +kernel
theorem dX7_cost_7 : decode cX7_cost 7 = .ok (.bipush (-2), 2) := by decide +kernel
theorem dX7_cost_9 : decode cX7_cost 9 = .ok (.ireturn, 1) := by decide +kernel
theorem dX7_cost_10 : decode cX7_cost 10 = .ok (.aload_n 0, 1) := by decide +kernel
theorem dX7_cost_11 : decode cX7_cost 11 = .ok (.iload_n 1, 1) := by decide +kernel
theorem dX7_cost_12 : decode cX7_cost 12 = .ok (.invokevirtual 269, 3) := by decide +kernel
theorem dX7_cost_15 : decode cX7_cost 15 = .ok (.aload_n 0, 1) := by decide +kernel
theorem dX7_cost_16 : decode cX7_cost 16 = .ok (.getfield 214, 3) := by decide +kernel
theorem dX7_cost_19 : decode cX7_cost 19 = .ok (.aload_n 0, 1) := by decide +kernel
theorem dX7_cost_20 : decode cX7_cost 20 = .ok (.iconst 2, 1) := by decide +kernel
theorem dX7_cost_21 : decode cX7_cost 21 = .ok (.iconst 0, 1) := by decide +kernel
theorem dX7_cost_22 : decode cX7_cost 22 = .ok (.iconst 0, 1) := by decide +kernel
theorem dX7_cost_23 : decode cX7_cost 23 = .ok (.iconst 0, 1) := by decide +kernel
theorem dX7_cost_24 : decode cX7_cost 24 = .ok (.iconst 0, 1) := by decide +kernel
theorem dX7_cost_25 : decode cX7_cost 25 = .ok (.invokevirtual 176, 3) := by decide +kernel
theorem dX7_cost_28 : decode cX7_cost 28 = .ok (.imul, 1) := by decide +kernel
theorem dX7_cost_29 : decode cX7_cost 29 = .ok (.ireturn, 1) := by decide +kernel
theorem dX7_rules_0 : decode cX7_rules 0 = .ok (.iload_n 1, 1) := by decide +kernel
theorem dX7_rules_1 : decode cX7_rules 1 = .ok (.invokestatic 266, 3) := by decide +kernel
theorem dX7_rules_4 : decode cX7_rules 4 = .ok (.ifCond .eq 12, 3) := by decide +kernel
theorem dX7_rules_7 : decode cX7_rules 7 = .ok (.iload_n 2, 1) := by decide +kernel
theorem dX7_rules_8 : decode cX7_rules 8 = .ok (.iconst 0, 1) := by decide +kernel
theorem dX7_rules_9 : decode cX7_rules 9 = .ok (.iconst 1, 1) := by decide +kernel
theorem dX7_rules_10 : decode cX7_rules 10 = .ok (.invokestatic 90, 3) := by decide +kernel
theorem dX7_rules_13 : decode cX7_rules 13 = .ok (.ifCond .ne 6, 3) := by decide +kernel
theorem dX7_rules_16 : decode cX7_rules 16 = .ok (.bipush (-2), 2) := by decide +kernel
theorem dX7_rules_18 : decode cX7_rules 18 = .ok (.ireturn, 1) := by decide +kernel
theorem dX7_rules_19 : decode cX7_rules 19 = .ok (.aload_n 0, 1) := by decide +kernel
theorem dX7_rules_20 : decode cX7_rules 20 = .ok (.getfield 22, 3) := by decide +kernel
theorem dX7_rules_23 : decode cX7_rules 23 = .ok (.iconst 2, 1) := by decide +kernel
theorem dX7_rules_24 : decode cX7_rules 24 = .ok (.iaload, 1) := by decide +kernel
theorem dX7_rules_25 : decode cX7_rules 25 = .ok (.istore_n 3, 1) := by decide +kernel
theorem dX7_rules_26 : decode cX7_rules 26 = .ok (.aload_n 0, 1) := by decide +kernel
theorem dX7_rules_27 : decode cX7_rules 27 = .ok (.getfield 22, 3) := by decide +kernel
theorem dX7_rules_30 : decode cX7_rules 30 = .ok (.iconst 3, 1) := by decide +kernel
theorem dX7_rules_31 : decode cX7_rules 31 = .ok (.iaload, 1) := by decide +kernel
theorem dX7_rules_32 : decode cX7_rules 32 = .ok (.istore 4, 2) := by decide +kernel
theorem dX7_rules_34 : decode cX7_rules 34 = .ok (.iconst (-1), 1) := by decide +kernel
theorem dX7_rules_35 : decode cX7_rules 35 = .ok (.istore 5, 2) := by decide +kernel
theorem dX7_rules_37 : decode cX7_rules 37 = .ok (.iconst 0, 1) := by decide +kernel
theorem dX7_rules_38 : decode cX7_rules 38 = .ok (.istore 6, 2) := by decide +kernel
theorem dX7_rules_40 : decode cX7_rules 40 = .ok (.iconst 0, 1) := by decide +kernel
theorem dX7_rules_41 : decode cX7_rules 41 = .ok (.istore 7, 2) := by decide +kernel
theorem dX7_rules_43 : decode cX7_rules 43 = .ok (.iconst 0, 1) := by decide +kernel
theorem dX7_rules_44 : decode cX7_rules 44 = .ok (.istore 8, 2) := by decide +kernel
theorem dX7_rules_46 : decode cX7_rules 46 = .ok (.iload 8, 2) := by decide +kernel
theorem dX7_rules_48 : decode cX7_rules 48 = .ok (.bipush 12, 2) := by decide +kernel
theorem dX7_rules_50 : decode cX7_rules 50 = .ok (.if_icmp .ge 165, 3) := by decide +kernel
theorem dX7_rules_53 : decode cX7_rules 53 = .ok (.aload_n 0, 1) := by decide +kernel
theorem dX7_rules_54 : decode cX7_rules 54 = .ok (.getfield 22, 3) := by decide +kernel
theorem dX7_rules_57 : decode cX7_rules 57 = .ok (.iconst 2, 1) := by decide +kernel
theorem dX7_rules_58 : decode cX7_rules 58 = .ok (.iload 8, 2) := by decide +kernel
theorem dX7_rules_60 : decode cX7_rules 60 = .ok (.iconst 3, 1) := by decide +kernel
theorem dX7_rules_61 : decode cX7_rules 61 = .ok (.idiv, 1) := by decide +kernel
theorem dX7_rules_62 : decode cX7_rules 62 = .ok (.iastore, 1) := by decide +kernel
theorem dX7_rules_63 : decode cX7_rules 63 = .ok (.aload_n 0, 1) := by decide +kernel
theorem dX7_rules_64 : decode cX7_rules 64 = .ok (.getfield 22, 3) := by decide +kernel
theorem dX7_rules_67 : decode cX7_rules 67 = .ok (.iconst 3, 1) := by decide +kernel
theorem dX7_rules_68 : decode cX7_rules 68 = .ok (.iload 8, 2) := by decide +kernel
theorem dX7_rules_70 : decode cX7_rules 70 = .ok (.iconst 3, 1) := by decide +kernel
theorem dX7_rules_71 : decode cX7_rules 71 = .ok (.irem, 1) := by decide +kernel
theorem dX7_rules_72 : decode cX7_rules 72 = .ok (.iastore, 1) := by decide +kernel
theorem dX7_rules_73 : decode cX7_rules 73 = .ok (.aload_n 0, 1) := by decide +kernel
theorem dX7_rules_74 : decode cX7_rules 74 = .ok (.iload_n 1, 1) := by decide +kernel
theorem dX7_rules_75 : decode cX7_rules 75 = .ok (.invokevirtual 269, 3) := by decide +kernel
theorem dX7_rules_78 : decode cX7_rules 78 = .ok (.iload_n 2, 1) := by decide +kernel
theorem dX7_rules_79 : decode cX7_rules 79 = .ok (.ifCond .ne 10, 3) := by decide +kernel
theorem dX7_rules_82 : decode cX7_rules 82 = .ok (.aload_n 0, 1) := by decide +kernel
theorem dX7_rules_83 : decode cX7_rules 83 = .ok (.invokevirtual 272, 3) := by decide +kernel
theorem dX7_rules_86 : decode cX7_rules 86 = .ok (.goto 8, 3) := by decide +kernel
theorem dX7_rules_89 : decode cX7_rules 89 = .ok (.aload_n 0, 1) := by decide +kernel
theorem dX7_rules_90 : decode cX7_rules 90 = .ok (.getfield 214, 3) := by decide +kernel
theorem dX7_rules_93 : decode cX7_rules 93 = .ok (.ineg, 1) := by decide +kernel
theorem dX7_rules_94 : decode cX7_rules 94 = .ok (.istore 9, 2) := by decide +kernel
theorem dX7_rules_96 : decode cX7_rules 96 = .ok (.iload_n 2, 1) := by decide +kernel
theorem dX7_rules_97 : decode cX7_rules 97 = .ok (.iconst 1, 1) := by decide +kernel
theorem dX7_rules_98 : decode cX7_rules 98 = .ok (.if_icmp .ne 7, 3) := by decide +kernel
theorem dX7_rules_101 : decode cX7_rules 101 = .ok (.iconst 0, 1) := by decide +kernel
theorem dX7_rules_102 : decode cX7_rules 102 = .ok (.goto 19, 3) := by decide +kernel
theorem dX7_rules_105 : decode cX7_rules 105 = .ok (.aload_n 0, 1) := by decide +kernel
theorem dX7_rules_106 : decode cX7_rules 106 = .ok (.getfield 211, 3) := by decide +kernel
theorem dX7_rules_109 : decode cX7_rules 109 = .ok (.iconst (-1), 1) := by decide +kernel
theorem dX7_rules_110 : decode cX7_rules 110 = .ok (.if_icmp .ne 7, 3) := by decide +kernel
theorem dX7_rules_113 : decode cX7_rules 113 = .ok (.iload_n 1, 1) := by decide +kernel
theorem dX7_rules_114 : decode cX7_rules 114 = .ok (.goto 7, 3) := by decide +kernel
theorem dX7_rules_117 : decode cX7_rules 117 = .ok (.aload_n 0, 1) := by decide +kernel
theorem dX7_rules_118 : decode cX7_rules 118 = .ok (.getfield 211, 3) := by decide +kernel
theorem dX7_rules_121 : decode cX7_rules 121 = .ok (.istore 10, 2) := by decide +kernel
theorem dX7_rules_123 : decode cX7_rules 123 = .ok (.iload 5, 2) := by decide +kernel
theorem dX7_rules_125 : decode cX7_rules 125 = .ok (.iconst (-1), 1) := by decide +kernel
theorem dX7_rules_126 : decode cX7_rules 126 = .ok (.if_icmp .eq 24, 3) := by decide +kernel
theorem dX7_rules_129 : decode cX7_rules 129 = .ok (.iload 9, 2) := by decide +kernel
theorem dX7_rules_131 : decode cX7_rules 131 = .ok (.iload 6, 2) := by decide +kernel
theorem dX7_rules_133 : decode cX7_rules 133 = .ok (.if_icmp .gt 17, 3) := by decide +kernel
theorem dX7_rules_136 : decode cX7_rules 136 = .ok (.iload 9, 2) := by decide +kernel
theorem dX7_rules_138 : decode cX7_rules 138 = .ok (.iload 6, 2) := by decide +kernel
theorem dX7_rules_140 : decode cX7_rules 140 = .ok (.if_icmp .ne 14, 3) := by decide +kernel
theorem dX7_rules_143 : decode cX7_rules 143 = .ok (.iload 10, 2) := by decide +kernel
theorem dX7_rules_145 : decode cX7_rules 145 = .ok (.iload 7, 2) := by decide +kernel
theorem dX7_rules_147 : decode cX7_rules 147 = .ok (.if_icmp .le 7, 3) := by decide +kernel
theorem dX7_rules_150 : decode cX7_rules 150 = .ok (.iconst 1, 1) := by decide +kernel
theorem dX7_rules_151 : decode cX7_rules 151 = .ok (.goto 4, 3) := by decide +kernel
theorem dX7_rules_154 : decode cX7_rules 154 = .ok (.iconst 0, 1) := by decide +kernel
theorem dX7_rules_155 : decode cX7_rules 155 = .ok (.istore 11, 2) := by decide +kernel
theorem dX7_rules_157 : decode cX7_rules 157 = .ok (.iload 11, 2) := by decide +kernel
theorem dX7_rules_159 : decode cX7_rules 159 = .ok (.ifCond .eq 18, 3) := by decide +kernel
theorem dX7_rules_162 : decode cX7_rules 162 = .ok (.bipush 10, 2) := by decide +kernel
theorem dX7_rules_164 : decode cX7_rules 164 = .ok (.iload 8, 2) := by decide +kernel
theorem dX7_rules_166 : decode cX7_rules 166 = .ok (.iconst 3, 1) := by decide +kernel
theorem dX7_rules_167 : decode cX7_rules 167 = .ok (.idiv, 1) := by decide +kernel
theorem dX7_rules_168 : decode cX7_rules 168 = .ok (.imul, 1) := by decide +kernel
theorem dX7_rules_169 : decode cX7_rules 169 = .ok (.iload 8, 2) := by decide +kernel
theorem dX7_rules_171 : decode cX7_rules 171 = .ok (.iconst 3, 1) := by decide +kernel
theorem dX7_rules_172 : decode cX7_rules 172 = .ok (.irem, 1) := by decide +kernel
theorem dX7_rules_173 : decode cX7_rules 173 = .ok (.iadd, 1) := by decide +kernel
theorem dX7_rules_174 : decode cX7_rules 174 = .ok (.goto 5, 3) := by decide +kernel
theorem dX7_rules_177 : decode cX7_rules 177 = .ok (.iload 5, 2) := by decide +kernel
theorem dX7_rules_179 : decode cX7_rules 179 = .ok (.istore 5, 2) := by decide +kernel
theorem dX7_rules_181 : decode cX7_rules 181 = .ok (.iload 11, 2) := by decide +kernel
theorem dX7_rules_183 : decode cX7_rules 183 = .ok (.ifCond .eq 8, 3) := by decide +kernel
theorem dX7_rules_186 : decode cX7_rules 186 = .ok (.iload 9, 2) := by decide +kernel
theorem dX7_rules_188 : decode cX7_rules 188 = .ok (.goto 5, 3) := by decide +kernel
theorem dX7_rules_191 : decode cX7_rules 191 = .ok (.iload 6, 2) := by decide +kernel
theorem dX7_rules_193 : decode cX7_rules 193 = .ok (.istore 6, 2) := by decide +kernel
theorem dX7_rules_195 : decode cX7_rules 195 = .ok (.iload 11, 2) := by decide +kernel
theorem dX7_rules_197 : decode cX7_rules 197 = .ok (.ifCond .eq 8, 3) := by decide +kernel
theorem dX7_rules_200 : decode cX7_rules 200 = .ok (.iload 10, 2) := by decide +kernel
theorem dX7_rules_202 : decode cX7_rules 202 = .ok (.goto 5, 3) := by decide +kernel
theorem dX7_rules_205 : decode cX7_rules 205 = .ok (.iload 7, 2) := by decide +kernel
theorem dX7_rules_207 : decode cX7_rules 207 = .ok (.istore 7, 2) := by decide +kernel
theorem dX7_rules_209 : decode cX7_rules 209 = .ok (.iinc 8 1, 3) := by decide +kernel
theorem dX7_rules_212 : decode cX7_rules 212 = .ok (.goto (-166), 3) := by decide +kernel
theorem dX7_rules_215 : decode cX7_rules 215 = .ok (.aload_n 0, 1) := by decide +kernel
theorem dX7_rules_216 : decode cX7_rules 216 = .ok (.getfield 22, 3) := by decide +kernel
theorem dX7_rules_219 : decode cX7_rules 219 = .ok (.iconst 2, 1) := by decide +kernel
theorem dX7_rules_220 : decode cX7_rules 220 = .ok (.iload_n 3, 1) := by decide +kernel
theorem dX7_rules_221 : decode cX7_rules 221 = .ok (.iastore, 1) := by decide +kernel
theorem dX7_rules_222 : decode cX7_rules 222 = .ok (.aload_n 0, 1) := by decide +kernel
theorem dX7_rules_223 : decode cX7_rules 223 = .ok (.getfield 22, 3) := by decide +kernel
theorem dX7_rules_226 : decode cX7_rules 226 = .ok (.iconst 3, 1) := by decide +kernel
theorem dX7_rules_227 : decode cX7_rules 227 = .ok (.iload 4, 2) := by decide +kernel
theorem dX7_rules_229 : decode cX7_rules 229 = .ok (.iastore, 1) := by decide +kernel
theorem dX7_rules_230 : decode cX7_rules 230 = .ok (.iload 5, 2) := by decide +kernel
theorem dX7_rules_232 : decode cX7_rules 232 = .ok (.ireturn, 1) := by decide +kernel
theorem dX7_which_0 : decode cX7_which 0 = .ok (.iload_n 1, 1) := by decide +kernel
theorem dX7_which_1 : decode cX7_which 1 = .ok (.invokestatic 266, 3) := by decide +kernel
theorem dX7_which_4 : decode cX7_which 4 = .ok (.ifCond .ne 6, 3) := by decide +kernel
theorem dX7_which_7 : decode cX7_which 7 = .ok (.bipush (-2), 2) := by decide +kernel
theorem dX7_which_9 : decode cX7_which 9 = .ok (.ireturn, 1) := by decide +kernel
theorem dX7_which_10 : decode cX7_which 10 = .ok (.aload_n 0, 1) := by decide +kernel
theorem dX7_which_11 : decode cX7_which 11 = .ok (.iload_n 1, 1) := by decide +kernel
theorem dX7_which_12 : decode cX7_which 12 = .ok (.invokevirtual 269, 3) := by decide +kernel
theorem dX7_which_15 : decode cX7_which 15 = .ok (.iconst (-1), 1) := by decide +kernel
theorem dX7_which_16 : decode cX7_which 16 = .ok (.istore_n 2, 1) := by decide +kernel
theorem dX7_which_17 : decode cX7_which 17 = .ok (.aload_n 0, 1) := by decide +kernel
theorem dX7_which_18 : decode cX7_which 18 = .ok (.invokevirtual 272, 3) := by decide +kernel
theorem dX7_which_21 : decode cX7_which 21 = .ok (.istore_n 3, 1) := by decide +kernel
theorem dX7_which_22 : decode cX7_which 22 = .ok (.iconst 0, 1) := by decide +kernel
theorem dX7_which_23 : decode cX7_which 23 = .ok (.istore 4, 2) := by decide +kernel
theorem dX7_which_25 : decode cX7_which 25 = .ok (.iload 4, 2) := by decide +kernel
theorem dX7_which_27 : decode cX7_which 27 = .ok (.aload_n 0, 1) := by decide +kernel
theorem dX7_which_28 : decode cX7_which 28 = .ok (.getfield 87, 3) := by decide +kernel
theorem dX7_which_31 : decode cX7_which 31 = .ok (.if_icmp .ge 98, 3) := by decide +kernel
theorem dX7_which_34 : decode cX7_which 34 = .ok (.aload_n 0, 1) := by decide +kernel
theorem dX7_which_35 : decode cX7_which 35 = .ok (.iload 4, 2) := by decide +kernel
theorem dX7_which_37 : decode cX7_which 37 = .ok (.invokevirtual 196, 3) := by decide +kernel
theorem dX7_which_40 : decode cX7_which 40 = .ok (.ifCond .eq 83, 3) := by decide +kernel
theorem dX7_which_43 : decode cX7_which 43 = .ok (.aload_n 0, 1) := by decide +kernel
theorem dX7_which_44 : decode cX7_which 44 = .ok (.getfield 16, 3) := by decide +kernel
theorem dX7_which_47 : decode cX7_which 47 = .ok (.bipush 6, 2) := by decide +kernel
theorem dX7_which_49 : decode cX7_which 49 = .ok (.iload 4, 2) := by decide +kernel
theorem dX7_which_51 : decode cX7_which 51 = .ok (.imul, 1) := by decide +kernel
theorem dX7_which_52 : decode cX7_which 52 = .ok (.iaload, 1) := by decide +kernel
theorem dX7_which_53 : decode cX7_which 53 = .ok (.istore 5, 2) := by decide +kernel
theorem dX7_which_55 : decode cX7_which 55 = .ok (.aload_n 0, 1) := by decide +kernel
theorem dX7_which_56 : decode cX7_which 56 = .ok (.iload 4, 2) := by decide +kernel
theorem dX7_which_58 : decode cX7_which 58 = .ok (.invokevirtual 199, 3) := by decide +kernel
theorem dX7_which_61 : decode cX7_which 61 = .ok (.aload_n 0, 1) := by decide +kernel
theorem dX7_which_62 : decode cX7_which 62 = .ok (.iload_n 1, 1) := by decide +kernel
theorem dX7_which_63 : decode cX7_which 63 = .ok (.invokevirtual 269, 3) := by decide +kernel
theorem dX7_which_66 : decode cX7_which 66 = .ok (.aload_n 0, 1) := by decide +kernel
theorem dX7_which_67 : decode cX7_which 67 = .ok (.getfield 16, 3) := by decide +kernel
theorem dX7_which_70 : decode cX7_which 70 = .ok (.bipush 6, 2) := by decide +kernel
theorem dX7_which_72 : decode cX7_which 72 = .ok (.iload 4, 2) := by decide +kernel
theorem dX7_which_74 : decode cX7_which 74 = .ok (.imul, 1) := by decide +kernel
theorem dX7_which_75 : decode cX7_which 75 = .ok (.iload 5, 2) := by decide +kernel
theorem dX7_which_77 : decode cX7_which 77 = .ok (.iastore, 1) := by decide +kernel
theorem dX7_which_78 : decode cX7_which 78 = .ok (.aload_n 0, 1) := by decide +kernel
theorem dX7_which_79 : decode cX7_which 79 = .ok (.getfield 16, 3) := by decide +kernel
theorem dX7_which_82 : decode cX7_which 82 = .ok (.bipush 6, 2) := by decide +kernel
theorem dX7_which_84 : decode cX7_which 84 = .ok (.iload 4, 2) := by decide +kernel
theorem dX7_which_86 : decode cX7_which 86 = .ok (.imul, 1) := by decide +kernel
theorem dX7_which_87 : decode cX7_which 87 = .ok (.iconst 3, 1) := by decide +kernel
theorem dX7_which_88 : decode cX7_which 88 = .ok (.iadd, 1) := by decide +kernel
theorem dX7_which_89 : decode cX7_which 89 = .ok (.iconst 0, 1) := by decide +kernel
theorem dX7_which_90 : decode cX7_which 90 = .ok (.iastore, 1) := by decide +kernel
theorem dX7_which_91 : decode cX7_which 91 = .ok (.aload_n 0, 1) := by decide +kernel
theorem dX7_which_92 : decode cX7_which 92 = .ok (.invokevirtual 272, 3) := by decide +kernel
theorem dX7_which_95 : decode cX7_which 95 = .ok (.iload_n 3, 1) := by decide +kernel
theorem dX7_which_96 : decode cX7_which 96 = .ok (.if_icmp .le 8, 3) := by decide +kernel
theorem dX7_which_99 : decode cX7_which 99 = .ok (.iload 4, 2) := by decide +kernel
theorem dX7_which_101 : decode cX7_which 101 = .ok (.goto 4, 3) := by decide +kernel
theorem dX7_which_104 : decode cX7_which 104 = .ok (.iload_n 2, 1) := by decide +kernel
theorem dX7_which_105 : decode cX7_which 105 = .ok (.istore_n 2, 1) := by decide +kernel
theorem dX7_which_106 : decode cX7_which 106 = .ok (.aload_n 0, 1) := by decide +kernel
theorem dX7_which_107 : decode cX7_which 107 = .ok (.invokevirtual 272, 3) := by decide +kernel
theorem dX7_which_110 : decode cX7_which 110 = .ok (.iload_n 3, 1) := by decide +kernel
theorem dX7_which_111 : decode cX7_which 111 = .ok (.if_icmp .le 10, 3) := by decide +kernel
theorem dX7_which_114 : decode cX7_which 114 = .ok (.aload_n 0, 1) := by decide +kernel
theorem dX7_which_115 : decode cX7_which 115 = .ok (.invokevirtual 272, 3) := by decide +kernel
theorem dX7_which_118 : decode cX7_which 118 = .ok (.goto 4, 3) := by decide +kernel
theorem dX7_which_121 : decode cX7_which 121 = .ok (.iload_n 3, 1) := by decide +kernel
theorem dX7_which_122 : decode cX7_which 122 = .ok (.istore_n 3, 1) := by decide +kernel
theorem dX7_which_123 : decode cX7_which 123 = .ok (.iinc 4 1, 3) := by decide +kernel
theorem dX7_which_126 : decode cX7_which 126 = .ok (.goto (-101), 3) := by decide +kernel
theorem dX7_which_129 : decode cX7_which 129 = .ok (.iload_n 2, 1) := by decide +kernel
theorem dX7_which_130 : decode cX7_which 130 = .ok (.ireturn, 1) := by decide +kernel
theorem dX7_goneOf_0 : decode cX7_goneOf 0 = .ok (.aload_n 0, 1) := by decide +kernel
theorem dX7_goneOf_1 : decode cX7_goneOf 1 = .ok (.iconst 0, 1) := by decide +kernel
theorem dX7_goneOf_2 : decode cX7_goneOf 2 = .ok (.putfield 278, 3) := by decide +kernel
theorem dX7_goneOf_5 : decode cX7_goneOf 5 = .ok (.aload_n 0, 1) := by decide +kernel
theorem dX7_goneOf_6 : decode cX7_goneOf 6 = .ok (.invokevirtual 260, 3) := by decide +kernel
theorem dX7_goneOf_9 : decode cX7_goneOf 9 = .ok (.iconst 0, 1) := by decide +kernel
theorem dX7_goneOf_10 : decode cX7_goneOf 10 = .ok (.istore 4, 2) := by decide +kernel
theorem dX7_goneOf_12 : decode cX7_goneOf 12 = .ok (.iload 4, 2) := by decide +kernel
theorem dX7_goneOf_14 : decode cX7_goneOf 14 = .ok (.iload_n 2, 1) := by decide +kernel
theorem dX7_goneOf_15 : decode cX7_goneOf 15 = .ok (.if_icmp .ge 51, 3) := by decide +kernel
theorem dX7_goneOf_18 : decode cX7_goneOf 18 = .ok (.iload 4, 2) := by decide +kernel
theorem dX7_goneOf_20 : decode cX7_goneOf 20 = .ok (.iload_n 3, 1) := by decide +kernel
theorem dX7_goneOf_21 : decode cX7_goneOf 21 = .ok (.if_icmp .ne 21, 3) := by decide +kernel
theorem dX7_goneOf_24 : decode cX7_goneOf 24 = .ok (.aload_n 0, 1) := by decide +kernel
theorem dX7_goneOf_25 : decode cX7_goneOf 25 = .ok (.iload_n 1, 1) := by decide +kernel
theorem dX7_goneOf_26 : decode cX7_goneOf 26 = .ok (.invokevirtual 196, 3) := by decide +kernel
theorem dX7_goneOf_29 : decode cX7_goneOf 29 = .ok (.ifCond .eq 13, 3) := by decide +kernel
theorem dX7_goneOf_32 : decode cX7_goneOf 32 = .ok (.aload_n 0, 1) := by decide +kernel
theorem dX7_goneOf_33 : decode cX7_goneOf 33 = .ok (.iload_n 1, 1) := by decide +kernel
theorem dX7_goneOf_34 : decode cX7_goneOf 34 = .ok (.invokevirtual 199, 3) := by decide +kernel
theorem dX7_goneOf_37 : decode cX7_goneOf 37 = .ok (.aload_n 0, 1) := by decide +kernel
theorem dX7_goneOf_38 : decode cX7_goneOf 38 = .ok (.iconst 1, 1) := by decide +kernel
theorem dX7_goneOf_39 : decode cX7_goneOf 39 = .ok (.putfield 278, 3) := by decide +kernel
theorem dX7_goneOf_42 : decode cX7_goneOf 42 = .ok (.aload_n 0, 1) := by decide +kernel
theorem dX7_goneOf_43 : decode cX7_goneOf 43 = .ok (.iload 4, 2) := by decide +kernel
theorem dX7_goneOf_45 : decode cX7_goneOf 45 = .ok (.aload_n 0, 1) := by decide +kernel
theorem dX7_goneOf_46 : decode cX7_goneOf 46 = .ok (.getfield 22, 3) := by decide +kernel
theorem dX7_goneOf_49 : decode cX7_goneOf 49 = .ok (.iconst 0, 1) := by decide +kernel
theorem dX7_goneOf_50 : decode cX7_goneOf 50 = .ok (.iaload, 1) := by decide +kernel
theorem dX7_goneOf_51 : decode cX7_goneOf 51 = .ok (.aload_n 0, 1) := by decide +kernel
theorem dX7_goneOf_52 : decode cX7_goneOf 52 = .ok (.getfield 22, 3) := by decide +kernel
theorem dX7_goneOf_55 : decode cX7_goneOf 55 = .ok (.iconst 2, 1) := by decide +kernel
theorem dX7_goneOf_56 : decode cX7_goneOf 56 = .ok (.iaload, 1) := by decide +kernel
theorem dX7_goneOf_57 : decode cX7_goneOf 57 = .ok (.invokevirtual 250, 3) := by decide +kernel
theorem dX7_goneOf_60 : decode cX7_goneOf 60 = .ok (.iinc 4 1, 3) := by decide +kernel
theorem dX7_goneOf_63 : decode cX7_goneOf 63 = .ok (.goto (-51), 3) := by decide +kernel
theorem dX7_goneOf_66 : decode cX7_goneOf 66 = .ok (.aload_n 0, 1) := by decide +kernel
theorem dX7_goneOf_67 : decode cX7_goneOf 67 = .ok (.invokevirtual 263, 3) := by decide +kernel
theorem dX7_goneOf_70 : decode cX7_goneOf 70 = .ok (.aload_n 0, 1) := by decide +kernel
theorem dX7_goneOf_71 : decode cX7_goneOf 71 = .ok (.getfield 67, 3) := by decide +kernel
theorem dX7_goneOf_74 : decode cX7_goneOf 74 = .ok (.iload_n 1, 1) := by decide +kernel
theorem dX7_goneOf_75 : decode cX7_goneOf 75 = .ok (.iaload, 1) := by decide +kernel
theorem dX7_goneOf_76 : decode cX7_goneOf 76 = .ok (.iconst (-1), 1) := by decide +kernel
theorem dX7_goneOf_77 : decode cX7_goneOf 77 = .ok (.if_icmp .ne 7, 3) := by decide +kernel
theorem dX7_goneOf_80 : decode cX7_goneOf 80 = .ok (.iload_n 2, 1) := by decide +kernel
theorem dX7_goneOf_81 : decode cX7_goneOf 81 = .ok (.goto 9, 3) := by decide +kernel
theorem dX7_goneOf_84 : decode cX7_goneOf 84 = .ok (.aload_n 0, 1) := by decide +kernel
theorem dX7_goneOf_85 : decode cX7_goneOf 85 = .ok (.getfield 67, 3) := by decide +kernel
theorem dX7_goneOf_88 : decode cX7_goneOf 88 = .ok (.iload_n 1, 1) := by decide +kernel
theorem dX7_goneOf_89 : decode cX7_goneOf 89 = .ok (.iaload, 1) := by decide +kernel
theorem dX7_goneOf_90 : decode cX7_goneOf 90 = .ok (.ireturn, 1) := by decide +kernel
theorem dX7_when_0 : decode cX7_when 0 = .ok (.aload_n 0, 1) := by decide +kernel
theorem dX7_when_1 : decode cX7_when 1 = .ok (.iload_n 1, 1) := by decide +kernel
theorem dX7_when_2 : decode cX7_when 2 = .ok (.invokevirtual 187, 3) := by decide +kernel
theorem dX7_when_5 : decode cX7_when 5 = .ok (.ifCond .ne 6, 3) := by decide +kernel
theorem dX7_when_8 : decode cX7_when 8 = .ok (.bipush (-5), 2) := by decide +kernel
theorem dX7_when_10 : decode cX7_when 10 = .ok (.ireturn, 1) := by decide +kernel
theorem dX7_when_11 : decode cX7_when 11 = .ok (.iload_n 2, 1) := by decide +kernel
theorem dX7_when_12 : decode cX7_when 12 = .ok (.iconst 1, 1) := by decide +kernel
theorem dX7_when_13 : decode cX7_when 13 = .ok (.bipush 60, 2) := by decide +kernel
theorem dX7_when_15 : decode cX7_when 15 = .ok (.invokestatic 90, 3) := by decide +kernel
theorem dX7_when_18 : decode cX7_when 18 = .ok (.ifCond .eq 12, 3) := by decide +kernel
theorem dX7_when_21 : decode cX7_when 21 = .ok (.iload_n 3, 1) := by decide +kernel
theorem dX7_when_22 : decode cX7_when 22 = .ok (.iconst 0, 1) := by decide +kernel
theorem dX7_when_23 : decode cX7_when 23 = .ok (.iconst 1, 1) := by decide +kernel
theorem dX7_when_24 : decode cX7_when 24 = .ok (.invokestatic 90, 3) := by decide +kernel
theorem dX7_when_27 : decode cX7_when 27 = .ok (.ifCond .ne 6, 3) := by decide +kernel
theorem dX7_when_30 : decode cX7_when 30 = .ok (.bipush (-7), 2) := by decide +kernel
theorem dX7_when_32 : decode cX7_when 32 = .ok (.ireturn, 1) := by decide +kernel
theorem dX7_when_33 : decode cX7_when 33 = .ok (.iconst (-1), 1) := by decide +kernel
theorem dX7_when_34 : decode cX7_when 34 = .ok (.istore 4, 2) := by decide +kernel
theorem dX7_when_36 : decode cX7_when 36 = .ok (.aload_n 0, 1) := by decide +kernel
theorem dX7_when_37 : decode cX7_when 37 = .ok (.iload_n 1, 1) := by decide +kernel
theorem dX7_when_38 : decode cX7_when 38 = .ok (.iload_n 2, 1) := by decide +kernel
theorem dX7_when_39 : decode cX7_when 39 = .ok (.iconst (-1), 1) := by decide +kernel
theorem dX7_when_40 : decode cX7_when 40 = .ok (.invokevirtual 282, 3) := by decide +kernel
theorem dX7_when_43 : decode cX7_when 43 = .ok (.istore 5, 2) := by decide +kernel
theorem dX7_when_45 : decode cX7_when 45 = .ok (.iconst 0, 1) := by decide +kernel
theorem dX7_when_46 : decode cX7_when 46 = .ok (.istore 6, 2) := by decide +kernel
theorem dX7_when_48 : decode cX7_when 48 = .ok (.iload 6, 2) := by decide +kernel
theorem dX7_when_50 : decode cX7_when 50 = .ok (.iload_n 2, 1) := by decide +kernel
theorem dX7_when_51 : decode cX7_when 51 = .ok (.if_icmp .ge 74, 3) := by decide +kernel
theorem dX7_when_54 : decode cX7_when 54 = .ok (.aload_n 0, 1) := by decide +kernel
theorem dX7_when_55 : decode cX7_when 55 = .ok (.iload_n 1, 1) := by decide +kernel
theorem dX7_when_56 : decode cX7_when 56 = .ok (.iload_n 2, 1) := by decide +kernel
theorem dX7_when_57 : decode cX7_when 57 = .ok (.iload 6, 2) := by decide +kernel
theorem dX7_when_59 : decode cX7_when 59 = .ok (.invokevirtual 282, 3) := by decide +kernel
theorem dX7_when_62 : decode cX7_when 62 = .ok (.istore 7, 2) := by decide +kernel
theorem dX7_when_64 : decode cX7_when 64 = .ok (.aload_n 0, 1) := by decide +kernel
theorem dX7_when_65 : decode cX7_when 65 = .ok (.getfield 278, 3) := by decide +kernel
theorem dX7_when_68 : decode cX7_when 68 = .ok (.ifCond .eq 20, 3) := by decide +kernel
theorem dX7_when_71 : decode cX7_when 71 = .ok (.iload 4, 2) := by decide +kernel
theorem dX7_when_73 : decode cX7_when 73 = .ok (.iconst (-1), 1) := by decide +kernel
theorem dX7_when_74 : decode cX7_when 74 = .ok (.if_icmp .eq 10, 3) := by decide +kernel
theorem dX7_when_77 : decode cX7_when 77 = .ok (.iload 7, 2) := by decide +kernel
theorem dX7_when_79 : decode cX7_when 79 = .ok (.iload 5, 2) := by decide +kernel
theorem dX7_when_81 : decode cX7_when 81 = .ok (.if_icmp .le 7, 3) := by decide +kernel
theorem dX7_when_84 : decode cX7_when 84 = .ok (.iconst 1, 1) := by decide +kernel
theorem dX7_when_85 : decode cX7_when 85 = .ok (.goto 4, 3) := by decide +kernel
theorem dX7_when_88 : decode cX7_when 88 = .ok (.iconst 0, 1) := by decide +kernel
theorem dX7_when_89 : decode cX7_when 89 = .ok (.istore 8, 2) := by decide +kernel
theorem dX7_when_91 : decode cX7_when 91 = .ok (.iload 8, 2) := by decide +kernel
theorem dX7_when_93 : decode cX7_when 93 = .ok (.ifCond .eq 8, 3) := by decide +kernel
theorem dX7_when_96 : decode cX7_when 96 = .ok (.iload 6, 2) := by decide +kernel
theorem dX7_when_98 : decode cX7_when 98 = .ok (.goto 5, 3) := by decide +kernel
theorem dX7_when_101 : decode cX7_when 101 = .ok (.iload 4, 2) := by decide +kernel
theorem dX7_when_103 : decode cX7_when 103 = .ok (.istore 4, 2) := by decide +kernel
theorem dX7_when_105 : decode cX7_when 105 = .ok (.iload 8, 2) := by decide +kernel
theorem dX7_when_107 : decode cX7_when 107 = .ok (.ifCond .eq 8, 3) := by decide +kernel
theorem dX7_when_110 : decode cX7_when 110 = .ok (.iload 7, 2) := by decide +kernel
theorem dX7_when_112 : decode cX7_when 112 = .ok (.goto 5, 3) := by decide +kernel
theorem dX7_when_115 : decode cX7_when 115 = .ok (.iload 5, 2) := by decide +kernel
theorem dX7_when_117 : decode cX7_when 117 = .ok (.istore 5, 2) := by decide +kernel
theorem dX7_when_119 : decode cX7_when 119 = .ok (.iinc 6 1, 3) := by decide +kernel
theorem dX7_when_122 : decode cX7_when 122 = .ok (.goto (-74), 3) := by decide +kernel
theorem dX7_when_125 : decode cX7_when 125 = .ok (.iload_n 3, 1) := by decide +kernel
theorem dX7_when_126 : decode cX7_when 126 = .ok (.ifCond .ne 8, 3) := by decide +kernel
theorem dX7_when_129 : decode cX7_when 129 = .ok (.iload 4, 2) := by decide +kernel
theorem dX7_when_131 : decode cX7_when 131 = .ok (.goto 5, 3) := by decide +kernel
theorem dX7_when_134 : decode cX7_when 134 = .ok (.iload 5, 2) := by decide +kernel
theorem dX7_when_136 : decode cX7_when 136 = .ok (.ireturn, 1) := by decide +kernel
theorem dX7_tooFewBy_0 : decode cX7_tooFewBy 0 = .ok (.aload_n 0, 1) := by decide +kernel
theorem dX7_tooFewBy_1 : decode cX7_tooFewBy 1 = .ok (.getfield 22, 3) := by decide +kernel
theorem dX7_tooFewBy_4 : decode cX7_tooFewBy 4 = .ok (.iload_n 1, 1) := by decide +kernel
theorem dX7_tooFewBy_5 : decode cX7_tooFewBy 5 = .ok (.iaload, 1) := by decide +kernel
theorem dX7_tooFewBy_6 : decode cX7_tooFewBy 6 = .ok (.istore 4, 2) := by decide +kernel
theorem dX7_tooFewBy_8 : decode cX7_tooFewBy 8 = .ok (.aload_n 0, 1) := by decide +kernel
theorem dX7_tooFewBy_9 : decode cX7_tooFewBy 9 = .ok (.getfield 22, 3) := by decide +kernel
theorem dX7_tooFewBy_12 : decode cX7_tooFewBy 12 = .ok (.iload_n 1, 1) := by decide +kernel
theorem dX7_tooFewBy_13 : decode cX7_tooFewBy 13 = .ok (.iload_n 2, 1) := by decide +kernel
theorem dX7_tooFewBy_14 : decode cX7_tooFewBy 14 = .ok (.iastore, 1) := by decide +kernel
theorem dX7_tooFewBy_15 : decode cX7_tooFewBy 15 = .ok (.aload_n 0, 1) := by decide +kernel
theorem dX7_tooFewBy_16 : decode cX7_tooFewBy 16 = .ok (.iload_n 3, 1) := by decide +kernel
theorem dX7_tooFewBy_17 : decode cX7_tooFewBy 17 = .ok (.invokevirtual 269, 3) := by decide +kernel
theorem dX7_tooFewBy_20 : decode cX7_tooFewBy 20 = .ok (.aload_n 0, 1) := by decide +kernel
theorem dX7_tooFewBy_21 : decode cX7_tooFewBy 21 = .ok (.getfield 22, 3) := by decide +kernel
theorem dX7_tooFewBy_24 : decode cX7_tooFewBy 24 = .ok (.iload_n 1, 1) := by decide +kernel
theorem dX7_tooFewBy_25 : decode cX7_tooFewBy 25 = .ok (.iload 4, 2) := by decide +kernel
theorem dX7_tooFewBy_27 : decode cX7_tooFewBy 27 = .ok (.iastore, 1) := by decide +kernel
theorem dX7_tooFewBy_28 : decode cX7_tooFewBy 28 = .ok (.aload_n 0, 1) := by decide +kernel
theorem dX7_tooFewBy_29 : decode cX7_tooFewBy 29 = .ok (.getfield 214, 3) := by decide +kernel
theorem dX7_tooFewBy_32 : decode cX7_tooFewBy 32 = .ok (.ireturn, 1) := by decide +kernel
theorem dX7_enough_0 : decode cX7_enough 0 = .ok (.iload_n 1, 1) := by decide +kernel
theorem dX7_enough_1 : decode cX7_enough 1 = .ok (.invokestatic 266, 3) := by decide +kernel
theorem dX7_enough_4 : decode cX7_enough 4 = .ok (.ifCond .ne 6, 3) := by decide +kernel
theorem dX7_enough_7 : decode cX7_enough 7 = .ok (.bipush (-2), 2) := by decide +kernel
theorem dX7_enough_9 : decode cX7_enough 9 = .ok (.ireturn, 1) := by decide +kernel
theorem dX7_enough_10 : decode cX7_enough 10 = .ok (.iconst 0, 1) := by decide +kernel
theorem dX7_enough_11 : decode cX7_enough 11 = .ok (.istore_n 2, 1) := by decide +kernel
theorem dX7_enough_12 : decode cX7_enough 12 = .ok (.iconst 1, 1) := by decide +kernel
theorem dX7_enough_13 : decode cX7_enough 13 = .ok (.istore_n 3, 1) := by decide +kernel
theorem dX7_enough_14 : decode cX7_enough 14 = .ok (.iconst 1, 1) := by decide +kernel
theorem dX7_enough_15 : decode cX7_enough 15 = .ok (.istore 4, 2) := by decide +kernel
theorem dX7_enough_17 : decode cX7_enough 17 = .ok (.iload 4, 2) := by decide +kernel
theorem dX7_enough_19 : decode cX7_enough 19 = .ok (.bipush 8, 2) := by decide +kernel
theorem dX7_enough_21 : decode cX7_enough 21 = .ok (.if_icmp .gt 41, 3) := by decide +kernel
theorem dX7_enough_24 : decode cX7_enough 24 = .ok (.iload_n 3, 1) := by decide +kernel
theorem dX7_enough_25 : decode cX7_enough 25 = .ok (.ifCond .eq 37, 3) := by decide +kernel
theorem dX7_enough_28 : decode cX7_enough 28 = .ok (.aload_n 0, 1) := by decide +kernel
theorem dX7_enough_29 : decode cX7_enough 29 = .ok (.iconst 0, 1) := by decide +kernel
theorem dX7_enough_30 : decode cX7_enough 30 = .ok (.iload 4, 2) := by decide +kernel
theorem dX7_enough_32 : decode cX7_enough 32 = .ok (.iload_n 1, 1) := by decide +kernel
theorem dX7_enough_33 : decode cX7_enough 33 = .ok (.invokevirtual 285, 3) := by decide +kernel
theorem dX7_enough_36 : decode cX7_enough 36 = .ok (.ifCond .ne 7, 3) := by decide +kernel
theorem dX7_enough_39 : decode cX7_enough 39 = .ok (.iconst 1, 1) := by decide +kernel
theorem dX7_enough_40 : decode cX7_enough 40 = .ok (.goto 4, 3) := by decide +kernel
theorem dX7_enough_43 : decode cX7_enough 43 = .ok (.iconst 0, 1) := by decide +kernel
theorem dX7_enough_44 : decode cX7_enough 44 = .ok (.istore_n 3, 1) := by decide +kernel
theorem dX7_enough_45 : decode cX7_enough 45 = .ok (.iload_n 3, 1) := by decide +kernel
theorem dX7_enough_46 : decode cX7_enough 46 = .ok (.ifCond .eq 8, 3) := by decide +kernel
theorem dX7_enough_49 : decode cX7_enough 49 = .ok (.iload 4, 2) := by decide +kernel
theorem dX7_enough_51 : decode cX7_enough 51 = .ok (.goto 4, 3) := by decide +kernel
theorem dX7_enough_54 : decode cX7_enough 54 = .ok (.iload_n 2, 1) := by decide +kernel
theorem dX7_enough_55 : decode cX7_enough 55 = .ok (.istore_n 2, 1) := by decide +kernel
theorem dX7_enough_56 : decode cX7_enough 56 = .ok (.iinc 4 1, 3) := by decide +kernel
theorem dX7_enough_59 : decode cX7_enough 59 = .ok (.goto (-42), 3) := by decide +kernel
theorem dX7_enough_62 : decode cX7_enough 62 = .ok (.iload_n 2, 1) := by decide +kernel
theorem dX7_enough_63 : decode cX7_enough 63 = .ok (.ireturn, 1) := by decide +kernel
theorem dX7_feast_0 : decode cX7_feast 0 = .ok (.iload_n 1, 1) := by decide +kernel
theorem dX7_feast_1 : decode cX7_feast 1 = .ok (.iconst 1, 1) := by decide +kernel
theorem dX7_feast_2 : decode cX7_feast 2 = .ok (.sipush 200, 3) := by decide +kernel
theorem dX7_feast_5 : decode cX7_feast 5 = .ok (.invokestatic 90, 3) := by decide +kernel
theorem dX7_feast_8 : decode cX7_feast 8 = .ok (.ifCond .eq 24, 3) := by decide +kernel
theorem dX7_feast_11 : decode cX7_feast 11 = .ok (.iload_n 2, 1) := by decide +kernel
theorem dX7_feast_12 : decode cX7_feast 12 = .ok (.iconst 0, 1) := by decide +kernel
theorem dX7_feast_13 : decode cX7_feast 13 = .ok (.iload_n 1, 1) := by decide +kernel
theorem dX7_feast_14 : decode cX7_feast 14 = .ok (.iconst 1, 1) := by decide +kernel
theorem dX7_feast_15 : decode cX7_feast 15 = .ok (.isub, 1) := by decide +kernel
theorem dX7_feast_16 : decode cX7_feast 16 = .ok (.invokestatic 90, 3) := by decide +kernel
theorem dX7_feast_19 : decode cX7_feast 19 = .ok (.ifCond .eq 13, 3) := by decide +kernel
theorem dX7_feast_22 : decode cX7_feast 22 = .ok (.iload_n 3, 1) := by decide +kernel
theorem dX7_feast_23 : decode cX7_feast 23 = .ok (.iconst 0, 1) := by decide +kernel
theorem dX7_feast_24 : decode cX7_feast 24 = .ok (.bipush 8, 2) := by decide +kernel
theorem dX7_feast_26 : decode cX7_feast 26 = .ok (.invokestatic 90, 3) := by decide +kernel
theorem dX7_feast_29 : decode cX7_feast 29 = .ok (.ifCond .ne 7, 3) := by decide +kernel
theorem dX7_feast_32 : decode cX7_feast 32 = .ok (.ldc_w 288, 3) := by decide +kernel
theorem dX7_feast_35 : decode cX7_feast 35 = .ok (.ireturn, 1) := by decide +kernel
theorem dX7_feast_36 : decode cX7_feast 36 = .ok (.aload_n 0, 1) := by decide +kernel
theorem dX7_feast_37 : decode cX7_feast 37 = .ok (.iload_n 1, 1) := by decide +kernel
theorem dX7_feast_38 : decode cX7_feast 38 = .ok (.invokevirtual 269, 3) := by decide +kernel
theorem dX7_feast_41 : decode cX7_feast 41 = .ok (.aload_n 0, 1) := by decide +kernel
theorem dX7_feast_42 : decode cX7_feast 42 = .ok (.getfield 214, 3) := by decide +kernel
theorem dX7_feast_45 : decode cX7_feast 45 = .ok (.istore 4, 2) := by decide +kernel
theorem dX7_feast_47 : decode cX7_feast 47 = .ok (.aload_n 0, 1) := by decide +kernel
theorem dX7_feast_48 : decode cX7_feast 48 = .ok (.invokevirtual 260, 3) := by decide +kernel
theorem dX7_feast_51 : decode cX7_feast 51 = .ok (.iconst 0, 1) := by decide +kernel
theorem dX7_feast_52 : decode cX7_feast 52 = .ok (.istore 5, 2) := by decide +kernel
theorem dX7_feast_54 : decode cX7_feast 54 = .ok (.iload 5, 2) := by decide +kernel
theorem dX7_feast_56 : decode cX7_feast 56 = .ok (.iload_n 1, 1) := by decide +kernel
theorem dX7_feast_57 : decode cX7_feast 57 = .ok (.if_icmp .ge 37, 3) := by decide +kernel
theorem dX7_feast_60 : decode cX7_feast 60 = .ok (.aload_n 0, 1) := by decide +kernel
theorem dX7_feast_61 : decode cX7_feast 61 = .ok (.iload 5, 2) := by decide +kernel
theorem dX7_feast_63 : decode cX7_feast 63 = .ok (.iload 5, 2) := by decide +kernel
theorem dX7_feast_65 : decode cX7_feast 65 = .ok (.iload_n 2, 1) := by decide +kernel
theorem dX7_feast_66 : decode cX7_feast 66 = .ok (.if_icmp .ne 7, 3) := by decide +kernel
theorem dX7_feast_69 : decode cX7_feast 69 = .ok (.iload_n 3, 1) := by decide +kernel
theorem dX7_feast_70 : decode cX7_feast 70 = .ok (.goto 9, 3) := by decide +kernel
theorem dX7_feast_73 : decode cX7_feast 73 = .ok (.aload_n 0, 1) := by decide +kernel
theorem dX7_feast_74 : decode cX7_feast 74 = .ok (.getfield 22, 3) := by decide +kernel
theorem dX7_feast_77 : decode cX7_feast 77 = .ok (.iconst 0, 1) := by decide +kernel
theorem dX7_feast_78 : decode cX7_feast 78 = .ok (.iaload, 1) := by decide +kernel
theorem dX7_feast_79 : decode cX7_feast 79 = .ok (.aload_n 0, 1) := by decide +kernel
theorem dX7_feast_80 : decode cX7_feast 80 = .ok (.getfield 22, 3) := by decide +kernel
theorem dX7_feast_83 : decode cX7_feast 83 = .ok (.iconst 2, 1) := by decide +kernel
theorem dX7_feast_84 : decode cX7_feast 84 = .ok (.iaload, 1) := by decide +kernel
theorem dX7_feast_85 : decode cX7_feast 85 = .ok (.invokevirtual 250, 3) := by decide +kernel
theorem dX7_feast_88 : decode cX7_feast 88 = .ok (.iinc 5 1, 3) := by decide +kernel
theorem dX7_feast_91 : decode cX7_feast 91 = .ok (.goto (-37), 3) := by decide +kernel
theorem dX7_feast_94 : decode cX7_feast 94 = .ok (.aload_n 0, 1) := by decide +kernel
theorem dX7_feast_95 : decode cX7_feast 95 = .ok (.invokevirtual 263, 3) := by decide +kernel
theorem dX7_feast_98 : decode cX7_feast 98 = .ok (.aload_n 0, 1) := by decide +kernel
theorem dX7_feast_99 : decode cX7_feast 99 = .ok (.getfield 214, 3) := by decide +kernel
theorem dX7_feast_102 : decode cX7_feast 102 = .ok (.iload 4, 2) := by decide +kernel
theorem dX7_feast_104 : decode cX7_feast 104 = .ok (.isub, 1) := by decide +kernel
theorem dX7_feast_105 : decode cX7_feast 105 = .ok (.ireturn, 1) := by decide +kernel
theorem dX7_laundry_0 : decode cX7_laundry 0 = .ok (.iload_n 1, 1) := by decide +kernel
theorem dX7_laundry_1 : decode cX7_laundry 1 = .ok (.invokestatic 266, 3) := by decide +kernel
theorem dX7_laundry_4 : decode cX7_laundry 4 = .ok (.ifCond .ne 6, 3) := by decide +kernel
theorem dX7_laundry_7 : decode cX7_laundry 7 = .ok (.bipush (-2), 2) := by decide +kernel
theorem dX7_laundry_9 : decode cX7_laundry 9 = .ok (.ireturn, 1) := by decide +kernel
theorem dX7_laundry_10 : decode cX7_laundry 10 = .ok (.iconst (-1), 1) := by decide +kernel
theorem dX7_laundry_11 : decode cX7_laundry 11 = .ok (.istore_n 2, 1) := by decide +kernel
theorem dX7_laundry_12 : decode cX7_laundry 12 = .ok (.iconst 0, 1) := by decide +kernel
theorem dX7_laundry_13 : decode cX7_laundry 13 = .ok (.istore_n 3, 1) := by decide +kernel
theorem dX7_laundry_14 : decode cX7_laundry 14 = .ok (.iload_n 3, 1) := by decide +kernel
theorem dX7_laundry_15 : decode cX7_laundry 15 = .ok (.iconst 3, 1) := by decide +kernel
theorem dX7_laundry_16 : decode cX7_laundry 16 = .ok (.if_icmp .gt 25, 3) := by decide +kernel
theorem dX7_laundry_19 : decode cX7_laundry 19 = .ok (.aload_n 0, 1) := by decide +kernel
theorem dX7_laundry_20 : decode cX7_laundry 20 = .ok (.iconst 1, 1) := by decide +kernel
theorem dX7_laundry_21 : decode cX7_laundry 21 = .ok (.iload_n 3, 1) := by decide +kernel
theorem dX7_laundry_22 : decode cX7_laundry 22 = .ok (.iload_n 1, 1) := by decide +kernel
theorem dX7_laundry_23 : decode cX7_laundry 23 = .ok (.invokevirtual 285, 3) := by decide +kernel
theorem dX7_laundry_26 : decode cX7_laundry 26 = .ok (.ifCond .ne 7, 3) := by decide +kernel
theorem dX7_laundry_29 : decode cX7_laundry 29 = .ok (.iload_n 3, 1) := by decide +kernel
theorem dX7_laundry_30 : decode cX7_laundry 30 = .ok (.goto 4, 3) := by decide +kernel
theorem dX7_laundry_33 : decode cX7_laundry 33 = .ok (.iload_n 2, 1) := by decide +kernel
theorem dX7_laundry_34 : decode cX7_laundry 34 = .ok (.istore_n 2, 1) := by decide +kernel
theorem dX7_laundry_35 : decode cX7_laundry 35 = .ok (.iinc 3 1, 3) := by decide +kernel
theorem dX7_laundry_38 : decode cX7_laundry 38 = .ok (.goto (-24), 3) := by decide +kernel
theorem dX7_laundry_41 : decode cX7_laundry 41 = .ok (.iload_n 2, 1) := by decide +kernel
theorem dX7_laundry_42 : decode cX7_laundry 42 = .ok (.ireturn, 1) := by decide +kernel
theorem dX7_sheetWrong_0 : decode cX7_sheetWrong 0 = .ok (.iload_n 1, 1) := by decide +kernel
theorem dX7_sheetWrong_1 : decode cX7_sheetWrong 1 = .ok (.iconst 0, 1) := by decide +kernel
theorem dX7_sheetWrong_2 : decode cX7_sheetWrong 2 = .ok (.iconst 3, 1) := by decide +kernel
theorem dX7_sheetWrong_3 : decode cX7_sheetWrong 3 = .ok (.invokestatic 90, 3) := by decide +kernel
theorem dX7_sheetWrong_6 : decode cX7_sheetWrong 6 = .ok (.ifCond .ne 6, 3) := by decide +kernel
theorem dX7_sheetWrong_9 : decode cX7_sheetWrong 9 = .ok (.bipush (-2), 2) := by decide +kernel
theorem dX7_sheetWrong_11 : decode cX7_sheetWrong 11 = .ok (.ireturn, 1) := by decide +kernel
theorem dX7_sheetWrong_12 : decode cX7_sheetWrong 12 = .ok (.aload_n 0, 1) := by decide +kernel
theorem dX7_sheetWrong_13 : decode cX7_sheetWrong 13 = .ok (.getfield 43, 3) := by decide +kernel
theorem dX7_sheetWrong_16 : decode cX7_sheetWrong 16 = .ok (.iload_n 1, 1) := by decide +kernel
theorem dX7_sheetWrong_17 : decode cX7_sheetWrong 17 = .ok (.iaload, 1) := by decide +kernel
theorem dX7_sheetWrong_18 : decode cX7_sheetWrong 18 = .ok (.iconst (-1), 1) := by decide +kernel
theorem dX7_sheetWrong_19 : decode cX7_sheetWrong 19 = .ok (.if_icmp .ne 6, 3) := by decide +kernel
theorem dX7_sheetWrong_22 : decode cX7_sheetWrong 22 = .ok (.bipush (-11), 2) := by decide +kernel
theorem dX7_sheetWrong_24 : decode cX7_sheetWrong 24 = .ok (.ireturn, 1) := by decide +kernel
theorem dX7_sheetWrong_25 : decode cX7_sheetWrong 25 = .ok (.aload_n 0, 1) := by decide +kernel
theorem dX7_sheetWrong_26 : decode cX7_sheetWrong 26 = .ok (.getfield 46, 3) := by decide +kernel
theorem dX7_sheetWrong_29 : decode cX7_sheetWrong 29 = .ok (.iload_n 1, 1) := by decide +kernel
theorem dX7_sheetWrong_30 : decode cX7_sheetWrong 30 = .ok (.iaload, 1) := by decide +kernel
theorem dX7_sheetWrong_31 : decode cX7_sheetWrong 31 = .ok (.aload_n 0, 1) := by decide +kernel
theorem dX7_sheetWrong_32 : decode cX7_sheetWrong 32 = .ok (.getfield 87, 3) := by decide +kernel
theorem dX7_sheetWrong_35 : decode cX7_sheetWrong 35 = .ok (.if_icmp .ne 7, 3) := by decide +kernel
theorem dX7_sheetWrong_38 : decode cX7_sheetWrong 38 = .ok (.iconst 0, 1) := by decide +kernel
theorem dX7_sheetWrong_39 : decode cX7_sheetWrong 39 = .ok (.goto 5, 3) := by decide +kernel
theorem dX7_sheetWrong_42 : decode cX7_sheetWrong 42 = .ok (.bipush (-2), 2) := by decide +kernel
theorem dX7_sheetWrong_44 : decode cX7_sheetWrong 44 = .ok (.ireturn, 1) := by decide +kernel
theorem dX7_toldWrong_0 : decode cX7_toldWrong 0 = .ok (.aload_n 0, 1) := by decide +kernel
theorem dX7_toldWrong_1 : decode cX7_toldWrong 1 = .ok (.iload_n 1, 1) := by decide +kernel
theorem dX7_toldWrong_2 : decode cX7_toldWrong 2 = .ok (.invokevirtual 289, 3) := by decide +kernel
theorem dX7_toldWrong_5 : decode cX7_toldWrong 5 = .ok (.istore_n 3, 1) := by decide +kernel
theorem dX7_toldWrong_6 : decode cX7_toldWrong 6 = .ok (.iload_n 3, 1) := by decide +kernel
theorem dX7_toldWrong_7 : decode cX7_toldWrong 7 = .ok (.ifCond .eq 7, 3) := by decide +kernel
theorem dX7_toldWrong_10 : decode cX7_toldWrong 10 = .ok (.iload_n 3, 1) := by decide +kernel
theorem dX7_toldWrong_11 : decode cX7_toldWrong 11 = .ok (.goto 16, 3) := by decide +kernel
theorem dX7_toldWrong_14 : decode cX7_toldWrong 14 = .ok (.iload_n 2, 1) := by decide +kernel
theorem dX7_toldWrong_15 : decode cX7_toldWrong 15 = .ok (.invokestatic 266, 3) := by decide +kernel
theorem dX7_toldWrong_18 : decode cX7_toldWrong 18 = .ok (.ifCond .eq 7, 3) := by decide +kernel
theorem dX7_toldWrong_21 : decode cX7_toldWrong 21 = .ok (.iconst 0, 1) := by decide +kernel
theorem dX7_toldWrong_22 : decode cX7_toldWrong 22 = .ok (.goto 5, 3) := by decide +kernel
theorem dX7_toldWrong_25 : decode cX7_toldWrong 25 = .ok (.bipush (-7), 2) := by decide +kernel
theorem dX7_toldWrong_27 : decode cX7_toldWrong 27 = .ok (.ireturn, 1) := by decide +kernel
theorem dX7_unlike_0 : decode cX7_unlike 0 = .ok (.aload_n 0, 1) := by decide +kernel
theorem dX7_unlike_1 : decode cX7_unlike 1 = .ok (.iload_n 2, 1) := by decide +kernel
theorem dX7_unlike_2 : decode cX7_unlike 2 = .ok (.invokevirtual 269, 3) := by decide +kernel
theorem dX7_unlike_5 : decode cX7_unlike 5 = .ok (.iconst 0, 1) := by decide +kernel
theorem dX7_unlike_6 : decode cX7_unlike 6 = .ok (.istore_n 3, 1) := by decide +kernel
theorem dX7_unlike_7 : decode cX7_unlike 7 = .ok (.iload_n 3, 1) := by decide +kernel
theorem dX7_unlike_8 : decode cX7_unlike 8 = .ok (.aload_n 0, 1) := by decide +kernel
theorem dX7_unlike_9 : decode cX7_unlike 9 = .ok (.getfield 87, 3) := by decide +kernel
theorem dX7_unlike_12 : decode cX7_unlike 12 = .ok (.if_icmp .ge 34, 3) := by decide +kernel
theorem dX7_unlike_15 : decode cX7_unlike 15 = .ok (.aload_n 0, 1) := by decide +kernel
theorem dX7_unlike_16 : decode cX7_unlike 16 = .ok (.getfield 49, 3) := by decide +kernel
theorem dX7_unlike_19 : decode cX7_unlike 19 = .ok (.bipush 40, 2) := by decide +kernel
theorem dX7_unlike_21 : decode cX7_unlike 21 = .ok (.iload_n 1, 1) := by decide +kernel
theorem dX7_unlike_22 : decode cX7_unlike 22 = .ok (.imul, 1) := by decide +kernel
theorem dX7_unlike_23 : decode cX7_unlike 23 = .ok (.iload_n 3, 1) := by decide +kernel
theorem dX7_unlike_24 : decode cX7_unlike 24 = .ok (.iadd, 1) := by decide +kernel
theorem dX7_unlike_25 : decode cX7_unlike 25 = .ok (.iaload, 1) := by decide +kernel
theorem dX7_unlike_26 : decode cX7_unlike 26 = .ok (.aload_n 0, 1) := by decide +kernel
theorem dX7_unlike_27 : decode cX7_unlike 27 = .ok (.getfield 76, 3) := by decide +kernel
theorem dX7_unlike_30 : decode cX7_unlike 30 = .ok (.bipush 6, 2) := by decide +kernel
theorem dX7_unlike_32 : decode cX7_unlike 32 = .ok (.iload_n 3, 1) := by decide +kernel
theorem dX7_unlike_33 : decode cX7_unlike 33 = .ok (.imul, 1) := by decide +kernel
theorem dX7_unlike_34 : decode cX7_unlike 34 = .ok (.iaload, 1) := by decide +kernel
theorem dX7_unlike_35 : decode cX7_unlike 35 = .ok (.if_icmp .eq 5, 3) := by decide +kernel
theorem dX7_unlike_38 : decode cX7_unlike 38 = .ok (.iload_n 3, 1) := by decide +kernel
theorem dX7_unlike_39 : decode cX7_unlike 39 = .ok (.ireturn, 1) := by decide +kernel
theorem dX7_unlike_40 : decode cX7_unlike 40 = .ok (.iinc 3 1, 3) := by decide +kernel
theorem dX7_unlike_43 : decode cX7_unlike 43 = .ok (.goto (-36), 3) := by decide +kernel
theorem dX7_unlike_46 : decode cX7_unlike 46 = .ok (.iconst (-1), 1) := by decide +kernel
theorem dX7_unlike_47 : decode cX7_unlike 47 = .ok (.ireturn, 1) := by decide +kernel
theorem dX7_judge_0 : decode cX7_judge 0 = .ok (.aload_n 0, 1) := by decide +kernel
theorem dX7_judge_1 : decode cX7_judge 1 = .ok (.iload_n 1, 1) := by decide +kernel
theorem dX7_judge_2 : decode cX7_judge 2 = .ok (.iload_n 2, 1) := by decide +kernel
theorem dX7_judge_3 : decode cX7_judge 3 = .ok (.invokevirtual 292, 3) := by decide +kernel
theorem dX7_judge_6 : decode cX7_judge 6 = .ok (.istore_n 3, 1) := by decide +kernel
theorem dX7_judge_7 : decode cX7_judge 7 = .ok (.iload_n 3, 1) := by decide +kernel
theorem dX7_judge_8 : decode cX7_judge 8 = .ok (.ifCond .ne 12, 3) := by decide +kernel
theorem dX7_judge_11 : decode cX7_judge 11 = .ok (.aload_n 0, 1) := by decide +kernel
theorem dX7_judge_12 : decode cX7_judge 12 = .ok (.iload_n 1, 1) := by decide +kernel
theorem dX7_judge_13 : decode cX7_judge 13 = .ok (.iload_n 2, 1) := by decide +kernel
theorem dX7_judge_14 : decode cX7_judge 14 = .ok (.invokevirtual 295, 3) := by decide +kernel
theorem dX7_judge_17 : decode cX7_judge 17 = .ok (.goto 4, 3) := by decide +kernel
theorem dX7_judge_20 : decode cX7_judge 20 = .ok (.iload_n 3, 1) := by decide +kernel
theorem dX7_judge_21 : decode cX7_judge 21 = .ok (.ireturn, 1) := by decide +kernel
theorem dX7_rulesOf_0 : decode cX7_rulesOf 0 = .ok (.aload_n 0, 1) := by decide +kernel
theorem dX7_rulesOf_1 : decode cX7_rulesOf 1 = .ok (.iload_n 1, 1) := by decide +kernel
theorem dX7_rulesOf_2 : decode cX7_rulesOf 2 = .ok (.iload_n 2, 1) := by decide +kernel
theorem dX7_rulesOf_3 : decode cX7_rulesOf 3 = .ok (.invokevirtual 292, 3) := by decide +kernel
theorem dX7_rulesOf_6 : decode cX7_rulesOf 6 = .ok (.istore_n 3, 1) := by decide +kernel
theorem dX7_rulesOf_7 : decode cX7_rulesOf 7 = .ok (.iload_n 3, 1) := by decide +kernel
theorem dX7_rulesOf_8 : decode cX7_rulesOf 8 = .ok (.ifCond .eq 5, 3) := by decide +kernel
theorem dX7_rulesOf_11 : decode cX7_rulesOf 11 = .ok (.iload_n 3, 1) := by decide +kernel
theorem dX7_rulesOf_12 : decode cX7_rulesOf 12 = .ok (.ireturn, 1) := by decide +kernel
theorem dX7_rulesOf_13 : decode cX7_rulesOf 13 = .ok (.aload_n 0, 1) := by decide +kernel
theorem dX7_rulesOf_14 : decode cX7_rulesOf 14 = .ok (.getfield 22, 3) := by decide +kernel
theorem dX7_rulesOf_17 : decode cX7_rulesOf 17 = .ok (.iconst 2, 1) := by decide +kernel
theorem dX7_rulesOf_18 : decode cX7_rulesOf 18 = .ok (.iaload, 1) := by decide +kernel
theorem dX7_rulesOf_19 : decode cX7_rulesOf 19 = .ok (.istore 4, 2) := by decide +kernel
theorem dX7_rulesOf_21 : decode cX7_rulesOf 21 = .ok (.aload_n 0, 1) := by decide +kernel
theorem dX7_rulesOf_22 : decode cX7_rulesOf 22 = .ok (.getfield 22, 3) := by decide +kernel
theorem dX7_rulesOf_25 : decode cX7_rulesOf 25 = .ok (.iconst 3, 1) := by decide +kernel
theorem dX7_rulesOf_26 : decode cX7_rulesOf 26 = .ok (.iaload, 1) := by decide +kernel
theorem dX7_rulesOf_27 : decode cX7_rulesOf 27 = .ok (.istore 5, 2) := by decide +kernel
theorem dX7_rulesOf_29 : decode cX7_rulesOf 29 = .ok (.iconst 0, 1) := by decide +kernel
theorem dX7_rulesOf_30 : decode cX7_rulesOf 30 = .ok (.istore 6, 2) := by decide +kernel
theorem dX7_rulesOf_32 : decode cX7_rulesOf 32 = .ok (.iconst 0, 1) := by decide +kernel
theorem dX7_rulesOf_33 : decode cX7_rulesOf 33 = .ok (.istore 7, 2) := by decide +kernel
theorem dX7_rulesOf_35 : decode cX7_rulesOf 35 = .ok (.iload 7, 2) := by decide +kernel
theorem dX7_rulesOf_37 : decode cX7_rulesOf 37 = .ok (.bipush 12, 2) := by decide +kernel
theorem dX7_rulesOf_39 : decode cX7_rulesOf 39 = .ok (.if_icmp .ge 52, 3) := by decide +kernel
theorem dX7_rulesOf_42 : decode cX7_rulesOf 42 = .ok (.aload_n 0, 1) := by decide +kernel
theorem dX7_rulesOf_43 : decode cX7_rulesOf 43 = .ok (.getfield 22, 3) := by decide +kernel
theorem dX7_rulesOf_46 : decode cX7_rulesOf 46 = .ok (.iconst 2, 1) := by decide +kernel
theorem dX7_rulesOf_47 : decode cX7_rulesOf 47 = .ok (.iload 7, 2) := by decide +kernel
theorem dX7_rulesOf_49 : decode cX7_rulesOf 49 = .ok (.iconst 3, 1) := by decide +kernel
theorem dX7_rulesOf_50 : decode cX7_rulesOf 50 = .ok (.idiv, 1) := by decide +kernel
theorem dX7_rulesOf_51 : decode cX7_rulesOf 51 = .ok (.iastore, 1) := by decide +kernel
theorem dX7_rulesOf_52 : decode cX7_rulesOf 52 = .ok (.aload_n 0, 1) := by decide +kernel
theorem dX7_rulesOf_53 : decode cX7_rulesOf 53 = .ok (.getfield 22, 3) := by decide +kernel
theorem dX7_rulesOf_56 : decode cX7_rulesOf 56 = .ok (.iconst 3, 1) := by decide +kernel
theorem dX7_rulesOf_57 : decode cX7_rulesOf 57 = .ok (.iload 7, 2) := by decide +kernel
theorem dX7_rulesOf_59 : decode cX7_rulesOf 59 = .ok (.iconst 3, 1) := by decide +kernel
theorem dX7_rulesOf_60 : decode cX7_rulesOf 60 = .ok (.irem, 1) := by decide +kernel
theorem dX7_rulesOf_61 : decode cX7_rulesOf 61 = .ok (.iastore, 1) := by decide +kernel
theorem dX7_rulesOf_62 : decode cX7_rulesOf 62 = .ok (.iload 6, 2) := by decide +kernel
theorem dX7_rulesOf_64 : decode cX7_rulesOf 64 = .ok (.aload_n 0, 1) := by decide +kernel
theorem dX7_rulesOf_65 : decode cX7_rulesOf 65 = .ok (.iload_n 1, 1) := by decide +kernel
theorem dX7_rulesOf_66 : decode cX7_rulesOf 66 = .ok (.iload_n 2, 1) := by decide +kernel
theorem dX7_rulesOf_67 : decode cX7_rulesOf 67 = .ok (.invokevirtual 295, 3) := by decide +kernel
theorem dX7_rulesOf_70 : decode cX7_rulesOf 70 = .ok (.iconst (-1), 1) := by decide +kernel
theorem dX7_rulesOf_71 : decode cX7_rulesOf 71 = .ok (.if_icmp .ne 10, 3) := by decide +kernel
theorem dX7_rulesOf_74 : decode cX7_rulesOf 74 = .ok (.iconst 1, 1) := by decide +kernel
theorem dX7_rulesOf_75 : decode cX7_rulesOf 75 = .ok (.iload 7, 2) := by decide +kernel
theorem dX7_rulesOf_77 : decode cX7_rulesOf 77 = .ok (.ishl, 1) := by decide +kernel
theorem dX7_rulesOf_78 : decode cX7_rulesOf 78 = .ok (.goto 4, 3) := by decide +kernel
theorem dX7_rulesOf_81 : decode cX7_rulesOf 81 = .ok (.iconst 0, 1) := by decide +kernel
theorem dX7_rulesOf_82 : decode cX7_rulesOf 82 = .ok (.ior, 1) := by decide +kernel
theorem dX7_rulesOf_83 : decode cX7_rulesOf 83 = .ok (.istore 6, 2) := by decide +kernel
theorem dX7_rulesOf_85 : decode cX7_rulesOf 85 = .ok (.iinc 7 1, 3) := by decide +kernel
theorem dX7_rulesOf_88 : decode cX7_rulesOf 88 = .ok (.goto (-53), 3) := by decide +kernel
theorem dX7_rulesOf_91 : decode cX7_rulesOf 91 = .ok (.aload_n 0, 1) := by decide +kernel
theorem dX7_rulesOf_92 : decode cX7_rulesOf 92 = .ok (.getfield 22, 3) := by decide +kernel
theorem dX7_rulesOf_95 : decode cX7_rulesOf 95 = .ok (.iconst 2, 1) := by decide +kernel
theorem dX7_rulesOf_96 : decode cX7_rulesOf 96 = .ok (.iload 4, 2) := by decide +kernel
theorem dX7_rulesOf_98 : decode cX7_rulesOf 98 = .ok (.iastore, 1) := by decide +kernel
theorem dX7_rulesOf_99 : decode cX7_rulesOf 99 = .ok (.aload_n 0, 1) := by decide +kernel
theorem dX7_rulesOf_100 : decode cX7_rulesOf 100 = .ok (.getfield 22, 3) := by decide +kernel
theorem dX7_rulesOf_103 : decode cX7_rulesOf 103 = .ok (.iconst 3, 1) := by decide +kernel
theorem dX7_rulesOf_104 : decode cX7_rulesOf 104 = .ok (.iload 5, 2) := by decide +kernel
theorem dX7_rulesOf_106 : decode cX7_rulesOf 106 = .ok (.iastore, 1) := by decide +kernel
theorem dX7_rulesOf_107 : decode cX7_rulesOf 107 = .ok (.iload 6, 2) := by decide +kernel
theorem dX7_rulesOf_109 : decode cX7_rulesOf 109 = .ok (.ireturn, 1) := by decide +kernel
theorem dX7_kinds_0 : decode cX7_kinds 0 = .ok (.aload_n 0, 1) := by decide +kernel
theorem dX7_kinds_1 : decode cX7_kinds 1 = .ok (.iload_n 1, 1) := by decide +kernel
theorem dX7_kinds_2 : decode cX7_kinds 2 = .ok (.iload_n 2, 1) := by decide +kernel
theorem dX7_kinds_3 : decode cX7_kinds 3 = .ok (.invokevirtual 292, 3) := by decide +kernel
theorem dX7_kinds_6 : decode cX7_kinds 6 = .ok (.istore 4, 2) := by decide +kernel
theorem dX7_kinds_8 : decode cX7_kinds 8 = .ok (.iload 4, 2) := by decide +kernel
theorem dX7_kinds_10 : decode cX7_kinds 10 = .ok (.ifCond .eq 6, 3) := by decide +kernel
theorem dX7_kinds_13 : decode cX7_kinds 13 = .ok (.iload 4, 2) := by decide +kernel
theorem dX7_kinds_15 : decode cX7_kinds 15 = .ok (.ireturn, 1) := by decide +kernel
theorem dX7_kinds_16 : decode cX7_kinds 16 = .ok (.iload_n 3, 1) := by decide +kernel
theorem dX7_kinds_17 : decode cX7_kinds 17 = .ok (.ifCond .ge 7, 3) := by decide +kernel
theorem dX7_kinds_20 : decode cX7_kinds 20 = .ok (.iconst (-1), 1) := by decide +kernel
theorem dX7_kinds_21 : decode cX7_kinds 21 = .ok (.goto 7, 3) := by decide +kernel
theorem dX7_kinds_24 : decode cX7_kinds 24 = .ok (.iload_n 3, 1) := by decide +kernel
theorem dX7_kinds_25 : decode cX7_kinds 25 = .ok (.bipush 10, 2) := by decide +kernel
theorem dX7_kinds_27 : decode cX7_kinds 27 = .ok (.idiv, 1) := by decide +kernel
theorem dX7_kinds_28 : decode cX7_kinds 28 = .ok (.istore 5, 2) := by decide +kernel
theorem dX7_kinds_30 : decode cX7_kinds 30 = .ok (.aload_n 0, 1) := by decide +kernel
theorem dX7_kinds_31 : decode cX7_kinds 31 = .ok (.iload 5, 2) := by decide +kernel
theorem dX7_kinds_33 : decode cX7_kinds 33 = .ok (.invokevirtual 187, 3) := by decide +kernel
theorem dX7_kinds_36 : decode cX7_kinds 36 = .ok (.ifCond .ne 6, 3) := by decide +kernel
theorem dX7_kinds_39 : decode cX7_kinds 39 = .ok (.bipush (-5), 2) := by decide +kernel
theorem dX7_kinds_41 : decode cX7_kinds 41 = .ok (.ireturn, 1) := by decide +kernel
theorem dX7_kinds_42 : decode cX7_kinds 42 = .ok (.iload_n 3, 1) := by decide +kernel
theorem dX7_kinds_43 : decode cX7_kinds 43 = .ok (.bipush 10, 2) := by decide +kernel
theorem dX7_kinds_45 : decode cX7_kinds 45 = .ok (.irem, 1) := by decide +kernel
theorem dX7_kinds_46 : decode cX7_kinds 46 = .ok (.istore 6, 2) := by decide +kernel
theorem dX7_kinds_48 : decode cX7_kinds 48 = .ok (.iload 6, 2) := by decide +kernel
theorem dX7_kinds_50 : decode cX7_kinds 50 = .ok (.iconst 0, 1) := by decide +kernel
theorem dX7_kinds_51 : decode cX7_kinds 51 = .ok (.iconst 1, 1) := by decide +kernel
theorem dX7_kinds_52 : decode cX7_kinds 52 = .ok (.invokestatic 90, 3) := by decide +kernel
theorem dX7_kinds_55 : decode cX7_kinds 55 = .ok (.ifCond .ne 6, 3) := by decide +kernel
theorem dX7_kinds_58 : decode cX7_kinds 58 = .ok (.bipush (-7), 2) := by decide +kernel
theorem dX7_kinds_60 : decode cX7_kinds 60 = .ok (.ireturn, 1) := by decide +kernel
theorem dX7_kinds_61 : decode cX7_kinds 61 = .ok (.aload_n 0, 1) := by decide +kernel
theorem dX7_kinds_62 : decode cX7_kinds 62 = .ok (.getfield 7, 3) := by decide +kernel
theorem dX7_kinds_65 : decode cX7_kinds 65 = .ok (.iload 5, 2) := by decide +kernel
theorem dX7_kinds_67 : decode cX7_kinds 67 = .ok (.iaload, 1) := by decide +kernel
theorem dX7_kinds_68 : decode cX7_kinds 68 = .ok (.istore 7, 2) := by decide +kernel
theorem dX7_kinds_70 : decode cX7_kinds 70 = .ok (.aload_n 0, 1) := by decide +kernel
theorem dX7_kinds_71 : decode cX7_kinds 71 = .ok (.getfield 13, 3) := by decide +kernel
theorem dX7_kinds_74 : decode cX7_kinds 74 = .ok (.iload 5, 2) := by decide +kernel
theorem dX7_kinds_76 : decode cX7_kinds 76 = .ok (.iaload, 1) := by decide +kernel
theorem dX7_kinds_77 : decode cX7_kinds 77 = .ok (.istore 8, 2) := by decide +kernel
theorem dX7_kinds_79 : decode cX7_kinds 79 = .ok (.iconst 0, 1) := by decide +kernel
theorem dX7_kinds_80 : decode cX7_kinds 80 = .ok (.istore 9, 2) := by decide +kernel
theorem dX7_kinds_82 : decode cX7_kinds 82 = .ok (.iconst 0, 1) := by decide +kernel
theorem dX7_kinds_83 : decode cX7_kinds 83 = .ok (.istore 10, 2) := by decide +kernel
theorem dX7_kinds_85 : decode cX7_kinds 85 = .ok (.iload 10, 2) := by decide +kernel
theorem dX7_kinds_87 : decode cX7_kinds 87 = .ok (.iload 6, 2) := by decide +kernel
theorem dX7_kinds_89 : decode cX7_kinds 89 = .ok (.ifCond .ne 8, 3) := by decide +kernel
theorem dX7_kinds_92 : decode cX7_kinds 92 = .ok (.bipush 6, 2) := by decide +kernel
theorem dX7_kinds_94 : decode cX7_kinds 94 = .ok (.goto 5, 3) := by decide +kernel
theorem dX7_kinds_97 : decode cX7_kinds 97 = .ok (.bipush 10, 2) := by decide +kernel
theorem dX7_kinds_99 : decode cX7_kinds 99 = .ok (.if_icmp .ge 71, 3) := by decide +kernel
theorem dX7_kinds_102 : decode cX7_kinds 102 = .ok (.aload_n 0, 1) := by decide +kernel
theorem dX7_kinds_103 : decode cX7_kinds 103 = .ok (.getfield 7, 3) := by decide +kernel
theorem dX7_kinds_106 : decode cX7_kinds 106 = .ok (.iload 5, 2) := by decide +kernel
theorem dX7_kinds_108 : decode cX7_kinds 108 = .ok (.iload 6, 2) := by decide +kernel
theorem dX7_kinds_110 : decode cX7_kinds 110 = .ok (.ifCond .ne 8, 3) := by decide +kernel
theorem dX7_kinds_113 : decode cX7_kinds 113 = .ok (.iload 10, 2) := by decide +kernel
theorem dX7_kinds_115 : decode cX7_kinds 115 = .ok (.goto 5, 3) := by decide +kernel
theorem dX7_kinds_118 : decode cX7_kinds 118 = .ok (.iload 7, 2) := by decide +kernel
theorem dX7_kinds_120 : decode cX7_kinds 120 = .ok (.iastore, 1) := by decide +kernel
theorem dX7_kinds_121 : decode cX7_kinds 121 = .ok (.aload_n 0, 1) := by decide +kernel
theorem dX7_kinds_122 : decode cX7_kinds 122 = .ok (.getfield 13, 3) := by decide +kernel
theorem dX7_kinds_125 : decode cX7_kinds 125 = .ok (.iload 5, 2) := by decide +kernel
theorem dX7_kinds_127 : decode cX7_kinds 127 = .ok (.iload 6, 2) := by decide +kernel
theorem dX7_kinds_129 : decode cX7_kinds 129 = .ok (.iconst 1, 1) := by decide +kernel
theorem dX7_kinds_130 : decode cX7_kinds 130 = .ok (.if_icmp .ne 8, 3) := by decide +kernel
theorem dX7_kinds_133 : decode cX7_kinds 133 = .ok (.iload 10, 2) := by decide +kernel
theorem dX7_kinds_135 : decode cX7_kinds 135 = .ok (.goto 5, 3) := by decide +kernel
theorem dX7_kinds_138 : decode cX7_kinds 138 = .ok (.iload 8, 2) := by decide +kernel
theorem dX7_kinds_140 : decode cX7_kinds 140 = .ok (.iastore, 1) := by decide +kernel
theorem dX7_kinds_141 : decode cX7_kinds 141 = .ok (.iload 9, 2) := by decide +kernel
theorem dX7_kinds_143 : decode cX7_kinds 143 = .ok (.aload_n 0, 1) := by decide +kernel
theorem dX7_kinds_144 : decode cX7_kinds 144 = .ok (.iload_n 1, 1) := by decide +kernel
theorem dX7_kinds_145 : decode cX7_kinds 145 = .ok (.iload_n 2, 1) := by decide +kernel
theorem dX7_kinds_146 : decode cX7_kinds 146 = .ok (.invokevirtual 295, 3) := by decide +kernel
theorem dX7_kinds_149 : decode cX7_kinds 149 = .ok (.iconst (-1), 1) := by decide +kernel
theorem dX7_kinds_150 : decode cX7_kinds 150 = .ok (.if_icmp .ne 10, 3) := by decide +kernel
theorem dX7_kinds_153 : decode cX7_kinds 153 = .ok (.iconst 1, 1) := by decide +kernel
theorem dX7_kinds_154 : decode cX7_kinds 154 = .ok (.iload 10, 2) := by decide +kernel
theorem dX7_kinds_156 : decode cX7_kinds 156 = .ok (.ishl, 1) := by decide +kernel
theorem dX7_kinds_157 : decode cX7_kinds 157 = .ok (.goto 4, 3) := by decide +kernel
theorem dX7_kinds_160 : decode cX7_kinds 160 = .ok (.iconst 0, 1) := by decide +kernel
theorem dX7_kinds_161 : decode cX7_kinds 161 = .ok (.ior, 1) := by decide +kernel
theorem dX7_kinds_162 : decode cX7_kinds 162 = .ok (.istore 9, 2) := by decide +kernel
theorem dX7_kinds_164 : decode cX7_kinds 164 = .ok (.iinc 10 1, 3) := by decide +kernel
theorem dX7_kinds_167 : decode cX7_kinds 167 = .ok (.goto (-82), 3) := by decide +kernel
theorem dX7_kinds_170 : decode cX7_kinds 170 = .ok (.aload_n 0, 1) := by decide +kernel
theorem dX7_kinds_171 : decode cX7_kinds 171 = .ok (.getfield 7, 3) := by decide +kernel
theorem dX7_kinds_174 : decode cX7_kinds 174 = .ok (.iload 5, 2) := by decide +kernel
theorem dX7_kinds_176 : decode cX7_kinds 176 = .ok (.iload 7, 2) := by decide +kernel
theorem dX7_kinds_178 : decode cX7_kinds 178 = .ok (.iastore, 1) := by decide +kernel
theorem dX7_kinds_179 : decode cX7_kinds 179 = .ok (.aload_n 0, 1) := by decide +kernel
theorem dX7_kinds_180 : decode cX7_kinds 180 = .ok (.getfield 13, 3) := by decide +kernel
theorem dX7_kinds_183 : decode cX7_kinds 183 = .ok (.iload 5, 2) := by decide +kernel
theorem dX7_kinds_185 : decode cX7_kinds 185 = .ok (.iload 8, 2) := by decide +kernel
theorem dX7_kinds_187 : decode cX7_kinds 187 = .ok (.iastore, 1) := by decide +kernel
theorem dX7_kinds_188 : decode cX7_kinds 188 = .ok (.iload 9, 2) := by decide +kernel
theorem dX7_kinds_190 : decode cX7_kinds 190 = .ok (.ireturn, 1) := by decide +kernel
theorem dX7_wants_0 : decode cX7_wants 0 = .ok (.aload_n 0, 1) := by decide +kernel
theorem dX7_wants_1 : decode cX7_wants 1 = .ok (.iload_n 1, 1) := by decide +kernel
theorem dX7_wants_2 : decode cX7_wants 2 = .ok (.iload_n 2, 1) := by decide +kernel
theorem dX7_wants_3 : decode cX7_wants 3 = .ok (.invokevirtual 292, 3) := by decide +kernel
theorem dX7_wants_6 : decode cX7_wants 6 = .ok (.istore 4, 2) := by decide +kernel
theorem dX7_wants_8 : decode cX7_wants 8 = .ok (.iload 4, 2) := by decide +kernel
theorem dX7_wants_10 : decode cX7_wants 10 = .ok (.ifCond .eq 6, 3) := by decide +kernel
theorem dX7_wants_13 : decode cX7_wants 13 = .ok (.iload 4, 2) := by decide +kernel
theorem dX7_wants_15 : decode cX7_wants 15 = .ok (.ireturn, 1) := by decide +kernel
theorem dX7_wants_16 : decode cX7_wants 16 = .ok (.iload_n 3, 1) := by decide +kernel
theorem dX7_wants_17 : decode cX7_wants 17 = .ok (.iconst 0, 1) := by decide +kernel
theorem dX7_wants_18 : decode cX7_wants 18 = .ok (.iconst 1, 1) := by decide +kernel
theorem dX7_wants_19 : decode cX7_wants 19 = .ok (.invokestatic 90, 3) := by decide +kernel
theorem dX7_wants_22 : decode cX7_wants 22 = .ok (.ifCond .ne 6, 3) := by decide +kernel
theorem dX7_wants_25 : decode cX7_wants 25 = .ok (.bipush (-7), 2) := by decide +kernel
theorem dX7_wants_27 : decode cX7_wants 27 = .ok (.ireturn, 1) := by decide +kernel
theorem dX7_wants_28 : decode cX7_wants 28 = .ok (.aload_n 0, 1) := by decide +kernel
theorem dX7_wants_29 : decode cX7_wants 29 = .ok (.getfield 22, 3) := by decide +kernel
theorem dX7_wants_32 : decode cX7_wants 32 = .ok (.iload_n 3, 1) := by decide +kernel
theorem dX7_wants_33 : decode cX7_wants 33 = .ok (.iaload, 1) := by decide +kernel
theorem dX7_wants_34 : decode cX7_wants 34 = .ok (.istore 5, 2) := by decide +kernel
theorem dX7_wants_36 : decode cX7_wants 36 = .ok (.iconst 0, 1) := by decide +kernel
theorem dX7_wants_37 : decode cX7_wants 37 = .ok (.istore 6, 2) := by decide +kernel
theorem dX7_wants_39 : decode cX7_wants 39 = .ok (.iconst 0, 1) := by decide +kernel
theorem dX7_wants_40 : decode cX7_wants 40 = .ok (.istore 7, 2) := by decide +kernel
theorem dX7_wants_42 : decode cX7_wants 42 = .ok (.iload 7, 2) := by decide +kernel
theorem dX7_wants_44 : decode cX7_wants 44 = .ok (.iload_n 3, 1) := by decide +kernel
theorem dX7_wants_45 : decode cX7_wants 45 = .ok (.ifCond .ne 8, 3) := by decide +kernel
theorem dX7_wants_48 : decode cX7_wants 48 = .ok (.bipush 8, 2) := by decide +kernel
theorem dX7_wants_50 : decode cX7_wants 50 = .ok (.goto 4, 3) := by decide +kernel
theorem dX7_wants_53 : decode cX7_wants 53 = .ok (.iconst 3, 1) := by decide +kernel
theorem dX7_wants_54 : decode cX7_wants 54 = .ok (.if_icmp .gt 40, 3) := by decide +kernel
theorem dX7_wants_57 : decode cX7_wants 57 = .ok (.aload_n 0, 1) := by decide +kernel
theorem dX7_wants_58 : decode cX7_wants 58 = .ok (.getfield 22, 3) := by decide +kernel
theorem dX7_wants_61 : decode cX7_wants 61 = .ok (.iload_n 3, 1) := by decide +kernel
theorem dX7_wants_62 : decode cX7_wants 62 = .ok (.iload 7, 2) := by decide +kernel
theorem dX7_wants_64 : decode cX7_wants 64 = .ok (.iastore, 1) := by decide +kernel
theorem dX7_wants_65 : decode cX7_wants 65 = .ok (.iload 6, 2) := by decide +kernel
theorem dX7_wants_67 : decode cX7_wants 67 = .ok (.aload_n 0, 1) := by decide +kernel
theorem dX7_wants_68 : decode cX7_wants 68 = .ok (.iload_n 1, 1) := by decide +kernel
theorem dX7_wants_69 : decode cX7_wants 69 = .ok (.iload_n 2, 1) := by decide +kernel
theorem dX7_wants_70 : decode cX7_wants 70 = .ok (.invokevirtual 295, 3) := by decide +kernel
theorem dX7_wants_73 : decode cX7_wants 73 = .ok (.iconst (-1), 1) := by decide +kernel
theorem dX7_wants_74 : decode cX7_wants 74 = .ok (.if_icmp .ne 10, 3) := by decide +kernel
theorem dX7_wants_77 : decode cX7_wants 77 = .ok (.iconst 1, 1) := by decide +kernel
theorem dX7_wants_78 : decode cX7_wants 78 = .ok (.iload 7, 2) := by decide +kernel
theorem dX7_wants_80 : decode cX7_wants 80 = .ok (.ishl, 1) := by decide +kernel
theorem dX7_wants_81 : decode cX7_wants 81 = .ok (.goto 4, 3) := by decide +kernel
theorem dX7_wants_84 : decode cX7_wants 84 = .ok (.iconst 0, 1) := by decide +kernel
theorem dX7_wants_85 : decode cX7_wants 85 = .ok (.ior, 1) := by decide +kernel
theorem dX7_wants_86 : decode cX7_wants 86 = .ok (.istore 6, 2) := by decide +kernel
theorem dX7_wants_88 : decode cX7_wants 88 = .ok (.iinc 7 1, 3) := by decide +kernel
theorem dX7_wants_91 : decode cX7_wants 91 = .ok (.goto (-49), 3) := by decide +kernel
theorem dX7_wants_94 : decode cX7_wants 94 = .ok (.aload_n 0, 1) := by decide +kernel
theorem dX7_wants_95 : decode cX7_wants 95 = .ok (.getfield 22, 3) := by decide +kernel
theorem dX7_wants_98 : decode cX7_wants 98 = .ok (.iload_n 3, 1) := by decide +kernel
theorem dX7_wants_99 : decode cX7_wants 99 = .ok (.iload 5, 2) := by decide +kernel
theorem dX7_wants_101 : decode cX7_wants 101 = .ok (.iastore, 1) := by decide +kernel
theorem dX7_wants_102 : decode cX7_wants 102 = .ok (.iload 6, 2) := by decide +kernel
theorem dX7_wants_104 : decode cX7_wants 104 = .ok (.ireturn, 1) := by decide +kernel
theorem dX7_weeks_0 : decode cX7_weeks 0 = .ok (.aload_n 0, 1) := by decide +kernel
theorem dX7_weeks_1 : decode cX7_weeks 1 = .ok (.iload_n 1, 1) := by decide +kernel
theorem dX7_weeks_2 : decode cX7_weeks 2 = .ok (.invokevirtual 289, 3) := by decide +kernel
theorem dX7_weeks_5 : decode cX7_weeks 5 = .ok (.istore_n 3, 1) := by decide +kernel
theorem dX7_weeks_6 : decode cX7_weeks 6 = .ok (.iload_n 3, 1) := by decide +kernel
theorem dX7_weeks_7 : decode cX7_weeks 7 = .ok (.ifCond .eq 5, 3) := by decide +kernel
theorem dX7_weeks_10 : decode cX7_weeks 10 = .ok (.iload_n 3, 1) := by decide +kernel
theorem dX7_weeks_11 : decode cX7_weeks 11 = .ok (.ireturn, 1) := by decide +kernel
theorem dX7_weeks_12 : decode cX7_weeks 12 = .ok (.iload_n 2, 1) := by decide +kernel
theorem dX7_weeks_13 : decode cX7_weeks 13 = .ok (.iconst 0, 1) := by decide +kernel
theorem dX7_weeks_14 : decode cX7_weeks 14 = .ok (.iconst 1, 1) := by decide +kernel
theorem dX7_weeks_15 : decode cX7_weeks 15 = .ok (.invokestatic 90, 3) := by decide +kernel
theorem dX7_weeks_18 : decode cX7_weeks 18 = .ok (.ifCond .ne 6, 3) := by decide +kernel
theorem dX7_weeks_21 : decode cX7_weeks 21 = .ok (.bipush (-7), 2) := by decide +kernel
theorem dX7_weeks_23 : decode cX7_weeks 23 = .ok (.ireturn, 1) := by decide +kernel
theorem dX7_weeks_24 : decode cX7_weeks 24 = .ok (.iconst (-1), 1) := by decide +kernel
theorem dX7_weeks_25 : decode cX7_weeks 25 = .ok (.istore 4, 2) := by decide +kernel
theorem dX7_weeks_27 : decode cX7_weeks 27 = .ok (.iconst 0, 1) := by decide +kernel
theorem dX7_weeks_28 : decode cX7_weeks 28 = .ok (.istore 5, 2) := by decide +kernel
theorem dX7_weeks_30 : decode cX7_weeks 30 = .ok (.iconst 0, 1) := by decide +kernel
theorem dX7_weeks_31 : decode cX7_weeks 31 = .ok (.istore 6, 2) := by decide +kernel
theorem dX7_weeks_33 : decode cX7_weeks 33 = .ok (.iload 6, 2) := by decide +kernel
theorem dX7_weeks_35 : decode cX7_weeks 35 = .ok (.bipush 60, 2) := by decide +kernel
theorem dX7_weeks_37 : decode cX7_weeks 37 = .ok (.if_icmp .gt 62, 3) := by decide +kernel
theorem dX7_weeks_40 : decode cX7_weeks 40 = .ok (.aload_n 0, 1) := by decide +kernel
theorem dX7_weeks_41 : decode cX7_weeks 41 = .ok (.iload_n 1, 1) := by decide +kernel
theorem dX7_weeks_42 : decode cX7_weeks 42 = .ok (.iload 6, 2) := by decide +kernel
theorem dX7_weeks_44 : decode cX7_weeks 44 = .ok (.invokevirtual 295, 3) := by decide +kernel
theorem dX7_weeks_47 : decode cX7_weeks 47 = .ok (.iconst (-1), 1) := by decide +kernel
theorem dX7_weeks_48 : decode cX7_weeks 48 = .ok (.if_icmp .ne 7, 3) := by decide +kernel
theorem dX7_weeks_51 : decode cX7_weeks 51 = .ok (.iconst 1, 1) := by decide +kernel
theorem dX7_weeks_52 : decode cX7_weeks 52 = .ok (.goto 4, 3) := by decide +kernel
theorem dX7_weeks_55 : decode cX7_weeks 55 = .ok (.iconst 0, 1) := by decide +kernel
theorem dX7_weeks_56 : decode cX7_weeks 56 = .ok (.istore 7, 2) := by decide +kernel
theorem dX7_weeks_58 : decode cX7_weeks 58 = .ok (.iload 7, 2) := by decide +kernel
theorem dX7_weeks_60 : decode cX7_weeks 60 = .ok (.ifCond .eq 14, 3) := by decide +kernel
theorem dX7_weeks_63 : decode cX7_weeks 63 = .ok (.iload 4, 2) := by decide +kernel
theorem dX7_weeks_65 : decode cX7_weeks 65 = .ok (.iconst (-1), 1) := by decide +kernel
theorem dX7_weeks_66 : decode cX7_weeks 66 = .ok (.if_icmp .ne 8, 3) := by decide +kernel
theorem dX7_weeks_69 : decode cX7_weeks 69 = .ok (.iload 6, 2) := by decide +kernel
theorem dX7_weeks_71 : decode cX7_weeks 71 = .ok (.goto 5, 3) := by decide +kernel
theorem dX7_weeks_74 : decode cX7_weeks 74 = .ok (.iload 4, 2) := by decide +kernel
theorem dX7_weeks_76 : decode cX7_weeks 76 = .ok (.istore 4, 2) := by decide +kernel
theorem dX7_weeks_78 : decode cX7_weeks 78 = .ok (.iload 5, 2) := by decide +kernel
theorem dX7_weeks_80 : decode cX7_weeks 80 = .ok (.iload 7, 2) := by decide +kernel
theorem dX7_weeks_82 : decode cX7_weeks 82 = .ok (.ifCond .eq 7, 3) := by decide +kernel
theorem dX7_weeks_85 : decode cX7_weeks 85 = .ok (.iconst 1, 1) := by decide +kernel
theorem dX7_weeks_86 : decode cX7_weeks 86 = .ok (.goto 4, 3) := by decide +kernel
theorem dX7_weeks_89 : decode cX7_weeks 89 = .ok (.iconst 0, 1) := by decide +kernel
theorem dX7_weeks_90 : decode cX7_weeks 90 = .ok (.iadd, 1) := by decide +kernel
theorem dX7_weeks_91 : decode cX7_weeks 91 = .ok (.istore 5, 2) := by decide +kernel
theorem dX7_weeks_93 : decode cX7_weeks 93 = .ok (.iinc 6 1, 3) := by decide +kernel
theorem dX7_weeks_96 : decode cX7_weeks 96 = .ok (.goto (-63), 3) := by decide +kernel
theorem dX7_weeks_99 : decode cX7_weeks 99 = .ok (.iload_n 2, 1) := by decide +kernel
theorem dX7_weeks_100 : decode cX7_weeks 100 = .ok (.ifCond .ne 8, 3) := by decide +kernel
theorem dX7_weeks_103 : decode cX7_weeks 103 = .ok (.iload 4, 2) := by decide +kernel
theorem dX7_weeks_105 : decode cX7_weeks 105 = .ok (.goto 5, 3) := by decide +kernel
theorem dX7_weeks_108 : decode cX7_weeks 108 = .ok (.iload 5, 2) := by decide +kernel
theorem dX7_weeks_110 : decode cX7_weeks 110 = .ok (.ireturn, 1) := by decide +kernel
theorem dX7_laws_0 : decode cX7_laws 0 = .ok (.aload_n 0, 1) := by decide +kernel
theorem dX7_laws_1 : decode cX7_laws 1 = .ok (.iload_n 1, 1) := by decide +kernel
theorem dX7_laws_2 : decode cX7_laws 2 = .ok (.iload_n 2, 1) := by decide +kernel
theorem dX7_laws_3 : decode cX7_laws 3 = .ok (.invokevirtual 292, 3) := by decide +kernel
theorem dX7_laws_6 : decode cX7_laws 6 = .ok (.istore_n 3, 1) := by decide +kernel
theorem dX7_laws_7 : decode cX7_laws 7 = .ok (.iload_n 3, 1) := by decide +kernel
theorem dX7_laws_8 : decode cX7_laws 8 = .ok (.ifCond .eq 5, 3) := by decide +kernel
theorem dX7_laws_11 : decode cX7_laws 11 = .ok (.iload_n 3, 1) := by decide +kernel
theorem dX7_laws_12 : decode cX7_laws 12 = .ok (.ireturn, 1) := by decide +kernel
theorem dX7_laws_13 : decode cX7_laws 13 = .ok (.aload_n 0, 1) := by decide +kernel
theorem dX7_laws_14 : decode cX7_laws 14 = .ok (.getfield 103, 3) := by decide +kernel
theorem dX7_laws_17 : decode cX7_laws 17 = .ok (.istore 4, 2) := by decide +kernel
theorem dX7_laws_19 : decode cX7_laws 19 = .ok (.iconst 0, 1) := by decide +kernel
theorem dX7_laws_20 : decode cX7_laws 20 = .ok (.istore 5, 2) := by decide +kernel
theorem dX7_laws_22 : decode cX7_laws 22 = .ok (.iconst 0, 1) := by decide +kernel
theorem dX7_laws_23 : decode cX7_laws 23 = .ok (.istore 6, 2) := by decide +kernel
theorem dX7_laws_25 : decode cX7_laws 25 = .ok (.iload 6, 2) := by decide +kernel
theorem dX7_laws_27 : decode cX7_laws 27 = .ok (.aload_n 0, 1) := by decide +kernel
theorem dX7_laws_28 : decode cX7_laws 28 = .ok (.getfield 100, 3) := by decide +kernel
theorem dX7_laws_31 : decode cX7_laws 31 = .ok (.if_icmp .ge 38, 3) := by decide +kernel
theorem dX7_laws_34 : decode cX7_laws 34 = .ok (.aload_n 0, 1) := by decide +kernel
theorem dX7_laws_35 : decode cX7_laws 35 = .ok (.iload 6, 2) := by decide +kernel
theorem dX7_laws_37 : decode cX7_laws 37 = .ok (.putfield 103, 3) := by decide +kernel
theorem dX7_laws_40 : decode cX7_laws 40 = .ok (.iload 5, 2) := by decide +kernel
theorem dX7_laws_42 : decode cX7_laws 42 = .ok (.aload_n 0, 1) := by decide +kernel
theorem dX7_laws_43 : decode cX7_laws 43 = .ok (.iload_n 1, 1) := by decide +kernel
theorem dX7_laws_44 : decode cX7_laws 44 = .ok (.iload_n 2, 1) := by decide +kernel
theorem dX7_laws_45 : decode cX7_laws 45 = .ok (.invokevirtual 295, 3) := by decide +kernel
theorem dX7_laws_48 : decode cX7_laws 48 = .ok (.iconst (-1), 1) := by decide +kernel
theorem dX7_laws_49 : decode cX7_laws 49 = .ok (.if_icmp .ne 10, 3) := by decide +kernel
theorem dX7_laws_52 : decode cX7_laws 52 = .ok (.iconst 1, 1) := by decide +kernel
theorem dX7_laws_53 : decode cX7_laws 53 = .ok (.iload 6, 2) := by decide +kernel
theorem dX7_laws_55 : decode cX7_laws 55 = .ok (.ishl, 1) := by decide +kernel
theorem dX7_laws_56 : decode cX7_laws 56 = .ok (.goto 4, 3) := by decide +kernel
theorem dX7_laws_59 : decode cX7_laws 59 = .ok (.iconst 0, 1) := by decide +kernel
theorem dX7_laws_60 : decode cX7_laws 60 = .ok (.ior, 1) := by decide +kernel
theorem dX7_laws_61 : decode cX7_laws 61 = .ok (.istore 5, 2) := by decide +kernel
theorem dX7_laws_63 : decode cX7_laws 63 = .ok (.iinc 6 1, 3) := by decide +kernel
theorem dX7_laws_66 : decode cX7_laws 66 = .ok (.goto (-41), 3) := by decide +kernel
theorem dX7_laws_69 : decode cX7_laws 69 = .ok (.aload_n 0, 1) := by decide +kernel
theorem dX7_laws_70 : decode cX7_laws 70 = .ok (.iload 4, 2) := by decide +kernel
theorem dX7_laws_72 : decode cX7_laws 72 = .ok (.putfield 103, 3) := by decide +kernel
theorem dX7_laws_75 : decode cX7_laws 75 = .ok (.iload 5, 2) := by decide +kernel
theorem dX7_laws_77 : decode cX7_laws 77 = .ok (.ireturn, 1) := by decide +kernel
theorem dX7_film_0 : decode cX7_film 0 = .ok (.iload_n 1, 1) := by decide +kernel
theorem dX7_film_1 : decode cX7_film 1 = .ok (.iconst 0, 1) := by decide +kernel
theorem dX7_film_2 : decode cX7_film 2 = .ok (.iconst 3, 1) := by decide +kernel
theorem dX7_film_3 : decode cX7_film 3 = .ok (.invokestatic 90, 3) := by decide +kernel
theorem dX7_film_6 : decode cX7_film 6 = .ok (.ifCond .eq 10, 3) := by decide +kernel
theorem dX7_film_9 : decode cX7_film 9 = .ok (.iload_n 2, 1) := by decide +kernel
theorem dX7_film_10 : decode cX7_film 10 = .ok (.invokestatic 266, 3) := by decide +kernel
theorem dX7_film_13 : decode cX7_film 13 = .ok (.ifCond .ne 6, 3) := by decide +kernel
theorem dX7_film_16 : decode cX7_film 16 = .ok (.bipush (-2), 2) := by decide +kernel
theorem dX7_film_18 : decode cX7_film 18 = .ok (.ireturn, 1) := by decide +kernel
theorem dX7_film_19 : decode cX7_film 19 = .ok (.aload_n 0, 1) := by decide +kernel
theorem dX7_film_20 : decode cX7_film 20 = .ok (.iload_n 2, 1) := by decide +kernel
theorem dX7_film_21 : decode cX7_film 21 = .ok (.invokevirtual 269, 3) := by decide +kernel
theorem dX7_film_24 : decode cX7_film 24 = .ok (.aload_n 0, 1) := by decide +kernel
theorem dX7_film_25 : decode cX7_film 25 = .ok (.getfield 43, 3) := by decide +kernel
theorem dX7_film_28 : decode cX7_film 28 = .ok (.iload_n 1, 1) := by decide +kernel
theorem dX7_film_29 : decode cX7_film 29 = .ok (.iconst 1, 1) := by decide +kernel
theorem dX7_film_30 : decode cX7_film 30 = .ok (.iastore, 1) := by decide +kernel
theorem dX7_film_31 : decode cX7_film 31 = .ok (.aload_n 0, 1) := by decide +kernel
theorem dX7_film_32 : decode cX7_film 32 = .ok (.getfield 46, 3) := by decide +kernel
theorem dX7_film_35 : decode cX7_film 35 = .ok (.iload_n 1, 1) := by decide +kernel
theorem dX7_film_36 : decode cX7_film 36 = .ok (.aload_n 0, 1) := by decide +kernel
theorem dX7_film_37 : decode cX7_film 37 = .ok (.getfield 87, 3) := by decide +kernel
theorem dX7_film_40 : decode cX7_film 40 = .ok (.iastore, 1) := by decide +kernel
theorem dX7_film_41 : decode cX7_film 41 = .ok (.iconst 0, 1) := by decide +kernel
theorem dX7_film_42 : decode cX7_film 42 = .ok (.istore_n 3, 1) := by decide +kernel
theorem dX7_film_43 : decode cX7_film 43 = .ok (.iload_n 3, 1) := by decide +kernel
theorem dX7_film_44 : decode cX7_film 44 = .ok (.bipush 40, 2) := by decide +kernel
theorem dX7_film_46 : decode cX7_film 46 = .ok (.if_icmp .ge 47, 3) := by decide +kernel
theorem dX7_film_49 : decode cX7_film 49 = .ok (.aload_n 0, 1) := by decide +kernel
theorem dX7_film_50 : decode cX7_film 50 = .ok (.getfield 49, 3) := by decide +kernel
theorem dX7_film_53 : decode cX7_film 53 = .ok (.bipush 40, 2) := by decide +kernel
theorem dX7_film_55 : decode cX7_film 55 = .ok (.iload_n 1, 1) := by decide +kernel
theorem dX7_film_56 : decode cX7_film 56 = .ok (.imul, 1) := by decide +kernel
theorem dX7_film_57 : decode cX7_film 57 = .ok (.iload_n 3, 1) := by decide +kernel
theorem dX7_film_58 : decode cX7_film 58 = .ok (.iadd, 1) := by decide +kernel
theorem dX7_film_59 : decode cX7_film 59 = .ok (.iload_n 3, 1) := by decide +kernel
theorem dX7_film_60 : decode cX7_film 60 = .ok (.aload_n 0, 1) := by decide +kernel
theorem dX7_film_61 : decode cX7_film 61 = .ok (.getfield 87, 3) := by decide +kernel
theorem dX7_film_64 : decode cX7_film 64 = .ok (.if_icmp .ge 21, 3) := by decide +kernel
theorem dX7_film_67 : decode cX7_film 67 = .ok (.aload_n 0, 1) := by decide +kernel
theorem dX7_film_68 : decode cX7_film 68 = .ok (.getfield 76, 3) := by decide +kernel
theorem dX7_film_71 : decode cX7_film 71 = .ok (.bipush 6, 2) := by decide +kernel
theorem dX7_film_73 : decode cX7_film 73 = .ok (.iload_n 3, 1) := by decide +kernel
theorem dX7_film_74 : decode cX7_film 74 = .ok (.iconst 0, 1) := by decide +kernel
theorem dX7_film_75 : decode cX7_film 75 = .ok (.bipush 7, 2) := by decide +kernel
theorem dX7_film_77 : decode cX7_film 77 = .ok (.invokestatic 173, 3) := by decide +kernel
theorem dX7_film_80 : decode cX7_film 80 = .ok (.imul, 1) := by decide +kernel
theorem dX7_film_81 : decode cX7_film 81 = .ok (.iaload, 1) := by decide +kernel
theorem dX7_film_82 : decode cX7_film 82 = .ok (.goto 4, 3) := by decide +kernel
theorem dX7_film_85 : decode cX7_film 85 = .ok (.iconst 0, 1) := by decide +kernel
theorem dX7_film_86 : decode cX7_film 86 = .ok (.iastore, 1) := by decide +kernel
theorem dX7_film_87 : decode cX7_film 87 = .ok (.iinc 3 1, 3) := by decide +kernel
theorem dX7_film_90 : decode cX7_film 90 = .ok (.goto (-47), 3) := by decide +kernel
theorem dX7_film_93 : decode cX7_film 93 = .ok (.aload_n 0, 1) := by decide +kernel
theorem dX7_film_94 : decode cX7_film 94 = .ok (.getfield 87, 3) := by decide +kernel
theorem dX7_film_97 : decode cX7_film 97 = .ok (.ireturn, 1) := by decide +kernel
theorem dX7_goesBroken_0 : decode cX7_goesBroken 0 = .ok (.iload_n 1, 1) := by decide +kernel
theorem dX7_goesBroken_1 : decode cX7_goesBroken 1 = .ok (.i2l, 1) := by decide +kernel
theorem dX7_goesBroken_2 : decode cX7_goesBroken 2 = .ok (.lconst 1, 1) := by decide +kernel
theorem dX7_goesBroken_3 : decode cX7_goesBroken 3 = .ok (.ladd, 1) := by decide +kernel
theorem dX7_goesBroken_4 : decode cX7_goesBroken 4 = .ok (.lstore 4, 2) := by decide +kernel
theorem dX7_goesBroken_6 : decode cX7_goesBroken 6 = .ok (.aload_n 0, 1) := by decide +kernel
theorem dX7_goesBroken_7 : decode cX7_goesBroken 7 = .ok (.invokevirtual 260, 3) := by decide +kernel
theorem dX7_goesBroken_10 : decode cX7_goesBroken 10 = .ok (.iconst 0, 1) := by decide +kernel
theorem dX7_goesBroken_11 : decode cX7_goesBroken 11 = .ok (.istore 6, 2) := by decide +kernel
theorem dX7_goesBroken_13 : decode cX7_goesBroken 13 = .ok (.iload 6, 2) := by decide +kernel
theorem dX7_goesBroken_15 : decode cX7_goesBroken 15 = .ok (.iload_n 2, 1) := by decide +kernel
theorem dX7_goesBroken_16 : decode cX7_goesBroken 16 = .ok (.if_icmp .ge 55, 3) := by decide +kernel
theorem dX7_goesBroken_19 : decode cX7_goesBroken 19 = .ok (.lload 4, 2) := by decide +kernel
theorem dX7_goesBroken_21 : decode cX7_goesBroken 21 = .ok (.ldc2_w 298, 3) := by decide +kernel
theorem dX7_goesBroken_24 : decode cX7_goesBroken 24 = .ok (.lmul, 1) := by decide +kernel
theorem dX7_goesBroken_25 : decode cX7_goesBroken 25 = .ok (.ldc2_w 300, 3) := by decide +kernel
theorem dX7_goesBroken_28 : decode cX7_goesBroken 28 = .ok (.lrem, 1) := by decide +kernel
theorem dX7_goesBroken_29 : decode cX7_goesBroken 29 = .ok (.lstore 4, 2) := by decide +kernel
theorem dX7_goesBroken_31 : decode cX7_goesBroken 31 = .ok (.aload_n 0, 1) := by decide +kernel
theorem dX7_goesBroken_32 : decode cX7_goesBroken 32 = .ok (.iload 6, 2) := by decide +kernel
theorem dX7_goesBroken_34 : decode cX7_goesBroken 34 = .ok (.aload_n 0, 1) := by decide +kernel
theorem dX7_goesBroken_35 : decode cX7_goesBroken 35 = .ok (.getfield 22, 3) := by decide +kernel
theorem dX7_goesBroken_38 : decode cX7_goesBroken 38 = .ok (.iconst 0, 1) := by decide +kernel
theorem dX7_goesBroken_39 : decode cX7_goesBroken 39 = .ok (.iaload, 1) := by decide +kernel
theorem dX7_goesBroken_40 : decode cX7_goesBroken 40 = .ok (.lload 4, 2) := by decide +kernel
theorem dX7_goesBroken_42 : decode cX7_goesBroken 42 = .ok (.ldc2_w 302, 3) := by decide +kernel
theorem dX7_goesBroken_45 : decode cX7_goesBroken 45 = .ok (.lrem, 1) := by decide +kernel
theorem dX7_goesBroken_46 : decode cX7_goesBroken 46 = .ok (.iload_n 3, 1) := by decide +kernel
theorem dX7_goesBroken_47 : decode cX7_goesBroken 47 = .ok (.i2l, 1) := by decide +kernel
theorem dX7_goesBroken_48 : decode cX7_goesBroken 48 = .ok (.lcmp, 1) := by decide +kernel
theorem dX7_goesBroken_49 : decode cX7_goesBroken 49 = .ok (.ifCond .ge 7, 3) := by decide +kernel
theorem dX7_goesBroken_52 : decode cX7_goesBroken 52 = .ok (.iconst 0, 1) := by decide +kernel
theorem dX7_goesBroken_53 : decode cX7_goesBroken 53 = .ok (.goto 9, 3) := by decide +kernel
theorem dX7_goesBroken_56 : decode cX7_goesBroken 56 = .ok (.aload_n 0, 1) := by decide +kernel
theorem dX7_goesBroken_57 : decode cX7_goesBroken 57 = .ok (.getfield 22, 3) := by decide +kernel
theorem dX7_goesBroken_60 : decode cX7_goesBroken 60 = .ok (.iconst 2, 1) := by decide +kernel
theorem dX7_goesBroken_61 : decode cX7_goesBroken 61 = .ok (.iaload, 1) := by decide +kernel
theorem dX7_goesBroken_62 : decode cX7_goesBroken 62 = .ok (.invokevirtual 250, 3) := by decide +kernel
theorem dX7_goesBroken_65 : decode cX7_goesBroken 65 = .ok (.iinc 6 1, 3) := by decide +kernel
theorem dX7_goesBroken_68 : decode cX7_goesBroken 68 = .ok (.goto (-55), 3) := by decide +kernel
theorem dX7_goesBroken_71 : decode cX7_goesBroken 71 = .ok (.aload_n 0, 1) := by decide +kernel
theorem dX7_goesBroken_72 : decode cX7_goesBroken 72 = .ok (.invokevirtual 263, 3) := by decide +kernel
theorem dX7_goesBroken_75 : decode cX7_goesBroken 75 = .ok (.return_, 1) := by decide +kernel
theorem dX7_wornAll_0 : decode cX7_wornAll 0 = .ok (.iconst 0, 1) := by decide +kernel
theorem dX7_wornAll_1 : decode cX7_wornAll 1 = .ok (.istore_n 1, 1) := by decide +kernel
theorem dX7_wornAll_2 : decode cX7_wornAll 2 = .ok (.iconst 0, 1) := by decide +kernel
theorem dX7_wornAll_3 : decode cX7_wornAll 3 = .ok (.istore_n 2, 1) := by decide +kernel
theorem dX7_wornAll_4 : decode cX7_wornAll 4 = .ok (.iload_n 2, 1) := by decide +kernel
theorem dX7_wornAll_5 : decode cX7_wornAll 5 = .ok (.aload_n 0, 1) := by decide +kernel
theorem dX7_wornAll_6 : decode cX7_wornAll 6 = .ok (.getfield 87, 3) := by decide +kernel
theorem dX7_wornAll_9 : decode cX7_wornAll 9 = .ok (.if_icmp .ge 21, 3) := by decide +kernel
theorem dX7_wornAll_12 : decode cX7_wornAll 12 = .ok (.iload_n 1, 1) := by decide +kernel
theorem dX7_wornAll_13 : decode cX7_wornAll 13 = .ok (.aload_n 0, 1) := by decide +kernel
theorem dX7_wornAll_14 : decode cX7_wornAll 14 = .ok (.getfield 76, 3) := by decide +kernel
theorem dX7_wornAll_17 : decode cX7_wornAll 17 = .ok (.bipush 6, 2) := by decide +kernel
theorem dX7_wornAll_19 : decode cX7_wornAll 19 = .ok (.iload_n 2, 1) := by decide +kernel
theorem dX7_wornAll_20 : decode cX7_wornAll 20 = .ok (.imul, 1) := by decide +kernel
theorem dX7_wornAll_21 : decode cX7_wornAll 21 = .ok (.iaload, 1) := by decide +kernel
theorem dX7_wornAll_22 : decode cX7_wornAll 22 = .ok (.iadd, 1) := by decide +kernel
theorem dX7_wornAll_23 : decode cX7_wornAll 23 = .ok (.istore_n 1, 1) := by decide +kernel
theorem dX7_wornAll_24 : decode cX7_wornAll 24 = .ok (.iinc 2 1, 3) := by decide +kernel
theorem dX7_wornAll_27 : decode cX7_wornAll 27 = .ok (.goto (-23), 3) := by decide +kernel
theorem dX7_wornAll_30 : decode cX7_wornAll 30 = .ok (.iload_n 1, 1) := by decide +kernel
theorem dX7_wornAll_31 : decode cX7_wornAll 31 = .ok (.ireturn, 1) := by decide +kernel
theorem dX7_drawn_0 : decode cX7_drawn 0 = .ok (.iload_n 1, 1) := by decide +kernel
theorem dX7_drawn_1 : decode cX7_drawn 1 = .ok (.iconst 0, 1) := by decide +kernel
theorem dX7_drawn_2 : decode cX7_drawn 2 = .ok (.ldc_w 304, 3) := by decide +kernel
theorem dX7_drawn_5 : decode cX7_drawn 5 = .ok (.invokestatic 90, 3) := by decide +kernel
theorem dX7_drawn_8 : decode cX7_drawn 8 = .ok (.ifCond .eq 29, 3) := by decide +kernel
theorem dX7_drawn_11 : decode cX7_drawn 11 = .ok (.iload_n 2, 1) := by decide +kernel
theorem dX7_drawn_12 : decode cX7_drawn 12 = .ok (.invokestatic 266, 3) := by decide +kernel
theorem dX7_drawn_15 : decode cX7_drawn 15 = .ok (.ifCond .eq 22, 3) := by decide +kernel
theorem dX7_drawn_18 : decode cX7_drawn 18 = .ok (.iload_n 3, 1) := by decide +kernel
theorem dX7_drawn_19 : decode cX7_drawn 19 = .ok (.iconst 0, 1) := by decide +kernel
theorem dX7_drawn_20 : decode cX7_drawn 20 = .ok (.sipush 1003, 3) := by decide +kernel
theorem dX7_drawn_23 : decode cX7_drawn 23 = .ok (.invokestatic 90, 3) := by decide +kernel
theorem dX7_drawn_26 : decode cX7_drawn 26 = .ok (.ifCond .eq 11, 3) := by decide +kernel
theorem dX7_drawn_29 : decode cX7_drawn 29 = .ok (.iload_n 3, 1) := by decide +kernel
theorem dX7_drawn_30 : decode cX7_drawn 30 = .ok (.bipush 10, 2) := by decide +kernel
theorem dX7_drawn_32 : decode cX7_drawn 32 = .ok (.irem, 1) := by decide +kernel
theorem dX7_drawn_33 : decode cX7_drawn 33 = .ok (.iconst 3, 1) := by decide +kernel
theorem dX7_drawn_34 : decode cX7_drawn 34 = .ok (.if_icmp .le 6, 3) := by decide +kernel
theorem dX7_drawn_37 : decode cX7_drawn 37 = .ok (.bipush (-2), 2) := by decide +kernel
theorem dX7_drawn_39 : decode cX7_drawn 39 = .ok (.ireturn, 1) := by decide +kernel
theorem dX7_drawn_40 : decode cX7_drawn 40 = .ok (.aload_n 0, 1) := by decide +kernel
theorem dX7_drawn_41 : decode cX7_drawn 41 = .ok (.iload_n 1, 1) := by decide +kernel
theorem dX7_drawn_42 : decode cX7_drawn 42 = .ok (.iload_n 2, 1) := by decide +kernel
theorem dX7_drawn_43 : decode cX7_drawn 43 = .ok (.iload_n 3, 1) := by decide +kernel
theorem dX7_drawn_44 : decode cX7_drawn 44 = .ok (.bipush 10, 2) := by decide +kernel
theorem dX7_drawn_46 : decode cX7_drawn 46 = .ok (.idiv, 1) := by decide +kernel
theorem dX7_drawn_47 : decode cX7_drawn 47 = .ok (.invokevirtual 305, 3) := by decide +kernel
theorem dX7_drawn_50 : decode cX7_drawn 50 = .ok (.iload_n 3, 1) := by decide +kernel
theorem dX7_drawn_51 : decode cX7_drawn 51 = .ok (.bipush 10, 2) := by decide +kernel
theorem dX7_drawn_53 : decode cX7_drawn 53 = .ok (.irem, 1) := by decide +kernel
theorem dX7_drawn_54 : decode cX7_drawn 54 = .ok (.istore 4, 2) := by decide +kernel
theorem dX7_drawn_56 : decode cX7_drawn 56 = .ok (.iload 4, 2) := by decide +kernel
theorem dX7_drawn_58 : decode cX7_drawn 58 = .ok (.ifCond .ne 10, 3) := by decide +kernel
theorem dX7_drawn_61 : decode cX7_drawn 61 = .ok (.aload_n 0, 1) := by decide +kernel
theorem dX7_drawn_62 : decode cX7_drawn 62 = .ok (.invokevirtual 272, 3) := by decide +kernel
theorem dX7_drawn_65 : decode cX7_drawn 65 = .ok (.goto 44, 3) := by decide +kernel
theorem dX7_drawn_68 : decode cX7_drawn 68 = .ok (.iload 4, 2) := by decide +kernel
theorem dX7_drawn_70 : decode cX7_drawn 70 = .ok (.iconst 1, 1) := by decide +kernel
theorem dX7_drawn_71 : decode cX7_drawn 71 = .ok (.if_icmp .ne 10, 3) := by decide +kernel
theorem dX7_drawn_74 : decode cX7_drawn 74 = .ok (.aload_n 0, 1) := by decide +kernel
theorem dX7_drawn_75 : decode cX7_drawn 75 = .ok (.getfield 214, 3) := by decide +kernel
theorem dX7_drawn_78 : decode cX7_drawn 78 = .ok (.goto 31, 3) := by decide +kernel
theorem dX7_drawn_81 : decode cX7_drawn 81 = .ok (.iload 4, 2) := by decide +kernel
theorem dX7_drawn_83 : decode cX7_drawn 83 = .ok (.iconst 2, 1) := by decide +kernel
theorem dX7_drawn_84 : decode cX7_drawn 84 = .ok (.if_icmp .ne 21, 3) := by decide +kernel
theorem dX7_drawn_87 : decode cX7_drawn 87 = .ok (.iconst 1, 1) := by decide +kernel
theorem dX7_drawn_88 : decode cX7_drawn 88 = .ok (.aload_n 0, 1) := by decide +kernel
theorem dX7_drawn_89 : decode cX7_drawn 89 = .ok (.getfield 87, 3) := by decide +kernel
theorem dX7_drawn_92 : decode cX7_drawn 92 = .ok (.ishl, 1) := by decide +kernel
theorem dX7_drawn_93 : decode cX7_drawn 93 = .ok (.iconst 1, 1) := by decide +kernel
theorem dX7_drawn_94 : decode cX7_drawn 94 = .ok (.isub, 1) := by decide +kernel
theorem dX7_drawn_95 : decode cX7_drawn 95 = .ok (.aload_n 0, 1) := by decide +kernel
theorem dX7_drawn_96 : decode cX7_drawn 96 = .ok (.getfield 235, 3) := by decide +kernel
theorem dX7_drawn_99 : decode cX7_drawn 99 = .ok (.iconst (-1), 1) := by decide +kernel
theorem dX7_drawn_100 : decode cX7_drawn 100 = .ok (.ixor, 1) := by decide +kernel
theorem dX7_drawn_101 : decode cX7_drawn 101 = .ok (.iand, 1) := by decide +kernel
theorem dX7_drawn_102 : decode cX7_drawn 102 = .ok (.goto 7, 3) := by decide +kernel
theorem dX7_drawn_105 : decode cX7_drawn 105 = .ok (.aload_n 0, 1) := by decide +kernel
theorem dX7_drawn_106 : decode cX7_drawn 106 = .ok (.invokevirtual 308, 3) := by decide +kernel
theorem dX7_drawn_109 : decode cX7_drawn 109 = .ok (.ireturn, 1) := by decide +kernel
theorem dX7_lowest_0 : decode cX7_lowest 0 = .ok (.lload_n 0, 1) := by decide +kernel
theorem dX7_lowest_1 : decode cX7_lowest 1 = .ok (.lconst 0, 1) := by decide +kernel
theorem dX7_lowest_2 : decode cX7_lowest 2 = .ok (.lcmp, 1) := by decide +kernel
theorem dX7_lowest_3 : decode cX7_lowest 3 = .ok (.ifCond .ne 7, 3) := by decide +kernel
theorem dX7_lowest_6 : decode cX7_lowest 6 = .ok (.iload 4, 2) := by decide +kernel
theorem dX7_lowest_8 : decode cX7_lowest 8 = .ok (.i2l, 1) := by decide +kernel
theorem dX7_lowest_9 : decode cX7_lowest 9 = .ok (.lreturn, 1) := by decide +kernel
theorem dX7_lowest_10 : decode cX7_lowest 10 = .ok (.lload_n 0, 1) := by decide +kernel
theorem dX7_lowest_11 : decode cX7_lowest 11 = .ok (.lstore 5, 2) := by decide +kernel
theorem dX7_lowest_13 : decode cX7_lowest 13 = .ok (.lload_n 2, 1) := by decide +kernel
theorem dX7_lowest_14 : decode cX7_lowest 14 = .ok (.lstore 7, 2) := by decide +kernel
theorem dX7_lowest_16 : decode cX7_lowest 16 = .ok (.lload 7, 2) := by decide +kernel
theorem dX7_lowest_18 : decode cX7_lowest 18 = .ok (.lconst 0, 1) := by decide +kernel
theorem dX7_lowest_19 : decode cX7_lowest 19 = .ok (.lcmp, 1) := by decide +kernel
theorem dX7_lowest_20 : decode cX7_lowest 20 = .ok (.ifCond .eq 21, 3) := by decide +kernel
theorem dX7_lowest_23 : decode cX7_lowest 23 = .ok (.lload 5, 2) := by decide +kernel
theorem dX7_lowest_25 : decode cX7_lowest 25 = .ok (.lload 7, 2) := by decide +kernel
theorem dX7_lowest_27 : decode cX7_lowest 27 = .ok (.lrem, 1) := by decide +kernel
theorem dX7_lowest_28 : decode cX7_lowest 28 = .ok (.lstore 9, 2) := by decide +kernel
theorem dX7_lowest_30 : decode cX7_lowest 30 = .ok (.lload 7, 2) := by decide +kernel
theorem dX7_lowest_32 : decode cX7_lowest 32 = .ok (.lstore 5, 2) := by decide +kernel
theorem dX7_lowest_34 : decode cX7_lowest 34 = .ok (.lload 9, 2) := by decide +kernel
theorem dX7_lowest_36 : decode cX7_lowest 36 = .ok (.lstore 7, 2) := by decide +kernel
theorem dX7_lowest_38 : decode cX7_lowest 38 = .ok (.goto (-22), 3) := by decide +kernel
theorem dX7_lowest_41 : decode cX7_lowest 41 = .ok (.iload 4, 2) := by decide +kernel
theorem dX7_lowest_43 : decode cX7_lowest 43 = .ok (.ifCond .ne 7, 3) := by decide +kernel
theorem dX7_lowest_46 : decode cX7_lowest 46 = .ok (.lload_n 0, 1) := by decide +kernel
theorem dX7_lowest_47 : decode cX7_lowest 47 = .ok (.goto 4, 3) := by decide +kernel
theorem dX7_lowest_50 : decode cX7_lowest 50 = .ok (.lload_n 2, 1) := by decide +kernel
theorem dX7_lowest_51 : decode cX7_lowest 51 = .ok (.lload 5, 2) := by decide +kernel
theorem dX7_lowest_53 : decode cX7_lowest 53 = .ok (.ldiv, 1) := by decide +kernel
theorem dX7_lowest_54 : decode cX7_lowest 54 = .ok (.lreturn, 1) := by decide +kernel
theorem dX7_odds_0 : decode cX7_odds 0 = .ok (.iload_n 1, 1) := by decide +kernel
theorem dX7_odds_1 : decode cX7_odds 1 = .ok (.iconst 0, 1) := by decide +kernel
theorem dX7_odds_2 : decode cX7_odds 2 = .ok (.ldc_w 304, 3) := by decide +kernel
theorem dX7_odds_5 : decode cX7_odds 5 = .ok (.invokestatic 90, 3) := by decide +kernel
theorem dX7_odds_8 : decode cX7_odds 8 = .ok (.ifCond .eq 36, 3) := by decide +kernel
theorem dX7_odds_11 : decode cX7_odds 11 = .ok (.iload_n 2, 1) := by decide +kernel
theorem dX7_odds_12 : decode cX7_odds 12 = .ok (.invokestatic 266, 3) := by decide +kernel
theorem dX7_odds_15 : decode cX7_odds 15 = .ok (.ifCond .eq 29, 3) := by decide +kernel
theorem dX7_odds_18 : decode cX7_odds 18 = .ok (.iload_n 3, 1) := by decide +kernel
theorem dX7_odds_19 : decode cX7_odds 19 = .ok (.bipush 100, 2) := by decide +kernel
theorem dX7_odds_21 : decode cX7_odds 21 = .ok (.sipush 3099, 3) := by decide +kernel
theorem dX7_odds_24 : decode cX7_odds 24 = .ok (.invokestatic 90, 3) := by decide +kernel
theorem dX7_odds_27 : decode cX7_odds 27 = .ok (.ifCond .eq 17, 3) := by decide +kernel
theorem dX7_odds_30 : decode cX7_odds 30 = .ok (.iload 4, 2) := by decide +kernel
theorem dX7_odds_32 : decode cX7_odds 32 = .ok (.iconst 0, 1) := by decide +kernel
theorem dX7_odds_33 : decode cX7_odds 33 = .ok (.iconst 1, 1) := by decide +kernel
theorem dX7_odds_34 : decode cX7_odds 34 = .ok (.invokestatic 90, 3) := by decide +kernel
theorem dX7_odds_37 : decode cX7_odds 37 = .ok (.ifCond .eq 7, 3) := by decide +kernel
theorem dX7_odds_40 : decode cX7_odds 40 = .ok (.iconst 1, 1) := by decide +kernel
theorem dX7_odds_41 : decode cX7_odds 41 = .ok (.goto 4, 3) := by decide +kernel
theorem dX7_odds_44 : decode cX7_odds 44 = .ok (.iconst 0, 1) := by decide +kernel
theorem dX7_odds_45 : decode cX7_odds 45 = .ok (.istore 5, 2) := by decide +kernel
theorem dX7_odds_47 : decode cX7_odds 47 = .ok (.iload 5, 2) := by decide +kernel
theorem dX7_odds_49 : decode cX7_odds 49 = .ok (.ifCond .ne 7, 3) := by decide +kernel
theorem dX7_odds_52 : decode cX7_odds 52 = .ok (.ldc2_w 311, 3) := by decide +kernel
theorem dX7_odds_55 : decode cX7_odds 55 = .ok (.lreturn, 1) := by decide +kernel
theorem dX7_odds_56 : decode cX7_odds 56 = .ok (.aload_n 0, 1) := by decide +kernel
theorem dX7_odds_57 : decode cX7_odds 57 = .ok (.iload_n 2, 1) := by decide +kernel
theorem dX7_odds_58 : decode cX7_odds 58 = .ok (.invokevirtual 269, 3) := by decide +kernel
theorem dX7_odds_61 : decode cX7_odds 61 = .ok (.aload_n 0, 1) := by decide +kernel
theorem dX7_odds_62 : decode cX7_odds 62 = .ok (.invokevirtual 272, 3) := by decide +kernel
theorem dX7_odds_65 : decode cX7_odds 65 = .ok (.istore 6, 2) := by decide +kernel
theorem dX7_odds_67 : decode cX7_odds 67 = .ok (.lconst 0, 1) := by decide +kernel
theorem dX7_odds_68 : decode cX7_odds 68 = .ok (.lstore 7, 2) := by decide +kernel
theorem dX7_odds_70 : decode cX7_odds 70 = .ok (.iconst 0, 1) := by decide +kernel
theorem dX7_odds_71 : decode cX7_odds 71 = .ok (.istore 9, 2) := by decide +kernel
theorem dX7_odds_73 : decode cX7_odds 73 = .ok (.iload 9, 2) := by decide +kernel
theorem dX7_odds_75 : decode cX7_odds 75 = .ok (.iload_n 3, 1) := by decide +kernel
theorem dX7_odds_76 : decode cX7_odds 76 = .ok (.bipush 100, 2) := by decide +kernel
theorem dX7_odds_78 : decode cX7_odds 78 = .ok (.idiv, 1) := by decide +kernel
theorem dX7_odds_79 : decode cX7_odds 79 = .ok (.if_icmp .ge 41, 3) := by decide +kernel
theorem dX7_odds_82 : decode cX7_odds 82 = .ok (.aload_n 0, 1) := by decide +kernel
theorem dX7_odds_83 : decode cX7_odds 83 = .ok (.iload_n 1, 1) := by decide +kernel
theorem dX7_odds_84 : decode cX7_odds 84 = .ok (.iload 9, 2) := by decide +kernel
theorem dX7_odds_86 : decode cX7_odds 86 = .ok (.iadd, 1) := by decide +kernel
theorem dX7_odds_87 : decode cX7_odds 87 = .ok (.iload_n 2, 1) := by decide +kernel
theorem dX7_odds_88 : decode cX7_odds 88 = .ok (.iload_n 3, 1) := by decide +kernel
theorem dX7_odds_89 : decode cX7_odds 89 = .ok (.bipush 100, 2) := by decide +kernel
theorem dX7_odds_91 : decode cX7_odds 91 = .ok (.irem, 1) := by decide +kernel
theorem dX7_odds_92 : decode cX7_odds 92 = .ok (.invokevirtual 305, 3) := by decide +kernel
theorem dX7_odds_95 : decode cX7_odds 95 = .ok (.lload 7, 2) := by decide +kernel
theorem dX7_odds_97 : decode cX7_odds 97 = .ok (.aload_n 0, 1) := by decide +kernel
theorem dX7_odds_98 : decode cX7_odds 98 = .ok (.invokevirtual 272, 3) := by decide +kernel
theorem dX7_odds_101 : decode cX7_odds 101 = .ok (.iload 6, 2) := by decide +kernel
theorem dX7_odds_103 : decode cX7_odds 103 = .ok (.if_icmp .lt 7, 3) := by decide +kernel
theorem dX7_odds_106 : decode cX7_odds 106 = .ok (.lconst 1, 1) := by decide +kernel
theorem dX7_odds_107 : decode cX7_odds 107 = .ok (.goto 4, 3) := by decide +kernel
theorem dX7_odds_110 : decode cX7_odds 110 = .ok (.lconst 0, 1) := by decide +kernel
theorem dX7_odds_111 : decode cX7_odds 111 = .ok (.ladd, 1) := by decide +kernel
theorem dX7_odds_112 : decode cX7_odds 112 = .ok (.lstore 7, 2) := by decide +kernel
theorem dX7_odds_114 : decode cX7_odds 114 = .ok (.iinc 9 1, 3) := by decide +kernel
theorem dX7_odds_117 : decode cX7_odds 117 = .ok (.goto (-44), 3) := by decide +kernel
theorem dX7_odds_120 : decode cX7_odds 120 = .ok (.lload 7, 2) := by decide +kernel
theorem dX7_odds_122 : decode cX7_odds 122 = .ok (.iload_n 3, 1) := by decide +kernel
theorem dX7_odds_123 : decode cX7_odds 123 = .ok (.bipush 100, 2) := by decide +kernel
theorem dX7_odds_125 : decode cX7_odds 125 = .ok (.idiv, 1) := by decide +kernel
theorem dX7_odds_126 : decode cX7_odds 126 = .ok (.i2l, 1) := by decide +kernel
theorem dX7_odds_127 : decode cX7_odds 127 = .ok (.iload 4, 2) := by decide +kernel
theorem dX7_odds_129 : decode cX7_odds 129 = .ok (.invokestatic 313, 3) := by decide +kernel
theorem dX7_odds_132 : decode cX7_odds 132 = .ok (.lreturn, 1) := by decide +kernel
theorem dX7_image_0 : decode cX7_image 0 = .ok (.aload_n 0, 1) := by decide +kernel
theorem dX7_image_1 : decode cX7_image 1 = .ok (.iconst 1, 1) := by decide +kernel
theorem dX7_image_2 : decode cX7_image 2 = .ok (.putfield 317, 3) := by decide +kernel
theorem dX7_image_5 : decode cX7_image 5 = .ok (.aload_n 0, 1) := by decide +kernel
theorem dX7_image_6 : decode cX7_image 6 = .ok (.aload_n 0, 1) := by decide +kernel
theorem dX7_image_7 : decode cX7_image 7 = .ok (.getfield 87, 3) := by decide +kernel
theorem dX7_image_10 : decode cX7_image 10 = .ok (.putfield 320, 3) := by decide +kernel
theorem dX7_image_13 : decode cX7_image 13 = .ok (.aload_n 0, 1) := by decide +kernel
theorem dX7_image_14 : decode cX7_image 14 = .ok (.aload_n 0, 1) := by decide +kernel
theorem dX7_image_15 : decode cX7_image 15 = .ok (.getfield 94, 3) := by decide +kernel
theorem dX7_image_18 : decode cX7_image 18 = .ok (.putfield 323, 3) := by decide +kernel
theorem dX7_image_21 : decode cX7_image 21 = .ok (.aload_n 0, 1) := by decide +kernel
theorem dX7_image_22 : decode cX7_image 22 = .ok (.aload_n 0, 1) := by decide +kernel
theorem dX7_image_23 : decode cX7_image 23 = .ok (.getfield 97, 3) := by decide +kernel
theorem dX7_image_26 : decode cX7_image 26 = .ok (.putfield 326, 3) := by decide +kernel
theorem dX7_image_29 : decode cX7_image 29 = .ok (.aload_n 0, 1) := by decide +kernel
theorem dX7_image_30 : decode cX7_image 30 = .ok (.aload_n 0, 1) := by decide +kernel
theorem dX7_image_31 : decode cX7_image 31 = .ok (.getfield 103, 3) := by decide +kernel
theorem dX7_image_34 : decode cX7_image 34 = .ok (.putfield 329, 3) := by decide +kernel
theorem dX7_image_37 : decode cX7_image 37 = .ok (.iconst 0, 1) := by decide +kernel
theorem dX7_image_38 : decode cX7_image 38 = .ok (.istore_n 1, 1) := by decide +kernel
theorem dX7_image_39 : decode cX7_image 39 = .ok (.iload_n 1, 1) := by decide +kernel
theorem dX7_image_40 : decode cX7_image 40 = .ok (.bipush 48, 2) := by decide +kernel
theorem dX7_image_42 : decode cX7_image 42 = .ok (.if_icmp .ge 21, 3) := by decide +kernel
theorem dX7_image_45 : decode cX7_image 45 = .ok (.aload_n 0, 1) := by decide +kernel
theorem dX7_image_46 : decode cX7_image 46 = .ok (.getfield 34, 3) := by decide +kernel
theorem dX7_image_49 : decode cX7_image 49 = .ok (.iload_n 1, 1) := by decide +kernel
theorem dX7_image_50 : decode cX7_image 50 = .ok (.aload_n 0, 1) := by decide +kernel
theorem dX7_image_51 : decode cX7_image 51 = .ok (.getfield 16, 3) := by decide +kernel
theorem dX7_image_54 : decode cX7_image 54 = .ok (.iload_n 1, 1) := by decide +kernel
theorem dX7_image_55 : decode cX7_image 55 = .ok (.iaload, 1) := by decide +kernel
theorem dX7_image_56 : decode cX7_image 56 = .ok (.iastore, 1) := by decide +kernel
theorem dX7_image_57 : decode cX7_image 57 = .ok (.iinc 1 1, 3) := by decide +kernel
theorem dX7_image_60 : decode cX7_image 60 = .ok (.goto (-21), 3) := by decide +kernel
theorem dX7_image_63 : decode cX7_image 63 = .ok (.iconst 0, 1) := by decide +kernel
theorem dX7_image_64 : decode cX7_image 64 = .ok (.istore_n 1, 1) := by decide +kernel
theorem dX7_image_65 : decode cX7_image 65 = .ok (.iload_n 1, 1) := by decide +kernel
theorem dX7_image_66 : decode cX7_image 66 = .ok (.bipush 9, 2) := by decide +kernel
theorem dX7_image_68 : decode cX7_image 68 = .ok (.if_icmp .ge 21, 3) := by decide +kernel
theorem dX7_image_71 : decode cX7_image 71 = .ok (.aload_n 0, 1) := by decide +kernel
theorem dX7_image_72 : decode cX7_image 72 = .ok (.getfield 37, 3) := by decide +kernel
theorem dX7_image_75 : decode cX7_image 75 = .ok (.iload_n 1, 1) := by decide +kernel
theorem dX7_image_76 : decode cX7_image 76 = .ok (.aload_n 0, 1) := by decide +kernel
theorem dX7_image_77 : decode cX7_image 77 = .ok (.getfield 19, 3) := by decide +kernel
theorem dX7_image_80 : decode cX7_image 80 = .ok (.iload_n 1, 1) := by decide +kernel
theorem dX7_image_81 : decode cX7_image 81 = .ok (.iaload, 1) := by decide +kernel
theorem dX7_image_82 : decode cX7_image 82 = .ok (.iastore, 1) := by decide +kernel
theorem dX7_image_83 : decode cX7_image 83 = .ok (.iinc 1 1, 3) := by decide +kernel
theorem dX7_image_86 : decode cX7_image 86 = .ok (.goto (-21), 3) := by decide +kernel
theorem dX7_image_89 : decode cX7_image 89 = .ok (.iconst 0, 1) := by decide +kernel
theorem dX7_image_90 : decode cX7_image 90 = .ok (.istore_n 1, 1) := by decide +kernel
theorem dX7_image_91 : decode cX7_image 91 = .ok (.iload_n 1, 1) := by decide +kernel
theorem dX7_image_92 : decode cX7_image 92 = .ok (.iconst 4, 1) := by decide +kernel
theorem dX7_image_93 : decode cX7_image 93 = .ok (.if_icmp .ge 21, 3) := by decide +kernel
theorem dX7_image_96 : decode cX7_image 96 = .ok (.aload_n 0, 1) := by decide +kernel
theorem dX7_image_97 : decode cX7_image 97 = .ok (.getfield 40, 3) := by decide +kernel
theorem dX7_image_100 : decode cX7_image 100 = .ok (.iload_n 1, 1) := by decide +kernel
theorem dX7_image_101 : decode cX7_image 101 = .ok (.aload_n 0, 1) := by decide +kernel
theorem dX7_image_102 : decode cX7_image 102 = .ok (.getfield 22, 3) := by decide +kernel
theorem dX7_image_105 : decode cX7_image 105 = .ok (.iload_n 1, 1) := by decide +kernel
theorem dX7_image_106 : decode cX7_image 106 = .ok (.iaload, 1) := by decide +kernel
theorem dX7_image_107 : decode cX7_image 107 = .ok (.iastore, 1) := by decide +kernel
theorem dX7_image_108 : decode cX7_image 108 = .ok (.iinc 1 1, 3) := by decide +kernel
theorem dX7_image_111 : decode cX7_image 111 = .ok (.goto (-20), 3) := by decide +kernel
theorem dX7_image_114 : decode cX7_image 114 = .ok (.aload_n 0, 1) := by decide +kernel
theorem dX7_image_115 : decode cX7_image 115 = .ok (.getfield 87, 3) := by decide +kernel
theorem dX7_image_118 : decode cX7_image 118 = .ok (.ireturn, 1) := by decide +kernel
theorem dX7_back_0 : decode cX7_back 0 = .ok (.aload_n 0, 1) := by decide +kernel
theorem dX7_back_1 : decode cX7_back 1 = .ok (.getfield 317, 3) := by decide +kernel
theorem dX7_back_4 : decode cX7_back 4 = .ok (.ifCond .ne 6, 3) := by decide +kernel
theorem dX7_back_7 : decode cX7_back 7 = .ok (.bipush (-3), 2) := by decide +kernel
theorem dX7_back_9 : decode cX7_back 9 = .ok (.ireturn, 1) := by decide +kernel
theorem dX7_back_10 : decode cX7_back 10 = .ok (.aload_n 0, 1) := by decide +kernel
theorem dX7_back_11 : decode cX7_back 11 = .ok (.aload_n 0, 1) := by decide +kernel
theorem dX7_back_12 : decode cX7_back 12 = .ok (.getfield 320, 3) := by decide +kernel
theorem dX7_back_15 : decode cX7_back 15 = .ok (.putfield 87, 3) := by decide +kernel
theorem dX7_back_18 : decode cX7_back 18 = .ok (.aload_n 0, 1) := by decide +kernel
theorem dX7_back_19 : decode cX7_back 19 = .ok (.aload_n 0, 1) := by decide +kernel
theorem dX7_back_20 : decode cX7_back 20 = .ok (.getfield 323, 3) := by decide +kernel
theorem dX7_back_23 : decode cX7_back 23 = .ok (.putfield 94, 3) := by decide +kernel
theorem dX7_back_26 : decode cX7_back 26 = .ok (.aload_n 0, 1) := by decide +kernel
theorem dX7_back_27 : decode cX7_back 27 = .ok (.aload_n 0, 1) := by decide +kernel
theorem dX7_back_28 : decode cX7_back 28 = .ok (.getfield 326, 3) := by decide +kernel
theorem dX7_back_31 : decode cX7_back 31 = .ok (.putfield 97, 3) := by decide +kernel
theorem dX7_back_34 : decode cX7_back 34 = .ok (.aload_n 0, 1) := by decide +kernel
theorem dX7_back_35 : decode cX7_back 35 = .ok (.aload_n 0, 1) := by decide +kernel
theorem dX7_back_36 : decode cX7_back 36 = .ok (.getfield 329, 3) := by decide +kernel
theorem dX7_back_39 : decode cX7_back 39 = .ok (.putfield 103, 3) := by decide +kernel
theorem dX7_back_42 : decode cX7_back 42 = .ok (.iconst 0, 1) := by decide +kernel
theorem dX7_back_43 : decode cX7_back 43 = .ok (.istore_n 1, 1) := by decide +kernel
theorem dX7_back_44 : decode cX7_back 44 = .ok (.iload_n 1, 1) := by decide +kernel
theorem dX7_back_45 : decode cX7_back 45 = .ok (.bipush 48, 2) := by decide +kernel
theorem dX7_back_47 : decode cX7_back 47 = .ok (.if_icmp .ge 21, 3) := by decide +kernel
theorem dX7_back_50 : decode cX7_back 50 = .ok (.aload_n 0, 1) := by decide +kernel
theorem dX7_back_51 : decode cX7_back 51 = .ok (.getfield 16, 3) := by decide +kernel
theorem dX7_back_54 : decode cX7_back 54 = .ok (.iload_n 1, 1) := by decide +kernel
theorem dX7_back_55 : decode cX7_back 55 = .ok (.aload_n 0, 1) := by decide +kernel
theorem dX7_back_56 : decode cX7_back 56 = .ok (.getfield 34, 3) := by decide +kernel
theorem dX7_back_59 : decode cX7_back 59 = .ok (.iload_n 1, 1) := by decide +kernel
theorem dX7_back_60 : decode cX7_back 60 = .ok (.iaload, 1) := by decide +kernel
theorem dX7_back_61 : decode cX7_back 61 = .ok (.iastore, 1) := by decide +kernel
theorem dX7_back_62 : decode cX7_back 62 = .ok (.iinc 1 1, 3) := by decide +kernel
theorem dX7_back_65 : decode cX7_back 65 = .ok (.goto (-21), 3) := by decide +kernel
theorem dX7_back_68 : decode cX7_back 68 = .ok (.iconst 0, 1) := by decide +kernel
theorem dX7_back_69 : decode cX7_back 69 = .ok (.istore_n 1, 1) := by decide +kernel
theorem dX7_back_70 : decode cX7_back 70 = .ok (.iload_n 1, 1) := by decide +kernel
theorem dX7_back_71 : decode cX7_back 71 = .ok (.bipush 9, 2) := by decide +kernel
theorem dX7_back_73 : decode cX7_back 73 = .ok (.if_icmp .ge 21, 3) := by decide +kernel
theorem dX7_back_76 : decode cX7_back 76 = .ok (.aload_n 0, 1) := by decide +kernel
theorem dX7_back_77 : decode cX7_back 77 = .ok (.getfield 19, 3) := by decide +kernel
theorem dX7_back_80 : decode cX7_back 80 = .ok (.iload_n 1, 1) := by decide +kernel
theorem dX7_back_81 : decode cX7_back 81 = .ok (.aload_n 0, 1) := by decide +kernel
theorem dX7_back_82 : decode cX7_back 82 = .ok (.getfield 37, 3) := by decide +kernel
theorem dX7_back_85 : decode cX7_back 85 = .ok (.iload_n 1, 1) := by decide +kernel
theorem dX7_back_86 : decode cX7_back 86 = .ok (.iaload, 1) := by decide +kernel
theorem dX7_back_87 : decode cX7_back 87 = .ok (.iastore, 1) := by decide +kernel
theorem dX7_back_88 : decode cX7_back 88 = .ok (.iinc 1 1, 3) := by decide +kernel
theorem dX7_back_91 : decode cX7_back 91 = .ok (.goto (-21), 3) := by decide +kernel
theorem dX7_back_94 : decode cX7_back 94 = .ok (.iconst 0, 1) := by decide +kernel
theorem dX7_back_95 : decode cX7_back 95 = .ok (.istore_n 1, 1) := by decide +kernel
theorem dX7_back_96 : decode cX7_back 96 = .ok (.iload_n 1, 1) := by decide +kernel
theorem dX7_back_97 : decode cX7_back 97 = .ok (.iconst 4, 1) := by decide +kernel
theorem dX7_back_98 : decode cX7_back 98 = .ok (.if_icmp .ge 21, 3) := by decide +kernel
theorem dX7_back_101 : decode cX7_back 101 = .ok (.aload_n 0, 1) := by decide +kernel
theorem dX7_back_102 : decode cX7_back 102 = .ok (.getfield 22, 3) := by decide +kernel
theorem dX7_back_105 : decode cX7_back 105 = .ok (.iload_n 1, 1) := by decide +kernel
theorem dX7_back_106 : decode cX7_back 106 = .ok (.aload_n 0, 1) := by decide +kernel
theorem dX7_back_107 : decode cX7_back 107 = .ok (.getfield 40, 3) := by decide +kernel
theorem dX7_back_110 : decode cX7_back 110 = .ok (.iload_n 1, 1) := by decide +kernel
theorem dX7_back_111 : decode cX7_back 111 = .ok (.iaload, 1) := by decide +kernel
theorem dX7_back_112 : decode cX7_back 112 = .ok (.iastore, 1) := by decide +kernel
theorem dX7_back_113 : decode cX7_back 113 = .ok (.iinc 1 1, 3) := by decide +kernel
theorem dX7_back_116 : decode cX7_back 116 = .ok (.goto (-20), 3) := by decide +kernel
theorem dX7_back_119 : decode cX7_back 119 = .ok (.aload_n 0, 1) := by decide +kernel
theorem dX7_back_120 : decode cX7_back 120 = .ok (.getfield 87, 3) := by decide +kernel
theorem dX7_back_123 : decode cX7_back 123 = .ok (.ireturn, 1) := by decide +kernel
theorem dX7_sheet_0 : decode cX7_sheet 0 = .ok (.iload_n 1, 1) := by decide +kernel
theorem dX7_sheet_1 : decode cX7_sheet 1 = .ok (.iconst 0, 1) := by decide +kernel
theorem dX7_sheet_2 : decode cX7_sheet 2 = .ok (.iconst 3, 1) := by decide +kernel
theorem dX7_sheet_3 : decode cX7_sheet 3 = .ok (.invokestatic 90, 3) := by decide +kernel
theorem dX7_sheet_6 : decode cX7_sheet 6 = .ok (.ifCond .eq 23, 3) := by decide +kernel
theorem dX7_sheet_9 : decode cX7_sheet 9 = .ok (.iload_n 2, 1) := by decide +kernel
theorem dX7_sheet_10 : decode cX7_sheet 10 = .ok (.iconst (-1), 1) := by decide +kernel
theorem dX7_sheet_11 : decode cX7_sheet 11 = .ok (.iconst 2, 1) := by decide +kernel
theorem dX7_sheet_12 : decode cX7_sheet 12 = .ok (.invokestatic 90, 3) := by decide +kernel
theorem dX7_sheet_15 : decode cX7_sheet 15 = .ok (.ifCond .eq 14, 3) := by decide +kernel
theorem dX7_sheet_18 : decode cX7_sheet 18 = .ok (.iload_n 2, 1) := by decide +kernel
theorem dX7_sheet_19 : decode cX7_sheet 19 = .ok (.iconst (-1), 1) := by decide +kernel
theorem dX7_sheet_20 : decode cX7_sheet 20 = .ok (.if_icmp .eq 12, 3) := by decide +kernel
theorem dX7_sheet_23 : decode cX7_sheet 23 = .ok (.iload_n 3, 1) := by decide +kernel
theorem dX7_sheet_24 : decode cX7_sheet 24 = .ok (.bipush 40, 2) := by decide +kernel
theorem dX7_sheet_26 : decode cX7_sheet 26 = .ok (.if_icmp .le 6, 3) := by decide +kernel
theorem dX7_sheet_29 : decode cX7_sheet 29 = .ok (.bipush (-2), 2) := by decide +kernel
theorem dX7_sheet_31 : decode cX7_sheet 31 = .ok (.ireturn, 1) := by decide +kernel
theorem dX7_sheet_32 : decode cX7_sheet 32 = .ok (.iload_n 2, 1) := by decide +kernel
theorem dX7_sheet_33 : decode cX7_sheet 33 = .ok (.iconst (-1), 1) := by decide +kernel
theorem dX7_sheet_34 : decode cX7_sheet 34 = .ok (.if_icmp .eq 10, 3) := by decide +kernel
theorem dX7_sheet_37 : decode cX7_sheet 37 = .ok (.iload_n 3, 1) := by decide +kernel
theorem dX7_sheet_38 : decode cX7_sheet 38 = .ok (.ifCond .ge 6, 3) := by decide +kernel
theorem dX7_sheet_41 : decode cX7_sheet 41 = .ok (.bipush (-14), 2) := by decide +kernel
theorem dX7_sheet_43 : decode cX7_sheet 43 = .ok (.ireturn, 1) := by decide +kernel
theorem dX7_sheet_44 : decode cX7_sheet 44 = .ok (.aload_n 0, 1) := by decide +kernel
theorem dX7_sheet_45 : decode cX7_sheet 45 = .ok (.getfield 43, 3) := by decide +kernel
theorem dX7_sheet_48 : decode cX7_sheet 48 = .ok (.iload_n 1, 1) := by decide +kernel
theorem dX7_sheet_49 : decode cX7_sheet 49 = .ok (.iload_n 2, 1) := by decide +kernel
theorem dX7_sheet_50 : decode cX7_sheet 50 = .ok (.iastore, 1) := by decide +kernel
theorem dX7_sheet_51 : decode cX7_sheet 51 = .ok (.aload_n 0, 1) := by decide +kernel
theorem dX7_sheet_52 : decode cX7_sheet 52 = .ok (.getfield 46, 3) := by decide +kernel
theorem dX7_sheet_55 : decode cX7_sheet 55 = .ok (.iload_n 1, 1) := by decide +kernel
theorem dX7_sheet_56 : decode cX7_sheet 56 = .ok (.iload_n 2, 1) := by decide +kernel
theorem dX7_sheet_57 : decode cX7_sheet 57 = .ok (.iconst (-1), 1) := by decide +kernel
theorem dX7_sheet_58 : decode cX7_sheet 58 = .ok (.if_icmp .ne 7, 3) := by decide +kernel
theorem dX7_sheet_61 : decode cX7_sheet 61 = .ok (.iconst 0, 1) := by decide +kernel
theorem dX7_sheet_62 : decode cX7_sheet 62 = .ok (.goto 4, 3) := by decide +kernel
theorem dX7_sheet_65 : decode cX7_sheet 65 = .ok (.iload_n 3, 1) := by decide +kernel
theorem dX7_sheet_66 : decode cX7_sheet 66 = .ok (.iastore, 1) := by decide +kernel
theorem dX7_sheet_67 : decode cX7_sheet 67 = .ok (.iconst 0, 1) := by decide +kernel
theorem dX7_sheet_68 : decode cX7_sheet 68 = .ok (.istore 4, 2) := by decide +kernel
theorem dX7_sheet_70 : decode cX7_sheet 70 = .ok (.iload 4, 2) := by decide +kernel
theorem dX7_sheet_72 : decode cX7_sheet 72 = .ok (.bipush 40, 2) := by decide +kernel
theorem dX7_sheet_74 : decode cX7_sheet 74 = .ok (.if_icmp .ge 22, 3) := by decide +kernel
theorem dX7_sheet_77 : decode cX7_sheet 77 = .ok (.aload_n 0, 1) := by decide +kernel
theorem dX7_sheet_78 : decode cX7_sheet 78 = .ok (.getfield 49, 3) := by decide +kernel
theorem dX7_sheet_81 : decode cX7_sheet 81 = .ok (.bipush 40, 2) := by decide +kernel
theorem dX7_sheet_83 : decode cX7_sheet 83 = .ok (.iload_n 1, 1) := by decide +kernel
theorem dX7_sheet_84 : decode cX7_sheet 84 = .ok (.imul, 1) := by decide +kernel
theorem dX7_sheet_85 : decode cX7_sheet 85 = .ok (.iload 4, 2) := by decide +kernel
theorem dX7_sheet_87 : decode cX7_sheet 87 = .ok (.iadd, 1) := by decide +kernel
theorem dX7_sheet_88 : decode cX7_sheet 88 = .ok (.iconst 0, 1) := by decide +kernel
theorem dX7_sheet_89 : decode cX7_sheet 89 = .ok (.iastore, 1) := by decide +kernel
theorem dX7_sheet_90 : decode cX7_sheet 90 = .ok (.iinc 4 1, 3) := by decide +kernel
theorem dX7_sheet_93 : decode cX7_sheet 93 = .ok (.goto (-23), 3) := by decide +kernel
theorem dX7_sheet_96 : decode cX7_sheet 96 = .ok (.iconst 1, 1) := by decide +kernel
theorem dX7_sheet_97 : decode cX7_sheet 97 = .ok (.ireturn, 1) := by decide +kernel
theorem dX7_cell_0 : decode cX7_cell 0 = .ok (.iload_n 1, 1) := by decide +kernel
theorem dX7_cell_1 : decode cX7_cell 1 = .ok (.iconst 0, 1) := by decide +kernel
theorem dX7_cell_2 : decode cX7_cell 2 = .ok (.iconst 3, 1) := by decide +kernel
theorem dX7_cell_3 : decode cX7_cell 3 = .ok (.invokestatic 90, 3) := by decide +kernel
theorem dX7_cell_6 : decode cX7_cell 6 = .ok (.ifCond .ne 6, 3) := by decide +kernel
theorem dX7_cell_9 : decode cX7_cell 9 = .ok (.bipush (-2), 2) := by decide +kernel
theorem dX7_cell_11 : decode cX7_cell 11 = .ok (.ireturn, 1) := by decide +kernel
theorem dX7_cell_12 : decode cX7_cell 12 = .ok (.aload_n 0, 1) := by decide +kernel
theorem dX7_cell_13 : decode cX7_cell 13 = .ok (.getfield 43, 3) := by decide +kernel
theorem dX7_cell_16 : decode cX7_cell 16 = .ok (.iload_n 1, 1) := by decide +kernel
theorem dX7_cell_17 : decode cX7_cell 17 = .ok (.iaload, 1) := by decide +kernel
theorem dX7_cell_18 : decode cX7_cell 18 = .ok (.iconst (-1), 1) := by decide +kernel
theorem dX7_cell_19 : decode cX7_cell 19 = .ok (.if_icmp .ne 6, 3) := by decide +kernel
theorem dX7_cell_22 : decode cX7_cell 22 = .ok (.bipush (-11), 2) := by decide +kernel
theorem dX7_cell_24 : decode cX7_cell 24 = .ok (.ireturn, 1) := by decide +kernel
theorem dX7_cell_25 : decode cX7_cell 25 = .ok (.iload_n 2, 1) := by decide +kernel
theorem dX7_cell_26 : decode cX7_cell 26 = .ok (.iconst 0, 1) := by decide +kernel
theorem dX7_cell_27 : decode cX7_cell 27 = .ok (.aload_n 0, 1) := by decide +kernel
theorem dX7_cell_28 : decode cX7_cell 28 = .ok (.getfield 46, 3) := by decide +kernel
theorem dX7_cell_31 : decode cX7_cell 31 = .ok (.iload_n 1, 1) := by decide +kernel
theorem dX7_cell_32 : decode cX7_cell 32 = .ok (.iaload, 1) := by decide +kernel
theorem dX7_cell_33 : decode cX7_cell 33 = .ok (.iconst 1, 1) := by decide +kernel
theorem dX7_cell_34 : decode cX7_cell 34 = .ok (.isub, 1) := by decide +kernel
theorem dX7_cell_35 : decode cX7_cell 35 = .ok (.invokestatic 90, 3) := by decide +kernel
theorem dX7_cell_38 : decode cX7_cell 38 = .ok (.ifCond .ne 6, 3) := by decide +kernel
theorem dX7_cell_41 : decode cX7_cell 41 = .ok (.bipush (-12), 2) := by decide +kernel
theorem dX7_cell_43 : decode cX7_cell 43 = .ok (.ireturn, 1) := by decide +kernel
theorem dX7_cell_44 : decode cX7_cell 44 = .ok (.aload_n 0, 1) := by decide +kernel
theorem dX7_cell_45 : decode cX7_cell 45 = .ok (.getfield 49, 3) := by decide +kernel
theorem dX7_cell_48 : decode cX7_cell 48 = .ok (.bipush 40, 2) := by decide +kernel
theorem dX7_cell_50 : decode cX7_cell 50 = .ok (.iload_n 1, 1) := by decide +kernel
theorem dX7_cell_51 : decode cX7_cell 51 = .ok (.imul, 1) := by decide +kernel
theorem dX7_cell_52 : decode cX7_cell 52 = .ok (.iload_n 2, 1) := by decide +kernel
theorem dX7_cell_53 : decode cX7_cell 53 = .ok (.iadd, 1) := by decide +kernel
theorem dX7_cell_54 : decode cX7_cell 54 = .ok (.aload_n 0, 1) := by decide +kernel
theorem dX7_cell_55 : decode cX7_cell 55 = .ok (.getfield 43, 3) := by decide +kernel
theorem dX7_cell_58 : decode cX7_cell 58 = .ok (.iload_n 1, 1) := by decide +kernel
theorem dX7_cell_59 : decode cX7_cell 59 = .ok (.iaload, 1) := by decide +kernel
theorem dX7_cell_60 : decode cX7_cell 60 = .ok (.ifCond .ne 8, 3) := by decide +kernel
theorem dX7_cell_63 : decode cX7_cell 63 = .ok (.iload_n 3, 1) := by decide +kernel
theorem dX7_cell_64 : decode cX7_cell 64 = .ok (.i2b, 1) := by decide +kernel
theorem dX7_cell_65 : decode cX7_cell 65 = .ok (.goto 19, 3) := by decide +kernel
theorem dX7_cell_68 : decode cX7_cell 68 = .ok (.aload_n 0, 1) := by decide +kernel
theorem dX7_cell_69 : decode cX7_cell 69 = .ok (.getfield 43, 3) := by decide +kernel
theorem dX7_cell_72 : decode cX7_cell 72 = .ok (.iload_n 1, 1) := by decide +kernel
theorem dX7_cell_73 : decode cX7_cell 73 = .ok (.iaload, 1) := by decide +kernel
theorem dX7_cell_74 : decode cX7_cell 74 = .ok (.iconst 1, 1) := by decide +kernel
theorem dX7_cell_75 : decode cX7_cell 75 = .ok (.if_icmp .ne 8, 3) := by decide +kernel
theorem dX7_cell_78 : decode cX7_cell 78 = .ok (.iload_n 3, 1) := by decide +kernel
theorem dX7_cell_79 : decode cX7_cell 79 = .ok (.i2s, 1) := by decide +kernel
theorem dX7_cell_80 : decode cX7_cell 80 = .ok (.goto 4, 3) := by decide +kernel
theorem dX7_cell_83 : decode cX7_cell 83 = .ok (.iload_n 3, 1) := by decide +kernel
theorem dX7_cell_84 : decode cX7_cell 84 = .ok (.iastore, 1) := by decide +kernel
theorem dX7_cell_85 : decode cX7_cell 85 = .ok (.iconst 1, 1) := by decide +kernel
theorem dX7_cell_86 : decode cX7_cell 86 = .ok (.ireturn, 1) := by decide +kernel
theorem dX7_copy_0 : decode cX7_copy 0 = .ok (.iload_n 1, 1) := by decide +kernel
theorem dX7_copy_1 : decode cX7_copy 1 = .ok (.iconst 0, 1) := by decide +kernel
theorem dX7_copy_2 : decode cX7_copy 2 = .ok (.iconst 3, 1) := by decide +kernel
theorem dX7_copy_3 : decode cX7_copy 3 = .ok (.invokestatic 90, 3) := by decide +kernel
theorem dX7_copy_6 : decode cX7_copy 6 = .ok (.ifCond .eq 12, 3) := by decide +kernel
theorem dX7_copy_9 : decode cX7_copy 9 = .ok (.iload_n 3, 1) := by decide +kernel
theorem dX7_copy_10 : decode cX7_copy 10 = .ok (.iconst 0, 1) := by decide +kernel
theorem dX7_copy_11 : decode cX7_copy 11 = .ok (.iconst 3, 1) := by decide +kernel
theorem dX7_copy_12 : decode cX7_copy 12 = .ok (.invokestatic 90, 3) := by decide +kernel
theorem dX7_copy_15 : decode cX7_copy 15 = .ok (.ifCond .ne 6, 3) := by decide +kernel
theorem dX7_copy_18 : decode cX7_copy 18 = .ok (.bipush (-2), 2) := by decide +kernel
theorem dX7_copy_20 : decode cX7_copy 20 = .ok (.ireturn, 1) := by decide +kernel
theorem dX7_copy_21 : decode cX7_copy 21 = .ok (.aload_n 0, 1) := by decide +kernel
theorem dX7_copy_22 : decode cX7_copy 22 = .ok (.getfield 43, 3) := by decide +kernel
theorem dX7_copy_25 : decode cX7_copy 25 = .ok (.iload_n 1, 1) := by decide +kernel
theorem dX7_copy_26 : decode cX7_copy 26 = .ok (.iaload, 1) := by decide +kernel
theorem dX7_copy_27 : decode cX7_copy 27 = .ok (.iconst (-1), 1) := by decide +kernel
theorem dX7_copy_28 : decode cX7_copy 28 = .ok (.if_icmp .eq 13, 3) := by decide +kernel
theorem dX7_copy_31 : decode cX7_copy 31 = .ok (.aload_n 0, 1) := by decide +kernel
theorem dX7_copy_32 : decode cX7_copy 32 = .ok (.getfield 43, 3) := by decide +kernel
theorem dX7_copy_35 : decode cX7_copy 35 = .ok (.iload_n 3, 1) := by decide +kernel
theorem dX7_copy_36 : decode cX7_copy 36 = .ok (.iaload, 1) := by decide +kernel
theorem dX7_copy_37 : decode cX7_copy 37 = .ok (.iconst (-1), 1) := by decide +kernel
theorem dX7_copy_38 : decode cX7_copy 38 = .ok (.if_icmp .ne 6, 3) := by decide +kernel
theorem dX7_copy_41 : decode cX7_copy 41 = .ok (.bipush (-11), 2) := by decide +kernel
theorem dX7_copy_43 : decode cX7_copy 43 = .ok (.ireturn, 1) := by decide +kernel
theorem dX7_copy_44 : decode cX7_copy 44 = .ok (.aload_n 0, 1) := by decide +kernel
theorem dX7_copy_45 : decode cX7_copy 45 = .ok (.getfield 43, 3) := by decide +kernel
theorem dX7_copy_48 : decode cX7_copy 48 = .ok (.iload_n 1, 1) := by decide +kernel
theorem dX7_copy_49 : decode cX7_copy 49 = .ok (.iaload, 1) := by decide +kernel
theorem dX7_copy_50 : decode cX7_copy 50 = .ok (.aload_n 0, 1) := by decide +kernel
theorem dX7_copy_51 : decode cX7_copy 51 = .ok (.getfield 43, 3) := by decide +kernel
theorem dX7_copy_54 : decode cX7_copy 54 = .ok (.iload_n 3, 1) := by decide +kernel
theorem dX7_copy_55 : decode cX7_copy 55 = .ok (.iaload, 1) := by decide +kernel
theorem dX7_copy_56 : decode cX7_copy 56 = .ok (.if_icmp .eq 6, 3) := by decide +kernel
theorem dX7_copy_59 : decode cX7_copy 59 = .ok (.bipush (-13), 2) := by decide +kernel
theorem dX7_copy_61 : decode cX7_copy 61 = .ok (.ireturn, 1) := by decide +kernel
theorem dX7_copy_62 : decode cX7_copy 62 = .ok (.iload 5, 2) := by decide +kernel
theorem dX7_copy_64 : decode cX7_copy 64 = .ok (.ifCond .lt 60, 3) := by decide +kernel
theorem dX7_copy_67 : decode cX7_copy 67 = .ok (.iload_n 2, 1) := by decide +kernel
theorem dX7_copy_68 : decode cX7_copy 68 = .ok (.ifCond .lt 56, 3) := by decide +kernel
theorem dX7_copy_71 : decode cX7_copy 71 = .ok (.iload 4, 2) := by decide +kernel
theorem dX7_copy_73 : decode cX7_copy 73 = .ok (.ifCond .lt 51, 3) := by decide +kernel
theorem dX7_copy_76 : decode cX7_copy 76 = .ok (.iload_n 2, 1) := by decide +kernel
theorem dX7_copy_77 : decode cX7_copy 77 = .ok (.aload_n 0, 1) := by decide +kernel
theorem dX7_copy_78 : decode cX7_copy 78 = .ok (.getfield 46, 3) := by decide +kernel
theorem dX7_copy_81 : decode cX7_copy 81 = .ok (.iload_n 1, 1) := by decide +kernel
theorem dX7_copy_82 : decode cX7_copy 82 = .ok (.iaload, 1) := by decide +kernel
theorem dX7_copy_83 : decode cX7_copy 83 = .ok (.if_icmp .gt 41, 3) := by decide +kernel
theorem dX7_copy_86 : decode cX7_copy 86 = .ok (.iload 4, 2) := by decide +kernel
theorem dX7_copy_88 : decode cX7_copy 88 = .ok (.aload_n 0, 1) := by decide +kernel
theorem dX7_copy_89 : decode cX7_copy 89 = .ok (.getfield 46, 3) := by decide +kernel
theorem dX7_copy_92 : decode cX7_copy 92 = .ok (.iload_n 3, 1) := by decide +kernel
theorem dX7_copy_93 : decode cX7_copy 93 = .ok (.iaload, 1) := by decide +kernel
theorem dX7_copy_94 : decode cX7_copy 94 = .ok (.if_icmp .gt 30, 3) := by decide +kernel
theorem dX7_copy_97 : decode cX7_copy 97 = .ok (.iload 5, 2) := by decide +kernel
theorem dX7_copy_99 : decode cX7_copy 99 = .ok (.aload_n 0, 1) := by decide +kernel
theorem dX7_copy_100 : decode cX7_copy 100 = .ok (.getfield 46, 3) := by decide +kernel
theorem dX7_copy_103 : decode cX7_copy 103 = .ok (.iload_n 1, 1) := by decide +kernel
theorem dX7_copy_104 : decode cX7_copy 104 = .ok (.iaload, 1) := by decide +kernel
theorem dX7_copy_105 : decode cX7_copy 105 = .ok (.iload_n 2, 1) := by decide +kernel
theorem dX7_copy_106 : decode cX7_copy 106 = .ok (.isub, 1) := by decide +kernel
theorem dX7_copy_107 : decode cX7_copy 107 = .ok (.if_icmp .gt 17, 3) := by decide +kernel
theorem dX7_copy_110 : decode cX7_copy 110 = .ok (.iload 5, 2) := by decide +kernel
theorem dX7_copy_112 : decode cX7_copy 112 = .ok (.aload_n 0, 1) := by decide +kernel
theorem dX7_copy_113 : decode cX7_copy 113 = .ok (.getfield 46, 3) := by decide +kernel
theorem dX7_copy_116 : decode cX7_copy 116 = .ok (.iload_n 3, 1) := by decide +kernel
theorem dX7_copy_117 : decode cX7_copy 117 = .ok (.iaload, 1) := by decide +kernel
theorem dX7_copy_118 : decode cX7_copy 118 = .ok (.iload 4, 2) := by decide +kernel
theorem dX7_copy_120 : decode cX7_copy 120 = .ok (.isub, 1) := by decide +kernel
theorem dX7_copy_121 : decode cX7_copy 121 = .ok (.if_icmp .le 6, 3) := by decide +kernel
theorem dX7_copy_124 : decode cX7_copy 124 = .ok (.bipush (-12), 2) := by decide +kernel
theorem dX7_copy_126 : decode cX7_copy 126 = .ok (.ireturn, 1) := by decide +kernel
theorem dX7_copy_127 : decode cX7_copy 127 = .ok (.bipush 40, 2) := by decide +kernel
theorem dX7_copy_129 : decode cX7_copy 129 = .ok (.iload_n 1, 1) := by decide +kernel
theorem dX7_copy_130 : decode cX7_copy 130 = .ok (.imul, 1) := by decide +kernel
theorem dX7_copy_131 : decode cX7_copy 131 = .ok (.iload_n 2, 1) := by decide +kernel
theorem dX7_copy_132 : decode cX7_copy 132 = .ok (.iadd, 1) := by decide +kernel
theorem dX7_copy_133 : decode cX7_copy 133 = .ok (.istore 6, 2) := by decide +kernel
theorem dX7_copy_135 : decode cX7_copy 135 = .ok (.bipush 40, 2) := by decide +kernel
theorem dX7_copy_137 : decode cX7_copy 137 = .ok (.iload_n 3, 1) := by decide +kernel
theorem dX7_copy_138 : decode cX7_copy 138 = .ok (.imul, 1) := by decide +kernel
theorem dX7_copy_139 : decode cX7_copy 139 = .ok (.iload 4, 2) := by decide +kernel
theorem dX7_copy_141 : decode cX7_copy 141 = .ok (.iadd, 1) := by decide +kernel
theorem dX7_copy_142 : decode cX7_copy 142 = .ok (.istore 7, 2) := by decide +kernel
theorem dX7_copy_144 : decode cX7_copy 144 = .ok (.iconst 0, 1) := by decide +kernel
theorem dX7_copy_145 : decode cX7_copy 145 = .ok (.istore 8, 2) := by decide +kernel
theorem dX7_copy_147 : decode cX7_copy 147 = .ok (.iload 8, 2) := by decide +kernel
theorem dX7_copy_149 : decode cX7_copy 149 = .ok (.iload 5, 2) := by decide +kernel
theorem dX7_copy_151 : decode cX7_copy 151 = .ok (.if_icmp .ge 50, 3) := by decide +kernel
theorem dX7_copy_154 : decode cX7_copy 154 = .ok (.iload 6, 2) := by decide +kernel
theorem dX7_copy_156 : decode cX7_copy 156 = .ok (.iload 7, 2) := by decide +kernel
theorem dX7_copy_158 : decode cX7_copy 158 = .ok (.if_icmp .ge 13, 3) := by decide +kernel
theorem dX7_copy_161 : decode cX7_copy 161 = .ok (.iload 5, 2) := by decide +kernel
theorem dX7_copy_163 : decode cX7_copy 163 = .ok (.iconst 1, 1) := by decide +kernel
theorem dX7_copy_164 : decode cX7_copy 164 = .ok (.isub, 1) := by decide +kernel
theorem dX7_copy_165 : decode cX7_copy 165 = .ok (.iload 8, 2) := by decide +kernel
theorem dX7_copy_167 : decode cX7_copy 167 = .ok (.isub, 1) := by decide +kernel
theorem dX7_copy_168 : decode cX7_copy 168 = .ok (.goto 5, 3) := by decide +kernel
theorem dX7_copy_171 : decode cX7_copy 171 = .ok (.iload 8, 2) := by decide +kernel
theorem dX7_copy_173 : decode cX7_copy 173 = .ok (.istore 9, 2) := by decide +kernel
theorem dX7_copy_175 : decode cX7_copy 175 = .ok (.aload_n 0, 1) := by decide +kernel
theorem dX7_copy_176 : decode cX7_copy 176 = .ok (.getfield 49, 3) := by decide +kernel
theorem dX7_copy_179 : decode cX7_copy 179 = .ok (.iload 7, 2) := by decide +kernel
theorem dX7_copy_181 : decode cX7_copy 181 = .ok (.iload 9, 2) := by decide +kernel
theorem dX7_copy_183 : decode cX7_copy 183 = .ok (.iadd, 1) := by decide +kernel
theorem dX7_copy_184 : decode cX7_copy 184 = .ok (.aload_n 0, 1) := by decide +kernel
theorem dX7_copy_185 : decode cX7_copy 185 = .ok (.getfield 49, 3) := by decide +kernel
theorem dX7_copy_188 : decode cX7_copy 188 = .ok (.iload 6, 2) := by decide +kernel
theorem dX7_copy_190 : decode cX7_copy 190 = .ok (.iload 9, 2) := by decide +kernel
theorem dX7_copy_192 : decode cX7_copy 192 = .ok (.iadd, 1) := by decide +kernel
theorem dX7_copy_193 : decode cX7_copy 193 = .ok (.iaload, 1) := by decide +kernel
theorem dX7_copy_194 : decode cX7_copy 194 = .ok (.iastore, 1) := by decide +kernel
theorem dX7_copy_195 : decode cX7_copy 195 = .ok (.iinc 8 1, 3) := by decide +kernel
theorem dX7_copy_198 : decode cX7_copy 198 = .ok (.goto (-51), 3) := by decide +kernel
theorem dX7_copy_201 : decode cX7_copy 201 = .ok (.iload 5, 2) := by decide +kernel
theorem dX7_copy_203 : decode cX7_copy 203 = .ok (.ireturn, 1) := by decide +kernel
theorem dX7_buyBy_0 : decode cX7_buyBy 0 = .ok (.iload_n 1, 1) := by decide +kernel
theorem dX7_buyBy_1 : decode cX7_buyBy 1 = .ok (.iconst 0, 1) := by decide +kernel
theorem dX7_buyBy_2 : decode cX7_buyBy 2 = .ok (.iconst 3, 1) := by decide +kernel
theorem dX7_buyBy_3 : decode cX7_buyBy 3 = .ok (.invokestatic 90, 3) := by decide +kernel
theorem dX7_buyBy_6 : decode cX7_buyBy 6 = .ok (.ifCond .eq 23, 3) := by decide +kernel
theorem dX7_buyBy_9 : decode cX7_buyBy 9 = .ok (.iload_n 2, 1) := by decide +kernel
theorem dX7_buyBy_10 : decode cX7_buyBy 10 = .ok (.iconst 0, 1) := by decide +kernel
theorem dX7_buyBy_11 : decode cX7_buyBy 11 = .ok (.iconst 2, 1) := by decide +kernel
theorem dX7_buyBy_12 : decode cX7_buyBy 12 = .ok (.invokestatic 90, 3) := by decide +kernel
theorem dX7_buyBy_15 : decode cX7_buyBy 15 = .ok (.ifCond .eq 14, 3) := by decide +kernel
theorem dX7_buyBy_18 : decode cX7_buyBy 18 = .ok (.iload 4, 2) := by decide +kernel
theorem dX7_buyBy_20 : decode cX7_buyBy 20 = .ok (.iconst 0, 1) := by decide +kernel
theorem dX7_buyBy_21 : decode cX7_buyBy 21 = .ok (.bipush 8, 2) := by decide +kernel
theorem dX7_buyBy_23 : decode cX7_buyBy 23 = .ok (.invokestatic 90, 3) := by decide +kernel
theorem dX7_buyBy_26 : decode cX7_buyBy 26 = .ok (.ifCond .ne 6, 3) := by decide +kernel
theorem dX7_buyBy_29 : decode cX7_buyBy 29 = .ok (.bipush (-2), 2) := by decide +kernel
theorem dX7_buyBy_31 : decode cX7_buyBy 31 = .ok (.ireturn, 1) := by decide +kernel
theorem dX7_buyBy_32 : decode cX7_buyBy 32 = .ok (.aload_n 0, 1) := by decide +kernel
theorem dX7_buyBy_33 : decode cX7_buyBy 33 = .ok (.getfield 43, 3) := by decide +kernel
theorem dX7_buyBy_36 : decode cX7_buyBy 36 = .ok (.iload_n 1, 1) := by decide +kernel
theorem dX7_buyBy_37 : decode cX7_buyBy 37 = .ok (.iaload, 1) := by decide +kernel
theorem dX7_buyBy_38 : decode cX7_buyBy 38 = .ok (.iconst (-1), 1) := by decide +kernel
theorem dX7_buyBy_39 : decode cX7_buyBy 39 = .ok (.if_icmp .ne 6, 3) := by decide +kernel
theorem dX7_buyBy_42 : decode cX7_buyBy 42 = .ok (.bipush (-11), 2) := by decide +kernel
theorem dX7_buyBy_44 : decode cX7_buyBy 44 = .ok (.ireturn, 1) := by decide +kernel
theorem dX7_buyBy_45 : decode cX7_buyBy 45 = .ok (.aload_n 0, 1) := by decide +kernel
theorem dX7_buyBy_46 : decode cX7_buyBy 46 = .ok (.getfield 43, 3) := by decide +kernel
theorem dX7_buyBy_49 : decode cX7_buyBy 49 = .ok (.iload_n 1, 1) := by decide +kernel
theorem dX7_buyBy_50 : decode cX7_buyBy 50 = .ok (.iaload, 1) := by decide +kernel
theorem dX7_buyBy_51 : decode cX7_buyBy 51 = .ok (.iload_n 2, 1) := by decide +kernel
theorem dX7_buyBy_52 : decode cX7_buyBy 52 = .ok (.if_icmp .eq 6, 3) := by decide +kernel
theorem dX7_buyBy_55 : decode cX7_buyBy 55 = .ok (.bipush (-13), 2) := by decide +kernel
theorem dX7_buyBy_57 : decode cX7_buyBy 57 = .ok (.ireturn, 1) := by decide +kernel
theorem dX7_buyBy_58 : decode cX7_buyBy 58 = .ok (.iconst 0, 1) := by decide +kernel
theorem dX7_buyBy_59 : decode cX7_buyBy 59 = .ok (.istore 5, 2) := by decide +kernel
theorem dX7_buyBy_61 : decode cX7_buyBy 61 = .ok (.iconst 0, 1) := by decide +kernel
theorem dX7_buyBy_62 : decode cX7_buyBy 62 = .ok (.istore 6, 2) := by decide +kernel
theorem dX7_buyBy_64 : decode cX7_buyBy 64 = .ok (.iload 6, 2) := by decide +kernel
theorem dX7_buyBy_66 : decode cX7_buyBy 66 = .ok (.iload 4, 2) := by decide +kernel
theorem dX7_buyBy_68 : decode cX7_buyBy 68 = .ok (.if_icmp .ge 85, 3) := by decide +kernel
theorem dX7_buyBy_71 : decode cX7_buyBy 71 = .ok (.iload_n 3, 1) := by decide +kernel
theorem dX7_buyBy_72 : decode cX7_buyBy 72 = .ok (.iconst 2, 1) := by decide +kernel
theorem dX7_buyBy_73 : decode cX7_buyBy 73 = .ok (.iload 6, 2) := by decide +kernel
theorem dX7_buyBy_75 : decode cX7_buyBy 75 = .ok (.imul, 1) := by decide +kernel
theorem dX7_buyBy_76 : decode cX7_buyBy 76 = .ok (.iadd, 1) := by decide +kernel
theorem dX7_buyBy_77 : decode cX7_buyBy 77 = .ok (.istore 7, 2) := by decide +kernel
theorem dX7_buyBy_79 : decode cX7_buyBy 79 = .ok (.iload_n 3, 1) := by decide +kernel
theorem dX7_buyBy_80 : decode cX7_buyBy 80 = .ok (.ifCond .lt 22, 3) := by decide +kernel
theorem dX7_buyBy_83 : decode cX7_buyBy 83 = .ok (.iload 7, 2) := by decide +kernel
theorem dX7_buyBy_85 : decode cX7_buyBy 85 = .ok (.iload_n 3, 1) := by decide +kernel
theorem dX7_buyBy_86 : decode cX7_buyBy 86 = .ok (.if_icmp .lt 16, 3) := by decide +kernel
theorem dX7_buyBy_89 : decode cX7_buyBy 89 = .ok (.iload 7, 2) := by decide +kernel
theorem dX7_buyBy_91 : decode cX7_buyBy 91 = .ok (.aload_n 0, 1) := by decide +kernel
theorem dX7_buyBy_92 : decode cX7_buyBy 92 = .ok (.getfield 46, 3) := by decide +kernel
theorem dX7_buyBy_95 : decode cX7_buyBy 95 = .ok (.iload_n 1, 1) := by decide +kernel
theorem dX7_buyBy_96 : decode cX7_buyBy 96 = .ok (.iaload, 1) := by decide +kernel
theorem dX7_buyBy_97 : decode cX7_buyBy 97 = .ok (.iconst 2, 1) := by decide +kernel
theorem dX7_buyBy_98 : decode cX7_buyBy 98 = .ok (.isub, 1) := by decide +kernel
theorem dX7_buyBy_99 : decode cX7_buyBy 99 = .ok (.if_icmp .le 6, 3) := by decide +kernel
theorem dX7_buyBy_102 : decode cX7_buyBy 102 = .ok (.bipush (-12), 2) := by decide +kernel
theorem dX7_buyBy_104 : decode cX7_buyBy 104 = .ok (.ireturn, 1) := by decide +kernel
theorem dX7_buyBy_105 : decode cX7_buyBy 105 = .ok (.bipush 40, 2) := by decide +kernel
theorem dX7_buyBy_107 : decode cX7_buyBy 107 = .ok (.iload_n 1, 1) := by decide +kernel
theorem dX7_buyBy_108 : decode cX7_buyBy 108 = .ok (.imul, 1) := by decide +kernel
theorem dX7_buyBy_109 : decode cX7_buyBy 109 = .ok (.iload 7, 2) := by decide +kernel
theorem dX7_buyBy_111 : decode cX7_buyBy 111 = .ok (.iadd, 1) := by decide +kernel
theorem dX7_buyBy_112 : decode cX7_buyBy 112 = .ok (.istore 8, 2) := by decide +kernel
theorem dX7_buyBy_114 : decode cX7_buyBy 114 = .ok (.iload 5, 2) := by decide +kernel
theorem dX7_buyBy_116 : decode cX7_buyBy 116 = .ok (.aload_n 0, 1) := by decide +kernel
theorem dX7_buyBy_117 : decode cX7_buyBy 117 = .ok (.aload_n 0, 1) := by decide +kernel
theorem dX7_buyBy_118 : decode cX7_buyBy 118 = .ok (.getfield 49, 3) := by decide +kernel
theorem dX7_buyBy_121 : decode cX7_buyBy 121 = .ok (.iload 8, 2) := by decide +kernel
theorem dX7_buyBy_123 : decode cX7_buyBy 123 = .ok (.iaload, 1) := by decide +kernel
theorem dX7_buyBy_124 : decode cX7_buyBy 124 = .ok (.aload_n 0, 1) := by decide +kernel
theorem dX7_buyBy_125 : decode cX7_buyBy 125 = .ok (.getfield 49, 3) := by decide +kernel
theorem dX7_buyBy_128 : decode cX7_buyBy 128 = .ok (.iload 8, 2) := by decide +kernel
theorem dX7_buyBy_130 : decode cX7_buyBy 130 = .ok (.iconst 1, 1) := by decide +kernel
theorem dX7_buyBy_131 : decode cX7_buyBy 131 = .ok (.iadd, 1) := by decide +kernel
theorem dX7_buyBy_132 : decode cX7_buyBy 132 = .ok (.iaload, 1) := by decide +kernel
theorem dX7_buyBy_133 : decode cX7_buyBy 133 = .ok (.invokevirtual 332, 3) := by decide +kernel
theorem dX7_buyBy_136 : decode cX7_buyBy 136 = .ok (.ifCond .lt 7, 3) := by decide +kernel
theorem dX7_buyBy_139 : decode cX7_buyBy 139 = .ok (.iconst 1, 1) := by decide +kernel
theorem dX7_buyBy_140 : decode cX7_buyBy 140 = .ok (.goto 4, 3) := by decide +kernel
theorem dX7_buyBy_143 : decode cX7_buyBy 143 = .ok (.iconst 0, 1) := by decide +kernel
theorem dX7_buyBy_144 : decode cX7_buyBy 144 = .ok (.iadd, 1) := by decide +kernel
theorem dX7_buyBy_145 : decode cX7_buyBy 145 = .ok (.istore 5, 2) := by decide +kernel
theorem dX7_buyBy_147 : decode cX7_buyBy 147 = .ok (.iinc 6 1, 3) := by decide +kernel
theorem dX7_buyBy_150 : decode cX7_buyBy 150 = .ok (.goto (-86), 3) := by decide +kernel
theorem dX7_buyBy_153 : decode cX7_buyBy 153 = .ok (.iload 5, 2) := by decide +kernel
theorem dX7_buyBy_155 : decode cX7_buyBy 155 = .ok (.ireturn, 1) := by decide +kernel
theorem dX7_isUnder_0 : decode cX7_isUnder 0 = .ok (.iload_n 1, 1) := by decide +kernel
theorem dX7_isUnder_1 : decode cX7_isUnder 1 = .ok (.ifCond .eq 28, 3) := by decide +kernel
theorem dX7_isUnder_4 : decode cX7_isUnder 4 = .ok (.iload_n 0, 1) := by decide +kernel
theorem dX7_isUnder_5 : decode cX7_isUnder 5 = .ok (.iload_n 1, 1) := by decide +kernel
theorem dX7_isUnder_6 : decode cX7_isUnder 6 = .ok (.if_icmp .eq 23, 3) := by decide +kernel
theorem dX7_isUnder_9 : decode cX7_isUnder 9 = .ok (.iload_n 1, 1) := by decide +kernel
theorem dX7_isUnder_10 : decode cX7_isUnder 10 = .ok (.iconst 1, 1) := by decide +kernel
theorem dX7_isUnder_11 : decode cX7_isUnder 11 = .ok (.if_icmp .ne 8, 3) := by decide +kernel
theorem dX7_isUnder_14 : decode cX7_isUnder 14 = .ok (.iload_n 0, 1) := by decide +kernel
theorem dX7_isUnder_15 : decode cX7_isUnder 15 = .ok (.iconst 3, 1) := by decide +kernel
theorem dX7_isUnder_16 : decode cX7_isUnder 16 = .ok (.if_icmp .eq 13, 3) := by decide +kernel
theorem dX7_isUnder_19 : decode cX7_isUnder 19 = .ok (.iload_n 1, 1) := by decide +kernel
theorem dX7_isUnder_20 : decode cX7_isUnder 20 = .ok (.iconst 2, 1) := by decide +kernel
theorem dX7_isUnder_21 : decode cX7_isUnder 21 = .ok (.if_icmp .ne 12, 3) := by decide +kernel
theorem dX7_isUnder_24 : decode cX7_isUnder 24 = .ok (.iload_n 0, 1) := by decide +kernel
theorem dX7_isUnder_25 : decode cX7_isUnder 25 = .ok (.iconst 4, 1) := by decide +kernel
theorem dX7_isUnder_26 : decode cX7_isUnder 26 = .ok (.if_icmp .ne 7, 3) := by decide +kernel
theorem dX7_isUnder_29 : decode cX7_isUnder 29 = .ok (.iconst 1, 1) := by decide +kernel
theorem dX7_isUnder_30 : decode cX7_isUnder 30 = .ok (.goto 4, 3) := by decide +kernel
theorem dX7_isUnder_33 : decode cX7_isUnder 33 = .ok (.iconst 0, 1) := by decide +kernel
theorem dX7_isUnder_34 : decode cX7_isUnder 34 = .ok (.ireturn, 1) := by decide +kernel
theorem dX7_taken_0 : decode cX7_taken 0 = .ok (.iload_n 2, 1) := by decide +kernel
theorem dX7_taken_1 : decode cX7_taken 1 = .ok (.iconst 0, 1) := by decide +kernel
theorem dX7_taken_2 : decode cX7_taken 2 = .ok (.bipush 6, 2) := by decide +kernel
theorem dX7_taken_4 : decode cX7_taken 4 = .ok (.invokestatic 90, 3) := by decide +kernel
theorem dX7_taken_7 : decode cX7_taken 7 = .ok (.ifCond .ne 6, 3) := by decide +kernel
theorem dX7_taken_10 : decode cX7_taken 10 = .ok (.bipush (-2), 2) := by decide +kernel
theorem dX7_taken_12 : decode cX7_taken 12 = .ok (.ireturn, 1) := by decide +kernel
theorem dX7_taken_13 : decode cX7_taken 13 = .ok (.iload_n 1, 1) := by decide +kernel
theorem dX7_taken_14 : decode cX7_taken 14 = .ok (.iconst 0, 1) := by decide +kernel
theorem dX7_taken_15 : decode cX7_taken 15 = .ok (.bipush 15, 2) := by decide +kernel
theorem dX7_taken_17 : decode cX7_taken 17 = .ok (.invokestatic 90, 3) := by decide +kernel
theorem dX7_taken_20 : decode cX7_taken 20 = .ok (.ifCond .ne 6, 3) := by decide +kernel
theorem dX7_taken_23 : decode cX7_taken 23 = .ok (.bipush (-12), 2) := by decide +kernel
theorem dX7_taken_25 : decode cX7_taken 25 = .ok (.ireturn, 1) := by decide +kernel
theorem dX7_taken_26 : decode cX7_taken 26 = .ok (.iload_n 1, 1) := by decide +kernel
theorem dX7_taken_27 : decode cX7_taken 27 = .ok (.bipush 8, 2) := by decide +kernel
theorem dX7_taken_29 : decode cX7_taken 29 = .ok (.if_icmp .lt 43, 3) := by decide +kernel
theorem dX7_taken_32 : decode cX7_taken 32 = .ok (.iload_n 1, 1) := by decide +kernel
theorem dX7_taken_33 : decode cX7_taken 33 = .ok (.bipush 8, 2) := by decide +kernel
theorem dX7_taken_35 : decode cX7_taken 35 = .ok (.isub, 1) := by decide +kernel
theorem dX7_taken_36 : decode cX7_taken 36 = .ok (.aload_n 0, 1) := by decide +kernel
theorem dX7_taken_37 : decode cX7_taken 37 = .ok (.getfield 87, 3) := by decide +kernel
theorem dX7_taken_40 : decode cX7_taken 40 = .ok (.if_icmp .lt 8, 3) := by decide +kernel
theorem dX7_taken_43 : decode cX7_taken 43 = .ok (.bipush (-11), 2) := by decide +kernel
theorem dX7_taken_45 : decode cX7_taken 45 = .ok (.goto 26, 3) := by decide +kernel
theorem dX7_taken_48 : decode cX7_taken 48 = .ok (.iload_n 2, 1) := by decide +kernel
theorem dX7_taken_49 : decode cX7_taken 49 = .ok (.bipush 6, 2) := by decide +kernel
theorem dX7_taken_51 : decode cX7_taken 51 = .ok (.if_icmp .ne 18, 3) := by decide +kernel
theorem dX7_taken_54 : decode cX7_taken 54 = .ok (.aload_n 0, 1) := by decide +kernel
theorem dX7_taken_55 : decode cX7_taken 55 = .ok (.getfield 16, 3) := by decide +kernel
theorem dX7_taken_58 : decode cX7_taken 58 = .ok (.bipush 6, 2) := by decide +kernel
theorem dX7_taken_60 : decode cX7_taken 60 = .ok (.iload_n 1, 1) := by decide +kernel
theorem dX7_taken_61 : decode cX7_taken 61 = .ok (.bipush 8, 2) := by decide +kernel
theorem dX7_taken_63 : decode cX7_taken 63 = .ok (.isub, 1) := by decide +kernel
theorem dX7_taken_64 : decode cX7_taken 64 = .ok (.imul, 1) := by decide +kernel
theorem dX7_taken_65 : decode cX7_taken 65 = .ok (.iaload, 1) := by decide +kernel
theorem dX7_taken_66 : decode cX7_taken 66 = .ok (.goto 5, 3) := by decide +kernel
theorem dX7_taken_69 : decode cX7_taken 69 = .ok (.bipush (-13), 2) := by decide +kernel
theorem dX7_taken_71 : decode cX7_taken 71 = .ok (.ireturn, 1) := by decide +kernel
theorem dX7_taken_72 : decode cX7_taken 72 = .ok (.iload_n 1, 1) := by decide +kernel
theorem dX7_taken_73 : decode cX7_taken 73 = .ok (.aload_n 0, 1) := by decide +kernel
theorem dX7_taken_74 : decode cX7_taken 74 = .ok (.getfield 94, 3) := by decide +kernel
theorem dX7_taken_77 : decode cX7_taken 77 = .ok (.if_icmp .lt 8, 3) := by decide +kernel
theorem dX7_taken_80 : decode cX7_taken 80 = .ok (.bipush (-11), 2) := by decide +kernel
theorem dX7_taken_82 : decode cX7_taken 82 = .ok (.goto 38, 3) := by decide +kernel
theorem dX7_taken_85 : decode cX7_taken 85 = .ok (.iload_n 2, 1) := by decide +kernel
theorem dX7_taken_86 : decode cX7_taken 86 = .ok (.bipush 6, 2) := by decide +kernel
theorem dX7_taken_88 : decode cX7_taken 88 = .ok (.if_icmp .ge 30, 3) := by decide +kernel
theorem dX7_taken_91 : decode cX7_taken 91 = .ok (.aload_n 0, 1) := by decide +kernel
theorem dX7_taken_92 : decode cX7_taken 92 = .ok (.getfield 7, 3) := by decide +kernel
theorem dX7_taken_95 : decode cX7_taken 95 = .ok (.aload_n 0, 1) := by decide +kernel
theorem dX7_taken_96 : decode cX7_taken 96 = .ok (.getfield 19, 3) := by decide +kernel
theorem dX7_taken_99 : decode cX7_taken 99 = .ok (.iload_n 1, 1) := by decide +kernel
theorem dX7_taken_100 : decode cX7_taken 100 = .ok (.iaload, 1) := by decide +kernel
theorem dX7_taken_101 : decode cX7_taken 101 = .ok (.iaload, 1) := by decide +kernel
theorem dX7_taken_102 : decode cX7_taken 102 = .ok (.iload_n 2, 1) := by decide +kernel
theorem dX7_taken_103 : decode cX7_taken 103 = .ok (.invokestatic 335, 3) := by decide +kernel
theorem dX7_taken_106 : decode cX7_taken 106 = .ok (.ifCond .eq 12, 3) := by decide +kernel
theorem dX7_taken_109 : decode cX7_taken 109 = .ok (.aload_n 0, 1) := by decide +kernel
theorem dX7_taken_110 : decode cX7_taken 110 = .ok (.getfield 19, 3) := by decide +kernel
theorem dX7_taken_113 : decode cX7_taken 113 = .ok (.iload_n 1, 1) := by decide +kernel
theorem dX7_taken_114 : decode cX7_taken 114 = .ok (.iaload, 1) := by decide +kernel
theorem dX7_taken_115 : decode cX7_taken 115 = .ok (.goto 5, 3) := by decide +kernel
theorem dX7_taken_118 : decode cX7_taken 118 = .ok (.bipush (-13), 2) := by decide +kernel
theorem dX7_taken_120 : decode cX7_taken 120 = .ok (.ireturn, 1) := by decide +kernel
theorem dL_law_0 : decode cL_law 0 = .ok (.new 7, 3) := by decide +kernel
theorem dL_law_3 : decode cL_law 3 = .ok (.dup, 1) := by decide +kernel
theorem dL_law_4 : decode cL_law 4 = .ok (.invokespecial 9, 3) := by decide +kernel
theorem dL_law_7 : decode cL_law 7 = .ok (.astore_n 1, 1) := by decide +kernel
theorem dL_law_8 : decode cL_law 8 = .ok (.new 10, 3) := by decide +kernel
theorem dL_law_11 : decode cL_law 11 = .ok (.dup, 1) := by decide +kernel
theorem dL_law_12 : decode cL_law 12 = .ok (.invokespecial 12, 3) := by decide +kernel
theorem dL_law_15 : decode cL_law 15 = .ok (.astore_n 2, 1) := by decide +kernel
theorem dL_law_16 : decode cL_law 16 = .ok (.iconst 0, 1) := by decide +kernel
theorem dL_law_17 : decode cL_law 17 = .ok (.istore_n 3, 1) := by decide +kernel
theorem dL_law_18 : decode cL_law 18 = .ok (.iload_n 3, 1) := by decide +kernel
theorem dL_law_19 : decode cL_law 19 = .ok (.aload_n 0, 1) := by decide +kernel
theorem dL_law_20 : decode cL_law 20 = .ok (.arraylength, 1) := by decide +kernel
theorem dL_law_21 : decode cL_law 21 = .ok (.bipush 7, 2) := by decide +kernel
theorem dL_law_23 : decode cL_law 23 = .ok (.isub, 1) := by decide +kernel
theorem dL_law_24 : decode cL_law 24 = .ok (.if_icmp .gt 1506, 3) := by decide +kernel
theorem dL_law_27 : decode cL_law 27 = .ok (.aload_n 0, 1) := by decide +kernel
theorem dL_law_28 : decode cL_law 28 = .ok (.iload_n 3, 1) := by decide +kernel
theorem dL_law_29 : decode cL_law 29 = .ok (.iaload, 1) := by decide +kernel
theorem dL_law_30 : decode cL_law 30 = .ok (.bipush 63, 2) := by decide +kernel
theorem dL_law_32 : decode cL_law 32 = .ok (.iand, 1) := by decide +kernel
theorem dL_law_33 : decode cL_law 33 = .ok (.tableswitch 1491 0 38 #[171, 194, 227, 302, 315, 338, 391, 424, 457, 500, 523, 546, 559, 582, 595, 628, 671, 694, 727, 750, 793, 816, 859, 882, 915, 948, 991, 1034, 1067, 1100, 1133, 1176, 1230, 1243, 1256, 1299, 1342, 1405, 1458], 171) := by decide +kernel
theorem dL_law_204 : decode cL_law 204 = .ok (.aload_n 1, 1) := by decide +kernel
theorem dL_law_205 : decode cL_law 205 = .ok (.aload_n 0, 1) := by decide +kernel
theorem dL_law_206 : decode cL_law 206 = .ok (.iload_n 3, 1) := by decide +kernel
theorem dL_law_207 : decode cL_law 207 = .ok (.iconst 1, 1) := by decide +kernel
theorem dL_law_208 : decode cL_law 208 = .ok (.iadd, 1) := by decide +kernel
theorem dL_law_209 : decode cL_law 209 = .ok (.iaload, 1) := by decide +kernel
theorem dL_law_210 : decode cL_law 210 = .ok (.invokevirtual 13, 3) := by decide +kernel
theorem dL_law_213 : decode cL_law 213 = .ok (.aload_n 2, 1) := by decide +kernel
theorem dL_law_214 : decode cL_law 214 = .ok (.aload_n 0, 1) := by decide +kernel
theorem dL_law_215 : decode cL_law 215 = .ok (.iload_n 3, 1) := by decide +kernel
theorem dL_law_216 : decode cL_law 216 = .ok (.iconst 1, 1) := by decide +kernel
theorem dL_law_217 : decode cL_law 217 = .ok (.iadd, 1) := by decide +kernel
theorem dL_law_218 : decode cL_law 218 = .ok (.iaload, 1) := by decide +kernel
theorem dL_law_219 : decode cL_law 219 = .ok (.invokevirtual 17, 3) := by decide +kernel
theorem dL_law_222 : decode cL_law 222 = .ok (.if_icmp .eq 1302, 3) := by decide +kernel
theorem dL_law_225 : decode cL_law 225 = .ok (.iconst 0, 1) := by decide +kernel
theorem dL_law_226 : decode cL_law 226 = .ok (.ireturn, 1) := by decide +kernel
theorem dL_law_227 : decode cL_law 227 = .ok (.aload_n 1, 1) := by decide +kernel
theorem dL_law_228 : decode cL_law 228 = .ok (.aload_n 0, 1) := by decide +kernel
theorem dL_law_229 : decode cL_law 229 = .ok (.iload_n 3, 1) := by decide +kernel
theorem dL_law_230 : decode cL_law 230 = .ok (.iconst 1, 1) := by decide +kernel
theorem dL_law_231 : decode cL_law 231 = .ok (.iadd, 1) := by decide +kernel
theorem dL_law_232 : decode cL_law 232 = .ok (.iaload, 1) := by decide +kernel
theorem dL_law_233 : decode cL_law 233 = .ok (.aload_n 0, 1) := by decide +kernel
theorem dL_law_234 : decode cL_law 234 = .ok (.iload_n 3, 1) := by decide +kernel
theorem dL_law_235 : decode cL_law 235 = .ok (.iconst 2, 1) := by decide +kernel
theorem dL_law_236 : decode cL_law 236 = .ok (.iadd, 1) := by decide +kernel
theorem dL_law_237 : decode cL_law 237 = .ok (.iaload, 1) := by decide +kernel
theorem dL_law_238 : decode cL_law 238 = .ok (.invokevirtual 18, 3) := by decide +kernel
theorem dL_law_241 : decode cL_law 241 = .ok (.aload_n 2, 1) := by decide +kernel
theorem dL_law_242 : decode cL_law 242 = .ok (.aload_n 0, 1) := by decide +kernel
theorem dL_law_243 : decode cL_law 243 = .ok (.iload_n 3, 1) := by decide +kernel
theorem dL_law_244 : decode cL_law 244 = .ok (.iconst 1, 1) := by decide +kernel
theorem dL_law_245 : decode cL_law 245 = .ok (.iadd, 1) := by decide +kernel
theorem dL_law_246 : decode cL_law 246 = .ok (.iaload, 1) := by decide +kernel
theorem dL_law_247 : decode cL_law 247 = .ok (.aload_n 0, 1) := by decide +kernel
theorem dL_law_248 : decode cL_law 248 = .ok (.iload_n 3, 1) := by decide +kernel
theorem dL_law_249 : decode cL_law 249 = .ok (.iconst 2, 1) := by decide +kernel
theorem dL_law_250 : decode cL_law 250 = .ok (.iadd, 1) := by decide +kernel
theorem dL_law_251 : decode cL_law 251 = .ok (.iaload, 1) := by decide +kernel
theorem dL_law_252 : decode cL_law 252 = .ok (.invokevirtual 22, 3) := by decide +kernel
theorem dL_law_255 : decode cL_law 255 = .ok (.if_icmp .eq 1269, 3) := by decide +kernel
theorem dL_law_258 : decode cL_law 258 = .ok (.iconst 0, 1) := by decide +kernel
theorem dL_law_259 : decode cL_law 259 = .ok (.ireturn, 1) := by decide +kernel
theorem dL_law_260 : decode cL_law 260 = .ok (.aload_n 1, 1) := by decide +kernel
theorem dL_law_261 : decode cL_law 261 = .ok (.aload_n 0, 1) := by decide +kernel
theorem dL_law_262 : decode cL_law 262 = .ok (.iload_n 3, 1) := by decide +kernel
theorem dL_law_263 : decode cL_law 263 = .ok (.iconst 1, 1) := by decide +kernel
theorem dL_law_264 : decode cL_law 264 = .ok (.iadd, 1) := by decide +kernel
theorem dL_law_265 : decode cL_law 265 = .ok (.iaload, 1) := by decide +kernel
theorem dL_law_266 : decode cL_law 266 = .ok (.aload_n 0, 1) := by decide +kernel
theorem dL_law_267 : decode cL_law 267 = .ok (.iload_n 3, 1) := by decide +kernel
theorem dL_law_268 : decode cL_law 268 = .ok (.iconst 2, 1) := by decide +kernel
theorem dL_law_269 : decode cL_law 269 = .ok (.iadd, 1) := by decide +kernel
theorem dL_law_270 : decode cL_law 270 = .ok (.iaload, 1) := by decide +kernel
theorem dL_law_271 : decode cL_law 271 = .ok (.aload_n 0, 1) := by decide +kernel
theorem dL_law_272 : decode cL_law 272 = .ok (.iload_n 3, 1) := by decide +kernel
theorem dL_law_273 : decode cL_law 273 = .ok (.iconst 3, 1) := by decide +kernel
theorem dL_law_274 : decode cL_law 274 = .ok (.iadd, 1) := by decide +kernel
theorem dL_law_275 : decode cL_law 275 = .ok (.iaload, 1) := by decide +kernel
theorem dL_law_276 : decode cL_law 276 = .ok (.aload_n 0, 1) := by decide +kernel
theorem dL_law_277 : decode cL_law 277 = .ok (.iload_n 3, 1) := by decide +kernel
theorem dL_law_278 : decode cL_law 278 = .ok (.iconst 4, 1) := by decide +kernel
theorem dL_law_279 : decode cL_law 279 = .ok (.iadd, 1) := by decide +kernel
theorem dL_law_280 : decode cL_law 280 = .ok (.iaload, 1) := by decide +kernel
theorem dL_law_281 : decode cL_law 281 = .ok (.aload_n 0, 1) := by decide +kernel
theorem dL_law_282 : decode cL_law 282 = .ok (.iload_n 3, 1) := by decide +kernel
theorem dL_law_283 : decode cL_law 283 = .ok (.iconst 5, 1) := by decide +kernel
theorem dL_law_284 : decode cL_law 284 = .ok (.iadd, 1) := by decide +kernel
theorem dL_law_285 : decode cL_law 285 = .ok (.iaload, 1) := by decide +kernel
theorem dL_law_286 : decode cL_law 286 = .ok (.aload_n 0, 1) := by decide +kernel
theorem dL_law_287 : decode cL_law 287 = .ok (.iload_n 3, 1) := by decide +kernel
theorem dL_law_288 : decode cL_law 288 = .ok (.bipush 6, 2) := by decide +kernel
theorem dL_law_290 : decode cL_law 290 = .ok (.iadd, 1) := by decide +kernel
theorem dL_law_291 : decode cL_law 291 = .ok (.iaload, 1) := by decide +kernel
theorem dL_law_292 : decode cL_law 292 = .ok (.invokevirtual 23, 3) := by decide +kernel
theorem dL_law_295 : decode cL_law 295 = .ok (.aload_n 2, 1) := by decide +kernel
theorem dL_law_296 : decode cL_law 296 = .ok (.aload_n 0, 1) := by decide +kernel
theorem dL_law_297 : decode cL_law 297 = .ok (.iload_n 3, 1) := by decide +kernel
theorem dL_law_298 : decode cL_law 298 = .ok (.iconst 1, 1) := by decide +kernel
theorem dL_law_299 : decode cL_law 299 = .ok (.iadd, 1) := by decide +kernel
theorem dL_law_300 : decode cL_law 300 = .ok (.iaload, 1) := by decide +kernel
theorem dL_law_301 : decode cL_law 301 = .ok (.aload_n 0, 1) := by decide +kernel
theorem dL_law_302 : decode cL_law 302 = .ok (.iload_n 3, 1) := by decide +kernel
theorem dL_law_303 : decode cL_law 303 = .ok (.iconst 2, 1) := by decide +kernel
theorem dL_law_304 : decode cL_law 304 = .ok (.iadd, 1) := by decide +kernel
theorem dL_law_305 : decode cL_law 305 = .ok (.iaload, 1) := by decide +kernel
theorem dL_law_306 : decode cL_law 306 = .ok (.aload_n 0, 1) := by decide +kernel
theorem dL_law_307 : decode cL_law 307 = .ok (.iload_n 3, 1) := by decide +kernel
theorem dL_law_308 : decode cL_law 308 = .ok (.iconst 3, 1) := by decide +kernel
theorem dL_law_309 : decode cL_law 309 = .ok (.iadd, 1) := by decide +kernel
theorem dL_law_310 : decode cL_law 310 = .ok (.iaload, 1) := by decide +kernel
theorem dL_law_311 : decode cL_law 311 = .ok (.aload_n 0, 1) := by decide +kernel
theorem dL_law_312 : decode cL_law 312 = .ok (.iload_n 3, 1) := by decide +kernel
theorem dL_law_313 : decode cL_law 313 = .ok (.iconst 4, 1) := by decide +kernel
theorem dL_law_314 : decode cL_law 314 = .ok (.iadd, 1) := by decide +kernel
theorem dL_law_315 : decode cL_law 315 = .ok (.iaload, 1) := by decide +kernel
theorem dL_law_316 : decode cL_law 316 = .ok (.aload_n 0, 1) := by decide +kernel
theorem dL_law_317 : decode cL_law 317 = .ok (.iload_n 3, 1) := by decide +kernel
theorem dL_law_318 : decode cL_law 318 = .ok (.iconst 5, 1) := by decide +kernel
theorem dL_law_319 : decode cL_law 319 = .ok (.iadd, 1) := by decide +kernel
theorem dL_law_320 : decode cL_law 320 = .ok (.iaload, 1) := by decide +kernel
theorem dL_law_321 : decode cL_law 321 = .ok (.aload_n 0, 1) := by decide +kernel
theorem dL_law_322 : decode cL_law 322 = .ok (.iload_n 3, 1) := by decide +kernel
theorem dL_law_323 : decode cL_law 323 = .ok (.bipush 6, 2) := by decide +kernel
theorem dL_law_325 : decode cL_law 325 = .ok (.iadd, 1) := by decide +kernel
theorem dL_law_326 : decode cL_law 326 = .ok (.iaload, 1) := by decide +kernel
theorem dL_law_327 : decode cL_law 327 = .ok (.invokevirtual 27, 3) := by decide +kernel
theorem dL_law_330 : decode cL_law 330 = .ok (.if_icmp .eq 1194, 3) := by decide +kernel
theorem dL_law_333 : decode cL_law 333 = .ok (.iconst 0, 1) := by decide +kernel
theorem dL_law_334 : decode cL_law 334 = .ok (.ireturn, 1) := by decide +kernel
theorem dL_law_335 : decode cL_law 335 = .ok (.aload_n 1, 1) := by decide +kernel
theorem dL_law_336 : decode cL_law 336 = .ok (.invokevirtual 28, 3) := by decide +kernel
theorem dL_law_339 : decode cL_law 339 = .ok (.aload_n 2, 1) := by decide +kernel
theorem dL_law_340 : decode cL_law 340 = .ok (.invokevirtual 32, 3) := by decide +kernel
theorem dL_law_343 : decode cL_law 343 = .ok (.if_icmp .eq 1181, 3) := by decide +kernel
theorem dL_law_346 : decode cL_law 346 = .ok (.iconst 0, 1) := by decide +kernel
theorem dL_law_347 : decode cL_law 347 = .ok (.ireturn, 1) := by decide +kernel
theorem dL_law_348 : decode cL_law 348 = .ok (.aload_n 1, 1) := by decide +kernel
theorem dL_law_349 : decode cL_law 349 = .ok (.aload_n 0, 1) := by decide +kernel
theorem dL_law_350 : decode cL_law 350 = .ok (.iload_n 3, 1) := by decide +kernel
theorem dL_law_351 : decode cL_law 351 = .ok (.iconst 1, 1) := by decide +kernel
theorem dL_law_352 : decode cL_law 352 = .ok (.iadd, 1) := by decide +kernel
theorem dL_law_353 : decode cL_law 353 = .ok (.iaload, 1) := by decide +kernel
theorem dL_law_354 : decode cL_law 354 = .ok (.invokevirtual 33, 3) := by decide +kernel
theorem dL_law_357 : decode cL_law 357 = .ok (.aload_n 2, 1) := by decide +kernel
theorem dL_law_358 : decode cL_law 358 = .ok (.aload_n 0, 1) := by decide +kernel
theorem dL_law_359 : decode cL_law 359 = .ok (.iload_n 3, 1) := by decide +kernel
theorem dL_law_360 : decode cL_law 360 = .ok (.iconst 1, 1) := by decide +kernel
theorem dL_law_361 : decode cL_law 361 = .ok (.iadd, 1) := by decide +kernel
theorem dL_law_362 : decode cL_law 362 = .ok (.iaload, 1) := by decide +kernel
theorem dL_law_363 : decode cL_law 363 = .ok (.invokevirtual 36, 3) := by decide +kernel
theorem dL_law_366 : decode cL_law 366 = .ok (.if_icmp .eq 1158, 3) := by decide +kernel
theorem dL_law_369 : decode cL_law 369 = .ok (.iconst 0, 1) := by decide +kernel
theorem dL_law_370 : decode cL_law 370 = .ok (.ireturn, 1) := by decide +kernel
theorem dL_law_371 : decode cL_law 371 = .ok (.aload_n 1, 1) := by decide +kernel
theorem dL_law_372 : decode cL_law 372 = .ok (.aload_n 0, 1) := by decide +kernel
theorem dL_law_373 : decode cL_law 373 = .ok (.iload_n 3, 1) := by decide +kernel
theorem dL_law_374 : decode cL_law 374 = .ok (.iconst 1, 1) := by decide +kernel
theorem dL_law_375 : decode cL_law 375 = .ok (.iadd, 1) := by decide +kernel
theorem dL_law_376 : decode cL_law 376 = .ok (.iaload, 1) := by decide +kernel
theorem dL_law_377 : decode cL_law 377 = .ok (.aload_n 0, 1) := by decide +kernel
theorem dL_law_378 : decode cL_law 378 = .ok (.iload_n 3, 1) := by decide +kernel
theorem dL_law_379 : decode cL_law 379 = .ok (.iconst 2, 1) := by decide +kernel
theorem dL_law_380 : decode cL_law 380 = .ok (.iadd, 1) := by decide +kernel
theorem dL_law_381 : decode cL_law 381 = .ok (.iaload, 1) := by decide +kernel
theorem dL_law_382 : decode cL_law 382 = .ok (.aload_n 0, 1) := by decide +kernel
theorem dL_law_383 : decode cL_law 383 = .ok (.iload_n 3, 1) := by decide +kernel
theorem dL_law_384 : decode cL_law 384 = .ok (.iconst 3, 1) := by decide +kernel
theorem dL_law_385 : decode cL_law 385 = .ok (.iadd, 1) := by decide +kernel
theorem dL_law_386 : decode cL_law 386 = .ok (.iaload, 1) := by decide +kernel
theorem dL_law_387 : decode cL_law 387 = .ok (.aload_n 0, 1) := by decide +kernel
theorem dL_law_388 : decode cL_law 388 = .ok (.iload_n 3, 1) := by decide +kernel
theorem dL_law_389 : decode cL_law 389 = .ok (.iconst 4, 1) := by decide +kernel
theorem dL_law_390 : decode cL_law 390 = .ok (.iadd, 1) := by decide +kernel
theorem dL_law_391 : decode cL_law 391 = .ok (.iaload, 1) := by decide +kernel
theorem dL_law_392 : decode cL_law 392 = .ok (.invokevirtual 37, 3) := by decide +kernel
theorem dL_law_395 : decode cL_law 395 = .ok (.aload_n 2, 1) := by decide +kernel
theorem dL_law_396 : decode cL_law 396 = .ok (.aload_n 0, 1) := by decide +kernel
theorem dL_law_397 : decode cL_law 397 = .ok (.iload_n 3, 1) := by decide +kernel
theorem dL_law_398 : decode cL_law 398 = .ok (.iconst 1, 1) := by decide +kernel
theorem dL_law_399 : decode cL_law 399 = .ok (.iadd, 1) := by decide +kernel
theorem dL_law_400 : decode cL_law 400 = .ok (.iaload, 1) := by decide +kernel
theorem dL_law_401 : decode cL_law 401 = .ok (.aload_n 0, 1) := by decide +kernel
theorem dL_law_402 : decode cL_law 402 = .ok (.iload_n 3, 1) := by decide +kernel
theorem dL_law_403 : decode cL_law 403 = .ok (.iconst 2, 1) := by decide +kernel
theorem dL_law_404 : decode cL_law 404 = .ok (.iadd, 1) := by decide +kernel
theorem dL_law_405 : decode cL_law 405 = .ok (.iaload, 1) := by decide +kernel
theorem dL_law_406 : decode cL_law 406 = .ok (.aload_n 0, 1) := by decide +kernel
theorem dL_law_407 : decode cL_law 407 = .ok (.iload_n 3, 1) := by decide +kernel
theorem dL_law_408 : decode cL_law 408 = .ok (.iconst 3, 1) := by decide +kernel
theorem dL_law_409 : decode cL_law 409 = .ok (.iadd, 1) := by decide +kernel
theorem dL_law_410 : decode cL_law 410 = .ok (.iaload, 1) := by decide +kernel
theorem dL_law_411 : decode cL_law 411 = .ok (.aload_n 0, 1) := by decide +kernel
theorem dL_law_412 : decode cL_law 412 = .ok (.iload_n 3, 1) := by decide +kernel
theorem dL_law_413 : decode cL_law 413 = .ok (.iconst 4, 1) := by decide +kernel
theorem dL_law_414 : decode cL_law 414 = .ok (.iadd, 1) := by decide +kernel
theorem dL_law_415 : decode cL_law 415 = .ok (.iaload, 1) := by decide +kernel
theorem dL_law_416 : decode cL_law 416 = .ok (.invokevirtual 41, 3) := by decide +kernel
theorem dL_law_419 : decode cL_law 419 = .ok (.if_icmp .eq 1105, 3) := by decide +kernel
theorem dL_law_422 : decode cL_law 422 = .ok (.iconst 0, 1) := by decide +kernel
theorem dL_law_423 : decode cL_law 423 = .ok (.ireturn, 1) := by decide +kernel
theorem dL_law_424 : decode cL_law 424 = .ok (.aload_n 1, 1) := by decide +kernel
theorem dL_law_425 : decode cL_law 425 = .ok (.aload_n 0, 1) := by decide +kernel
theorem dL_law_426 : decode cL_law 426 = .ok (.iload_n 3, 1) := by decide +kernel
theorem dL_law_427 : decode cL_law 427 = .ok (.iconst 1, 1) := by decide +kernel
theorem dL_law_428 : decode cL_law 428 = .ok (.iadd, 1) := by decide +kernel
theorem dL_law_429 : decode cL_law 429 = .ok (.iaload, 1) := by decide +kernel
theorem dL_law_430 : decode cL_law 430 = .ok (.aload_n 0, 1) := by decide +kernel
theorem dL_law_431 : decode cL_law 431 = .ok (.iload_n 3, 1) := by decide +kernel
theorem dL_law_432 : decode cL_law 432 = .ok (.iconst 2, 1) := by decide +kernel
theorem dL_law_433 : decode cL_law 433 = .ok (.iadd, 1) := by decide +kernel
theorem dL_law_434 : decode cL_law 434 = .ok (.iaload, 1) := by decide +kernel
theorem dL_law_435 : decode cL_law 435 = .ok (.invokevirtual 42, 3) := by decide +kernel
theorem dL_law_438 : decode cL_law 438 = .ok (.aload_n 2, 1) := by decide +kernel
theorem dL_law_439 : decode cL_law 439 = .ok (.aload_n 0, 1) := by decide +kernel
theorem dL_law_440 : decode cL_law 440 = .ok (.iload_n 3, 1) := by decide +kernel
theorem dL_law_441 : decode cL_law 441 = .ok (.iconst 1, 1) := by decide +kernel
theorem dL_law_442 : decode cL_law 442 = .ok (.iadd, 1) := by decide +kernel
theorem dL_law_443 : decode cL_law 443 = .ok (.iaload, 1) := by decide +kernel
theorem dL_law_444 : decode cL_law 444 = .ok (.aload_n 0, 1) := by decide +kernel
theorem dL_law_445 : decode cL_law 445 = .ok (.iload_n 3, 1) := by decide +kernel
theorem dL_law_446 : decode cL_law 446 = .ok (.iconst 2, 1) := by decide +kernel
theorem dL_law_447 : decode cL_law 447 = .ok (.iadd, 1) := by decide +kernel
theorem dL_law_448 : decode cL_law 448 = .ok (.iaload, 1) := by decide +kernel
theorem dL_law_449 : decode cL_law 449 = .ok (.invokevirtual 45, 3) := by decide +kernel
theorem dL_law_452 : decode cL_law 452 = .ok (.if_icmp .eq 1072, 3) := by decide +kernel
theorem dL_law_455 : decode cL_law 455 = .ok (.iconst 0, 1) := by decide +kernel
theorem dL_law_456 : decode cL_law 456 = .ok (.ireturn, 1) := by decide +kernel
theorem dL_law_457 : decode cL_law 457 = .ok (.aload_n 1, 1) := by decide +kernel
theorem dL_law_458 : decode cL_law 458 = .ok (.aload_n 0, 1) := by decide +kernel
theorem dL_law_459 : decode cL_law 459 = .ok (.iload_n 3, 1) := by decide +kernel
theorem dL_law_460 : decode cL_law 460 = .ok (.iconst 1, 1) := by decide +kernel
theorem dL_law_461 : decode cL_law 461 = .ok (.iadd, 1) := by decide +kernel
theorem dL_law_462 : decode cL_law 462 = .ok (.iaload, 1) := by decide +kernel
theorem dL_law_463 : decode cL_law 463 = .ok (.aload_n 0, 1) := by decide +kernel
theorem dL_law_464 : decode cL_law 464 = .ok (.iload_n 3, 1) := by decide +kernel
theorem dL_law_465 : decode cL_law 465 = .ok (.iconst 2, 1) := by decide +kernel
theorem dL_law_466 : decode cL_law 466 = .ok (.iadd, 1) := by decide +kernel
theorem dL_law_467 : decode cL_law 467 = .ok (.iaload, 1) := by decide +kernel
theorem dL_law_468 : decode cL_law 468 = .ok (.invokevirtual 46, 3) := by decide +kernel
theorem dL_law_471 : decode cL_law 471 = .ok (.aload_n 2, 1) := by decide +kernel
theorem dL_law_472 : decode cL_law 472 = .ok (.aload_n 0, 1) := by decide +kernel
theorem dL_law_473 : decode cL_law 473 = .ok (.iload_n 3, 1) := by decide +kernel
theorem dL_law_474 : decode cL_law 474 = .ok (.iconst 1, 1) := by decide +kernel
theorem dL_law_475 : decode cL_law 475 = .ok (.iadd, 1) := by decide +kernel
theorem dL_law_476 : decode cL_law 476 = .ok (.iaload, 1) := by decide +kernel
theorem dL_law_477 : decode cL_law 477 = .ok (.aload_n 0, 1) := by decide +kernel
theorem dL_law_478 : decode cL_law 478 = .ok (.iload_n 3, 1) := by decide +kernel
theorem dL_law_479 : decode cL_law 479 = .ok (.iconst 2, 1) := by decide +kernel
theorem dL_law_480 : decode cL_law 480 = .ok (.iadd, 1) := by decide +kernel
theorem dL_law_481 : decode cL_law 481 = .ok (.iaload, 1) := by decide +kernel
theorem dL_law_482 : decode cL_law 482 = .ok (.invokevirtual 49, 3) := by decide +kernel
theorem dL_law_485 : decode cL_law 485 = .ok (.if_icmp .eq 1039, 3) := by decide +kernel
theorem dL_law_488 : decode cL_law 488 = .ok (.iconst 0, 1) := by decide +kernel
theorem dL_law_489 : decode cL_law 489 = .ok (.ireturn, 1) := by decide +kernel
theorem dL_law_490 : decode cL_law 490 = .ok (.aload_n 1, 1) := by decide +kernel
theorem dL_law_491 : decode cL_law 491 = .ok (.aload_n 0, 1) := by decide +kernel
theorem dL_law_492 : decode cL_law 492 = .ok (.iload_n 3, 1) := by decide +kernel
theorem dL_law_493 : decode cL_law 493 = .ok (.iconst 1, 1) := by decide +kernel
theorem dL_law_494 : decode cL_law 494 = .ok (.iadd, 1) := by decide +kernel
theorem dL_law_495 : decode cL_law 495 = .ok (.iaload, 1) := by decide +kernel
theorem dL_law_496 : decode cL_law 496 = .ok (.aload_n 0, 1) := by decide +kernel
theorem dL_law_497 : decode cL_law 497 = .ok (.iload_n 3, 1) := by decide +kernel
theorem dL_law_498 : decode cL_law 498 = .ok (.iconst 2, 1) := by decide +kernel
theorem dL_law_499 : decode cL_law 499 = .ok (.iadd, 1) := by decide +kernel
theorem dL_law_500 : decode cL_law 500 = .ok (.iaload, 1) := by decide +kernel
theorem dL_law_501 : decode cL_law 501 = .ok (.aload_n 0, 1) := by decide +kernel
theorem dL_law_502 : decode cL_law 502 = .ok (.iload_n 3, 1) := by decide +kernel
theorem dL_law_503 : decode cL_law 503 = .ok (.iconst 3, 1) := by decide +kernel
theorem dL_law_504 : decode cL_law 504 = .ok (.iadd, 1) := by decide +kernel
theorem dL_law_505 : decode cL_law 505 = .ok (.iaload, 1) := by decide +kernel
theorem dL_law_506 : decode cL_law 506 = .ok (.invokevirtual 50, 3) := by decide +kernel
theorem dL_law_509 : decode cL_law 509 = .ok (.aload_n 2, 1) := by decide +kernel
theorem dL_law_510 : decode cL_law 510 = .ok (.aload_n 0, 1) := by decide +kernel
theorem dL_law_511 : decode cL_law 511 = .ok (.iload_n 3, 1) := by decide +kernel
theorem dL_law_512 : decode cL_law 512 = .ok (.iconst 1, 1) := by decide +kernel
theorem dL_law_513 : decode cL_law 513 = .ok (.iadd, 1) := by decide +kernel
theorem dL_law_514 : decode cL_law 514 = .ok (.iaload, 1) := by decide +kernel
theorem dL_law_515 : decode cL_law 515 = .ok (.aload_n 0, 1) := by decide +kernel
theorem dL_law_516 : decode cL_law 516 = .ok (.iload_n 3, 1) := by decide +kernel
theorem dL_law_517 : decode cL_law 517 = .ok (.iconst 2, 1) := by decide +kernel
theorem dL_law_518 : decode cL_law 518 = .ok (.iadd, 1) := by decide +kernel
theorem dL_law_519 : decode cL_law 519 = .ok (.iaload, 1) := by decide +kernel
theorem dL_law_520 : decode cL_law 520 = .ok (.aload_n 0, 1) := by decide +kernel
theorem dL_law_521 : decode cL_law 521 = .ok (.iload_n 3, 1) := by decide +kernel
theorem dL_law_522 : decode cL_law 522 = .ok (.iconst 3, 1) := by decide +kernel
theorem dL_law_523 : decode cL_law 523 = .ok (.iadd, 1) := by decide +kernel
theorem dL_law_524 : decode cL_law 524 = .ok (.iaload, 1) := by decide +kernel
theorem dL_law_525 : decode cL_law 525 = .ok (.invokevirtual 54, 3) := by decide +kernel
theorem dL_law_528 : decode cL_law 528 = .ok (.if_icmp .eq 996, 3) := by decide +kernel
theorem dL_law_531 : decode cL_law 531 = .ok (.iconst 0, 1) := by decide +kernel
theorem dL_law_532 : decode cL_law 532 = .ok (.ireturn, 1) := by decide +kernel
theorem dL_law_533 : decode cL_law 533 = .ok (.aload_n 1, 1) := by decide +kernel
theorem dL_law_534 : decode cL_law 534 = .ok (.aload_n 0, 1) := by decide +kernel
theorem dL_law_535 : decode cL_law 535 = .ok (.iload_n 3, 1) := by decide +kernel
theorem dL_law_536 : decode cL_law 536 = .ok (.iconst 1, 1) := by decide +kernel
theorem dL_law_537 : decode cL_law 537 = .ok (.iadd, 1) := by decide +kernel
theorem dL_law_538 : decode cL_law 538 = .ok (.iaload, 1) := by decide +kernel
theorem dL_law_539 : decode cL_law 539 = .ok (.invokevirtual 55, 3) := by decide +kernel
theorem dL_law_542 : decode cL_law 542 = .ok (.aload_n 2, 1) := by decide +kernel
theorem dL_law_543 : decode cL_law 543 = .ok (.aload_n 0, 1) := by decide +kernel
theorem dL_law_544 : decode cL_law 544 = .ok (.iload_n 3, 1) := by decide +kernel
theorem dL_law_545 : decode cL_law 545 = .ok (.iconst 1, 1) := by decide +kernel
theorem dL_law_546 : decode cL_law 546 = .ok (.iadd, 1) := by decide +kernel
theorem dL_law_547 : decode cL_law 547 = .ok (.iaload, 1) := by decide +kernel
theorem dL_law_548 : decode cL_law 548 = .ok (.invokevirtual 58, 3) := by decide +kernel
theorem dL_law_551 : decode cL_law 551 = .ok (.if_icmp .eq 973, 3) := by decide +kernel
theorem dL_law_554 : decode cL_law 554 = .ok (.iconst 0, 1) := by decide +kernel
theorem dL_law_555 : decode cL_law 555 = .ok (.ireturn, 1) := by decide +kernel
theorem dL_law_556 : decode cL_law 556 = .ok (.aload_n 1, 1) := by decide +kernel
theorem dL_law_557 : decode cL_law 557 = .ok (.aload_n 0, 1) := by decide +kernel
theorem dL_law_558 : decode cL_law 558 = .ok (.iload_n 3, 1) := by decide +kernel
theorem dL_law_559 : decode cL_law 559 = .ok (.iconst 1, 1) := by decide +kernel
theorem dL_law_560 : decode cL_law 560 = .ok (.iadd, 1) := by decide +kernel
theorem dL_law_561 : decode cL_law 561 = .ok (.iaload, 1) := by decide +kernel
theorem dL_law_562 : decode cL_law 562 = .ok (.invokevirtual 59, 3) := by decide +kernel
theorem dL_law_565 : decode cL_law 565 = .ok (.aload_n 2, 1) := by decide +kernel
theorem dL_law_566 : decode cL_law 566 = .ok (.aload_n 0, 1) := by decide +kernel
theorem dL_law_567 : decode cL_law 567 = .ok (.iload_n 3, 1) := by decide +kernel
theorem dL_law_568 : decode cL_law 568 = .ok (.iconst 1, 1) := by decide +kernel
theorem dL_law_569 : decode cL_law 569 = .ok (.iadd, 1) := by decide +kernel
theorem dL_law_570 : decode cL_law 570 = .ok (.iaload, 1) := by decide +kernel
theorem dL_law_571 : decode cL_law 571 = .ok (.invokevirtual 62, 3) := by decide +kernel
theorem dL_law_574 : decode cL_law 574 = .ok (.if_icmp .eq 950, 3) := by decide +kernel
theorem dL_law_577 : decode cL_law 577 = .ok (.iconst 0, 1) := by decide +kernel
theorem dL_law_578 : decode cL_law 578 = .ok (.ireturn, 1) := by decide +kernel
theorem dL_law_579 : decode cL_law 579 = .ok (.aload_n 1, 1) := by decide +kernel
theorem dL_law_580 : decode cL_law 580 = .ok (.invokevirtual 63, 3) := by decide +kernel
theorem dL_law_583 : decode cL_law 583 = .ok (.aload_n 2, 1) := by decide +kernel
theorem dL_law_584 : decode cL_law 584 = .ok (.invokevirtual 66, 3) := by decide +kernel
theorem dL_law_587 : decode cL_law 587 = .ok (.if_icmp .eq 937, 3) := by decide +kernel
theorem dL_law_590 : decode cL_law 590 = .ok (.iconst 0, 1) := by decide +kernel
theorem dL_law_591 : decode cL_law 591 = .ok (.ireturn, 1) := by decide +kernel
theorem dL_law_592 : decode cL_law 592 = .ok (.aload_n 1, 1) := by decide +kernel
theorem dL_law_593 : decode cL_law 593 = .ok (.aload_n 0, 1) := by decide +kernel
theorem dL_law_594 : decode cL_law 594 = .ok (.iload_n 3, 1) := by decide +kernel
theorem dL_law_595 : decode cL_law 595 = .ok (.iconst 1, 1) := by decide +kernel
theorem dL_law_596 : decode cL_law 596 = .ok (.iadd, 1) := by decide +kernel
theorem dL_law_597 : decode cL_law 597 = .ok (.iaload, 1) := by decide +kernel
theorem dL_law_598 : decode cL_law 598 = .ok (.invokevirtual 67, 3) := by decide +kernel
theorem dL_law_601 : decode cL_law 601 = .ok (.aload_n 2, 1) := by decide +kernel
theorem dL_law_602 : decode cL_law 602 = .ok (.aload_n 0, 1) := by decide +kernel
theorem dL_law_603 : decode cL_law 603 = .ok (.iload_n 3, 1) := by decide +kernel
theorem dL_law_604 : decode cL_law 604 = .ok (.iconst 1, 1) := by decide +kernel
theorem dL_law_605 : decode cL_law 605 = .ok (.iadd, 1) := by decide +kernel
theorem dL_law_606 : decode cL_law 606 = .ok (.iaload, 1) := by decide +kernel
theorem dL_law_607 : decode cL_law 607 = .ok (.invokevirtual 70, 3) := by decide +kernel
theorem dL_law_610 : decode cL_law 610 = .ok (.if_icmp .eq 914, 3) := by decide +kernel
theorem dL_law_613 : decode cL_law 613 = .ok (.iconst 0, 1) := by decide +kernel
theorem dL_law_614 : decode cL_law 614 = .ok (.ireturn, 1) := by decide +kernel
theorem dL_law_615 : decode cL_law 615 = .ok (.aload_n 1, 1) := by decide +kernel
theorem dL_law_616 : decode cL_law 616 = .ok (.invokevirtual 71, 3) := by decide +kernel
theorem dL_law_619 : decode cL_law 619 = .ok (.aload_n 2, 1) := by decide +kernel
theorem dL_law_620 : decode cL_law 620 = .ok (.invokevirtual 74, 3) := by decide +kernel
theorem dL_law_623 : decode cL_law 623 = .ok (.if_icmp .eq 901, 3) := by decide +kernel
theorem dL_law_626 : decode cL_law 626 = .ok (.iconst 0, 1) := by decide +kernel
theorem dL_law_627 : decode cL_law 627 = .ok (.ireturn, 1) := by decide +kernel
theorem dL_law_628 : decode cL_law 628 = .ok (.aload_n 1, 1) := by decide +kernel
theorem dL_law_629 : decode cL_law 629 = .ok (.aload_n 0, 1) := by decide +kernel
theorem dL_law_630 : decode cL_law 630 = .ok (.iload_n 3, 1) := by decide +kernel
theorem dL_law_631 : decode cL_law 631 = .ok (.iconst 1, 1) := by decide +kernel
theorem dL_law_632 : decode cL_law 632 = .ok (.iadd, 1) := by decide +kernel
theorem dL_law_633 : decode cL_law 633 = .ok (.iaload, 1) := by decide +kernel
theorem dL_law_634 : decode cL_law 634 = .ok (.aload_n 0, 1) := by decide +kernel
theorem dL_law_635 : decode cL_law 635 = .ok (.iload_n 3, 1) := by decide +kernel
theorem dL_law_636 : decode cL_law 636 = .ok (.iconst 2, 1) := by decide +kernel
theorem dL_law_637 : decode cL_law 637 = .ok (.iadd, 1) := by decide +kernel
theorem dL_law_638 : decode cL_law 638 = .ok (.iaload, 1) := by decide +kernel
theorem dL_law_639 : decode cL_law 639 = .ok (.invokevirtual 75, 3) := by decide +kernel
theorem dL_law_642 : decode cL_law 642 = .ok (.aload_n 2, 1) := by decide +kernel
theorem dL_law_643 : decode cL_law 643 = .ok (.aload_n 0, 1) := by decide +kernel
theorem dL_law_644 : decode cL_law 644 = .ok (.iload_n 3, 1) := by decide +kernel
theorem dL_law_645 : decode cL_law 645 = .ok (.iconst 1, 1) := by decide +kernel
theorem dL_law_646 : decode cL_law 646 = .ok (.iadd, 1) := by decide +kernel
theorem dL_law_647 : decode cL_law 647 = .ok (.iaload, 1) := by decide +kernel
theorem dL_law_648 : decode cL_law 648 = .ok (.aload_n 0, 1) := by decide +kernel
theorem dL_law_649 : decode cL_law 649 = .ok (.iload_n 3, 1) := by decide +kernel
theorem dL_law_650 : decode cL_law 650 = .ok (.iconst 2, 1) := by decide +kernel
theorem dL_law_651 : decode cL_law 651 = .ok (.iadd, 1) := by decide +kernel
theorem dL_law_652 : decode cL_law 652 = .ok (.iaload, 1) := by decide +kernel
theorem dL_law_653 : decode cL_law 653 = .ok (.invokevirtual 78, 3) := by decide +kernel
theorem dL_law_656 : decode cL_law 656 = .ok (.if_icmp .eq 868, 3) := by decide +kernel
theorem dL_law_659 : decode cL_law 659 = .ok (.iconst 0, 1) := by decide +kernel
theorem dL_law_660 : decode cL_law 660 = .ok (.ireturn, 1) := by decide +kernel
theorem dL_law_661 : decode cL_law 661 = .ok (.aload_n 1, 1) := by decide +kernel
theorem dL_law_662 : decode cL_law 662 = .ok (.aload_n 0, 1) := by decide +kernel
theorem dL_law_663 : decode cL_law 663 = .ok (.iload_n 3, 1) := by decide +kernel
theorem dL_law_664 : decode cL_law 664 = .ok (.iconst 1, 1) := by decide +kernel
theorem dL_law_665 : decode cL_law 665 = .ok (.iadd, 1) := by decide +kernel
theorem dL_law_666 : decode cL_law 666 = .ok (.iaload, 1) := by decide +kernel
theorem dL_law_667 : decode cL_law 667 = .ok (.aload_n 0, 1) := by decide +kernel
theorem dL_law_668 : decode cL_law 668 = .ok (.iload_n 3, 1) := by decide +kernel
theorem dL_law_669 : decode cL_law 669 = .ok (.iconst 2, 1) := by decide +kernel
theorem dL_law_670 : decode cL_law 670 = .ok (.iadd, 1) := by decide +kernel
theorem dL_law_671 : decode cL_law 671 = .ok (.iaload, 1) := by decide +kernel
theorem dL_law_672 : decode cL_law 672 = .ok (.aload_n 0, 1) := by decide +kernel
theorem dL_law_673 : decode cL_law 673 = .ok (.iload_n 3, 1) := by decide +kernel
theorem dL_law_674 : decode cL_law 674 = .ok (.iconst 3, 1) := by decide +kernel
theorem dL_law_675 : decode cL_law 675 = .ok (.iadd, 1) := by decide +kernel
theorem dL_law_676 : decode cL_law 676 = .ok (.iaload, 1) := by decide +kernel
theorem dL_law_677 : decode cL_law 677 = .ok (.invokevirtual 79, 3) := by decide +kernel
theorem dL_law_680 : decode cL_law 680 = .ok (.aload_n 2, 1) := by decide +kernel
theorem dL_law_681 : decode cL_law 681 = .ok (.aload_n 0, 1) := by decide +kernel
theorem dL_law_682 : decode cL_law 682 = .ok (.iload_n 3, 1) := by decide +kernel
theorem dL_law_683 : decode cL_law 683 = .ok (.iconst 1, 1) := by decide +kernel
theorem dL_law_684 : decode cL_law 684 = .ok (.iadd, 1) := by decide +kernel
theorem dL_law_685 : decode cL_law 685 = .ok (.iaload, 1) := by decide +kernel
theorem dL_law_686 : decode cL_law 686 = .ok (.aload_n 0, 1) := by decide +kernel
theorem dL_law_687 : decode cL_law 687 = .ok (.iload_n 3, 1) := by decide +kernel
theorem dL_law_688 : decode cL_law 688 = .ok (.iconst 2, 1) := by decide +kernel
theorem dL_law_689 : decode cL_law 689 = .ok (.iadd, 1) := by decide +kernel
theorem dL_law_690 : decode cL_law 690 = .ok (.iaload, 1) := by decide +kernel
theorem dL_law_691 : decode cL_law 691 = .ok (.aload_n 0, 1) := by decide +kernel
theorem dL_law_692 : decode cL_law 692 = .ok (.iload_n 3, 1) := by decide +kernel
theorem dL_law_693 : decode cL_law 693 = .ok (.iconst 3, 1) := by decide +kernel
theorem dL_law_694 : decode cL_law 694 = .ok (.iadd, 1) := by decide +kernel
theorem dL_law_695 : decode cL_law 695 = .ok (.iaload, 1) := by decide +kernel
theorem dL_law_696 : decode cL_law 696 = .ok (.invokevirtual 82, 3) := by decide +kernel
theorem dL_law_699 : decode cL_law 699 = .ok (.if_icmp .eq 825, 3) := by decide +kernel
theorem dL_law_702 : decode cL_law 702 = .ok (.iconst 0, 1) := by decide +kernel
theorem dL_law_703 : decode cL_law 703 = .ok (.ireturn, 1) := by decide +kernel
theorem dL_law_704 : decode cL_law 704 = .ok (.aload_n 1, 1) := by decide +kernel
theorem dL_law_705 : decode cL_law 705 = .ok (.aload_n 0, 1) := by decide +kernel
theorem dL_law_706 : decode cL_law 706 = .ok (.iload_n 3, 1) := by decide +kernel
theorem dL_law_707 : decode cL_law 707 = .ok (.iconst 1, 1) := by decide +kernel
theorem dL_law_708 : decode cL_law 708 = .ok (.iadd, 1) := by decide +kernel
theorem dL_law_709 : decode cL_law 709 = .ok (.iaload, 1) := by decide +kernel
theorem dL_law_710 : decode cL_law 710 = .ok (.invokevirtual 83, 3) := by decide +kernel
theorem dL_law_713 : decode cL_law 713 = .ok (.aload_n 2, 1) := by decide +kernel
theorem dL_law_714 : decode cL_law 714 = .ok (.aload_n 0, 1) := by decide +kernel
theorem dL_law_715 : decode cL_law 715 = .ok (.iload_n 3, 1) := by decide +kernel
theorem dL_law_716 : decode cL_law 716 = .ok (.iconst 1, 1) := by decide +kernel
theorem dL_law_717 : decode cL_law 717 = .ok (.iadd, 1) := by decide +kernel
theorem dL_law_718 : decode cL_law 718 = .ok (.iaload, 1) := by decide +kernel
theorem dL_law_719 : decode cL_law 719 = .ok (.invokevirtual 86, 3) := by decide +kernel
theorem dL_law_722 : decode cL_law 722 = .ok (.if_icmp .eq 802, 3) := by decide +kernel
theorem dL_law_725 : decode cL_law 725 = .ok (.iconst 0, 1) := by decide +kernel
theorem dL_law_726 : decode cL_law 726 = .ok (.ireturn, 1) := by decide +kernel
theorem dL_law_727 : decode cL_law 727 = .ok (.aload_n 1, 1) := by decide +kernel
theorem dL_law_728 : decode cL_law 728 = .ok (.aload_n 0, 1) := by decide +kernel
theorem dL_law_729 : decode cL_law 729 = .ok (.iload_n 3, 1) := by decide +kernel
theorem dL_law_730 : decode cL_law 730 = .ok (.iconst 1, 1) := by decide +kernel
theorem dL_law_731 : decode cL_law 731 = .ok (.iadd, 1) := by decide +kernel
theorem dL_law_732 : decode cL_law 732 = .ok (.iaload, 1) := by decide +kernel
theorem dL_law_733 : decode cL_law 733 = .ok (.aload_n 0, 1) := by decide +kernel
theorem dL_law_734 : decode cL_law 734 = .ok (.iload_n 3, 1) := by decide +kernel
theorem dL_law_735 : decode cL_law 735 = .ok (.iconst 2, 1) := by decide +kernel
theorem dL_law_736 : decode cL_law 736 = .ok (.iadd, 1) := by decide +kernel
theorem dL_law_737 : decode cL_law 737 = .ok (.iaload, 1) := by decide +kernel
theorem dL_law_738 : decode cL_law 738 = .ok (.invokevirtual 87, 3) := by decide +kernel
theorem dL_law_741 : decode cL_law 741 = .ok (.aload_n 2, 1) := by decide +kernel
theorem dL_law_742 : decode cL_law 742 = .ok (.aload_n 0, 1) := by decide +kernel
theorem dL_law_743 : decode cL_law 743 = .ok (.iload_n 3, 1) := by decide +kernel
theorem dL_law_744 : decode cL_law 744 = .ok (.iconst 1, 1) := by decide +kernel
theorem dL_law_745 : decode cL_law 745 = .ok (.iadd, 1) := by decide +kernel
theorem dL_law_746 : decode cL_law 746 = .ok (.iaload, 1) := by decide +kernel
theorem dL_law_747 : decode cL_law 747 = .ok (.aload_n 0, 1) := by decide +kernel
theorem dL_law_748 : decode cL_law 748 = .ok (.iload_n 3, 1) := by decide +kernel
theorem dL_law_749 : decode cL_law 749 = .ok (.iconst 2, 1) := by decide +kernel
theorem dL_law_750 : decode cL_law 750 = .ok (.iadd, 1) := by decide +kernel
theorem dL_law_751 : decode cL_law 751 = .ok (.iaload, 1) := by decide +kernel
theorem dL_law_752 : decode cL_law 752 = .ok (.invokevirtual 90, 3) := by decide +kernel
theorem dL_law_755 : decode cL_law 755 = .ok (.if_icmp .eq 769, 3) := by decide +kernel
theorem dL_law_758 : decode cL_law 758 = .ok (.iconst 0, 1) := by decide +kernel
theorem dL_law_759 : decode cL_law 759 = .ok (.ireturn, 1) := by decide +kernel
theorem dL_law_760 : decode cL_law 760 = .ok (.aload_n 1, 1) := by decide +kernel
theorem dL_law_761 : decode cL_law 761 = .ok (.aload_n 0, 1) := by decide +kernel
theorem dL_law_762 : decode cL_law 762 = .ok (.iload_n 3, 1) := by decide +kernel
theorem dL_law_763 : decode cL_law 763 = .ok (.iconst 1, 1) := by decide +kernel
theorem dL_law_764 : decode cL_law 764 = .ok (.iadd, 1) := by decide +kernel
theorem dL_law_765 : decode cL_law 765 = .ok (.iaload, 1) := by decide +kernel
theorem dL_law_766 : decode cL_law 766 = .ok (.invokevirtual 91, 3) := by decide +kernel
theorem dL_law_769 : decode cL_law 769 = .ok (.aload_n 2, 1) := by decide +kernel
theorem dL_law_770 : decode cL_law 770 = .ok (.aload_n 0, 1) := by decide +kernel
theorem dL_law_771 : decode cL_law 771 = .ok (.iload_n 3, 1) := by decide +kernel
theorem dL_law_772 : decode cL_law 772 = .ok (.iconst 1, 1) := by decide +kernel
theorem dL_law_773 : decode cL_law 773 = .ok (.iadd, 1) := by decide +kernel
theorem dL_law_774 : decode cL_law 774 = .ok (.iaload, 1) := by decide +kernel
theorem dL_law_775 : decode cL_law 775 = .ok (.invokevirtual 94, 3) := by decide +kernel
theorem dL_law_778 : decode cL_law 778 = .ok (.if_icmp .eq 746, 3) := by decide +kernel
theorem dL_law_781 : decode cL_law 781 = .ok (.iconst 0, 1) := by decide +kernel
theorem dL_law_782 : decode cL_law 782 = .ok (.ireturn, 1) := by decide +kernel
theorem dL_law_783 : decode cL_law 783 = .ok (.aload_n 1, 1) := by decide +kernel
theorem dL_law_784 : decode cL_law 784 = .ok (.aload_n 0, 1) := by decide +kernel
theorem dL_law_785 : decode cL_law 785 = .ok (.iload_n 3, 1) := by decide +kernel
theorem dL_law_786 : decode cL_law 786 = .ok (.iconst 1, 1) := by decide +kernel
theorem dL_law_787 : decode cL_law 787 = .ok (.iadd, 1) := by decide +kernel
theorem dL_law_788 : decode cL_law 788 = .ok (.iaload, 1) := by decide +kernel
theorem dL_law_789 : decode cL_law 789 = .ok (.aload_n 0, 1) := by decide +kernel
theorem dL_law_790 : decode cL_law 790 = .ok (.iload_n 3, 1) := by decide +kernel
theorem dL_law_791 : decode cL_law 791 = .ok (.iconst 2, 1) := by decide +kernel
theorem dL_law_792 : decode cL_law 792 = .ok (.iadd, 1) := by decide +kernel
theorem dL_law_793 : decode cL_law 793 = .ok (.iaload, 1) := by decide +kernel
theorem dL_law_794 : decode cL_law 794 = .ok (.aload_n 0, 1) := by decide +kernel
theorem dL_law_795 : decode cL_law 795 = .ok (.iload_n 3, 1) := by decide +kernel
theorem dL_law_796 : decode cL_law 796 = .ok (.iconst 3, 1) := by decide +kernel
theorem dL_law_797 : decode cL_law 797 = .ok (.iadd, 1) := by decide +kernel
theorem dL_law_798 : decode cL_law 798 = .ok (.iaload, 1) := by decide +kernel
theorem dL_law_799 : decode cL_law 799 = .ok (.invokevirtual 95, 3) := by decide +kernel
theorem dL_law_802 : decode cL_law 802 = .ok (.aload_n 2, 1) := by decide +kernel
theorem dL_law_803 : decode cL_law 803 = .ok (.aload_n 0, 1) := by decide +kernel
theorem dL_law_804 : decode cL_law 804 = .ok (.iload_n 3, 1) := by decide +kernel
theorem dL_law_805 : decode cL_law 805 = .ok (.iconst 1, 1) := by decide +kernel
theorem dL_law_806 : decode cL_law 806 = .ok (.iadd, 1) := by decide +kernel
theorem dL_law_807 : decode cL_law 807 = .ok (.iaload, 1) := by decide +kernel
theorem dL_law_808 : decode cL_law 808 = .ok (.aload_n 0, 1) := by decide +kernel
theorem dL_law_809 : decode cL_law 809 = .ok (.iload_n 3, 1) := by decide +kernel
theorem dL_law_810 : decode cL_law 810 = .ok (.iconst 2, 1) := by decide +kernel
theorem dL_law_811 : decode cL_law 811 = .ok (.iadd, 1) := by decide +kernel
theorem dL_law_812 : decode cL_law 812 = .ok (.iaload, 1) := by decide +kernel
theorem dL_law_813 : decode cL_law 813 = .ok (.aload_n 0, 1) := by decide +kernel
theorem dL_law_814 : decode cL_law 814 = .ok (.iload_n 3, 1) := by decide +kernel
theorem dL_law_815 : decode cL_law 815 = .ok (.iconst 3, 1) := by decide +kernel
theorem dL_law_816 : decode cL_law 816 = .ok (.iadd, 1) := by decide +kernel
theorem dL_law_817 : decode cL_law 817 = .ok (.iaload, 1) := by decide +kernel
theorem dL_law_818 : decode cL_law 818 = .ok (.invokevirtual 98, 3) := by decide +kernel
theorem dL_law_821 : decode cL_law 821 = .ok (.if_icmp .eq 703, 3) := by decide +kernel
theorem dL_law_824 : decode cL_law 824 = .ok (.iconst 0, 1) := by decide +kernel
theorem dL_law_825 : decode cL_law 825 = .ok (.ireturn, 1) := by decide +kernel
theorem dL_law_826 : decode cL_law 826 = .ok (.aload_n 1, 1) := by decide +kernel
theorem dL_law_827 : decode cL_law 827 = .ok (.aload_n 0, 1) := by decide +kernel
theorem dL_law_828 : decode cL_law 828 = .ok (.iload_n 3, 1) := by decide +kernel
theorem dL_law_829 : decode cL_law 829 = .ok (.iconst 1, 1) := by decide +kernel
theorem dL_law_830 : decode cL_law 830 = .ok (.iadd, 1) := by decide +kernel
theorem dL_law_831 : decode cL_law 831 = .ok (.iaload, 1) := by decide +kernel
theorem dL_law_832 : decode cL_law 832 = .ok (.invokevirtual 99, 3) := by decide +kernel
theorem dL_law_835 : decode cL_law 835 = .ok (.aload_n 2, 1) := by decide +kernel
theorem dL_law_836 : decode cL_law 836 = .ok (.aload_n 0, 1) := by decide +kernel
theorem dL_law_837 : decode cL_law 837 = .ok (.iload_n 3, 1) := by decide +kernel
theorem dL_law_838 : decode cL_law 838 = .ok (.iconst 1, 1) := by decide +kernel
theorem dL_law_839 : decode cL_law 839 = .ok (.iadd, 1) := by decide +kernel
theorem dL_law_840 : decode cL_law 840 = .ok (.iaload, 1) := by decide +kernel
theorem dL_law_841 : decode cL_law 841 = .ok (.invokevirtual 102, 3) := by decide +kernel
theorem dL_law_844 : decode cL_law 844 = .ok (.if_icmp .eq 680, 3) := by decide +kernel
theorem dL_law_847 : decode cL_law 847 = .ok (.iconst 0, 1) := by decide +kernel
theorem dL_law_848 : decode cL_law 848 = .ok (.ireturn, 1) := by decide +kernel
theorem dL_law_849 : decode cL_law 849 = .ok (.aload_n 1, 1) := by decide +kernel
theorem dL_law_850 : decode cL_law 850 = .ok (.aload_n 0, 1) := by decide +kernel
theorem dL_law_851 : decode cL_law 851 = .ok (.iload_n 3, 1) := by decide +kernel
theorem dL_law_852 : decode cL_law 852 = .ok (.iconst 1, 1) := by decide +kernel
theorem dL_law_853 : decode cL_law 853 = .ok (.iadd, 1) := by decide +kernel
theorem dL_law_854 : decode cL_law 854 = .ok (.iaload, 1) := by decide +kernel
theorem dL_law_855 : decode cL_law 855 = .ok (.aload_n 0, 1) := by decide +kernel
theorem dL_law_856 : decode cL_law 856 = .ok (.iload_n 3, 1) := by decide +kernel
theorem dL_law_857 : decode cL_law 857 = .ok (.iconst 2, 1) := by decide +kernel
theorem dL_law_858 : decode cL_law 858 = .ok (.iadd, 1) := by decide +kernel
theorem dL_law_859 : decode cL_law 859 = .ok (.iaload, 1) := by decide +kernel
theorem dL_law_860 : decode cL_law 860 = .ok (.aload_n 0, 1) := by decide +kernel
theorem dL_law_861 : decode cL_law 861 = .ok (.iload_n 3, 1) := by decide +kernel
theorem dL_law_862 : decode cL_law 862 = .ok (.iconst 3, 1) := by decide +kernel
theorem dL_law_863 : decode cL_law 863 = .ok (.iadd, 1) := by decide +kernel
theorem dL_law_864 : decode cL_law 864 = .ok (.iaload, 1) := by decide +kernel
theorem dL_law_865 : decode cL_law 865 = .ok (.invokevirtual 103, 3) := by decide +kernel
theorem dL_law_868 : decode cL_law 868 = .ok (.aload_n 2, 1) := by decide +kernel
theorem dL_law_869 : decode cL_law 869 = .ok (.aload_n 0, 1) := by decide +kernel
theorem dL_law_870 : decode cL_law 870 = .ok (.iload_n 3, 1) := by decide +kernel
theorem dL_law_871 : decode cL_law 871 = .ok (.iconst 1, 1) := by decide +kernel
theorem dL_law_872 : decode cL_law 872 = .ok (.iadd, 1) := by decide +kernel
theorem dL_law_873 : decode cL_law 873 = .ok (.iaload, 1) := by decide +kernel
theorem dL_law_874 : decode cL_law 874 = .ok (.aload_n 0, 1) := by decide +kernel
theorem dL_law_875 : decode cL_law 875 = .ok (.iload_n 3, 1) := by decide +kernel
theorem dL_law_876 : decode cL_law 876 = .ok (.iconst 2, 1) := by decide +kernel
theorem dL_law_877 : decode cL_law 877 = .ok (.iadd, 1) := by decide +kernel
theorem dL_law_878 : decode cL_law 878 = .ok (.iaload, 1) := by decide +kernel
theorem dL_law_879 : decode cL_law 879 = .ok (.aload_n 0, 1) := by decide +kernel
theorem dL_law_880 : decode cL_law 880 = .ok (.iload_n 3, 1) := by decide +kernel
theorem dL_law_881 : decode cL_law 881 = .ok (.iconst 3, 1) := by decide +kernel
theorem dL_law_882 : decode cL_law 882 = .ok (.iadd, 1) := by decide +kernel
theorem dL_law_883 : decode cL_law 883 = .ok (.iaload, 1) := by decide +kernel
theorem dL_law_884 : decode cL_law 884 = .ok (.invokevirtual 106, 3) := by decide +kernel
theorem dL_law_887 : decode cL_law 887 = .ok (.if_icmp .eq 637, 3) := by decide +kernel
theorem dL_law_890 : decode cL_law 890 = .ok (.iconst 0, 1) := by decide +kernel
theorem dL_law_891 : decode cL_law 891 = .ok (.ireturn, 1) := by decide +kernel
theorem dL_law_892 : decode cL_law 892 = .ok (.aload_n 1, 1) := by decide +kernel
theorem dL_law_893 : decode cL_law 893 = .ok (.aload_n 0, 1) := by decide +kernel
theorem dL_law_894 : decode cL_law 894 = .ok (.iload_n 3, 1) := by decide +kernel
theorem dL_law_895 : decode cL_law 895 = .ok (.iconst 1, 1) := by decide +kernel
theorem dL_law_896 : decode cL_law 896 = .ok (.iadd, 1) := by decide +kernel
theorem dL_law_897 : decode cL_law 897 = .ok (.iaload, 1) := by decide +kernel
theorem dL_law_898 : decode cL_law 898 = .ok (.invokevirtual 107, 3) := by decide +kernel
theorem dL_law_901 : decode cL_law 901 = .ok (.aload_n 2, 1) := by decide +kernel
theorem dL_law_902 : decode cL_law 902 = .ok (.aload_n 0, 1) := by decide +kernel
theorem dL_law_903 : decode cL_law 903 = .ok (.iload_n 3, 1) := by decide +kernel
theorem dL_law_904 : decode cL_law 904 = .ok (.iconst 1, 1) := by decide +kernel
theorem dL_law_905 : decode cL_law 905 = .ok (.iadd, 1) := by decide +kernel
theorem dL_law_906 : decode cL_law 906 = .ok (.iaload, 1) := by decide +kernel
theorem dL_law_907 : decode cL_law 907 = .ok (.invokevirtual 110, 3) := by decide +kernel
theorem dL_law_910 : decode cL_law 910 = .ok (.if_icmp .eq 614, 3) := by decide +kernel
theorem dL_law_913 : decode cL_law 913 = .ok (.iconst 0, 1) := by decide +kernel
theorem dL_law_914 : decode cL_law 914 = .ok (.ireturn, 1) := by decide +kernel
theorem dL_law_915 : decode cL_law 915 = .ok (.aload_n 1, 1) := by decide +kernel
theorem dL_law_916 : decode cL_law 916 = .ok (.aload_n 0, 1) := by decide +kernel
theorem dL_law_917 : decode cL_law 917 = .ok (.iload_n 3, 1) := by decide +kernel
theorem dL_law_918 : decode cL_law 918 = .ok (.iconst 1, 1) := by decide +kernel
theorem dL_law_919 : decode cL_law 919 = .ok (.iadd, 1) := by decide +kernel
theorem dL_law_920 : decode cL_law 920 = .ok (.iaload, 1) := by decide +kernel
theorem dL_law_921 : decode cL_law 921 = .ok (.aload_n 0, 1) := by decide +kernel
theorem dL_law_922 : decode cL_law 922 = .ok (.iload_n 3, 1) := by decide +kernel
theorem dL_law_923 : decode cL_law 923 = .ok (.iconst 2, 1) := by decide +kernel
theorem dL_law_924 : decode cL_law 924 = .ok (.iadd, 1) := by decide +kernel
theorem dL_law_925 : decode cL_law 925 = .ok (.iaload, 1) := by decide +kernel
theorem dL_law_926 : decode cL_law 926 = .ok (.invokevirtual 111, 3) := by decide +kernel
theorem dL_law_929 : decode cL_law 929 = .ok (.aload_n 2, 1) := by decide +kernel
theorem dL_law_930 : decode cL_law 930 = .ok (.aload_n 0, 1) := by decide +kernel
theorem dL_law_931 : decode cL_law 931 = .ok (.iload_n 3, 1) := by decide +kernel
theorem dL_law_932 : decode cL_law 932 = .ok (.iconst 1, 1) := by decide +kernel
theorem dL_law_933 : decode cL_law 933 = .ok (.iadd, 1) := by decide +kernel
theorem dL_law_934 : decode cL_law 934 = .ok (.iaload, 1) := by decide +kernel
theorem dL_law_935 : decode cL_law 935 = .ok (.aload_n 0, 1) := by decide +kernel
theorem dL_law_936 : decode cL_law 936 = .ok (.iload_n 3, 1) := by decide +kernel
theorem dL_law_937 : decode cL_law 937 = .ok (.iconst 2, 1) := by decide +kernel
theorem dL_law_938 : decode cL_law 938 = .ok (.iadd, 1) := by decide +kernel
theorem dL_law_939 : decode cL_law 939 = .ok (.iaload, 1) := by decide +kernel
theorem dL_law_940 : decode cL_law 940 = .ok (.invokevirtual 114, 3) := by decide +kernel
theorem dL_law_943 : decode cL_law 943 = .ok (.if_icmp .eq 581, 3) := by decide +kernel
theorem dL_law_946 : decode cL_law 946 = .ok (.iconst 0, 1) := by decide +kernel
theorem dL_law_947 : decode cL_law 947 = .ok (.ireturn, 1) := by decide +kernel
theorem dL_law_948 : decode cL_law 948 = .ok (.aload_n 1, 1) := by decide +kernel
theorem dL_law_949 : decode cL_law 949 = .ok (.aload_n 0, 1) := by decide +kernel
theorem dL_law_950 : decode cL_law 950 = .ok (.iload_n 3, 1) := by decide +kernel
theorem dL_law_951 : decode cL_law 951 = .ok (.iconst 1, 1) := by decide +kernel
theorem dL_law_952 : decode cL_law 952 = .ok (.iadd, 1) := by decide +kernel
theorem dL_law_953 : decode cL_law 953 = .ok (.iaload, 1) := by decide +kernel
theorem dL_law_954 : decode cL_law 954 = .ok (.aload_n 0, 1) := by decide +kernel
theorem dL_law_955 : decode cL_law 955 = .ok (.iload_n 3, 1) := by decide +kernel
theorem dL_law_956 : decode cL_law 956 = .ok (.iconst 2, 1) := by decide +kernel
theorem dL_law_957 : decode cL_law 957 = .ok (.iadd, 1) := by decide +kernel
theorem dL_law_958 : decode cL_law 958 = .ok (.iaload, 1) := by decide +kernel
theorem dL_law_959 : decode cL_law 959 = .ok (.invokevirtual 115, 3) := by decide +kernel
theorem dL_law_962 : decode cL_law 962 = .ok (.aload_n 2, 1) := by decide +kernel
theorem dL_law_963 : decode cL_law 963 = .ok (.aload_n 0, 1) := by decide +kernel
theorem dL_law_964 : decode cL_law 964 = .ok (.iload_n 3, 1) := by decide +kernel
theorem dL_law_965 : decode cL_law 965 = .ok (.iconst 1, 1) := by decide +kernel
theorem dL_law_966 : decode cL_law 966 = .ok (.iadd, 1) := by decide +kernel
theorem dL_law_967 : decode cL_law 967 = .ok (.iaload, 1) := by decide +kernel
theorem dL_law_968 : decode cL_law 968 = .ok (.aload_n 0, 1) := by decide +kernel
theorem dL_law_969 : decode cL_law 969 = .ok (.iload_n 3, 1) := by decide +kernel
theorem dL_law_970 : decode cL_law 970 = .ok (.iconst 2, 1) := by decide +kernel
theorem dL_law_971 : decode cL_law 971 = .ok (.iadd, 1) := by decide +kernel
theorem dL_law_972 : decode cL_law 972 = .ok (.iaload, 1) := by decide +kernel
theorem dL_law_973 : decode cL_law 973 = .ok (.invokevirtual 118, 3) := by decide +kernel
theorem dL_law_976 : decode cL_law 976 = .ok (.if_icmp .eq 548, 3) := by decide +kernel
theorem dL_law_979 : decode cL_law 979 = .ok (.iconst 0, 1) := by decide +kernel
theorem dL_law_980 : decode cL_law 980 = .ok (.ireturn, 1) := by decide +kernel
theorem dL_law_981 : decode cL_law 981 = .ok (.aload_n 1, 1) := by decide +kernel
theorem dL_law_982 : decode cL_law 982 = .ok (.aload_n 0, 1) := by decide +kernel
theorem dL_law_983 : decode cL_law 983 = .ok (.iload_n 3, 1) := by decide +kernel
theorem dL_law_984 : decode cL_law 984 = .ok (.iconst 1, 1) := by decide +kernel
theorem dL_law_985 : decode cL_law 985 = .ok (.iadd, 1) := by decide +kernel
theorem dL_law_986 : decode cL_law 986 = .ok (.iaload, 1) := by decide +kernel
theorem dL_law_987 : decode cL_law 987 = .ok (.aload_n 0, 1) := by decide +kernel
theorem dL_law_988 : decode cL_law 988 = .ok (.iload_n 3, 1) := by decide +kernel
theorem dL_law_989 : decode cL_law 989 = .ok (.iconst 2, 1) := by decide +kernel
theorem dL_law_990 : decode cL_law 990 = .ok (.iadd, 1) := by decide +kernel
theorem dL_law_991 : decode cL_law 991 = .ok (.iaload, 1) := by decide +kernel
theorem dL_law_992 : decode cL_law 992 = .ok (.aload_n 0, 1) := by decide +kernel
theorem dL_law_993 : decode cL_law 993 = .ok (.iload_n 3, 1) := by decide +kernel
theorem dL_law_994 : decode cL_law 994 = .ok (.iconst 3, 1) := by decide +kernel
theorem dL_law_995 : decode cL_law 995 = .ok (.iadd, 1) := by decide +kernel
theorem dL_law_996 : decode cL_law 996 = .ok (.iaload, 1) := by decide +kernel
theorem dL_law_997 : decode cL_law 997 = .ok (.invokevirtual 119, 3) := by decide +kernel
theorem dL_law_1000 : decode cL_law 1000 = .ok (.aload_n 2, 1) := by decide +kernel
theorem dL_law_1001 : decode cL_law 1001 = .ok (.aload_n 0, 1) := by decide +kernel
theorem dL_law_1002 : decode cL_law 1002 = .ok (.iload_n 3, 1) := by decide +kernel
theorem dL_law_1003 : decode cL_law 1003 = .ok (.iconst 1, 1) := by decide +kernel
theorem dL_law_1004 : decode cL_law 1004 = .ok (.iadd, 1) := by decide +kernel
theorem dL_law_1005 : decode cL_law 1005 = .ok (.iaload, 1) := by decide +kernel
theorem dL_law_1006 : decode cL_law 1006 = .ok (.aload_n 0, 1) := by decide +kernel
theorem dL_law_1007 : decode cL_law 1007 = .ok (.iload_n 3, 1) := by decide +kernel
theorem dL_law_1008 : decode cL_law 1008 = .ok (.iconst 2, 1) := by decide +kernel
theorem dL_law_1009 : decode cL_law 1009 = .ok (.iadd, 1) := by decide +kernel
theorem dL_law_1010 : decode cL_law 1010 = .ok (.iaload, 1) := by decide +kernel
theorem dL_law_1011 : decode cL_law 1011 = .ok (.aload_n 0, 1) := by decide +kernel
theorem dL_law_1012 : decode cL_law 1012 = .ok (.iload_n 3, 1) := by decide +kernel
theorem dL_law_1013 : decode cL_law 1013 = .ok (.iconst 3, 1) := by decide +kernel
theorem dL_law_1014 : decode cL_law 1014 = .ok (.iadd, 1) := by decide +kernel
theorem dL_law_1015 : decode cL_law 1015 = .ok (.iaload, 1) := by decide +kernel
theorem dL_law_1016 : decode cL_law 1016 = .ok (.invokevirtual 122, 3) := by decide +kernel
theorem dL_law_1019 : decode cL_law 1019 = .ok (.if_icmp .eq 505, 3) := by decide +kernel
theorem dL_law_1022 : decode cL_law 1022 = .ok (.iconst 0, 1) := by decide +kernel
theorem dL_law_1023 : decode cL_law 1023 = .ok (.ireturn, 1) := by decide +kernel
theorem dL_law_1024 : decode cL_law 1024 = .ok (.aload_n 1, 1) := by decide +kernel
theorem dL_law_1025 : decode cL_law 1025 = .ok (.aload_n 0, 1) := by decide +kernel
theorem dL_law_1026 : decode cL_law 1026 = .ok (.iload_n 3, 1) := by decide +kernel
theorem dL_law_1027 : decode cL_law 1027 = .ok (.iconst 1, 1) := by decide +kernel
theorem dL_law_1028 : decode cL_law 1028 = .ok (.iadd, 1) := by decide +kernel
theorem dL_law_1029 : decode cL_law 1029 = .ok (.iaload, 1) := by decide +kernel
theorem dL_law_1030 : decode cL_law 1030 = .ok (.aload_n 0, 1) := by decide +kernel
theorem dL_law_1031 : decode cL_law 1031 = .ok (.iload_n 3, 1) := by decide +kernel
theorem dL_law_1032 : decode cL_law 1032 = .ok (.iconst 2, 1) := by decide +kernel
theorem dL_law_1033 : decode cL_law 1033 = .ok (.iadd, 1) := by decide +kernel
theorem dL_law_1034 : decode cL_law 1034 = .ok (.iaload, 1) := by decide +kernel
theorem dL_law_1035 : decode cL_law 1035 = .ok (.aload_n 0, 1) := by decide +kernel
theorem dL_law_1036 : decode cL_law 1036 = .ok (.iload_n 3, 1) := by decide +kernel
theorem dL_law_1037 : decode cL_law 1037 = .ok (.iconst 3, 1) := by decide +kernel
theorem dL_law_1038 : decode cL_law 1038 = .ok (.iadd, 1) := by decide +kernel
theorem dL_law_1039 : decode cL_law 1039 = .ok (.iaload, 1) := by decide +kernel
theorem dL_law_1040 : decode cL_law 1040 = .ok (.invokevirtual 123, 3) := by decide +kernel
theorem dL_law_1043 : decode cL_law 1043 = .ok (.aload_n 2, 1) := by decide +kernel
theorem dL_law_1044 : decode cL_law 1044 = .ok (.aload_n 0, 1) := by decide +kernel
theorem dL_law_1045 : decode cL_law 1045 = .ok (.iload_n 3, 1) := by decide +kernel
theorem dL_law_1046 : decode cL_law 1046 = .ok (.iconst 1, 1) := by decide +kernel
theorem dL_law_1047 : decode cL_law 1047 = .ok (.iadd, 1) := by decide +kernel
theorem dL_law_1048 : decode cL_law 1048 = .ok (.iaload, 1) := by decide +kernel
theorem dL_law_1049 : decode cL_law 1049 = .ok (.aload_n 0, 1) := by decide +kernel
theorem dL_law_1050 : decode cL_law 1050 = .ok (.iload_n 3, 1) := by decide +kernel
theorem dL_law_1051 : decode cL_law 1051 = .ok (.iconst 2, 1) := by decide +kernel
theorem dL_law_1052 : decode cL_law 1052 = .ok (.iadd, 1) := by decide +kernel
theorem dL_law_1053 : decode cL_law 1053 = .ok (.iaload, 1) := by decide +kernel
theorem dL_law_1054 : decode cL_law 1054 = .ok (.aload_n 0, 1) := by decide +kernel
theorem dL_law_1055 : decode cL_law 1055 = .ok (.iload_n 3, 1) := by decide +kernel
theorem dL_law_1056 : decode cL_law 1056 = .ok (.iconst 3, 1) := by decide +kernel
theorem dL_law_1057 : decode cL_law 1057 = .ok (.iadd, 1) := by decide +kernel
theorem dL_law_1058 : decode cL_law 1058 = .ok (.iaload, 1) := by decide +kernel
theorem dL_law_1059 : decode cL_law 1059 = .ok (.invokevirtual 126, 3) := by decide +kernel
theorem dL_law_1062 : decode cL_law 1062 = .ok (.if_icmp .eq 462, 3) := by decide +kernel
theorem dL_law_1065 : decode cL_law 1065 = .ok (.iconst 0, 1) := by decide +kernel
theorem dL_law_1066 : decode cL_law 1066 = .ok (.ireturn, 1) := by decide +kernel
theorem dL_law_1067 : decode cL_law 1067 = .ok (.aload_n 1, 1) := by decide +kernel
theorem dL_law_1068 : decode cL_law 1068 = .ok (.aload_n 0, 1) := by decide +kernel
theorem dL_law_1069 : decode cL_law 1069 = .ok (.iload_n 3, 1) := by decide +kernel
theorem dL_law_1070 : decode cL_law 1070 = .ok (.iconst 1, 1) := by decide +kernel
theorem dL_law_1071 : decode cL_law 1071 = .ok (.iadd, 1) := by decide +kernel
theorem dL_law_1072 : decode cL_law 1072 = .ok (.iaload, 1) := by decide +kernel
theorem dL_law_1073 : decode cL_law 1073 = .ok (.aload_n 0, 1) := by decide +kernel
theorem dL_law_1074 : decode cL_law 1074 = .ok (.iload_n 3, 1) := by decide +kernel
theorem dL_law_1075 : decode cL_law 1075 = .ok (.iconst 2, 1) := by decide +kernel
theorem dL_law_1076 : decode cL_law 1076 = .ok (.iadd, 1) := by decide +kernel
theorem dL_law_1077 : decode cL_law 1077 = .ok (.iaload, 1) := by decide +kernel
theorem dL_law_1078 : decode cL_law 1078 = .ok (.invokevirtual 127, 3) := by decide +kernel
theorem dL_law_1081 : decode cL_law 1081 = .ok (.aload_n 2, 1) := by decide +kernel
theorem dL_law_1082 : decode cL_law 1082 = .ok (.aload_n 0, 1) := by decide +kernel
theorem dL_law_1083 : decode cL_law 1083 = .ok (.iload_n 3, 1) := by decide +kernel
theorem dL_law_1084 : decode cL_law 1084 = .ok (.iconst 1, 1) := by decide +kernel
theorem dL_law_1085 : decode cL_law 1085 = .ok (.iadd, 1) := by decide +kernel
theorem dL_law_1086 : decode cL_law 1086 = .ok (.iaload, 1) := by decide +kernel
theorem dL_law_1087 : decode cL_law 1087 = .ok (.aload_n 0, 1) := by decide +kernel
theorem dL_law_1088 : decode cL_law 1088 = .ok (.iload_n 3, 1) := by decide +kernel
theorem dL_law_1089 : decode cL_law 1089 = .ok (.iconst 2, 1) := by decide +kernel
theorem dL_law_1090 : decode cL_law 1090 = .ok (.iadd, 1) := by decide +kernel
theorem dL_law_1091 : decode cL_law 1091 = .ok (.iaload, 1) := by decide +kernel
theorem dL_law_1092 : decode cL_law 1092 = .ok (.invokevirtual 130, 3) := by decide +kernel
theorem dL_law_1095 : decode cL_law 1095 = .ok (.if_icmp .eq 429, 3) := by decide +kernel
theorem dL_law_1098 : decode cL_law 1098 = .ok (.iconst 0, 1) := by decide +kernel
theorem dL_law_1099 : decode cL_law 1099 = .ok (.ireturn, 1) := by decide +kernel
theorem dL_law_1100 : decode cL_law 1100 = .ok (.aload_n 1, 1) := by decide +kernel
theorem dL_law_1101 : decode cL_law 1101 = .ok (.aload_n 0, 1) := by decide +kernel
theorem dL_law_1102 : decode cL_law 1102 = .ok (.iload_n 3, 1) := by decide +kernel
theorem dL_law_1103 : decode cL_law 1103 = .ok (.iconst 1, 1) := by decide +kernel
theorem dL_law_1104 : decode cL_law 1104 = .ok (.iadd, 1) := by decide +kernel
theorem dL_law_1105 : decode cL_law 1105 = .ok (.iaload, 1) := by decide +kernel
theorem dL_law_1106 : decode cL_law 1106 = .ok (.aload_n 0, 1) := by decide +kernel
theorem dL_law_1107 : decode cL_law 1107 = .ok (.iload_n 3, 1) := by decide +kernel
theorem dL_law_1108 : decode cL_law 1108 = .ok (.iconst 2, 1) := by decide +kernel
theorem dL_law_1109 : decode cL_law 1109 = .ok (.iadd, 1) := by decide +kernel
theorem dL_law_1110 : decode cL_law 1110 = .ok (.iaload, 1) := by decide +kernel
theorem dL_law_1111 : decode cL_law 1111 = .ok (.invokevirtual 131, 3) := by decide +kernel
theorem dL_law_1114 : decode cL_law 1114 = .ok (.aload_n 2, 1) := by decide +kernel
theorem dL_law_1115 : decode cL_law 1115 = .ok (.aload_n 0, 1) := by decide +kernel
theorem dL_law_1116 : decode cL_law 1116 = .ok (.iload_n 3, 1) := by decide +kernel
theorem dL_law_1117 : decode cL_law 1117 = .ok (.iconst 1, 1) := by decide +kernel
theorem dL_law_1118 : decode cL_law 1118 = .ok (.iadd, 1) := by decide +kernel
theorem dL_law_1119 : decode cL_law 1119 = .ok (.iaload, 1) := by decide +kernel
theorem dL_law_1120 : decode cL_law 1120 = .ok (.aload_n 0, 1) := by decide +kernel
theorem dL_law_1121 : decode cL_law 1121 = .ok (.iload_n 3, 1) := by decide +kernel
theorem dL_law_1122 : decode cL_law 1122 = .ok (.iconst 2, 1) := by decide +kernel
theorem dL_law_1123 : decode cL_law 1123 = .ok (.iadd, 1) := by decide +kernel
theorem dL_law_1124 : decode cL_law 1124 = .ok (.iaload, 1) := by decide +kernel
theorem dL_law_1125 : decode cL_law 1125 = .ok (.invokevirtual 134, 3) := by decide +kernel
theorem dL_law_1128 : decode cL_law 1128 = .ok (.if_icmp .eq 396, 3) := by decide +kernel
theorem dL_law_1131 : decode cL_law 1131 = .ok (.iconst 0, 1) := by decide +kernel
theorem dL_law_1132 : decode cL_law 1132 = .ok (.ireturn, 1) := by decide +kernel
theorem dL_law_1133 : decode cL_law 1133 = .ok (.aload_n 1, 1) := by decide +kernel
theorem dL_law_1134 : decode cL_law 1134 = .ok (.aload_n 0, 1) := by decide +kernel
theorem dL_law_1135 : decode cL_law 1135 = .ok (.iload_n 3, 1) := by decide +kernel
theorem dL_law_1136 : decode cL_law 1136 = .ok (.iconst 1, 1) := by decide +kernel
theorem dL_law_1137 : decode cL_law 1137 = .ok (.iadd, 1) := by decide +kernel
theorem dL_law_1138 : decode cL_law 1138 = .ok (.iaload, 1) := by decide +kernel
theorem dL_law_1139 : decode cL_law 1139 = .ok (.aload_n 0, 1) := by decide +kernel
theorem dL_law_1140 : decode cL_law 1140 = .ok (.iload_n 3, 1) := by decide +kernel
theorem dL_law_1141 : decode cL_law 1141 = .ok (.iconst 2, 1) := by decide +kernel
theorem dL_law_1142 : decode cL_law 1142 = .ok (.iadd, 1) := by decide +kernel
theorem dL_law_1143 : decode cL_law 1143 = .ok (.iaload, 1) := by decide +kernel
theorem dL_law_1144 : decode cL_law 1144 = .ok (.invokevirtual 135, 3) := by decide +kernel
theorem dL_law_1147 : decode cL_law 1147 = .ok (.aload_n 2, 1) := by decide +kernel
theorem dL_law_1148 : decode cL_law 1148 = .ok (.aload_n 0, 1) := by decide +kernel
theorem dL_law_1149 : decode cL_law 1149 = .ok (.iload_n 3, 1) := by decide +kernel
theorem dL_law_1150 : decode cL_law 1150 = .ok (.iconst 1, 1) := by decide +kernel
theorem dL_law_1151 : decode cL_law 1151 = .ok (.iadd, 1) := by decide +kernel
theorem dL_law_1152 : decode cL_law 1152 = .ok (.iaload, 1) := by decide +kernel
theorem dL_law_1153 : decode cL_law 1153 = .ok (.aload_n 0, 1) := by decide +kernel
theorem dL_law_1154 : decode cL_law 1154 = .ok (.iload_n 3, 1) := by decide +kernel
theorem dL_law_1155 : decode cL_law 1155 = .ok (.iconst 2, 1) := by decide +kernel
theorem dL_law_1156 : decode cL_law 1156 = .ok (.iadd, 1) := by decide +kernel
theorem dL_law_1157 : decode cL_law 1157 = .ok (.iaload, 1) := by decide +kernel
theorem dL_law_1158 : decode cL_law 1158 = .ok (.invokevirtual 138, 3) := by decide +kernel
theorem dL_law_1161 : decode cL_law 1161 = .ok (.if_icmp .eq 363, 3) := by decide +kernel
theorem dL_law_1164 : decode cL_law 1164 = .ok (.iconst 0, 1) := by decide +kernel
theorem dL_law_1165 : decode cL_law 1165 = .ok (.ireturn, 1) := by decide +kernel
theorem dL_law_1166 : decode cL_law 1166 = .ok (.aload_n 1, 1) := by decide +kernel
theorem dL_law_1167 : decode cL_law 1167 = .ok (.aload_n 0, 1) := by decide +kernel
theorem dL_law_1168 : decode cL_law 1168 = .ok (.iload_n 3, 1) := by decide +kernel
theorem dL_law_1169 : decode cL_law 1169 = .ok (.iconst 1, 1) := by decide +kernel
theorem dL_law_1170 : decode cL_law 1170 = .ok (.iadd, 1) := by decide +kernel
theorem dL_law_1171 : decode cL_law 1171 = .ok (.iaload, 1) := by decide +kernel
theorem dL_law_1172 : decode cL_law 1172 = .ok (.aload_n 0, 1) := by decide +kernel
theorem dL_law_1173 : decode cL_law 1173 = .ok (.iload_n 3, 1) := by decide +kernel
theorem dL_law_1174 : decode cL_law 1174 = .ok (.iconst 2, 1) := by decide +kernel
theorem dL_law_1175 : decode cL_law 1175 = .ok (.iadd, 1) := by decide +kernel
theorem dL_law_1176 : decode cL_law 1176 = .ok (.iaload, 1) := by decide +kernel
theorem dL_law_1177 : decode cL_law 1177 = .ok (.aload_n 0, 1) := by decide +kernel
theorem dL_law_1178 : decode cL_law 1178 = .ok (.iload_n 3, 1) := by decide +kernel
theorem dL_law_1179 : decode cL_law 1179 = .ok (.iconst 3, 1) := by decide +kernel
theorem dL_law_1180 : decode cL_law 1180 = .ok (.iadd, 1) := by decide +kernel
theorem dL_law_1181 : decode cL_law 1181 = .ok (.iaload, 1) := by decide +kernel
theorem dL_law_1182 : decode cL_law 1182 = .ok (.invokevirtual 139, 3) := by decide +kernel
theorem dL_law_1185 : decode cL_law 1185 = .ok (.aload_n 2, 1) := by decide +kernel
theorem dL_law_1186 : decode cL_law 1186 = .ok (.aload_n 0, 1) := by decide +kernel
theorem dL_law_1187 : decode cL_law 1187 = .ok (.iload_n 3, 1) := by decide +kernel
theorem dL_law_1188 : decode cL_law 1188 = .ok (.iconst 1, 1) := by decide +kernel
theorem dL_law_1189 : decode cL_law 1189 = .ok (.iadd, 1) := by decide +kernel
theorem dL_law_1190 : decode cL_law 1190 = .ok (.iaload, 1) := by decide +kernel
theorem dL_law_1191 : decode cL_law 1191 = .ok (.aload_n 0, 1) := by decide +kernel
theorem dL_law_1192 : decode cL_law 1192 = .ok (.iload_n 3, 1) := by decide +kernel
theorem dL_law_1193 : decode cL_law 1193 = .ok (.iconst 2, 1) := by decide +kernel
theorem dL_law_1194 : decode cL_law 1194 = .ok (.iadd, 1) := by decide +kernel
theorem dL_law_1195 : decode cL_law 1195 = .ok (.iaload, 1) := by decide +kernel
theorem dL_law_1196 : decode cL_law 1196 = .ok (.aload_n 0, 1) := by decide +kernel
theorem dL_law_1197 : decode cL_law 1197 = .ok (.iload_n 3, 1) := by decide +kernel
theorem dL_law_1198 : decode cL_law 1198 = .ok (.iconst 3, 1) := by decide +kernel
theorem dL_law_1199 : decode cL_law 1199 = .ok (.iadd, 1) := by decide +kernel
theorem dL_law_1200 : decode cL_law 1200 = .ok (.iaload, 1) := by decide +kernel
theorem dL_law_1201 : decode cL_law 1201 = .ok (.invokevirtual 142, 3) := by decide +kernel
theorem dL_law_1204 : decode cL_law 1204 = .ok (.if_icmp .eq 320, 3) := by decide +kernel
theorem dL_law_1207 : decode cL_law 1207 = .ok (.iconst 0, 1) := by decide +kernel
theorem dL_law_1208 : decode cL_law 1208 = .ok (.ireturn, 1) := by decide +kernel
theorem dL_law_1209 : decode cL_law 1209 = .ok (.aload_n 1, 1) := by decide +kernel
theorem dL_law_1210 : decode cL_law 1210 = .ok (.aload_n 0, 1) := by decide +kernel
theorem dL_law_1211 : decode cL_law 1211 = .ok (.iload_n 3, 1) := by decide +kernel
theorem dL_law_1212 : decode cL_law 1212 = .ok (.iconst 1, 1) := by decide +kernel
theorem dL_law_1213 : decode cL_law 1213 = .ok (.iadd, 1) := by decide +kernel
theorem dL_law_1214 : decode cL_law 1214 = .ok (.iaload, 1) := by decide +kernel
theorem dL_law_1215 : decode cL_law 1215 = .ok (.aload_n 0, 1) := by decide +kernel
theorem dL_law_1216 : decode cL_law 1216 = .ok (.iload_n 3, 1) := by decide +kernel
theorem dL_law_1217 : decode cL_law 1217 = .ok (.iconst 2, 1) := by decide +kernel
theorem dL_law_1218 : decode cL_law 1218 = .ok (.iadd, 1) := by decide +kernel
theorem dL_law_1219 : decode cL_law 1219 = .ok (.iaload, 1) := by decide +kernel
theorem dL_law_1220 : decode cL_law 1220 = .ok (.aload_n 0, 1) := by decide +kernel
theorem dL_law_1221 : decode cL_law 1221 = .ok (.iload_n 3, 1) := by decide +kernel
theorem dL_law_1222 : decode cL_law 1222 = .ok (.iconst 3, 1) := by decide +kernel
theorem dL_law_1223 : decode cL_law 1223 = .ok (.iadd, 1) := by decide +kernel
theorem dL_law_1224 : decode cL_law 1224 = .ok (.iaload, 1) := by decide +kernel
theorem dL_law_1225 : decode cL_law 1225 = .ok (.aload_n 0, 1) := by decide +kernel
theorem dL_law_1226 : decode cL_law 1226 = .ok (.iload_n 3, 1) := by decide +kernel
theorem dL_law_1227 : decode cL_law 1227 = .ok (.iconst 4, 1) := by decide +kernel
theorem dL_law_1228 : decode cL_law 1228 = .ok (.iadd, 1) := by decide +kernel
theorem dL_law_1229 : decode cL_law 1229 = .ok (.iaload, 1) := by decide +kernel
theorem dL_law_1230 : decode cL_law 1230 = .ok (.invokevirtual 143, 3) := by decide +kernel
theorem dL_law_1233 : decode cL_law 1233 = .ok (.aload_n 2, 1) := by decide +kernel
theorem dL_law_1234 : decode cL_law 1234 = .ok (.aload_n 0, 1) := by decide +kernel
theorem dL_law_1235 : decode cL_law 1235 = .ok (.iload_n 3, 1) := by decide +kernel
theorem dL_law_1236 : decode cL_law 1236 = .ok (.iconst 1, 1) := by decide +kernel
theorem dL_law_1237 : decode cL_law 1237 = .ok (.iadd, 1) := by decide +kernel
theorem dL_law_1238 : decode cL_law 1238 = .ok (.iaload, 1) := by decide +kernel
theorem dL_law_1239 : decode cL_law 1239 = .ok (.aload_n 0, 1) := by decide +kernel
theorem dL_law_1240 : decode cL_law 1240 = .ok (.iload_n 3, 1) := by decide +kernel
theorem dL_law_1241 : decode cL_law 1241 = .ok (.iconst 2, 1) := by decide +kernel
theorem dL_law_1242 : decode cL_law 1242 = .ok (.iadd, 1) := by decide +kernel
theorem dL_law_1243 : decode cL_law 1243 = .ok (.iaload, 1) := by decide +kernel
theorem dL_law_1244 : decode cL_law 1244 = .ok (.aload_n 0, 1) := by decide +kernel
theorem dL_law_1245 : decode cL_law 1245 = .ok (.iload_n 3, 1) := by decide +kernel
theorem dL_law_1246 : decode cL_law 1246 = .ok (.iconst 3, 1) := by decide +kernel
theorem dL_law_1247 : decode cL_law 1247 = .ok (.iadd, 1) := by decide +kernel
theorem dL_law_1248 : decode cL_law 1248 = .ok (.iaload, 1) := by decide +kernel
theorem dL_law_1249 : decode cL_law 1249 = .ok (.aload_n 0, 1) := by decide +kernel
theorem dL_law_1250 : decode cL_law 1250 = .ok (.iload_n 3, 1) := by decide +kernel
theorem dL_law_1251 : decode cL_law 1251 = .ok (.iconst 4, 1) := by decide +kernel
theorem dL_law_1252 : decode cL_law 1252 = .ok (.iadd, 1) := by decide +kernel
theorem dL_law_1253 : decode cL_law 1253 = .ok (.iaload, 1) := by decide +kernel
theorem dL_law_1254 : decode cL_law 1254 = .ok (.invokevirtual 147, 3) := by decide +kernel
theorem dL_law_1257 : decode cL_law 1257 = .ok (.lcmp, 1) := by decide +kernel
theorem dL_law_1258 : decode cL_law 1258 = .ok (.ifCond .eq 266, 3) := by decide +kernel
theorem dL_law_1261 : decode cL_law 1261 = .ok (.iconst 0, 1) := by decide +kernel
theorem dL_law_1262 : decode cL_law 1262 = .ok (.ireturn, 1) := by decide +kernel
theorem dL_law_1263 : decode cL_law 1263 = .ok (.aload_n 1, 1) := by decide +kernel
theorem dL_law_1264 : decode cL_law 1264 = .ok (.invokevirtual 148, 3) := by decide +kernel
theorem dL_law_1267 : decode cL_law 1267 = .ok (.aload_n 2, 1) := by decide +kernel
theorem dL_law_1268 : decode cL_law 1268 = .ok (.invokevirtual 151, 3) := by decide +kernel
theorem dL_law_1271 : decode cL_law 1271 = .ok (.if_icmp .eq 253, 3) := by decide +kernel
theorem dL_law_1274 : decode cL_law 1274 = .ok (.iconst 0, 1) := by decide +kernel
theorem dL_law_1275 : decode cL_law 1275 = .ok (.ireturn, 1) := by decide +kernel
theorem dL_law_1276 : decode cL_law 1276 = .ok (.aload_n 1, 1) := by decide +kernel
theorem dL_law_1277 : decode cL_law 1277 = .ok (.invokevirtual 152, 3) := by decide +kernel
theorem dL_law_1280 : decode cL_law 1280 = .ok (.aload_n 2, 1) := by decide +kernel
theorem dL_law_1281 : decode cL_law 1281 = .ok (.invokevirtual 155, 3) := by decide +kernel
theorem dL_law_1284 : decode cL_law 1284 = .ok (.if_icmp .eq 240, 3) := by decide +kernel
theorem dL_law_1287 : decode cL_law 1287 = .ok (.iconst 0, 1) := by decide +kernel
theorem dL_law_1288 : decode cL_law 1288 = .ok (.ireturn, 1) := by decide +kernel
theorem dL_law_1289 : decode cL_law 1289 = .ok (.aload_n 1, 1) := by decide +kernel
theorem dL_law_1290 : decode cL_law 1290 = .ok (.aload_n 0, 1) := by decide +kernel
theorem dL_law_1291 : decode cL_law 1291 = .ok (.iload_n 3, 1) := by decide +kernel
theorem dL_law_1292 : decode cL_law 1292 = .ok (.iconst 1, 1) := by decide +kernel
theorem dL_law_1293 : decode cL_law 1293 = .ok (.iadd, 1) := by decide +kernel
theorem dL_law_1294 : decode cL_law 1294 = .ok (.iaload, 1) := by decide +kernel
theorem dL_law_1295 : decode cL_law 1295 = .ok (.aload_n 0, 1) := by decide +kernel
theorem dL_law_1296 : decode cL_law 1296 = .ok (.iload_n 3, 1) := by decide +kernel
theorem dL_law_1297 : decode cL_law 1297 = .ok (.iconst 2, 1) := by decide +kernel
theorem dL_law_1298 : decode cL_law 1298 = .ok (.iadd, 1) := by decide +kernel
theorem dL_law_1299 : decode cL_law 1299 = .ok (.iaload, 1) := by decide +kernel
theorem dL_law_1300 : decode cL_law 1300 = .ok (.aload_n 0, 1) := by decide +kernel
theorem dL_law_1301 : decode cL_law 1301 = .ok (.iload_n 3, 1) := by decide +kernel
theorem dL_law_1302 : decode cL_law 1302 = .ok (.iconst 3, 1) := by decide +kernel
theorem dL_law_1303 : decode cL_law 1303 = .ok (.iadd, 1) := by decide +kernel
theorem dL_law_1304 : decode cL_law 1304 = .ok (.iaload, 1) := by decide +kernel
theorem dL_law_1305 : decode cL_law 1305 = .ok (.invokevirtual 156, 3) := by decide +kernel
theorem dL_law_1308 : decode cL_law 1308 = .ok (.aload_n 2, 1) := by decide +kernel
theorem dL_law_1309 : decode cL_law 1309 = .ok (.aload_n 0, 1) := by decide +kernel
theorem dL_law_1310 : decode cL_law 1310 = .ok (.iload_n 3, 1) := by decide +kernel
theorem dL_law_1311 : decode cL_law 1311 = .ok (.iconst 1, 1) := by decide +kernel
theorem dL_law_1312 : decode cL_law 1312 = .ok (.iadd, 1) := by decide +kernel
theorem dL_law_1313 : decode cL_law 1313 = .ok (.iaload, 1) := by decide +kernel
theorem dL_law_1314 : decode cL_law 1314 = .ok (.aload_n 0, 1) := by decide +kernel
theorem dL_law_1315 : decode cL_law 1315 = .ok (.iload_n 3, 1) := by decide +kernel
theorem dL_law_1316 : decode cL_law 1316 = .ok (.iconst 2, 1) := by decide +kernel
theorem dL_law_1317 : decode cL_law 1317 = .ok (.iadd, 1) := by decide +kernel
theorem dL_law_1318 : decode cL_law 1318 = .ok (.iaload, 1) := by decide +kernel
theorem dL_law_1319 : decode cL_law 1319 = .ok (.aload_n 0, 1) := by decide +kernel
theorem dL_law_1320 : decode cL_law 1320 = .ok (.iload_n 3, 1) := by decide +kernel
theorem dL_law_1321 : decode cL_law 1321 = .ok (.iconst 3, 1) := by decide +kernel
theorem dL_law_1322 : decode cL_law 1322 = .ok (.iadd, 1) := by decide +kernel
theorem dL_law_1323 : decode cL_law 1323 = .ok (.iaload, 1) := by decide +kernel
theorem dL_law_1324 : decode cL_law 1324 = .ok (.invokevirtual 159, 3) := by decide +kernel
theorem dL_law_1327 : decode cL_law 1327 = .ok (.if_icmp .eq 197, 3) := by decide +kernel
theorem dL_law_1330 : decode cL_law 1330 = .ok (.iconst 0, 1) := by decide +kernel
theorem dL_law_1331 : decode cL_law 1331 = .ok (.ireturn, 1) := by decide +kernel
theorem dL_law_1332 : decode cL_law 1332 = .ok (.aload_n 1, 1) := by decide +kernel
theorem dL_law_1333 : decode cL_law 1333 = .ok (.aload_n 0, 1) := by decide +kernel
theorem dL_law_1334 : decode cL_law 1334 = .ok (.iload_n 3, 1) := by decide +kernel
theorem dL_law_1335 : decode cL_law 1335 = .ok (.iconst 1, 1) := by decide +kernel
theorem dL_law_1336 : decode cL_law 1336 = .ok (.iadd, 1) := by decide +kernel
theorem dL_law_1337 : decode cL_law 1337 = .ok (.iaload, 1) := by decide +kernel
theorem dL_law_1338 : decode cL_law 1338 = .ok (.aload_n 0, 1) := by decide +kernel
theorem dL_law_1339 : decode cL_law 1339 = .ok (.iload_n 3, 1) := by decide +kernel
theorem dL_law_1340 : decode cL_law 1340 = .ok (.iconst 2, 1) := by decide +kernel
theorem dL_law_1341 : decode cL_law 1341 = .ok (.iadd, 1) := by decide +kernel
theorem dL_law_1342 : decode cL_law 1342 = .ok (.iaload, 1) := by decide +kernel
theorem dL_law_1343 : decode cL_law 1343 = .ok (.aload_n 0, 1) := by decide +kernel
theorem dL_law_1344 : decode cL_law 1344 = .ok (.iload_n 3, 1) := by decide +kernel
theorem dL_law_1345 : decode cL_law 1345 = .ok (.iconst 3, 1) := by decide +kernel
theorem dL_law_1346 : decode cL_law 1346 = .ok (.iadd, 1) := by decide +kernel
theorem dL_law_1347 : decode cL_law 1347 = .ok (.iaload, 1) := by decide +kernel
theorem dL_law_1348 : decode cL_law 1348 = .ok (.invokevirtual 160, 3) := by decide +kernel
theorem dL_law_1351 : decode cL_law 1351 = .ok (.aload_n 2, 1) := by decide +kernel
theorem dL_law_1352 : decode cL_law 1352 = .ok (.aload_n 0, 1) := by decide +kernel
theorem dL_law_1353 : decode cL_law 1353 = .ok (.iload_n 3, 1) := by decide +kernel
theorem dL_law_1354 : decode cL_law 1354 = .ok (.iconst 1, 1) := by decide +kernel
theorem dL_law_1355 : decode cL_law 1355 = .ok (.iadd, 1) := by decide +kernel
theorem dL_law_1356 : decode cL_law 1356 = .ok (.iaload, 1) := by decide +kernel
theorem dL_law_1357 : decode cL_law 1357 = .ok (.aload_n 0, 1) := by decide +kernel
theorem dL_law_1358 : decode cL_law 1358 = .ok (.iload_n 3, 1) := by decide +kernel
theorem dL_law_1359 : decode cL_law 1359 = .ok (.iconst 2, 1) := by decide +kernel
theorem dL_law_1360 : decode cL_law 1360 = .ok (.iadd, 1) := by decide +kernel
theorem dL_law_1361 : decode cL_law 1361 = .ok (.iaload, 1) := by decide +kernel
theorem dL_law_1362 : decode cL_law 1362 = .ok (.aload_n 0, 1) := by decide +kernel
theorem dL_law_1363 : decode cL_law 1363 = .ok (.iload_n 3, 1) := by decide +kernel
theorem dL_law_1364 : decode cL_law 1364 = .ok (.iconst 3, 1) := by decide +kernel
theorem dL_law_1365 : decode cL_law 1365 = .ok (.iadd, 1) := by decide +kernel
theorem dL_law_1366 : decode cL_law 1366 = .ok (.iaload, 1) := by decide +kernel
theorem dL_law_1367 : decode cL_law 1367 = .ok (.invokevirtual 163, 3) := by decide +kernel
theorem dL_law_1370 : decode cL_law 1370 = .ok (.if_icmp .eq 154, 3) := by decide +kernel
theorem dL_law_1373 : decode cL_law 1373 = .ok (.iconst 0, 1) := by decide +kernel
theorem dL_law_1374 : decode cL_law 1374 = .ok (.ireturn, 1) := by decide +kernel
theorem dL_law_1375 : decode cL_law 1375 = .ok (.aload_n 1, 1) := by decide +kernel
theorem dL_law_1376 : decode cL_law 1376 = .ok (.aload_n 0, 1) := by decide +kernel
theorem dL_law_1377 : decode cL_law 1377 = .ok (.iload_n 3, 1) := by decide +kernel
theorem dL_law_1378 : decode cL_law 1378 = .ok (.iconst 1, 1) := by decide +kernel
theorem dL_law_1379 : decode cL_law 1379 = .ok (.iadd, 1) := by decide +kernel
theorem dL_law_1380 : decode cL_law 1380 = .ok (.iaload, 1) := by decide +kernel
theorem dL_law_1381 : decode cL_law 1381 = .ok (.aload_n 0, 1) := by decide +kernel
theorem dL_law_1382 : decode cL_law 1382 = .ok (.iload_n 3, 1) := by decide +kernel
theorem dL_law_1383 : decode cL_law 1383 = .ok (.iconst 2, 1) := by decide +kernel
theorem dL_law_1384 : decode cL_law 1384 = .ok (.iadd, 1) := by decide +kernel
theorem dL_law_1385 : decode cL_law 1385 = .ok (.iaload, 1) := by decide +kernel
theorem dL_law_1386 : decode cL_law 1386 = .ok (.aload_n 0, 1) := by decide +kernel
theorem dL_law_1387 : decode cL_law 1387 = .ok (.iload_n 3, 1) := by decide +kernel
theorem dL_law_1388 : decode cL_law 1388 = .ok (.iconst 3, 1) := by decide +kernel
theorem dL_law_1389 : decode cL_law 1389 = .ok (.iadd, 1) := by decide +kernel
theorem dL_law_1390 : decode cL_law 1390 = .ok (.iaload, 1) := by decide +kernel
theorem dL_law_1391 : decode cL_law 1391 = .ok (.aload_n 0, 1) := by decide +kernel
theorem dL_law_1392 : decode cL_law 1392 = .ok (.iload_n 3, 1) := by decide +kernel
theorem dL_law_1393 : decode cL_law 1393 = .ok (.iconst 4, 1) := by decide +kernel
theorem dL_law_1394 : decode cL_law 1394 = .ok (.iadd, 1) := by decide +kernel
theorem dL_law_1395 : decode cL_law 1395 = .ok (.iaload, 1) := by decide +kernel
theorem dL_law_1396 : decode cL_law 1396 = .ok (.aload_n 0, 1) := by decide +kernel
theorem dL_law_1397 : decode cL_law 1397 = .ok (.iload_n 3, 1) := by decide +kernel
theorem dL_law_1398 : decode cL_law 1398 = .ok (.iconst 5, 1) := by decide +kernel
theorem dL_law_1399 : decode cL_law 1399 = .ok (.iadd, 1) := by decide +kernel
theorem dL_law_1400 : decode cL_law 1400 = .ok (.iaload, 1) := by decide +kernel
theorem dL_law_1401 : decode cL_law 1401 = .ok (.invokevirtual 164, 3) := by decide +kernel
theorem dL_law_1404 : decode cL_law 1404 = .ok (.aload_n 2, 1) := by decide +kernel
theorem dL_law_1405 : decode cL_law 1405 = .ok (.aload_n 0, 1) := by decide +kernel
theorem dL_law_1406 : decode cL_law 1406 = .ok (.iload_n 3, 1) := by decide +kernel
theorem dL_law_1407 : decode cL_law 1407 = .ok (.iconst 1, 1) := by decide +kernel
theorem dL_law_1408 : decode cL_law 1408 = .ok (.iadd, 1) := by decide +kernel
theorem dL_law_1409 : decode cL_law 1409 = .ok (.iaload, 1) := by decide +kernel
theorem dL_law_1410 : decode cL_law 1410 = .ok (.aload_n 0, 1) := by decide +kernel
theorem dL_law_1411 : decode cL_law 1411 = .ok (.iload_n 3, 1) := by decide +kernel
theorem dL_law_1412 : decode cL_law 1412 = .ok (.iconst 2, 1) := by decide +kernel
theorem dL_law_1413 : decode cL_law 1413 = .ok (.iadd, 1) := by decide +kernel
theorem dL_law_1414 : decode cL_law 1414 = .ok (.iaload, 1) := by decide +kernel
theorem dL_law_1415 : decode cL_law 1415 = .ok (.aload_n 0, 1) := by decide +kernel
theorem dL_law_1416 : decode cL_law 1416 = .ok (.iload_n 3, 1) := by decide +kernel
theorem dL_law_1417 : decode cL_law 1417 = .ok (.iconst 3, 1) := by decide +kernel
theorem dL_law_1418 : decode cL_law 1418 = .ok (.iadd, 1) := by decide +kernel
theorem dL_law_1419 : decode cL_law 1419 = .ok (.iaload, 1) := by decide +kernel
theorem dL_law_1420 : decode cL_law 1420 = .ok (.aload_n 0, 1) := by decide +kernel
theorem dL_law_1421 : decode cL_law 1421 = .ok (.iload_n 3, 1) := by decide +kernel
theorem dL_law_1422 : decode cL_law 1422 = .ok (.iconst 4, 1) := by decide +kernel
theorem dL_law_1423 : decode cL_law 1423 = .ok (.iadd, 1) := by decide +kernel
theorem dL_law_1424 : decode cL_law 1424 = .ok (.iaload, 1) := by decide +kernel
theorem dL_law_1425 : decode cL_law 1425 = .ok (.aload_n 0, 1) := by decide +kernel
theorem dL_law_1426 : decode cL_law 1426 = .ok (.iload_n 3, 1) := by decide +kernel
theorem dL_law_1427 : decode cL_law 1427 = .ok (.iconst 5, 1) := by decide +kernel
theorem dL_law_1428 : decode cL_law 1428 = .ok (.iadd, 1) := by decide +kernel
theorem dL_law_1429 : decode cL_law 1429 = .ok (.iaload, 1) := by decide +kernel
theorem dL_law_1430 : decode cL_law 1430 = .ok (.invokevirtual 168, 3) := by decide +kernel
theorem dL_law_1433 : decode cL_law 1433 = .ok (.if_icmp .eq 91, 3) := by decide +kernel
theorem dL_law_1436 : decode cL_law 1436 = .ok (.iconst 0, 1) := by decide +kernel
theorem dL_law_1437 : decode cL_law 1437 = .ok (.ireturn, 1) := by decide +kernel
theorem dL_law_1438 : decode cL_law 1438 = .ok (.aload_n 1, 1) := by decide +kernel
theorem dL_law_1439 : decode cL_law 1439 = .ok (.aload_n 0, 1) := by decide +kernel
theorem dL_law_1440 : decode cL_law 1440 = .ok (.iload_n 3, 1) := by decide +kernel
theorem dL_law_1441 : decode cL_law 1441 = .ok (.iconst 1, 1) := by decide +kernel
theorem dL_law_1442 : decode cL_law 1442 = .ok (.iadd, 1) := by decide +kernel
theorem dL_law_1443 : decode cL_law 1443 = .ok (.iaload, 1) := by decide +kernel
theorem dL_law_1444 : decode cL_law 1444 = .ok (.aload_n 0, 1) := by decide +kernel
theorem dL_law_1445 : decode cL_law 1445 = .ok (.iload_n 3, 1) := by decide +kernel
theorem dL_law_1446 : decode cL_law 1446 = .ok (.iconst 2, 1) := by decide +kernel
theorem dL_law_1447 : decode cL_law 1447 = .ok (.iadd, 1) := by decide +kernel
theorem dL_law_1448 : decode cL_law 1448 = .ok (.iaload, 1) := by decide +kernel
theorem dL_law_1449 : decode cL_law 1449 = .ok (.aload_n 0, 1) := by decide +kernel
theorem dL_law_1450 : decode cL_law 1450 = .ok (.iload_n 3, 1) := by decide +kernel
theorem dL_law_1451 : decode cL_law 1451 = .ok (.iconst 3, 1) := by decide +kernel
theorem dL_law_1452 : decode cL_law 1452 = .ok (.iadd, 1) := by decide +kernel
theorem dL_law_1453 : decode cL_law 1453 = .ok (.iaload, 1) := by decide +kernel
theorem dL_law_1454 : decode cL_law 1454 = .ok (.aload_n 0, 1) := by decide +kernel
theorem dL_law_1455 : decode cL_law 1455 = .ok (.iload_n 3, 1) := by decide +kernel
theorem dL_law_1456 : decode cL_law 1456 = .ok (.iconst 4, 1) := by decide +kernel
theorem dL_law_1457 : decode cL_law 1457 = .ok (.iadd, 1) := by decide +kernel
theorem dL_law_1458 : decode cL_law 1458 = .ok (.iaload, 1) := by decide +kernel
theorem dL_law_1459 : decode cL_law 1459 = .ok (.invokevirtual 169, 3) := by decide +kernel
theorem dL_law_1462 : decode cL_law 1462 = .ok (.aload_n 2, 1) := by decide +kernel
theorem dL_law_1463 : decode cL_law 1463 = .ok (.aload_n 0, 1) := by decide +kernel
theorem dL_law_1464 : decode cL_law 1464 = .ok (.iload_n 3, 1) := by decide +kernel
theorem dL_law_1465 : decode cL_law 1465 = .ok (.iconst 1, 1) := by decide +kernel
theorem dL_law_1466 : decode cL_law 1466 = .ok (.iadd, 1) := by decide +kernel
theorem dL_law_1467 : decode cL_law 1467 = .ok (.iaload, 1) := by decide +kernel
theorem dL_law_1468 : decode cL_law 1468 = .ok (.aload_n 0, 1) := by decide +kernel
theorem dL_law_1469 : decode cL_law 1469 = .ok (.iload_n 3, 1) := by decide +kernel
theorem dL_law_1470 : decode cL_law 1470 = .ok (.iconst 2, 1) := by decide +kernel
theorem dL_law_1471 : decode cL_law 1471 = .ok (.iadd, 1) := by decide +kernel
theorem dL_law_1472 : decode cL_law 1472 = .ok (.iaload, 1) := by decide +kernel
theorem dL_law_1473 : decode cL_law 1473 = .ok (.aload_n 0, 1) := by decide +kernel
theorem dL_law_1474 : decode cL_law 1474 = .ok (.iload_n 3, 1) := by decide +kernel
theorem dL_law_1475 : decode cL_law 1475 = .ok (.iconst 3, 1) := by decide +kernel
theorem dL_law_1476 : decode cL_law 1476 = .ok (.iadd, 1) := by decide +kernel
theorem dL_law_1477 : decode cL_law 1477 = .ok (.iaload, 1) := by decide +kernel
theorem dL_law_1478 : decode cL_law 1478 = .ok (.aload_n 0, 1) := by decide +kernel
theorem dL_law_1479 : decode cL_law 1479 = .ok (.iload_n 3, 1) := by decide +kernel
theorem dL_law_1480 : decode cL_law 1480 = .ok (.iconst 4, 1) := by decide +kernel
theorem dL_law_1481 : decode cL_law 1481 = .ok (.iadd, 1) := by decide +kernel
theorem dL_law_1482 : decode cL_law 1482 = .ok (.iaload, 1) := by decide +kernel
theorem dL_law_1483 : decode cL_law 1483 = .ok (.invokevirtual 172, 3) := by decide +kernel
theorem dL_law_1486 : decode cL_law 1486 = .ok (.if_icmp .eq 38, 3) := by decide +kernel
theorem dL_law_1489 : decode cL_law 1489 = .ok (.iconst 0, 1) := by decide +kernel
theorem dL_law_1490 : decode cL_law 1490 = .ok (.ireturn, 1) := by decide +kernel
theorem dL_law_1491 : decode cL_law 1491 = .ok (.aload_n 1, 1) := by decide +kernel
theorem dL_law_1492 : decode cL_law 1492 = .ok (.aload_n 0, 1) := by decide +kernel
theorem dL_law_1493 : decode cL_law 1493 = .ok (.iload_n 3, 1) := by decide +kernel
theorem dL_law_1494 : decode cL_law 1494 = .ok (.iconst 1, 1) := by decide +kernel
theorem dL_law_1495 : decode cL_law 1495 = .ok (.iadd, 1) := by decide +kernel
theorem dL_law_1496 : decode cL_law 1496 = .ok (.iaload, 1) := by decide +kernel
theorem dL_law_1497 : decode cL_law 1497 = .ok (.aload_n 0, 1) := by decide +kernel
theorem dL_law_1498 : decode cL_law 1498 = .ok (.iload_n 3, 1) := by decide +kernel
theorem dL_law_1499 : decode cL_law 1499 = .ok (.iconst 2, 1) := by decide +kernel
theorem dL_law_1500 : decode cL_law 1500 = .ok (.iadd, 1) := by decide +kernel
theorem dL_law_1501 : decode cL_law 1501 = .ok (.iaload, 1) := by decide +kernel
theorem dL_law_1502 : decode cL_law 1502 = .ok (.invokevirtual 173, 3) := by decide +kernel
theorem dL_law_1505 : decode cL_law 1505 = .ok (.aload_n 2, 1) := by decide +kernel
theorem dL_law_1506 : decode cL_law 1506 = .ok (.aload_n 0, 1) := by decide +kernel
theorem dL_law_1507 : decode cL_law 1507 = .ok (.iload_n 3, 1) := by decide +kernel
theorem dL_law_1508 : decode cL_law 1508 = .ok (.iconst 1, 1) := by decide +kernel
theorem dL_law_1509 : decode cL_law 1509 = .ok (.iadd, 1) := by decide +kernel
theorem dL_law_1510 : decode cL_law 1510 = .ok (.iaload, 1) := by decide +kernel
theorem dL_law_1511 : decode cL_law 1511 = .ok (.aload_n 0, 1) := by decide +kernel
theorem dL_law_1512 : decode cL_law 1512 = .ok (.iload_n 3, 1) := by decide +kernel
theorem dL_law_1513 : decode cL_law 1513 = .ok (.iconst 2, 1) := by decide +kernel
theorem dL_law_1514 : decode cL_law 1514 = .ok (.iadd, 1) := by decide +kernel
theorem dL_law_1515 : decode cL_law 1515 = .ok (.iaload, 1) := by decide +kernel
theorem dL_law_1516 : decode cL_law 1516 = .ok (.invokevirtual 176, 3) := by decide +kernel
theorem dL_law_1519 : decode cL_law 1519 = .ok (.if_icmp .eq 5, 3) := by decide +kernel
theorem dL_law_1522 : decode cL_law 1522 = .ok (.iconst 0, 1) := by decide +kernel
theorem dL_law_1523 : decode cL_law 1523 = .ok (.ireturn, 1) := by decide +kernel
theorem dL_law_1524 : decode cL_law 1524 = .ok (.iinc 3 7, 3) := by decide +kernel
theorem dL_law_1527 : decode cL_law 1527 = .ok (.goto (-1509), 3) := by decide +kernel
theorem dL_law_1530 : decode cL_law 1530 = .ok (.iconst 1, 1) := by decide +kernel
theorem dL_law_1531 : decode cL_law 1531 = .ok (.ireturn, 1) := by decide +kernel
