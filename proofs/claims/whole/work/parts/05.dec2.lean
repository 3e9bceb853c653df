theorem dX6_init_0 : decode cX6_init 0 = .ok (.aload_n 0, 1) := by decide +kernel
theorem dX6_init_1 : decode cX6_init 1 = .ok (.invokespecial 1, 3) := by decide +kernel
theorem dX6_init_4 : decode cX6_init 4 = .ok (.aload_n 0, 1) := by decide +kernel
theorem dX6_init_5 : decode cX6_init 5 = .ok (.sipush 3120, 3) := by decide +kernel
theorem dX6_init_8 : decode cX6_init 8 = .ok (.newarray .long, 2) := by decide +kernel
theorem dX6_init_10 : decode cX6_init 10 = .ok (.putfield 7, 3) := by decide +kernel
theorem dX6_init_13 : decode cX6_init 13 = .ok (.aload_n 0, 1) := by decide +kernel
theorem dX6_init_14 : decode cX6_init 14 = .ok (.iconst 3, 1) := by decide +kernel
theorem dX6_init_15 : decode cX6_init 15 = .ok (.newarray .int, 2) := by decide +kernel
theorem dX6_init_17 : decode cX6_init 17 = .ok (.putfield 13, 3) := by decide +kernel
theorem dX6_init_20 : decode cX6_init 20 = .ok (.aload_n 0, 1) := by decide +kernel
theorem dX6_init_21 : decode cX6_init 21 = .ok (.bipush 120, 2) := by decide +kernel
theorem dX6_init_23 : decode cX6_init 23 = .ok (.newarray .int, 2) := by decide +kernel
theorem dX6_init_25 : decode cX6_init 25 = .ok (.putfield 17, 3) := by decide +kernel
theorem dX6_init_28 : decode cX6_init 28 = .ok (.aload_n 0, 1) := by decide +kernel
theorem dX6_init_29 : decode cX6_init 29 = .ok (.bipush 10, 2) := by decide +kernel
theorem dX6_init_31 : decode cX6_init 31 = .ok (.newarray .int, 2) := by decide +kernel
theorem dX6_init_33 : decode cX6_init 33 = .ok (.putfield 20, 3) := by decide +kernel
theorem dX6_init_36 : decode cX6_init 36 = .ok (.aload_n 0, 1) := by decide +kernel
theorem dX6_init_37 : decode cX6_init 37 = .ok (.bipush 10, 2) := by decide +kernel
theorem dX6_init_39 : decode cX6_init 39 = .ok (.newarray .int, 2) := by decide +kernel
theorem dX6_init_41 : decode cX6_init 41 = .ok (.putfield 23, 3) := by decide +kernel
theorem dX6_init_44 : decode cX6_init 44 = .ok (.aload_n 0, 1) := by decide +kernel
theorem dX6_init_45 : decode cX6_init 45 = .ok (.iconst 4, 1) := by decide +kernel
theorem dX6_init_46 : decode cX6_init 46 = .ok (.newarray .int, 2) := by decide +kernel
theorem dX6_init_48 : decode cX6_init 48 = .ok (.putfield 26, 3) := by decide +kernel
theorem dX6_init_51 : decode cX6_init 51 = .ok (.aload_n 0, 1) := by decide +kernel
theorem dX6_init_52 : decode cX6_init 52 = .ok (.bipush 54, 2) := by decide +kernel
theorem dX6_init_54 : decode cX6_init 54 = .ok (.newarray .char, 2) := by decide +kernel
theorem dX6_init_56 : decode cX6_init 56 = .ok (.dup, 1) := by decide +kernel
theorem dX6_init_57 : decode cX6_init 57 = .ok (.iconst 0, 1) := by decide +kernel
theorem dX6_init_58 : decode cX6_init 58 = .ok (.bipush 98, 2) := by decide +kernel
theorem dX6_init_60 : decode cX6_init 60 = .ok (.castore, 1) := by decide +kernel
theorem dX6_init_61 : decode cX6_init 61 = .ok (.dup, 1) := by decide +kernel
theorem dX6_init_62 : decode cX6_init 62 = .ok (.iconst 1, 1) := by decide +kernel
theorem dX6_init_63 : decode cX6_init 63 = .ok (.bipush 101, 2) := by decide +kernel
theorem dX6_init_65 : decode cX6_init 65 = .ok (.castore, 1) := by decide +kernel
theorem dX6_init_66 : decode cX6_init 66 = .ok (.dup, 1) := by decide +kernel
theorem dX6_init_67 : decode cX6_init 67 = .ok (.iconst 2, 1) := by decide +kernel
theorem dX6_init_68 : decode cX6_init 68 = .ok (.bipush 32, 2) := by decide +kernel
theorem dX6_init_70 : decode cX6_init 70 = .ok (.castore, 1) := by decide +kernel
theorem dX6_init_71 : decode cX6_init 71 = .ok (.dup, 1) := by decide +kernel
theorem dX6_init_72 : decode cX6_init 72 = .ok (.iconst 3, 1) := by decide +kernel
theorem dX6_init_73 : decode cX6_init 73 = .ok (.bipush 98, 2) := by decide +kernel
theorem dX6_init_75 : decode cX6_init 75 = .ok (.castore, 1) := by decide +kernel
theorem dX6_init_76 : decode cX6_init 76 = .ok (.dup, 1) := by decide +kernel
theorem dX6_init_77 : decode cX6_init 77 = .ok (.iconst 4, 1) := by decide +kernel
theorem dX6_init_78 : decode cX6_init 78 = .ok (.bipush 111, 2) := by decide +kernel
theorem dX6_init_80 : decode cX6_init 80 = .ok (.castore, 1) := by decide +kernel
theorem dX6_init_81 : decode cX6_init 81 = .ok (.dup, 1) := by decide +kernel
theorem dX6_init_82 : decode cX6_init 82 = .ok (.iconst 5, 1) := by decide +kernel
theorem dX6_init_83 : decode cX6_init 83 = .ok (.bipush 120, 2) := by decide +kernel
theorem dX6_init_85 : decode cX6_init 85 = .ok (.castore, 1) := by decide +kernel
theorem dX6_init_86 : decode cX6_init 86 = .ok (.dup, 1) := by decide +kernel
theorem dX6_init_87 : decode cX6_init 87 = .ok (.bipush 6, 2) := by decide +kernel
theorem dX6_init_89 : decode cX6_init 89 = .ok (.bipush 32, 2) := by decide +kernel
theorem dX6_init_91 : decode cX6_init 91 = .ok (.castore, 1) := by decide +kernel
theorem dX6_init_92 : decode cX6_init 92 = .ok (.dup, 1) := by decide +kernel
theorem dX6_init_93 : decode cX6_init 93 = .ok (.bipush 7, 2) := by decide +kernel
theorem dX6_init_95 : decode cX6_init 95 = .ok (.bipush 110, 2) := by decide +kernel
theorem dX6_init_97 : decode cX6_init 97 = .ok (.castore, 1) := by decide +kernel
theorem dX6_init_98 : decode cX6_init 98 = .ok (.dup, 1) := by decide +kernel
theorem dX6_init_99 : decode cX6_init 99 = .ok (.bipush 8, 2) := by decide +kernel
theorem dX6_init_101 : decode cX6_init 101 = .ok (.bipush 111, 2) := by decide +kernel
theorem dX6_init_103 : decode cX6_init 103 = .ok (.castore, 1) := by decide +kernel
theorem dX6_init_104 : decode cX6_init 104 = .ok (.dup, 1) := by decide +kernel
theorem dX6_init_105 : decode cX6_init 105 = .ok (.bipush 9, 2) := by decide +kernel
theorem dX6_init_107 : decode cX6_init 107 = .ok (.bipush 110, 2) := by decide +kernel
theorem dX6_init_109 : decode cX6_init 109 = .ok (.castore, 1) := by decide +kernel
theorem dX6_init_110 : decode cX6_init 110 = .ok (.dup, 1) := by decide +kernel
theorem dX6_init_111 : decode cX6_init 111 = .ok (.bipush 10, 2) := by decide +kernel
theorem dX6_init_113 : decode cX6_init 113 = .ok (.bipush 101, 2) := by decide +kernel
theorem dX6_init_115 : decode cX6_init 115 = .ok (.castore, 1) := by decide +kernel
theorem dX6_init_116 : decode cX6_init 116 = .ok (.dup, 1) := by decide +kernel
theorem dX6_init_117 : decode cX6_init 117 = .ok (.bipush 11, 2) := by decide +kernel
theorem dX6_init_119 : decode cX6_init 119 = .ok (.bipush 32, 2) := by decide +kernel
theorem dX6_init_121 : decode cX6_init 121 = .ok (.castore, 1) := by decide +kernel
theorem dX6_init_122 : decode cX6_init 122 = .ok (.dup, 1) := by decide +kernel
theorem dX6_init_123 : decode cX6_init 123 = .ok (.bipush 12, 2) := by decide +kernel
theorem dX6_init_125 : decode cX6_init 125 = .ok (.bipush 111, 2) := by decide +kernel
theorem dX6_init_127 : decode cX6_init 127 = .ok (.castore, 1) := by decide +kernel
theorem dX6_init_128 : decode cX6_init 128 = .ok (.dup, 1) := by decide +kernel
theorem dX6_init_129 : decode cX6_init 129 = .ok (.bipush 13, 2) := by decide +kernel
theorem dX6_init_131 : decode cX6_init 131 = .ok (.bipush 114, 2) := by decide +kernel
theorem dX6_init_133 : decode cX6_init 133 = .ok (.castore, 1) := by decide +kernel
theorem dX6_init_134 : decode cX6_init 134 = .ok (.dup, 1) := by decide +kernel
theorem dX6_init_135 : decode cX6_init 135 = .ok (.bipush 14, 2) := by decide +kernel
theorem dX6_init_137 : decode cX6_init 137 = .ok (.bipush 32, 2) := by decide +kernel
theorem dX6_init_139 : decode cX6_init 139 = .ok (.castore, 1) := by decide +kernel
theorem dX6_init_140 : decode cX6_init 140 = .ok (.dup, 1) := by decide +kernel
theorem dX6_init_141 : decode cX6_init 141 = .ok (.bipush 15, 2) := by decide +kernel
theorem dX6_init_143 : decode cX6_init 143 = .ok (.bipush 97, 2) := by decide +kernel
theorem dX6_init_145 : decode cX6_init 145 = .ok (.castore, 1) := by decide +kernel
theorem dX6_init_146 : decode cX6_init 146 = .ok (.dup, 1) := by decide +kernel
theorem dX6_init_147 : decode cX6_init 147 = .ok (.bipush 16, 2) := by decide +kernel
theorem dX6_init_149 : decode cX6_init 149 = .ok (.bipush 110, 2) := by decide +kernel
theorem dX6_init_151 : decode cX6_init 151 = .ok (.castore, 1) := by decide +kernel
theorem dX6_init_152 : decode cX6_init 152 = .ok (.dup, 1) := by decide +kernel
theorem dX6_init_153 : decode cX6_init 153 = .ok (.bipush 17, 2) := by decide +kernel
theorem dX6_init_155 : decode cX6_init 155 = .ok (.bipush 100, 2) := by decide +kernel
theorem dX6_init_157 : decode cX6_init 157 = .ok (.castore, 1) := by decide +kernel
theorem dX6_init_158 : decode cX6_init 158 = .ok (.dup, 1) := by decide +kernel
theorem dX6_init_159 : decode cX6_init 159 = .ok (.bipush 18, 2) := by decide +kernel
theorem dX6_init_161 : decode cX6_init 161 = .ok (.bipush 32, 2) := by decide +kernel
theorem dX6_init_163 : decode cX6_init 163 = .ok (.castore, 1) := by decide +kernel
theorem dX6_init_164 : decode cX6_init 164 = .ok (.dup, 1) := by decide +kernel
theorem dX6_init_165 : decode cX6_init 165 = .ok (.bipush 19, 2) := by decide +kernel
theorem dX6_init_167 : decode cX6_init 167 = .ok (.bipush 98, 2) := by decide +kernel
theorem dX6_init_169 : decode cX6_init 169 = .ok (.castore, 1) := by decide +kernel
theorem dX6_init_170 : decode cX6_init 170 = .ok (.dup, 1) := by decide +kernel
theorem dX6_init_171 : decode cX6_init 171 = .ok (.bipush 20, 2) := by decide +kernel
theorem dX6_init_173 : decode cX6_init 173 = .ok (.bipush 117, 2) := by decide +kernel
theorem dX6_init_175 : decode cX6_init 175 = .ok (.castore, 1) := by decide +kernel
theorem dX6_init_176 : decode cX6_init 176 = .ok (.dup, 1) := by decide +kernel
theorem dX6_init_177 : decode cX6_init 177 = .ok (.bipush 21, 2) := by decide +kernel
theorem dX6_init_179 : decode cX6_init 179 = .ok (.bipush 116, 2) := by decide +kernel
theorem dX6_init_181 : decode cX6_init 181 = .ok (.castore, 1) := by decide +kernel
theorem dX6_init_182 : decode cX6_init 182 = .ok (.dup, 1) := by decide +kernel
theorem dX6_init_183 : decode cX6_init 183 = .ok (.bipush 22, 2) := by decide +kernel
theorem dX6_init_185 : decode cX6_init 185 = .ok (.bipush 32, 2) := by decide +kernel
theorem dX6_init_187 : decode cX6_init 187 = .ok (.castore, 1) := by decide +kernel
theorem dX6_init_188 : decode cX6_init 188 = .ok (.dup, 1) := by decide +kernel
theorem dX6_init_189 : decode cX6_init 189 = .ok (.bipush 23, 2) := by decide +kernel
theorem dX6_init_191 : decode cX6_init 191 = .ok (.bipush 120, 2) := by decide +kernel
theorem dX6_init_193 : decode cX6_init 193 = .ok (.castore, 1) := by decide +kernel
theorem dX6_init_194 : decode cX6_init 194 = .ok (.dup, 1) := by decide +kernel
theorem dX6_init_195 : decode cX6_init 195 = .ok (.bipush 24, 2) := by decide +kernel
theorem dX6_init_197 : decode cX6_init 197 = .ok (.bipush 111, 2) := by decide +kernel
theorem dX6_init_199 : decode cX6_init 199 = .ok (.castore, 1) := by decide +kernel
theorem dX6_init_200 : decode cX6_init 200 = .ok (.dup, 1) := by decide +kernel
theorem dX6_init_201 : decode cX6_init 201 = .ok (.bipush 25, 2) := by decide +kernel
theorem dX6_init_203 : decode cX6_init 203 = .ok (.bipush 114, 2) := by decide +kernel
theorem dX6_init_205 : decode cX6_init 205 = .ok (.castore, 1) := by decide +kernel
theorem dX6_init_206 : decode cX6_init 206 = .ok (.dup, 1) := by decide +kernel
theorem dX6_init_207 : decode cX6_init 207 = .ok (.bipush 26, 2) := by decide +kernel
theorem dX6_init_209 : decode cX6_init 209 = .ok (.bipush 32, 2) := by decide +kernel
theorem dX6_init_211 : decode cX6_init 211 = .ok (.castore, 1) := by decide +kernel
theorem dX6_init_212 : decode cX6_init 212 = .ok (.dup, 1) := by decide +kernel
theorem dX6_init_213 : decode cX6_init 213 = .ok (.bipush 27, 2) := by decide +kernel
theorem dX6_init_215 : decode cX6_init 215 = .ok (.bipush 109, 2) := by decide +kernel
theorem dX6_init_217 : decode cX6_init 217 = .ok (.castore, 1) := by decide +kernel
theorem dX6_init_218 : decode cX6_init 218 = .ok (.dup, 1) := by decide +kernel
theorem dX6_init_219 : decode cX6_init 219 = .ok (.bipush 28, 2) := by decide +kernel
theorem dX6_init_221 : decode cX6_init 221 = .ok (.bipush 111, 2) := by decide +kernel
theorem dX6_init_223 : decode cX6_init 223 = .ok (.castore, 1) := by decide +kernel
theorem dX6_init_224 : decode cX6_init 224 = .ok (.dup, 1) := by decide +kernel
theorem dX6_init_225 : decode cX6_init 225 = .ok (.bipush 29, 2) := by decide +kernel
theorem dX6_init_227 : decode cX6_init 227 = .ok (.bipush 118, 2) := by decide +kernel
theorem dX6_init_229 : decode cX6_init 229 = .ok (.castore, 1) := by decide +kernel
theorem dX6_init_230 : decode cX6_init 230 = .ok (.dup, 1) := by decide +kernel
theorem dX6_init_231 : decode cX6_init 231 = .ok (.bipush 30, 2) := by decide +kernel
theorem dX6_init_233 : decode cX6_init 233 = .ok (.bipush 101, 2) := by decide +kernel
theorem dX6_init_235 : decode cX6_init 235 = .ok (.castore, 1) := by decide +kernel
theorem dX6_init_236 : decode cX6_init 236 = .ok (.dup, 1) := by decide +kernel
theorem dX6_init_237 : decode cX6_init 237 = .ok (.bipush 31, 2) := by decide +kernel
theorem dX6_init_239 : decode cX6_init 239 = .ok (.bipush 32, 2) := by decide +kernel
theorem dX6_init_241 : decode cX6_init 241 = .ok (.castore, 1) := by decide +kernel
theorem dX6_init_242 : decode cX6_init 242 = .ok (.dup, 1) := by decide +kernel
theorem dX6_init_243 : decode cX6_init 243 = .ok (.bipush 32, 2) := by decide +kernel
theorem dX6_init_245 : decode cX6_init 245 = .ok (.bipush 103, 2) := by decide +kernel
theorem dX6_init_247 : decode cX6_init 247 = .ok (.castore, 1) := by decide +kernel
theorem dX6_init_248 : decode cX6_init 248 = .ok (.dup, 1) := by decide +kernel
theorem dX6_init_249 : decode cX6_init 249 = .ok (.bipush 33, 2) := by decide +kernel
theorem dX6_init_251 : decode cX6_init 251 = .ok (.bipush 114, 2) := by decide +kernel
theorem dX6_init_253 : decode cX6_init 253 = .ok (.castore, 1) := by decide +kernel
theorem dX6_init_254 : decode cX6_init 254 = .ok (.dup, 1) := by decide +kernel
theorem dX6_init_255 : decode cX6_init 255 = .ok (.bipush 34, 2) := by decide +kernel
theorem dX6_init_257 : decode cX6_init 257 = .ok (.bipush 111, 2) := by decide +kernel
theorem dX6_init_259 : decode cX6_init 259 = .ok (.castore, 1) := by decide +kernel
theorem dX6_init_260 : decode cX6_init 260 = .ok (.dup, 1) := by decide +kernel
theorem dX6_init_261 : decode cX6_init 261 = .ok (.bipush 35, 2) := by decide +kernel
theorem dX6_init_263 : decode cX6_init 263 = .ok (.bipush 119, 2) := by decide +kernel
theorem dX6_init_265 : decode cX6_init 265 = .ok (.castore, 1) := by decide +kernel
theorem dX6_init_266 : decode cX6_init 266 = .ok (.dup, 1) := by decide +kernel
theorem dX6_init_267 : decode cX6_init 267 = .ok (.bipush 36, 2) := by decide +kernel
theorem dX6_init_269 : decode cX6_init 269 = .ok (.bipush 32, 2) := by decide +kernel
theorem dX6_init_271 : decode cX6_init 271 = .ok (.castore, 1) := by decide +kernel
theorem dX6_init_272 : decode cX6_init 272 = .ok (.dup, 1) := by decide +kernel
theorem dX6_init_273 : decode cX6_init 273 = .ok (.bipush 37, 2) := by decide +kernel
theorem dX6_init_275 : decode cX6_init 275 = .ok (.bipush 115, 2) := by decide +kernel
theorem dX6_init_277 : decode cX6_init 277 = .ok (.castore, 1) := by decide +kernel
theorem dX6_init_278 : decode cX6_init 278 = .ok (.dup, 1) := by decide +kernel
theorem dX6_init_279 : decode cX6_init 279 = .ok (.bipush 38, 2) := by decide +kernel
theorem dX6_init_281 : decode cX6_init 281 = .ok (.bipush 104, 2) := by decide +kernel
theorem dX6_init_283 : decode cX6_init 283 = .ok (.castore, 1) := by decide +kernel
theorem dX6_init_284 : decode cX6_init 284 = .ok (.dup, 1) := by decide +kernel
theorem dX6_init_285 : decode cX6_init 285 = .ok (.bipush 39, 2) := by decide +kernel
theorem dX6_init_287 : decode cX6_init 287 = .ok (.bipush 114, 2) := by decide +kernel
theorem dX6_init_289 : decode cX6_init 289 = .ok (.castore, 1) := by decide +kernel
theorem dX6_init_290 : decode cX6_init 290 = .ok (.dup, 1) := by decide +kernel
theorem dX6_init_291 : decode cX6_init 291 = .ok (.bipush 40, 2) := by decide +kernel
theorem dX6_init_293 : decode cX6_init 293 = .ok (.bipush 105, 2) := by decide +kernel
theorem dX6_init_295 : decode cX6_init 295 = .ok (.castore, 1) := by decide +kernel
theorem dX6_init_296 : decode cX6_init 296 = .ok (.dup, 1) := by decide +kernel
theorem dX6_init_297 : decode cX6_init 297 = .ok (.bipush 41, 2) := by decide +kernel
theorem dX6_init_299 : decode cX6_init 299 = .ok (.bipush 110, 2) := by decide +kernel
theorem dX6_init_301 : decode cX6_init 301 = .ok (.castore, 1) := by decide +kernel
theorem dX6_init_302 : decode cX6_init 302 = .ok (.dup, 1) := by decide +kernel
theorem dX6_init_303 : decode cX6_init 303 = .ok (.bipush 42, 2) := by decide +kernel
theorem dX6_init_305 : decode cX6_init 305 = .ok (.bipush 107, 2) := by decide +kernel
theorem dX6_init_307 : decode cX6_init 307 = .ok (.castore, 1) := by decide +kernel
theorem dX6_init_308 : decode cX6_init 308 = .ok (.dup, 1) := by decide +kernel
theorem dX6_init_309 : decode cX6_init 309 = .ok (.bipush 43, 2) := by decide +kernel
theorem dX6_init_311 : decode cX6_init 311 = .ok (.bipush 32, 2) := by decide +kernel
theorem dX6_init_313 : decode cX6_init 313 = .ok (.castore, 1) := by decide +kernel
theorem dX6_init_314 : decode cX6_init 314 = .ok (.dup, 1) := by decide +kernel
theorem dX6_init_315 : decode cX6_init 315 = .ok (.bipush 44, 2) := by decide +kernel
theorem dX6_init_317 : decode cX6_init 317 = .ok (.bipush 102, 2) := by decide +kernel
theorem dX6_init_319 : decode cX6_init 319 = .ok (.castore, 1) := by decide +kernel
theorem dX6_init_320 : decode cX6_init 320 = .ok (.dup, 1) := by decide +kernel
theorem dX6_init_321 : decode cX6_init 321 = .ok (.bipush 45, 2) := by decide +kernel
theorem dX6_init_323 : decode cX6_init 323 = .ok (.bipush 108, 2) := by decide +kernel
theorem dX6_init_325 : decode cX6_init 325 = .ok (.castore, 1) := by decide +kernel
theorem dX6_init_326 : decode cX6_init 326 = .ok (.dup, 1) := by decide +kernel
theorem dX6_init_327 : decode cX6_init 327 = .ok (.bipush 46, 2) := by decide +kernel
theorem dX6_init_329 : decode cX6_init 329 = .ok (.bipush 105, 2) := by decide +kernel
theorem dX6_init_331 : decode cX6_init 331 = .ok (.castore, 1) := by decide +kernel
theorem dX6_init_332 : decode cX6_init 332 = .ok (.dup, 1) := by decide +kernel
theorem dX6_init_333 : decode cX6_init 333 = .ok (.bipush 47, 2) := by decide +kernel
theorem dX6_init_335 : decode cX6_init 335 = .ok (.bipush 112, 2) := by decide +kernel
theorem dX6_init_337 : decode cX6_init 337 = .ok (.castore, 1) := by decide +kernel
theorem dX6_init_338 : decode cX6_init 338 = .ok (.dup, 1) := by decide +kernel
theorem dX6_init_339 : decode cX6_init 339 = .ok (.bipush 48, 2) := by decide +kernel
theorem dX6_init_341 : decode cX6_init 341 = .ok (.bipush 32, 2) := by decide +kernel
theorem dX6_init_343 : decode cX6_init 343 = .ok (.castore, 1) := by decide +kernel
theorem dX6_init_344 : decode cX6_init 344 = .ok (.dup, 1) := by decide +kernel
theorem dX6_init_345 : decode cX6_init 345 = .ok (.bipush 49, 2) := by decide +kernel
theorem dX6_init_347 : decode cX6_init 347 = .ok (.bipush 116, 2) := by decide +kernel
theorem dX6_init_349 : decode cX6_init 349 = .ok (.castore, 1) := by decide +kernel
theorem dX6_init_350 : decode cX6_init 350 = .ok (.dup, 1) := by decide +kernel
theorem dX6_init_351 : decode cX6_init 351 = .ok (.bipush 50, 2) := by decide +kernel
theorem dX6_init_353 : decode cX6_init 353 = .ok (.bipush 117, 2) := by decide +kernel
theorem dX6_init_355 : decode cX6_init 355 = .ok (.castore, 1) := by decide +kernel
theorem dX6_init_356 : decode cX6_init 356 = .ok (.dup, 1) := by decide +kernel
theorem dX6_init_357 : decode cX6_init 357 = .ok (.bipush 51, 2) := by decide +kernel
theorem dX6_init_359 : decode cX6_init 359 = .ok (.bipush 114, 2) := by decide +kernel
theorem dX6_init_361 : decode cX6_init 361 = .ok (.castore, 1) := by decide +kernel
theorem dX6_init_362 : decode cX6_init 362 = .ok (.dup, 1) := by decide +kernel
theorem dX6_init_363 : decode cX6_init 363 = .ok (.bipush 52, 2) := by decide +kernel
theorem dX6_init_365 : decode cX6_init 365 = .ok (.bipush 110, 2) := by decide +kernel
theorem dX6_init_367 : decode cX6_init 367 = .ok (.castore, 1) := by decide +kernel
theorem dX6_init_368 : decode cX6_init 368 = .ok (.dup, 1) := by decide +kernel
theorem dX6_init_369 : decode cX6_init 369 = .ok (.bipush 53, 2) := by decide +kernel
theorem dX6_init_371 : decode cX6_init 371 = .ok (.bipush 32, 2) := by decide +kernel
theorem dX6_init_373 : decode cX6_init 373 = .ok (.castore, 1) := by decide +kernel
theorem dX6_init_374 : decode cX6_init 374 = .ok (.putfield 29, 3) := by decide +kernel
theorem dX6_init_377 : decode cX6_init 377 = .ok (.return_, 1) := by decide +kernel
theorem dX6_in_0 : decode cX6_in 0 = .ok (.iload_n 0, 1) := by decide +kernel
theorem dX6_in_1 : decode cX6_in 1 = .ok (.iload_n 1, 1) := by decide +kernel
theorem dX6_in_2 : decode cX6_in 2 = .ok (.if_icmp .lt 12, 3) := by decide +kernel
theorem dX6_in_5 : decode cX6_in 5 = .ok (.iload_n 0, 1) := by decide +kernel
theorem dX6_in_6 : decode cX6_in 6 = .ok (.iload_n 2, 1) := by decide +kernel
theorem dX6_in_7 : decode cX6_in 7 = .ok (.if_icmp .gt 7, 3) := by decide +kernel
theorem dX6_in_10 : decode cX6_in 10 = .ok (.iconst 1, 1) := by decide +kernel
theorem dX6_in_11 : decode cX6_in 11 = .ok (.goto 4, 3) := by decide +kernel
theorem dX6_in_14 : decode cX6_in 14 = .ok (.iconst 0, 1) := by decide +kernel
theorem dX6_in_15 : decode cX6_in 15 = .ok (.ireturn, 1) := by decide +kernel
theorem dX6_refuses_0 : decode cX6_refuses 0 = .ok (.aload_n 0, 1) := by decide +kernel
theorem dX6_refuses_1 : decode cX6_refuses 1 = .ok (.getfield 13, 3) := by decide +kernel
theorem dX6_refuses_4 : decode cX6_refuses 4 = .ok (.sipush (-202), 3) := by decide +kernel
theorem dX6_refuses_7 : decode cX6_refuses 7 = .ok (.iload_n 1, 1) := by decide +kernel
theorem dX6_refuses_8 : decode cX6_refuses 8 = .ok (.isub, 1) := by decide +kernel
theorem dX6_refuses_9 : decode cX6_refuses 9 = .ok (.dup2, 1) := by decide +kernel
theorem dX6_refuses_10 : decode cX6_refuses 10 = .ok (.iaload, 1) := by decide +kernel
theorem dX6_refuses_11 : decode cX6_refuses 11 = .ok (.iconst 1, 1) := by decide +kernel
theorem dX6_refuses_12 : decode cX6_refuses 12 = .ok (.iadd, 1) := by decide +kernel
theorem dX6_refuses_13 : decode cX6_refuses 13 = .ok (.iastore, 1) := by decide +kernel
theorem dX6_refuses_14 : decode cX6_refuses 14 = .ok (.iload_n 1, 1) := by decide +kernel
theorem dX6_refuses_15 : decode cX6_refuses 15 = .ok (.ireturn, 1) := by decide +kernel
theorem dX6_isArea_0 : decode cX6_isArea 0 = .ok (.iload_n 0, 1) := by decide +kernel
theorem dX6_isArea_1 : decode cX6_isArea 1 = .ok (.iconst 0, 1) := by decide +kernel
theorem dX6_isArea_2 : decode cX6_isArea 2 = .ok (.iconst 4, 1) := by decide +kernel
theorem dX6_isArea_3 : decode cX6_isArea 3 = .ok (.invokestatic 33, 3) := by decide +kernel
theorem dX6_isArea_6 : decode cX6_isArea 6 = .ok (.ireturn, 1) := by decide +kernel
theorem dX6_isCell_0 : decode cX6_isCell 0 = .ok (.iload_n 0, 1) := by decide +kernel
theorem dX6_isCell_1 : decode cX6_isCell 1 = .ok (.bipush (-60), 2) := by decide +kernel
theorem dX6_isCell_3 : decode cX6_isCell 3 = .ok (.bipush 59, 2) := by decide +kernel
theorem dX6_isCell_5 : decode cX6_isCell 5 = .ok (.invokestatic 33, 3) := by decide +kernel
theorem dX6_isCell_8 : decode cX6_isCell 8 = .ok (.ifCond .eq 18, 3) := by decide +kernel
theorem dX6_isCell_11 : decode cX6_isCell 11 = .ok (.iload_n 1, 1) := by decide +kernel
theorem dX6_isCell_12 : decode cX6_isCell 12 = .ok (.bipush (-60), 2) := by decide +kernel
theorem dX6_isCell_14 : decode cX6_isCell 14 = .ok (.bipush 59, 2) := by decide +kernel
theorem dX6_isCell_16 : decode cX6_isCell 16 = .ok (.invokestatic 33, 3) := by decide +kernel
theorem dX6_isCell_19 : decode cX6_isCell 19 = .ok (.ifCond .eq 7, 3) := by decide +kernel
theorem dX6_isCell_22 : decode cX6_isCell 22 = .ok (.iconst 1, 1) := by decide +kernel
theorem dX6_isCell_23 : decode cX6_isCell 23 = .ok (.goto 4, 3) := by decide +kernel
theorem dX6_isCell_26 : decode cX6_isCell 26 = .ok (.iconst 0, 1) := by decide +kernel
theorem dX6_isCell_27 : decode cX6_isCell 27 = .ok (.ireturn, 1) := by decide +kernel
theorem dX6_has_0 : decode cX6_has 0 = .ok (.iload_n 2, 1) := by decide +kernel
theorem dX6_has_1 : decode cX6_has 1 = .ok (.iload_n 3, 1) := by decide +kernel
theorem dX6_has_2 : decode cX6_has 2 = .ok (.invokestatic 37, 3) := by decide +kernel
theorem dX6_has_5 : decode cX6_has 5 = .ok (.ifCond .ne 5, 3) := by decide +kernel
theorem dX6_has_8 : decode cX6_has 8 = .ok (.iconst 0, 1) := by decide +kernel
theorem dX6_has_9 : decode cX6_has 9 = .ok (.ireturn, 1) := by decide +kernel
theorem dX6_has_10 : decode cX6_has 10 = .ok (.iload_n 2, 1) := by decide +kernel
theorem dX6_has_11 : decode cX6_has 11 = .ok (.bipush (-60), 2) := by decide +kernel
theorem dX6_has_13 : decode cX6_has 13 = .ok (.isub, 1) := by decide +kernel
theorem dX6_has_14 : decode cX6_has 14 = .ok (.istore 4, 2) := by decide +kernel
theorem dX6_has_16 : decode cX6_has 16 = .ok (.aload_n 0, 1) := by decide +kernel
theorem dX6_has_17 : decode cX6_has 17 = .ok (.getfield 7, 3) := by decide +kernel
theorem dX6_has_20 : decode cX6_has 20 = .ok (.sipush 240, 3) := by decide +kernel
theorem dX6_has_23 : decode cX6_has 23 = .ok (.iload_n 1, 1) := by decide +kernel
theorem dX6_has_24 : decode cX6_has 24 = .ok (.imul, 1) := by decide +kernel
theorem dX6_has_25 : decode cX6_has 25 = .ok (.iconst 2, 1) := by decide +kernel
theorem dX6_has_26 : decode cX6_has 26 = .ok (.iload_n 3, 1) := by decide +kernel
theorem dX6_has_27 : decode cX6_has 27 = .ok (.bipush (-60), 2) := by decide +kernel
theorem dX6_has_29 : decode cX6_has 29 = .ok (.isub, 1) := by decide +kernel
theorem dX6_has_30 : decode cX6_has 30 = .ok (.imul, 1) := by decide +kernel
theorem dX6_has_31 : decode cX6_has 31 = .ok (.iadd, 1) := by decide +kernel
theorem dX6_has_32 : decode cX6_has 32 = .ok (.iload 4, 2) := by decide +kernel
theorem dX6_has_34 : decode cX6_has 34 = .ok (.bipush 60, 2) := by decide +kernel
theorem dX6_has_36 : decode cX6_has 36 = .ok (.idiv, 1) := by decide +kernel
theorem dX6_has_37 : decode cX6_has 37 = .ok (.iadd, 1) := by decide +kernel
theorem dX6_has_38 : decode cX6_has 38 = .ok (.laload, 1) := by decide +kernel
theorem dX6_has_39 : decode cX6_has 39 = .ok (.iload 4, 2) := by decide +kernel
theorem dX6_has_41 : decode cX6_has 41 = .ok (.bipush 60, 2) := by decide +kernel
theorem dX6_has_43 : decode cX6_has 43 = .ok (.irem, 1) := by decide +kernel
theorem dX6_has_44 : decode cX6_has 44 = .ok (.lshr, 1) := by decide +kernel
theorem dX6_has_45 : decode cX6_has 45 = .ok (.lconst 1, 1) := by decide +kernel
theorem dX6_has_46 : decode cX6_has 46 = .ok (.land, 1) := by decide +kernel
theorem dX6_has_47 : decode cX6_has 47 = .ok (.lconst 1, 1) := by decide +kernel
theorem dX6_has_48 : decode cX6_has 48 = .ok (.lcmp, 1) := by decide +kernel
theorem dX6_has_49 : decode cX6_has 49 = .ok (.ifCond .ne 7, 3) := by decide +kernel
theorem dX6_has_52 : decode cX6_has 52 = .ok (.iconst 1, 1) := by decide +kernel
theorem dX6_has_53 : decode cX6_has 53 = .ok (.goto 4, 3) := by decide +kernel
theorem dX6_has_56 : decode cX6_has 56 = .ok (.iconst 0, 1) := by decide +kernel
theorem dX6_has_57 : decode cX6_has 57 = .ok (.ireturn, 1) := by decide +kernel
theorem dX6_lays_0 : decode cX6_lays 0 = .ok (.iload_n 2, 1) := by decide +kernel
theorem dX6_lays_1 : decode cX6_lays 1 = .ok (.bipush (-60), 2) := by decide +kernel
theorem dX6_lays_3 : decode cX6_lays 3 = .ok (.isub, 1) := by decide +kernel
theorem dX6_lays_4 : decode cX6_lays 4 = .ok (.istore 4, 2) := by decide +kernel
theorem dX6_lays_6 : decode cX6_lays 6 = .ok (.aload_n 0, 1) := by decide +kernel
theorem dX6_lays_7 : decode cX6_lays 7 = .ok (.getfield 7, 3) := by decide +kernel
theorem dX6_lays_10 : decode cX6_lays 10 = .ok (.sipush 240, 3) := by decide +kernel
theorem dX6_lays_13 : decode cX6_lays 13 = .ok (.iload_n 1, 1) := by decide +kernel
theorem dX6_lays_14 : decode cX6_lays 14 = .ok (.imul, 1) := by decide +kernel
theorem dX6_lays_15 : decode cX6_lays 15 = .ok (.iconst 2, 1) := by decide +kernel
theorem dX6_lays_16 : decode cX6_lays 16 = .ok (.iload_n 3, 1) := by decide +kernel
theorem dX6_lays_17 : decode cX6_lays 17 = .ok (.bipush (-60), 2) := by decide +kernel
theorem dX6_lays_19 : decode cX6_lays 19 = .ok (.isub, 1) := by decide +kernel
theorem dX6_lays_20 : decode cX6_lays 20 = .ok (.imul, 1) := by decide +kernel
theorem dX6_lays_21 : decode cX6_lays 21 = .ok (.iadd, 1) := by decide +kernel
theorem dX6_lays_22 : decode cX6_lays 22 = .ok (.iload 4, 2) := by decide +kernel
theorem dX6_lays_24 : decode cX6_lays 24 = .ok (.bipush 60, 2) := by decide +kernel
theorem dX6_lays_26 : decode cX6_lays 26 = .ok (.idiv, 1) := by decide +kernel
theorem dX6_lays_27 : decode cX6_lays 27 = .ok (.iadd, 1) := by decide +kernel
theorem dX6_lays_28 : decode cX6_lays 28 = .ok (.dup2, 1) := by decide +kernel
theorem dX6_lays_29 : decode cX6_lays 29 = .ok (.laload, 1) := by decide +kernel
theorem dX6_lays_30 : decode cX6_lays 30 = .ok (.lconst 1, 1) := by decide +kernel
theorem dX6_lays_31 : decode cX6_lays 31 = .ok (.iload 4, 2) := by decide +kernel
theorem dX6_lays_33 : decode cX6_lays 33 = .ok (.bipush 60, 2) := by decide +kernel
theorem dX6_lays_35 : decode cX6_lays 35 = .ok (.irem, 1) := by decide +kernel
theorem dX6_lays_36 : decode cX6_lays 36 = .ok (.lshl, 1) := by decide +kernel
theorem dX6_lays_37 : decode cX6_lays 37 = .ok (.lor, 1) := by decide +kernel
theorem dX6_lays_38 : decode cX6_lays 38 = .ok (.lastore, 1) := by decide +kernel
theorem dX6_lays_39 : decode cX6_lays 39 = .ok (.return_, 1) := by decide +kernel
theorem dX6_empties_0 : decode cX6_empties 0 = .ok (.iconst 0, 1) := by decide +kernel
theorem dX6_empties_1 : decode cX6_empties 1 = .ok (.istore_n 2, 1) := by decide +kernel
theorem dX6_empties_2 : decode cX6_empties 2 = .ok (.iload_n 2, 1) := by decide +kernel
theorem dX6_empties_3 : decode cX6_empties 3 = .ok (.sipush 240, 3) := by decide +kernel
theorem dX6_empties_6 : decode cX6_empties 6 = .ok (.if_icmp .ge 22, 3) := by decide +kernel
theorem dX6_empties_9 : decode cX6_empties 9 = .ok (.aload_n 0, 1) := by decide +kernel
theorem dX6_empties_10 : decode cX6_empties 10 = .ok (.getfield 7, 3) := by decide +kernel
theorem dX6_empties_13 : decode cX6_empties 13 = .ok (.sipush 240, 3) := by decide +kernel
theorem dX6_empties_16 : decode cX6_empties 16 = .ok (.iload_n 1, 1) := by decide +kernel
theorem dX6_empties_17 : decode cX6_empties 17 = .ok (.imul, 1) := by decide +kernel
theorem dX6_empties_18 : decode cX6_empties 18 = .ok (.iload_n 2, 1) := by decide +kernel
theorem dX6_empties_19 : decode cX6_empties 19 = .ok (.iadd, 1) := by decide +kernel
theorem dX6_empties_20 : decode cX6_empties 20 = .ok (.lconst 0, 1) := by decide +kernel
theorem dX6_empties_21 : decode cX6_empties 21 = .ok (.lastore, 1) := by decide +kernel
theorem dX6_empties_22 : decode cX6_empties 22 = .ok (.iinc 2 1, 3) := by decide +kernel
theorem dX6_empties_25 : decode cX6_empties 25 = .ok (.goto (-23), 3) := by decide +kernel
theorem dX6_empties_28 : decode cX6_empties 28 = .ok (.return_, 1) := by decide +kernel
theorem dX6_copies_0 : decode cX6_copies 0 = .ok (.iconst 0, 1) := by decide +kernel
theorem dX6_copies_1 : decode cX6_copies 1 = .ok (.istore_n 3, 1) := by decide +kernel
theorem dX6_copies_2 : decode cX6_copies 2 = .ok (.iload_n 3, 1) := by decide +kernel
theorem dX6_copies_3 : decode cX6_copies 3 = .ok (.sipush 240, 3) := by decide +kernel
theorem dX6_copies_6 : decode cX6_copies 6 = .ok (.if_icmp .ge 33, 3) := by decide +kernel
theorem dX6_copies_9 : decode cX6_copies 9 = .ok (.aload_n 0, 1) := by decide +kernel
theorem dX6_copies_10 : decode cX6_copies 10 = .ok (.getfield 7, 3) := by decide +kernel
theorem dX6_copies_13 : decode cX6_copies 13 = .ok (.sipush 240, 3) := by decide +kernel
theorem dX6_copies_16 : decode cX6_copies 16 = .ok (.iload_n 2, 1) := by decide +kernel
theorem dX6_copies_17 : decode cX6_copies 17 = .ok (.imul, 1) := by decide +kernel
theorem dX6_copies_18 : decode cX6_copies 18 = .ok (.iload_n 3, 1) := by decide +kernel
theorem dX6_copies_19 : decode cX6_copies 19 = .ok (.iadd, 1) := by decide +kernel
theorem dX6_copies_20 : decode cX6_copies 20 = .ok (.aload_n 0, 1) := by decide +kernel
theorem dX6_copies_21 : decode cX6_copies 21 = .ok (.getfield 7, 3) := by decide +kernel
theorem dX6_copies_24 : decode cX6_copies 24 = .ok (.sipush 240, 3) := by decide +kernel
theorem dX6_copies_27 : decode cX6_copies 27 = .ok (.iload_n 1, 1) := by decide +kernel
theorem dX6_copies_28 : decode cX6_copies 28 = .ok (.imul, 1) := by decide +kernel
theorem dX6_copies_29 : decode cX6_copies 29 = .ok (.iload_n 3, 1) := by decide +kernel
theorem dX6_copies_30 : decode cX6_copies 30 = .ok (.iadd, 1) := by decide +kernel
theorem dX6_copies_31 : decode cX6_copies 31 = .ok (.laload, 1) := by decide +kernel
theorem dX6_copies_32 : decode cX6_copies 32 = .ok (.lastore, 1) := by decide +kernel
theorem dX6_copies_33 : decode cX6_copies 33 = .ok (.iinc 3 1, 3) := by decide +kernel
theorem dX6_copies_36 : decode cX6_copies 36 = .ok (.goto (-34), 3) := by decide +kernel
theorem dX6_copies_39 : decode cX6_copies 39 = .ok (.return_, 1) := by decide +kernel
theorem dX6_ones_0 : decode cX6_ones 0 = .ok (.iconst 0, 1) := by decide +kernel
theorem dX6_ones_1 : decode cX6_ones 1 = .ok (.istore_n 2, 1) := by decide +kernel
theorem dX6_ones_2 : decode cX6_ones 2 = .ok (.iconst 0, 1) := by decide +kernel
theorem dX6_ones_3 : decode cX6_ones 3 = .ok (.istore_n 3, 1) := by decide +kernel
theorem dX6_ones_4 : decode cX6_ones 4 = .ok (.iload_n 3, 1) := by decide +kernel
theorem dX6_ones_5 : decode cX6_ones 5 = .ok (.bipush 60, 2) := by decide +kernel
theorem dX6_ones_7 : decode cX6_ones 7 = .ok (.if_icmp .ge 18, 3) := by decide +kernel
theorem dX6_ones_10 : decode cX6_ones 10 = .ok (.iload_n 2, 1) := by decide +kernel
theorem dX6_ones_11 : decode cX6_ones 11 = .ok (.lload_n 0, 1) := by decide +kernel
theorem dX6_ones_12 : decode cX6_ones 12 = .ok (.iload_n 3, 1) := by decide +kernel
theorem dX6_ones_13 : decode cX6_ones 13 = .ok (.lshr, 1) := by decide +kernel
theorem dX6_ones_14 : decode cX6_ones 14 = .ok (.lconst 1, 1) := by decide +kernel
theorem dX6_ones_15 : decode cX6_ones 15 = .ok (.land, 1) := by decide +kernel
theorem dX6_ones_16 : decode cX6_ones 16 = .ok (.l2i, 1) := by decide +kernel
theorem dX6_ones_17 : decode cX6_ones 17 = .ok (.iadd, 1) := by decide +kernel
theorem dX6_ones_18 : decode cX6_ones 18 = .ok (.istore_n 2, 1) := by decide +kernel
theorem dX6_ones_19 : decode cX6_ones 19 = .ok (.iinc 3 1, 3) := by decide +kernel
theorem dX6_ones_22 : decode cX6_ones 22 = .ok (.goto (-18), 3) := by decide +kernel
theorem dX6_ones_25 : decode cX6_ones 25 = .ok (.iload_n 2, 1) := by decide +kernel
theorem dX6_ones_26 : decode cX6_ones 26 = .ok (.ireturn, 1) := by decide +kernel
theorem dX6_cells_0 : decode cX6_cells 0 = .ok (.iconst 0, 1) := by decide +kernel
theorem dX6_cells_1 : decode cX6_cells 1 = .ok (.istore_n 2, 1) := by decide +kernel
theorem dX6_cells_2 : decode cX6_cells 2 = .ok (.iconst 0, 1) := by decide +kernel
theorem dX6_cells_3 : decode cX6_cells 3 = .ok (.istore_n 3, 1) := by decide +kernel
theorem dX6_cells_4 : decode cX6_cells 4 = .ok (.iload_n 3, 1) := by decide +kernel
theorem dX6_cells_5 : decode cX6_cells 5 = .ok (.sipush 240, 3) := by decide +kernel
theorem dX6_cells_8 : decode cX6_cells 8 = .ok (.if_icmp .ge 48, 3) := by decide +kernel
theorem dX6_cells_11 : decode cX6_cells 11 = .ok (.iload_n 2, 1) := by decide +kernel
theorem dX6_cells_12 : decode cX6_cells 12 = .ok (.aload_n 0, 1) := by decide +kernel
theorem dX6_cells_13 : decode cX6_cells 13 = .ok (.getfield 7, 3) := by decide +kernel
theorem dX6_cells_16 : decode cX6_cells 16 = .ok (.sipush 240, 3) := by decide +kernel
theorem dX6_cells_19 : decode cX6_cells 19 = .ok (.iload_n 1, 1) := by decide +kernel
theorem dX6_cells_20 : decode cX6_cells 20 = .ok (.imul, 1) := by decide +kernel
theorem dX6_cells_21 : decode cX6_cells 21 = .ok (.iload_n 3, 1) := by decide +kernel
theorem dX6_cells_22 : decode cX6_cells 22 = .ok (.iadd, 1) := by decide +kernel
theorem dX6_cells_23 : decode cX6_cells 23 = .ok (.laload, 1) := by decide +kernel
theorem dX6_cells_24 : decode cX6_cells 24 = .ok (.lconst 0, 1) := by decide +kernel
theorem dX6_cells_25 : decode cX6_cells 25 = .ok (.lcmp, 1) := by decide +kernel
theorem dX6_cells_26 : decode cX6_cells 26 = .ok (.ifCond .ne 7, 3) := by decide +kernel
theorem dX6_cells_29 : decode cX6_cells 29 = .ok (.iconst 0, 1) := by decide +kernel
theorem dX6_cells_30 : decode cX6_cells 30 = .ok (.goto 18, 3) := by decide +kernel
theorem dX6_cells_33 : decode cX6_cells 33 = .ok (.aload_n 0, 1) := by decide +kernel
theorem dX6_cells_34 : decode cX6_cells 34 = .ok (.getfield 7, 3) := by decide +kernel
theorem dX6_cells_37 : decode cX6_cells 37 = .ok (.sipush 240, 3) := by decide +kernel
theorem dX6_cells_40 : decode cX6_cells 40 = .ok (.iload_n 1, 1) := by decide +kernel
theorem dX6_cells_41 : decode cX6_cells 41 = .ok (.imul, 1) := by decide +kernel
theorem dX6_cells_42 : decode cX6_cells 42 = .ok (.iload_n 3, 1) := by decide +kernel
theorem dX6_cells_43 : decode cX6_cells 43 = .ok (.iadd, 1) := by decide +kernel
theorem dX6_cells_44 : decode cX6_cells 44 = .ok (.laload, 1) := by decide +kernel
theorem dX6_cells_45 : decode cX6_cells 45 = .ok (.invokestatic 41, 3) := by decide +kernel
theorem dX6_cells_48 : decode cX6_cells 48 = .ok (.iadd, 1) := by decide +kernel
theorem dX6_cells_49 : decode cX6_cells 49 = .ok (.istore_n 2, 1) := by decide +kernel
theorem dX6_cells_50 : decode cX6_cells 50 = .ok (.iinc 3 1, 3) := by decide +kernel
theorem dX6_cells_53 : decode cX6_cells 53 = .ok (.goto (-49), 3) := by decide +kernel
theorem dX6_cells_56 : decode cX6_cells 56 = .ok (.iload_n 2, 1) := by decide +kernel
theorem dX6_cells_57 : decode cX6_cells 57 = .ok (.ireturn, 1) := by decide +kernel
theorem dX6_sameRow_0 : decode cX6_sameRow 0 = .ok (.sipush 240, 3) := by decide +kernel
theorem dX6_sameRow_3 : decode cX6_sameRow 3 = .ok (.iload_n 1, 1) := by decide +kernel
theorem dX6_sameRow_4 : decode cX6_sameRow 4 = .ok (.imul, 1) := by decide +kernel
theorem dX6_sameRow_5 : decode cX6_sameRow 5 = .ok (.iconst 2, 1) := by decide +kernel
theorem dX6_sameRow_6 : decode cX6_sameRow 6 = .ok (.iload_n 2, 1) := by decide +kernel
theorem dX6_sameRow_7 : decode cX6_sameRow 7 = .ok (.bipush (-60), 2) := by decide +kernel
theorem dX6_sameRow_9 : decode cX6_sameRow 9 = .ok (.isub, 1) := by decide +kernel
theorem dX6_sameRow_10 : decode cX6_sameRow 10 = .ok (.imul, 1) := by decide +kernel
theorem dX6_sameRow_11 : decode cX6_sameRow 11 = .ok (.iadd, 1) := by decide +kernel
theorem dX6_sameRow_12 : decode cX6_sameRow 12 = .ok (.istore 4, 2) := by decide +kernel
theorem dX6_sameRow_14 : decode cX6_sameRow 14 = .ok (.sipush 240, 3) := by decide +kernel
theorem dX6_sameRow_17 : decode cX6_sameRow 17 = .ok (.iload_n 1, 1) := by decide +kernel
theorem dX6_sameRow_18 : decode cX6_sameRow 18 = .ok (.imul, 1) := by decide +kernel
theorem dX6_sameRow_19 : decode cX6_sameRow 19 = .ok (.iconst 2, 1) := by decide +kernel
theorem dX6_sameRow_20 : decode cX6_sameRow 20 = .ok (.iload_n 3, 1) := by decide +kernel
theorem dX6_sameRow_21 : decode cX6_sameRow 21 = .ok (.bipush (-60), 2) := by decide +kernel
theorem dX6_sameRow_23 : decode cX6_sameRow 23 = .ok (.isub, 1) := by decide +kernel
theorem dX6_sameRow_24 : decode cX6_sameRow 24 = .ok (.imul, 1) := by decide +kernel
theorem dX6_sameRow_25 : decode cX6_sameRow 25 = .ok (.iadd, 1) := by decide +kernel
theorem dX6_sameRow_26 : decode cX6_sameRow 26 = .ok (.istore 5, 2) := by decide +kernel
theorem dX6_sameRow_28 : decode cX6_sameRow 28 = .ok (.aload_n 0, 1) := by decide +kernel
theorem dX6_sameRow_29 : decode cX6_sameRow 29 = .ok (.getfield 7, 3) := by decide +kernel
theorem dX6_sameRow_32 : decode cX6_sameRow 32 = .ok (.iload 4, 2) := by decide +kernel
theorem dX6_sameRow_34 : decode cX6_sameRow 34 = .ok (.laload, 1) := by decide +kernel
theorem dX6_sameRow_35 : decode cX6_sameRow 35 = .ok (.aload_n 0, 1) := by decide +kernel
theorem dX6_sameRow_36 : decode cX6_sameRow 36 = .ok (.getfield 7, 3) := by decide +kernel
theorem dX6_sameRow_39 : decode cX6_sameRow 39 = .ok (.iload 5, 2) := by decide +kernel
theorem dX6_sameRow_41 : decode cX6_sameRow 41 = .ok (.laload, 1) := by decide +kernel
theorem dX6_sameRow_42 : decode cX6_sameRow 42 = .ok (.lcmp, 1) := by decide +kernel
theorem dX6_sameRow_43 : decode cX6_sameRow 43 = .ok (.ifCond .ne 29, 3) := by decide +kernel
theorem dX6_sameRow_46 : decode cX6_sameRow 46 = .ok (.aload_n 0, 1) := by decide +kernel
theorem dX6_sameRow_47 : decode cX6_sameRow 47 = .ok (.getfield 7, 3) := by decide +kernel
theorem dX6_sameRow_50 : decode cX6_sameRow 50 = .ok (.iload 4, 2) := by decide +kernel
theorem dX6_sameRow_52 : decode cX6_sameRow 52 = .ok (.iconst 1, 1) := by decide +kernel
theorem dX6_sameRow_53 : decode cX6_sameRow 53 = .ok (.iadd, 1) := by decide +kernel
theorem dX6_sameRow_54 : decode cX6_sameRow 54 = .ok (.laload, 1) := by decide +kernel
theorem dX6_sameRow_55 : decode cX6_sameRow 55 = .ok (.aload_n 0, 1) := by decide +kernel
theorem dX6_sameRow_56 : decode cX6_sameRow 56 = .ok (.getfield 7, 3) := by decide +kernel
theorem dX6_sameRow_59 : decode cX6_sameRow 59 = .ok (.iload 5, 2) := by decide +kernel
theorem dX6_sameRow_61 : decode cX6_sameRow 61 = .ok (.iconst 1, 1) := by decide +kernel
theorem dX6_sameRow_62 : decode cX6_sameRow 62 = .ok (.iadd, 1) := by decide +kernel
theorem dX6_sameRow_63 : decode cX6_sameRow 63 = .ok (.laload, 1) := by decide +kernel
theorem dX6_sameRow_64 : decode cX6_sameRow 64 = .ok (.lcmp, 1) := by decide +kernel
theorem dX6_sameRow_65 : decode cX6_sameRow 65 = .ok (.ifCond .ne 7, 3) := by decide +kernel
theorem dX6_sameRow_68 : decode cX6_sameRow 68 = .ok (.iconst 1, 1) := by decide +kernel
theorem dX6_sameRow_69 : decode cX6_sameRow 69 = .ok (.goto 4, 3) := by decide +kernel
theorem dX6_sameRow_72 : decode cX6_sameRow 72 = .ok (.iconst 0, 1) := by decide +kernel
theorem dX6_sameRow_73 : decode cX6_sameRow 73 = .ok (.ireturn, 1) := by decide +kernel
theorem dX6_isEmptyRow_0 : decode cX6_isEmptyRow 0 = .ok (.sipush 240, 3) := by decide +kernel
theorem dX6_isEmptyRow_3 : decode cX6_isEmptyRow 3 = .ok (.iload_n 1, 1) := by decide +kernel
theorem dX6_isEmptyRow_4 : decode cX6_isEmptyRow 4 = .ok (.imul, 1) := by decide +kernel
theorem dX6_isEmptyRow_5 : decode cX6_isEmptyRow 5 = .ok (.iconst 2, 1) := by decide +kernel
theorem dX6_isEmptyRow_6 : decode cX6_isEmptyRow 6 = .ok (.iload_n 2, 1) := by decide +kernel
theorem dX6_isEmptyRow_7 : decode cX6_isEmptyRow 7 = .ok (.bipush (-60), 2) := by decide +kernel
theorem dX6_isEmptyRow_9 : decode cX6_isEmptyRow 9 = .ok (.isub, 1) := by decide +kernel
theorem dX6_isEmptyRow_10 : decode cX6_isEmptyRow 10 = .ok (.imul, 1) := by decide +kernel
theorem dX6_isEmptyRow_11 : decode cX6_isEmptyRow 11 = .ok (.iadd, 1) := by decide +kernel
theorem dX6_isEmptyRow_12 : decode cX6_isEmptyRow 12 = .ok (.istore_n 3, 1) := by decide +kernel
theorem dX6_isEmptyRow_13 : decode cX6_isEmptyRow 13 = .ok (.aload_n 0, 1) := by decide +kernel
theorem dX6_isEmptyRow_14 : decode cX6_isEmptyRow 14 = .ok (.getfield 7, 3) := by decide +kernel
theorem dX6_isEmptyRow_17 : decode cX6_isEmptyRow 17 = .ok (.iload_n 3, 1) := by decide +kernel
theorem dX6_isEmptyRow_18 : decode cX6_isEmptyRow 18 = .ok (.laload, 1) := by decide +kernel
theorem dX6_isEmptyRow_19 : decode cX6_isEmptyRow 19 = .ok (.lconst 0, 1) := by decide +kernel
theorem dX6_isEmptyRow_20 : decode cX6_isEmptyRow 20 = .ok (.lcmp, 1) := by decide +kernel
theorem dX6_isEmptyRow_21 : decode cX6_isEmptyRow 21 = .ok (.ifCond .ne 20, 3) := by decide +kernel
theorem dX6_isEmptyRow_24 : decode cX6_isEmptyRow 24 = .ok (.aload_n 0, 1) := by decide +kernel
theorem dX6_isEmptyRow_25 : decode cX6_isEmptyRow 25 = .ok (.getfield 7, 3) := by decide +kernel
theorem dX6_isEmptyRow_28 : decode cX6_isEmptyRow 28 = .ok (.iload_n 3, 1) := by decide +kernel
theorem dX6_isEmptyRow_29 : decode cX6_isEmptyRow 29 = .ok (.iconst 1, 1) := by decide +kernel
theorem dX6_isEmptyRow_30 : decode cX6_isEmptyRow 30 = .ok (.iadd, 1) := by decide +kernel
theorem dX6_isEmptyRow_31 : decode cX6_isEmptyRow 31 = .ok (.laload, 1) := by decide +kernel
theorem dX6_isEmptyRow_32 : decode cX6_isEmptyRow 32 = .ok (.lconst 0, 1) := by decide +kernel
theorem dX6_isEmptyRow_33 : decode cX6_isEmptyRow 33 = .ok (.lcmp, 1) := by decide +kernel
theorem dX6_isEmptyRow_34 : decode cX6_isEmptyRow 34 = .ok (.ifCond .ne 7, 3) := by decide +kernel
theorem dX6_isEmptyRow_37 : decode cX6_isEmptyRow 37 = .ok (.iconst 1, 1) := by decide +kernel
theorem dX6_isEmptyRow_38 : decode cX6_isEmptyRow 38 = .ok (.goto 4, 3) := by decide +kernel
theorem dX6_isEmptyRow_41 : decode cX6_isEmptyRow 41 = .ok (.iconst 0, 1) := by decide +kernel
theorem dX6_isEmptyRow_42 : decode cX6_isEmptyRow 42 = .ok (.ireturn, 1) := by decide +kernel
theorem dX6_writes_0 : decode cX6_writes 0 = .ok (.aload_n 0, 1) := by decide +kernel
theorem dX6_writes_1 : decode cX6_writes 1 = .ok (.aload_n 0, 1) := by decide +kernel
theorem dX6_writes_2 : decode cX6_writes 2 = .ok (.getfield 45, 3) := by decide +kernel
theorem dX6_writes_5 : decode cX6_writes 5 = .ok (.aload_n 0, 1) := by decide +kernel
theorem dX6_writes_6 : decode cX6_writes 6 = .ok (.getfield 49, 3) := by decide +kernel
theorem dX6_writes_9 : decode cX6_writes 9 = .ok (.if_icmp .ne 7, 3) := by decide +kernel
theorem dX6_writes_12 : decode cX6_writes 12 = .ok (.iload_n 1, 1) := by decide +kernel
theorem dX6_writes_13 : decode cX6_writes 13 = .ok (.goto 7, 3) := by decide +kernel
theorem dX6_writes_16 : decode cX6_writes 16 = .ok (.aload_n 0, 1) := by decide +kernel
theorem dX6_writes_17 : decode cX6_writes 17 = .ok (.getfield 52, 3) := by decide +kernel
theorem dX6_writes_20 : decode cX6_writes 20 = .ok (.putfield 52, 3) := by decide +kernel
theorem dX6_writes_23 : decode cX6_writes 23 = .ok (.aload_n 0, 1) := by decide +kernel
theorem dX6_writes_24 : decode cX6_writes 24 = .ok (.bipush 31, 2) := by decide +kernel
theorem dX6_writes_26 : decode cX6_writes 26 = .ok (.aload_n 0, 1) := by decide +kernel
theorem dX6_writes_27 : decode cX6_writes 27 = .ok (.getfield 55, 3) := by decide +kernel
theorem dX6_writes_30 : decode cX6_writes 30 = .ok (.imul, 1) := by decide +kernel
theorem dX6_writes_31 : decode cX6_writes 31 = .ok (.iload_n 1, 1) := by decide +kernel
theorem dX6_writes_32 : decode cX6_writes 32 = .ok (.iadd, 1) := by decide +kernel
theorem dX6_writes_33 : decode cX6_writes 33 = .ok (.putfield 55, 3) := by decide +kernel
theorem dX6_writes_36 : decode cX6_writes 36 = .ok (.aload_n 0, 1) := by decide +kernel
theorem dX6_writes_37 : decode cX6_writes 37 = .ok (.dup, 1) := by decide +kernel
theorem dX6_writes_38 : decode cX6_writes 38 = .ok (.getfield 45, 3) := by decide +kernel
theorem dX6_writes_41 : decode cX6_writes 41 = .ok (.iconst 1, 1) := by decide +kernel
theorem dX6_writes_42 : decode cX6_writes 42 = .ok (.iadd, 1) := by decide +kernel
theorem dX6_writes_43 : decode cX6_writes 43 = .ok (.putfield 45, 3) := by decide +kernel
theorem dX6_writes_46 : decode cX6_writes 46 = .ok (.return_, 1) := by decide +kernel
theorem dX6_writesNumber_0 : decode cX6_writesNumber 0 = .ok (.iload_n 1, 1) := by decide +kernel
theorem dX6_writesNumber_1 : decode cX6_writesNumber 1 = .ok (.ifCond .ge 8, 3) := by decide +kernel
theorem dX6_writesNumber_4 : decode cX6_writesNumber 4 = .ok (.iload_n 1, 1) := by decide +kernel
theorem dX6_writesNumber_5 : decode cX6_writesNumber 5 = .ok (.ineg, 1) := by decide +kernel
theorem dX6_writesNumber_6 : decode cX6_writesNumber 6 = .ok (.goto 4, 3) := by decide +kernel
theorem dX6_writesNumber_9 : decode cX6_writesNumber 9 = .ok (.iload_n 1, 1) := by decide +kernel
theorem dX6_writesNumber_10 : decode cX6_writesNumber 10 = .ok (.istore_n 2, 1) := by decide +kernel
theorem dX6_writesNumber_11 : decode cX6_writesNumber 11 = .ok (.iload_n 1, 1) := by decide +kernel
theorem dX6_writesNumber_12 : decode cX6_writesNumber 12 = .ok (.ifCond .ge 9, 3) := by decide +kernel
theorem dX6_writesNumber_15 : decode cX6_writesNumber 15 = .ok (.aload_n 0, 1) := by decide +kernel
theorem dX6_writesNumber_16 : decode cX6_writesNumber 16 = .ok (.bipush 45, 2) := by decide +kernel
theorem dX6_writesNumber_18 : decode cX6_writesNumber 18 = .ok (.invokevirtual 58, 3) := by decide +kernel
theorem dX6_writesNumber_21 : decode cX6_writesNumber 21 = .ok (.iload_n 2, 1) := by decide +kernel
theorem dX6_writesNumber_22 : decode cX6_writesNumber 22 = .ok (.bipush 9, 2) := by decide +kernel
theorem dX6_writesNumber_24 : decode cX6_writesNumber 24 = .ok (.if_icmp .le 14, 3) := by decide +kernel
theorem dX6_writesNumber_27 : decode cX6_writesNumber 27 = .ok (.aload_n 0, 1) := by decide +kernel
theorem dX6_writesNumber_28 : decode cX6_writesNumber 28 = .ok (.bipush 48, 2) := by decide +kernel
theorem dX6_writesNumber_30 : decode cX6_writesNumber 30 = .ok (.iload_n 2, 1) := by decide +kernel
theorem dX6_writesNumber_31 : decode cX6_writesNumber 31 = .ok (.bipush 10, 2) := by decide +kernel
theorem dX6_writesNumber_33 : decode cX6_writesNumber 33 = .ok (.idiv, 1) := by decide +kernel
theorem dX6_writesNumber_34 : decode cX6_writesNumber 34 = .ok (.iadd, 1) := by decide +kernel
theorem dX6_writesNumber_35 : decode cX6_writesNumber 35 = .ok (.invokevirtual 58, 3) := by decide +kernel
theorem dX6_writesNumber_38 : decode cX6_writesNumber 38 = .ok (.aload_n 0, 1) := by decide +kernel
theorem dX6_writesNumber_39 : decode cX6_writesNumber 39 = .ok (.bipush 48, 2) := by decide +kernel
theorem dX6_writesNumber_41 : decode cX6_writesNumber 41 = .ok (.iload_n 2, 1) := by decide +kernel
theorem dX6_writesNumber_42 : decode cX6_writesNumber 42 = .ok (.bipush 10, 2) := by decide +kernel
theorem dX6_writesNumber_44 : decode cX6_writesNumber 44 = .ok (.irem, 1) := by decide +kernel
theorem dX6_writesNumber_45 : decode cX6_writesNumber 45 = .ok (.iadd, 1) := by decide +kernel
theorem dX6_writesNumber_46 : decode cX6_writesNumber 46 = .ok (.invokevirtual 58, 3) := by decide +kernel
theorem dX6_writesNumber_49 : decode cX6_writesNumber 49 = .ok (.return_, 1) := by decide +kernel
theorem dX6_firstOf_0 : decode cX6_firstOf 0 = .ok (.iload_n 0, 1) := by decide +kernel
theorem dX6_firstOf_1 : decode cX6_firstOf 1 = .ok (.ifCond .ne 7, 3) := by decide +kernel
theorem dX6_firstOf_4 : decode cX6_firstOf 4 = .ok (.iload_n 1, 1) := by decide +kernel
theorem dX6_firstOf_5 : decode cX6_firstOf 5 = .ok (.goto 23, 3) := by decide +kernel
theorem dX6_firstOf_8 : decode cX6_firstOf 8 = .ok (.iload_n 0, 1) := by decide +kernel
theorem dX6_firstOf_9 : decode cX6_firstOf 9 = .ok (.iconst 1, 1) := by decide +kernel
theorem dX6_firstOf_10 : decode cX6_firstOf 10 = .ok (.if_icmp .ne 7, 3) := by decide +kernel
theorem dX6_firstOf_13 : decode cX6_firstOf 13 = .ok (.iload_n 2, 1) := by decide +kernel
theorem dX6_firstOf_14 : decode cX6_firstOf 14 = .ok (.goto 14, 3) := by decide +kernel
theorem dX6_firstOf_17 : decode cX6_firstOf 17 = .ok (.iload_n 0, 1) := by decide +kernel
theorem dX6_firstOf_18 : decode cX6_firstOf 18 = .ok (.iconst 2, 1) := by decide +kernel
theorem dX6_firstOf_19 : decode cX6_firstOf 19 = .ok (.if_icmp .ne 7, 3) := by decide +kernel
theorem dX6_firstOf_22 : decode cX6_firstOf 22 = .ok (.iload_n 3, 1) := by decide +kernel
theorem dX6_firstOf_23 : decode cX6_firstOf 23 = .ok (.goto 5, 3) := by decide +kernel
theorem dX6_firstOf_26 : decode cX6_firstOf 26 = .ok (.iload 4, 2) := by decide +kernel
theorem dX6_firstOf_28 : decode cX6_firstOf 28 = .ok (.ireturn, 1) := by decide +kernel
theorem dX6_band_0 : decode cX6_band 0 = .ok (.aload_n 0, 1) := by decide +kernel
theorem dX6_band_1 : decode cX6_band 1 = .ok (.iload_n 2, 1) := by decide +kernel
theorem dX6_band_2 : decode cX6_band 2 = .ok (.invokevirtual 62, 3) := by decide +kernel
theorem dX6_band_5 : decode cX6_band 5 = .ok (.aload_n 0, 1) := by decide +kernel
theorem dX6_band_6 : decode cX6_band 6 = .ok (.bipush 46, 2) := by decide +kernel
theorem dX6_band_8 : decode cX6_band 8 = .ok (.invokevirtual 58, 3) := by decide +kernel
theorem dX6_band_11 : decode cX6_band 11 = .ok (.aload_n 0, 1) := by decide +kernel
theorem dX6_band_12 : decode cX6_band 12 = .ok (.iload_n 3, 1) := by decide +kernel
theorem dX6_band_13 : decode cX6_band 13 = .ok (.invokevirtual 62, 3) := by decide +kernel
theorem dX6_band_16 : decode cX6_band 16 = .ok (.aload_n 0, 1) := by decide +kernel
theorem dX6_band_17 : decode cX6_band 17 = .ok (.bipush 58, 2) := by decide +kernel
theorem dX6_band_19 : decode cX6_band 19 = .ok (.invokevirtual 58, 3) := by decide +kernel
theorem dX6_band_22 : decode cX6_band 22 = .ok (.iconst 1, 1) := by decide +kernel
theorem dX6_band_23 : decode cX6_band 23 = .ok (.istore 5, 2) := by decide +kernel
theorem dX6_band_25 : decode cX6_band 25 = .ok (.bipush (-60), 2) := by decide +kernel
theorem dX6_band_27 : decode cX6_band 27 = .ok (.istore 6, 2) := by decide +kernel
theorem dX6_band_29 : decode cX6_band 29 = .ok (.iload 6, 2) := by decide +kernel
theorem dX6_band_31 : decode cX6_band 31 = .ok (.bipush 59, 2) := by decide +kernel
theorem dX6_band_33 : decode cX6_band 33 = .ok (.if_icmp .gt 115, 3) := by decide +kernel
theorem dX6_band_36 : decode cX6_band 36 = .ok (.iload 6, 2) := by decide +kernel
theorem dX6_band_38 : decode cX6_band 38 = .ok (.istore 7, 2) := by decide +kernel
theorem dX6_band_40 : decode cX6_band 40 = .ok (.aload_n 0, 1) := by decide +kernel
theorem dX6_band_41 : decode cX6_band 41 = .ok (.iload_n 1, 1) := by decide +kernel
theorem dX6_band_42 : decode cX6_band 42 = .ok (.iload 7, 2) := by decide +kernel
theorem dX6_band_44 : decode cX6_band 44 = .ok (.iload_n 2, 1) := by decide +kernel
theorem dX6_band_45 : decode cX6_band 45 = .ok (.invokevirtual 65, 3) := by decide +kernel
theorem dX6_band_48 : decode cX6_band 48 = .ok (.ifCond .eq 9, 3) := by decide +kernel
theorem dX6_band_51 : decode cX6_band 51 = .ok (.iinc 7 1, 3) := by decide +kernel
theorem dX6_band_54 : decode cX6_band 54 = .ok (.goto (-14), 3) := by decide +kernel
theorem dX6_band_57 : decode cX6_band 57 = .ok (.iload 7, 2) := by decide +kernel
theorem dX6_band_59 : decode cX6_band 59 = .ok (.iload 6, 2) := by decide +kernel
theorem dX6_band_61 : decode cX6_band 61 = .ok (.if_icmp .le 78, 3) := by decide +kernel
theorem dX6_band_64 : decode cX6_band 64 = .ok (.iload 5, 2) := by decide +kernel
theorem dX6_band_66 : decode cX6_band 66 = .ok (.ifCond .ne 9, 3) := by decide +kernel
theorem dX6_band_69 : decode cX6_band 69 = .ok (.aload_n 0, 1) := by decide +kernel
theorem dX6_band_70 : decode cX6_band 70 = .ok (.bipush 44, 2) := by decide +kernel
theorem dX6_band_72 : decode cX6_band 72 = .ok (.invokevirtual 58, 3) := by decide +kernel
theorem dX6_band_75 : decode cX6_band 75 = .ok (.iconst 0, 1) := by decide +kernel
theorem dX6_band_76 : decode cX6_band 76 = .ok (.istore 5, 2) := by decide +kernel
theorem dX6_band_78 : decode cX6_band 78 = .ok (.aload_n 0, 1) := by decide +kernel
theorem dX6_band_79 : decode cX6_band 79 = .ok (.iload 6, 2) := by decide +kernel
theorem dX6_band_81 : decode cX6_band 81 = .ok (.invokevirtual 62, 3) := by decide +kernel
theorem dX6_band_84 : decode cX6_band 84 = .ok (.aload_n 0, 1) := by decide +kernel
theorem dX6_band_85 : decode cX6_band 85 = .ok (.bipush 46, 2) := by decide +kernel
theorem dX6_band_87 : decode cX6_band 87 = .ok (.invokevirtual 58, 3) := by decide +kernel
theorem dX6_band_90 : decode cX6_band 90 = .ok (.aload_n 0, 1) := by decide +kernel
theorem dX6_band_91 : decode cX6_band 91 = .ok (.iload 7, 2) := by decide +kernel
theorem dX6_band_93 : decode cX6_band 93 = .ok (.invokevirtual 62, 3) := by decide +kernel
theorem dX6_band_96 : decode cX6_band 96 = .ok (.aload_n 0, 1) := by decide +kernel
theorem dX6_band_97 : decode cX6_band 97 = .ok (.aload_n 0, 1) := by decide +kernel
theorem dX6_band_98 : decode cX6_band 98 = .ok (.getfield 68, 3) := by decide +kernel
theorem dX6_band_101 : decode cX6_band 101 = .ok (.aload_n 0, 1) := by decide +kernel
theorem dX6_band_102 : decode cX6_band 102 = .ok (.getfield 71, 3) := by decide +kernel
theorem dX6_band_105 : decode cX6_band 105 = .ok (.if_icmp .ne 17, 3) := by decide +kernel
theorem dX6_band_108 : decode cX6_band 108 = .ok (.iload 4, 2) := by decide +kernel
theorem dX6_band_110 : decode cX6_band 110 = .ok (.iload 6, 2) := by decide +kernel
theorem dX6_band_112 : decode cX6_band 112 = .ok (.iload 7, 2) := by decide +kernel
theorem dX6_band_114 : decode cX6_band 114 = .ok (.iload_n 2, 1) := by decide +kernel
theorem dX6_band_115 : decode cX6_band 115 = .ok (.iload_n 3, 1) := by decide +kernel
theorem dX6_band_116 : decode cX6_band 116 = .ok (.invokestatic 74, 3) := by decide +kernel
theorem dX6_band_119 : decode cX6_band 119 = .ok (.goto 7, 3) := by decide +kernel
theorem dX6_band_122 : decode cX6_band 122 = .ok (.aload_n 0, 1) := by decide +kernel
theorem dX6_band_123 : decode cX6_band 123 = .ok (.getfield 78, 3) := by decide +kernel
theorem dX6_band_126 : decode cX6_band 126 = .ok (.putfield 78, 3) := by decide +kernel
theorem dX6_band_129 : decode cX6_band 129 = .ok (.aload_n 0, 1) := by decide +kernel
theorem dX6_band_130 : decode cX6_band 130 = .ok (.dup, 1) := by decide +kernel
theorem dX6_band_131 : decode cX6_band 131 = .ok (.getfield 68, 3) := by decide +kernel
theorem dX6_band_134 : decode cX6_band 134 = .ok (.iconst 1, 1) := by decide +kernel
theorem dX6_band_135 : decode cX6_band 135 = .ok (.iadd, 1) := by decide +kernel
theorem dX6_band_136 : decode cX6_band 136 = .ok (.putfield 68, 3) := by decide +kernel
theorem dX6_band_139 : decode cX6_band 139 = .ok (.iload 7, 2) := by decide +kernel
theorem dX6_band_141 : decode cX6_band 141 = .ok (.iconst 1, 1) := by decide +kernel
theorem dX6_band_142 : decode cX6_band 142 = .ok (.iadd, 1) := by decide +kernel
theorem dX6_band_143 : decode cX6_band 143 = .ok (.istore 6, 2) := by decide +kernel
theorem dX6_band_145 : decode cX6_band 145 = .ok (.goto (-116), 3) := by decide +kernel
theorem dX6_band_148 : decode cX6_band 148 = .ok (.aload_n 0, 1) := by decide +kernel
theorem dX6_band_149 : decode cX6_band 149 = .ok (.bipush 59, 2) := by decide +kernel
theorem dX6_band_151 : decode cX6_band 151 = .ok (.invokevirtual 58, 3) := by decide +kernel
theorem dX6_band_154 : decode cX6_band 154 = .ok (.aload_n 0, 1) := by decide +kernel
theorem dX6_band_155 : decode cX6_band 155 = .ok (.dup, 1) := by decide +kernel
theorem dX6_band_156 : decode cX6_band 156 = .ok (.getfield 81, 3) := by decide +kernel
theorem dX6_band_159 : decode cX6_band 159 = .ok (.iconst 1, 1) := by decide +kernel
theorem dX6_band_160 : decode cX6_band 160 = .ok (.iadd, 1) := by decide +kernel
theorem dX6_band_161 : decode cX6_band 161 = .ok (.putfield 81, 3) := by decide +kernel
theorem dX6_band_164 : decode cX6_band 164 = .ok (.return_, 1) := by decide +kernel
theorem dX6_forms_0 : decode cX6_forms 0 = .ok (.aload_n 0, 1) := by decide +kernel
theorem dX6_forms_1 : decode cX6_forms 1 = .ok (.iconst 0, 1) := by decide +kernel
theorem dX6_forms_2 : decode cX6_forms 2 = .ok (.putfield 68, 3) := by decide +kernel
theorem dX6_forms_5 : decode cX6_forms 5 = .ok (.aload_n 0, 1) := by decide +kernel
theorem dX6_forms_6 : decode cX6_forms 6 = .ok (.iconst 0, 1) := by decide +kernel
theorem dX6_forms_7 : decode cX6_forms 7 = .ok (.putfield 81, 3) := by decide +kernel
theorem dX6_forms_10 : decode cX6_forms 10 = .ok (.aload_n 0, 1) := by decide +kernel
theorem dX6_forms_11 : decode cX6_forms 11 = .ok (.iconst 0, 1) := by decide +kernel
theorem dX6_forms_12 : decode cX6_forms 12 = .ok (.putfield 45, 3) := by decide +kernel
theorem dX6_forms_15 : decode cX6_forms 15 = .ok (.aload_n 0, 1) := by decide +kernel
theorem dX6_forms_16 : decode cX6_forms 16 = .ok (.iconst 0, 1) := by decide +kernel
theorem dX6_forms_17 : decode cX6_forms 17 = .ok (.putfield 55, 3) := by decide +kernel
theorem dX6_forms_20 : decode cX6_forms 20 = .ok (.aload_n 0, 1) := by decide +kernel
theorem dX6_forms_21 : decode cX6_forms 21 = .ok (.iload_n 2, 1) := by decide +kernel
theorem dX6_forms_22 : decode cX6_forms 22 = .ok (.putfield 71, 3) := by decide +kernel
theorem dX6_forms_25 : decode cX6_forms 25 = .ok (.aload_n 0, 1) := by decide +kernel
theorem dX6_forms_26 : decode cX6_forms 26 = .ok (.iload 4, 2) := by decide +kernel
theorem dX6_forms_28 : decode cX6_forms 28 = .ok (.putfield 49, 3) := by decide +kernel
theorem dX6_forms_31 : decode cX6_forms 31 = .ok (.aload_n 0, 1) := by decide +kernel
theorem dX6_forms_32 : decode cX6_forms 32 = .ok (.sipush (-201), 3) := by decide +kernel
theorem dX6_forms_35 : decode cX6_forms 35 = .ok (.putfield 78, 3) := by decide +kernel
theorem dX6_forms_38 : decode cX6_forms 38 = .ok (.aload_n 0, 1) := by decide +kernel
theorem dX6_forms_39 : decode cX6_forms 39 = .ok (.sipush (-201), 3) := by decide +kernel
theorem dX6_forms_42 : decode cX6_forms 42 = .ok (.putfield 52, 3) := by decide +kernel
theorem dX6_forms_45 : decode cX6_forms 45 = .ok (.bipush (-60), 2) := by decide +kernel
theorem dX6_forms_47 : decode cX6_forms 47 = .ok (.istore 5, 2) := by decide +kernel
theorem dX6_forms_49 : decode cX6_forms 49 = .ok (.iload 5, 2) := by decide +kernel
theorem dX6_forms_51 : decode cX6_forms 51 = .ok (.bipush 59, 2) := by decide +kernel
theorem dX6_forms_53 : decode cX6_forms 53 = .ok (.if_icmp .gt 61, 3) := by decide +kernel
theorem dX6_forms_56 : decode cX6_forms 56 = .ok (.iload 5, 2) := by decide +kernel
theorem dX6_forms_58 : decode cX6_forms 58 = .ok (.iconst 1, 1) := by decide +kernel
theorem dX6_forms_59 : decode cX6_forms 59 = .ok (.iadd, 1) := by decide +kernel
theorem dX6_forms_60 : decode cX6_forms 60 = .ok (.istore 6, 2) := by decide +kernel
theorem dX6_forms_62 : decode cX6_forms 62 = .ok (.iload 6, 2) := by decide +kernel
theorem dX6_forms_64 : decode cX6_forms 64 = .ok (.bipush 59, 2) := by decide +kernel
theorem dX6_forms_66 : decode cX6_forms 66 = .ok (.if_icmp .gt 21, 3) := by decide +kernel
theorem dX6_forms_69 : decode cX6_forms 69 = .ok (.aload_n 0, 1) := by decide +kernel
theorem dX6_forms_70 : decode cX6_forms 70 = .ok (.iload_n 1, 1) := by decide +kernel
theorem dX6_forms_71 : decode cX6_forms 71 = .ok (.iload 5, 2) := by decide +kernel
theorem dX6_forms_73 : decode cX6_forms 73 = .ok (.iload 6, 2) := by decide +kernel
theorem dX6_forms_75 : decode cX6_forms 75 = .ok (.invokevirtual 84, 3) := by decide +kernel
theorem dX6_forms_78 : decode cX6_forms 78 = .ok (.ifCond .eq 9, 3) := by decide +kernel
theorem dX6_forms_81 : decode cX6_forms 81 = .ok (.iinc 6 1, 3) := by decide +kernel
theorem dX6_forms_84 : decode cX6_forms 84 = .ok (.goto (-22), 3) := by decide +kernel
theorem dX6_forms_87 : decode cX6_forms 87 = .ok (.aload_n 0, 1) := by decide +kernel
theorem dX6_forms_88 : decode cX6_forms 88 = .ok (.iload_n 1, 1) := by decide +kernel
theorem dX6_forms_89 : decode cX6_forms 89 = .ok (.iload 5, 2) := by decide +kernel
theorem dX6_forms_91 : decode cX6_forms 91 = .ok (.invokevirtual 87, 3) := by decide +kernel
theorem dX6_forms_94 : decode cX6_forms 94 = .ok (.ifCond .ne 13, 3) := by decide +kernel
theorem dX6_forms_97 : decode cX6_forms 97 = .ok (.aload_n 0, 1) := by decide +kernel
theorem dX6_forms_98 : decode cX6_forms 98 = .ok (.iload_n 1, 1) := by decide +kernel
theorem dX6_forms_99 : decode cX6_forms 99 = .ok (.iload 5, 2) := by decide +kernel
theorem dX6_forms_101 : decode cX6_forms 101 = .ok (.iload 6, 2) := by decide +kernel
theorem dX6_forms_103 : decode cX6_forms 103 = .ok (.iload_n 3, 1) := by decide +kernel
theorem dX6_forms_104 : decode cX6_forms 104 = .ok (.invokevirtual 90, 3) := by decide +kernel
theorem dX6_forms_107 : decode cX6_forms 107 = .ok (.iload 6, 2) := by decide +kernel
theorem dX6_forms_109 : decode cX6_forms 109 = .ok (.istore 5, 2) := by decide +kernel
theorem dX6_forms_111 : decode cX6_forms 111 = .ok (.goto (-62), 3) := by decide +kernel
theorem dX6_forms_114 : decode cX6_forms 114 = .ok (.return_, 1) := by decide +kernel
theorem dX6_becomes_0 : decode cX6_becomes 0 = .ok (.aload_n 0, 1) := by decide +kernel
theorem dX6_becomes_1 : decode cX6_becomes 1 = .ok (.iconst 5, 1) := by decide +kernel
theorem dX6_becomes_2 : decode cX6_becomes 2 = .ok (.iconst 0, 1) := by decide +kernel
theorem dX6_becomes_3 : decode cX6_becomes 3 = .ok (.iconst 0, 1) := by decide +kernel
theorem dX6_becomes_4 : decode cX6_becomes 4 = .ok (.iconst 0, 1) := by decide +kernel
theorem dX6_becomes_5 : decode cX6_becomes 5 = .ok (.invokevirtual 94, 3) := by decide +kernel
theorem dX6_becomes_8 : decode cX6_becomes 8 = .ok (.aload_n 0, 1) := by decide +kernel
theorem dX6_becomes_9 : decode cX6_becomes 9 = .ok (.getfield 81, 3) := by decide +kernel
theorem dX6_becomes_12 : decode cX6_becomes 12 = .ok (.bipush 60, 2) := by decide +kernel
theorem dX6_becomes_14 : decode cX6_becomes 14 = .ok (.if_icmp .gt 13, 3) := by decide +kernel
theorem dX6_becomes_17 : decode cX6_becomes 17 = .ok (.aload_n 0, 1) := by decide +kernel
theorem dX6_becomes_18 : decode cX6_becomes 18 = .ok (.getfield 68, 3) := by decide +kernel
theorem dX6_becomes_21 : decode cX6_becomes 21 = .ok (.sipush 300, 3) := by decide +kernel
theorem dX6_becomes_24 : decode cX6_becomes 24 = .ok (.if_icmp .le 7, 3) := by decide +kernel
theorem dX6_becomes_27 : decode cX6_becomes 27 = .ok (.sipush (-204), 3) := by decide +kernel
theorem dX6_becomes_30 : decode cX6_becomes 30 = .ok (.ireturn, 1) := by decide +kernel
theorem dX6_becomes_31 : decode cX6_becomes 31 = .ok (.aload_n 0, 1) := by decide +kernel
theorem dX6_becomes_32 : decode cX6_becomes 32 = .ok (.iconst 5, 1) := by decide +kernel
theorem dX6_becomes_33 : decode cX6_becomes 33 = .ok (.iload_n 1, 1) := by decide +kernel
theorem dX6_becomes_34 : decode cX6_becomes 34 = .ok (.invokevirtual 97, 3) := by decide +kernel
theorem dX6_becomes_37 : decode cX6_becomes 37 = .ok (.aload_n 0, 1) := by decide +kernel
theorem dX6_becomes_38 : decode cX6_becomes 38 = .ok (.iload_n 1, 1) := by decide +kernel
theorem dX6_becomes_39 : decode cX6_becomes 39 = .ok (.invokevirtual 101, 3) := by decide +kernel
theorem dX6_becomes_42 : decode cX6_becomes 42 = .ok (.ireturn, 1) := by decide +kernel
theorem dX6_ends_0 : decode cX6_ends 0 = .ok (.iload_n 1, 1) := by decide +kernel
theorem dX6_ends_1 : decode cX6_ends 1 = .ok (.sipush (-204), 3) := by decide +kernel
theorem dX6_ends_4 : decode cX6_ends 4 = .ok (.if_icmp .eq 10, 3) := by decide +kernel
theorem dX6_ends_7 : decode cX6_ends 7 = .ok (.iload_n 1, 1) := by decide +kernel
theorem dX6_ends_8 : decode cX6_ends 8 = .ok (.sipush (-203), 3) := by decide +kernel
theorem dX6_ends_11 : decode cX6_ends 11 = .ok (.if_icmp .ne 11, 3) := by decide +kernel
theorem dX6_ends_14 : decode cX6_ends 14 = .ok (.aload_n 0, 1) := by decide +kernel
theorem dX6_ends_15 : decode cX6_ends 15 = .ok (.iload_n 1, 1) := by decide +kernel
theorem dX6_ends_16 : decode cX6_ends 16 = .ok (.invokevirtual 105, 3) := by decide +kernel
theorem dX6_ends_19 : decode cX6_ends 19 = .ok (.goto 4, 3) := by decide +kernel
theorem dX6_ends_22 : decode cX6_ends 22 = .ok (.iload_n 1, 1) := by decide +kernel
theorem dX6_ends_23 : decode cX6_ends 23 = .ok (.ireturn, 1) := by decide +kernel
theorem dX6_boxes_0 : decode cX6_boxes 0 = .ok (.iload_n 1, 1) := by decide +kernel
theorem dX6_boxes_1 : decode cX6_boxes 1 = .ok (.iload_n 3, 1) := by decide +kernel
theorem dX6_boxes_2 : decode cX6_boxes 2 = .ok (.iadd, 1) := by decide +kernel
theorem dX6_boxes_3 : decode cX6_boxes 3 = .ok (.bipush 60, 2) := by decide +kernel
theorem dX6_boxes_5 : decode cX6_boxes 5 = .ok (.if_icmp .gt 12, 3) := by decide +kernel
theorem dX6_boxes_8 : decode cX6_boxes 8 = .ok (.iload_n 2, 1) := by decide +kernel
theorem dX6_boxes_9 : decode cX6_boxes 9 = .ok (.iload 4, 2) := by decide +kernel
theorem dX6_boxes_11 : decode cX6_boxes 11 = .ok (.iadd, 1) := by decide +kernel
theorem dX6_boxes_12 : decode cX6_boxes 12 = .ok (.bipush 60, 2) := by decide +kernel
theorem dX6_boxes_14 : decode cX6_boxes 14 = .ok (.if_icmp .le 7, 3) := by decide +kernel
theorem dX6_boxes_17 : decode cX6_boxes 17 = .ok (.sipush (-203), 3) := by decide +kernel
theorem dX6_boxes_20 : decode cX6_boxes 20 = .ok (.ireturn, 1) := by decide +kernel
theorem dX6_boxes_21 : decode cX6_boxes 21 = .ok (.aload_n 0, 1) := by decide +kernel
theorem dX6_boxes_22 : decode cX6_boxes 22 = .ok (.iconst 5, 1) := by decide +kernel
theorem dX6_boxes_23 : decode cX6_boxes 23 = .ok (.invokevirtual 108, 3) := by decide +kernel
theorem dX6_boxes_26 : decode cX6_boxes 26 = .ok (.aload_n 0, 1) := by decide +kernel
theorem dX6_boxes_27 : decode cX6_boxes 27 = .ok (.iload_n 1, 1) := by decide +kernel
theorem dX6_boxes_28 : decode cX6_boxes 28 = .ok (.iload_n 2, 1) := by decide +kernel
theorem dX6_boxes_29 : decode cX6_boxes 29 = .ok (.iload_n 3, 1) := by decide +kernel
theorem dX6_boxes_30 : decode cX6_boxes 30 = .ok (.iload 4, 2) := by decide +kernel
theorem dX6_boxes_32 : decode cX6_boxes 32 = .ok (.invokevirtual 111, 3) := by decide +kernel
theorem dX6_boxes_35 : decode cX6_boxes 35 = .ok (.aload_n 0, 1) := by decide +kernel
theorem dX6_boxes_36 : decode cX6_boxes 36 = .ok (.iload 5, 2) := by decide +kernel
theorem dX6_boxes_38 : decode cX6_boxes 38 = .ok (.invokevirtual 114, 3) := by decide +kernel
theorem dX6_boxes_41 : decode cX6_boxes 41 = .ok (.ireturn, 1) := by decide +kernel
theorem dX6_fills_0 : decode cX6_fills 0 = .ok (.iload_n 2, 1) := by decide +kernel
theorem dX6_fills_1 : decode cX6_fills 1 = .ok (.istore 5, 2) := by decide +kernel
theorem dX6_fills_3 : decode cX6_fills 3 = .ok (.iload 5, 2) := by decide +kernel
theorem dX6_fills_5 : decode cX6_fills 5 = .ok (.iload_n 2, 1) := by decide +kernel
theorem dX6_fills_6 : decode cX6_fills 6 = .ok (.iload 4, 2) := by decide +kernel
theorem dX6_fills_8 : decode cX6_fills 8 = .ok (.iadd, 1) := by decide +kernel
theorem dX6_fills_9 : decode cX6_fills 9 = .ok (.if_icmp .ge 35, 3) := by decide +kernel
theorem dX6_fills_12 : decode cX6_fills 12 = .ok (.iload_n 1, 1) := by decide +kernel
theorem dX6_fills_13 : decode cX6_fills 13 = .ok (.istore 6, 2) := by decide +kernel
theorem dX6_fills_15 : decode cX6_fills 15 = .ok (.iload 6, 2) := by decide +kernel
theorem dX6_fills_17 : decode cX6_fills 17 = .ok (.iload_n 1, 1) := by decide +kernel
theorem dX6_fills_18 : decode cX6_fills 18 = .ok (.iload_n 3, 1) := by decide +kernel
theorem dX6_fills_19 : decode cX6_fills 19 = .ok (.iadd, 1) := by decide +kernel
theorem dX6_fills_20 : decode cX6_fills 20 = .ok (.if_icmp .ge 18, 3) := by decide +kernel
theorem dX6_fills_23 : decode cX6_fills 23 = .ok (.aload_n 0, 1) := by decide +kernel
theorem dX6_fills_24 : decode cX6_fills 24 = .ok (.iconst 5, 1) := by decide +kernel
theorem dX6_fills_25 : decode cX6_fills 25 = .ok (.iload 6, 2) := by decide +kernel
theorem dX6_fills_27 : decode cX6_fills 27 = .ok (.iload 5, 2) := by decide +kernel
theorem dX6_fills_29 : decode cX6_fills 29 = .ok (.invokevirtual 117, 3) := by decide +kernel
theorem dX6_fills_32 : decode cX6_fills 32 = .ok (.iinc 6 1, 3) := by decide +kernel
theorem dX6_fills_35 : decode cX6_fills 35 = .ok (.goto (-20), 3) := by decide +kernel
theorem dX6_fills_38 : decode cX6_fills 38 = .ok (.iinc 5 1, 3) := by decide +kernel
theorem dX6_fills_41 : decode cX6_fills 41 = .ok (.goto (-38), 3) := by decide +kernel
theorem dX6_fills_44 : decode cX6_fills 44 = .ok (.return_, 1) := by decide +kernel
theorem dX6_mixes_0 : decode cX6_mixes 0 = .ok (.iconst 0, 1) := by decide +kernel
theorem dX6_mixes_1 : decode cX6_mixes 1 = .ok (.istore 5, 2) := by decide +kernel
theorem dX6_mixes_3 : decode cX6_mixes 3 = .ok (.iload 5, 2) := by decide +kernel
theorem dX6_mixes_5 : decode cX6_mixes 5 = .ok (.sipush 240, 3) := by decide +kernel
theorem dX6_mixes_8 : decode cX6_mixes 8 = .ok (.if_icmp .ge 97, 3) := by decide +kernel
theorem dX6_mixes_11 : decode cX6_mixes 11 = .ok (.aload_n 0, 1) := by decide +kernel
theorem dX6_mixes_12 : decode cX6_mixes 12 = .ok (.getfield 7, 3) := by decide +kernel
theorem dX6_mixes_15 : decode cX6_mixes 15 = .ok (.sipush 240, 3) := by decide +kernel
theorem dX6_mixes_18 : decode cX6_mixes 18 = .ok (.iload_n 2, 1) := by decide +kernel
theorem dX6_mixes_19 : decode cX6_mixes 19 = .ok (.imul, 1) := by decide +kernel
theorem dX6_mixes_20 : decode cX6_mixes 20 = .ok (.iload 5, 2) := by decide +kernel
theorem dX6_mixes_22 : decode cX6_mixes 22 = .ok (.iadd, 1) := by decide +kernel
theorem dX6_mixes_23 : decode cX6_mixes 23 = .ok (.laload, 1) := by decide +kernel
theorem dX6_mixes_24 : decode cX6_mixes 24 = .ok (.lstore 6, 2) := by decide +kernel
theorem dX6_mixes_26 : decode cX6_mixes 26 = .ok (.aload_n 0, 1) := by decide +kernel
theorem dX6_mixes_27 : decode cX6_mixes 27 = .ok (.getfield 7, 3) := by decide +kernel
theorem dX6_mixes_30 : decode cX6_mixes 30 = .ok (.sipush 240, 3) := by decide +kernel
theorem dX6_mixes_33 : decode cX6_mixes 33 = .ok (.iload_n 3, 1) := by decide +kernel
theorem dX6_mixes_34 : decode cX6_mixes 34 = .ok (.imul, 1) := by decide +kernel
theorem dX6_mixes_35 : decode cX6_mixes 35 = .ok (.iload 5, 2) := by decide +kernel
theorem dX6_mixes_37 : decode cX6_mixes 37 = .ok (.iadd, 1) := by decide +kernel
theorem dX6_mixes_38 : decode cX6_mixes 38 = .ok (.laload, 1) := by decide +kernel
theorem dX6_mixes_39 : decode cX6_mixes 39 = .ok (.lstore 8, 2) := by decide +kernel
theorem dX6_mixes_41 : decode cX6_mixes 41 = .ok (.aload_n 0, 1) := by decide +kernel
theorem dX6_mixes_42 : decode cX6_mixes 42 = .ok (.getfield 7, 3) := by decide +kernel
theorem dX6_mixes_45 : decode cX6_mixes 45 = .ok (.sipush 1200, 3) := by decide +kernel
theorem dX6_mixes_48 : decode cX6_mixes 48 = .ok (.iload 5, 2) := by decide +kernel
theorem dX6_mixes_50 : decode cX6_mixes 50 = .ok (.iadd, 1) := by decide +kernel
theorem dX6_mixes_51 : decode cX6_mixes 51 = .ok (.iload_n 1, 1) := by decide +kernel
theorem dX6_mixes_52 : decode cX6_mixes 52 = .ok (.ifCond .ne 11, 3) := by decide +kernel
theorem dX6_mixes_55 : decode cX6_mixes 55 = .ok (.lload 6, 2) := by decide +kernel
theorem dX6_mixes_57 : decode cX6_mixes 57 = .ok (.lload 8, 2) := by decide +kernel
theorem dX6_mixes_59 : decode cX6_mixes 59 = .ok (.lor, 1) := by decide +kernel
theorem dX6_mixes_60 : decode cX6_mixes 60 = .ok (.goto 38, 3) := by decide +kernel
theorem dX6_mixes_63 : decode cX6_mixes 63 = .ok (.iload_n 1, 1) := by decide +kernel
theorem dX6_mixes_64 : decode cX6_mixes 64 = .ok (.iconst 1, 1) := by decide +kernel
theorem dX6_mixes_65 : decode cX6_mixes 65 = .ok (.if_icmp .ne 11, 3) := by decide +kernel
theorem dX6_mixes_68 : decode cX6_mixes 68 = .ok (.lload 6, 2) := by decide +kernel
theorem dX6_mixes_70 : decode cX6_mixes 70 = .ok (.lload 8, 2) := by decide +kernel
theorem dX6_mixes_72 : decode cX6_mixes 72 = .ok (.land, 1) := by decide +kernel
theorem dX6_mixes_73 : decode cX6_mixes 73 = .ok (.goto 25, 3) := by decide +kernel
theorem dX6_mixes_76 : decode cX6_mixes 76 = .ok (.iload_n 1, 1) := by decide +kernel
theorem dX6_mixes_77 : decode cX6_mixes 77 = .ok (.iconst 2, 1) := by decide +kernel
theorem dX6_mixes_78 : decode cX6_mixes 78 = .ok (.if_icmp .ne 15, 3) := by decide +kernel
theorem dX6_mixes_81 : decode cX6_mixes 81 = .ok (.lload 6, 2) := by decide +kernel
theorem dX6_mixes_83 : decode cX6_mixes 83 = .ok (.lload 8, 2) := by decide +kernel
theorem dX6_mixes_85 : decode cX6_mixes 85 = .ok (.ldc2_w 121, 3) := by decide +kernel
theorem dX6_mixes_88 : decode cX6_mixes 88 = .ok (.lxor, 1) := by decide +kernel
theorem dX6_mixes_89 : decode cX6_mixes 89 = .ok (.land, 1) := by decide +kernel
theorem dX6_mixes_90 : decode cX6_mixes 90 = .ok (.goto 8, 3) := by decide +kernel
theorem dX6_mixes_93 : decode cX6_mixes 93 = .ok (.lload 6, 2) := by decide +kernel
theorem dX6_mixes_95 : decode cX6_mixes 95 = .ok (.lload 8, 2) := by decide +kernel
theorem dX6_mixes_97 : decode cX6_mixes 97 = .ok (.lxor, 1) := by decide +kernel
theorem dX6_mixes_98 : decode cX6_mixes 98 = .ok (.lastore, 1) := by decide +kernel
theorem dX6_mixes_99 : decode cX6_mixes 99 = .ok (.iinc 5 1, 3) := by decide +kernel
theorem dX6_mixes_102 : decode cX6_mixes 102 = .ok (.goto (-99), 3) := by decide +kernel
theorem dX6_mixes_105 : decode cX6_mixes 105 = .ok (.aload_n 0, 1) := by decide +kernel
theorem dX6_mixes_106 : decode cX6_mixes 106 = .ok (.iload 4, 2) := by decide +kernel
theorem dX6_mixes_108 : decode cX6_mixes 108 = .ok (.invokevirtual 114, 3) := by decide +kernel
theorem dX6_mixes_111 : decode cX6_mixes 111 = .ok (.ireturn, 1) := by decide +kernel
theorem dX6_moves_0 : decode cX6_moves 0 = .ok (.aload_n 0, 1) := by decide +kernel
theorem dX6_moves_1 : decode cX6_moves 1 = .ok (.iconst 5, 1) := by decide +kernel
theorem dX6_moves_2 : decode cX6_moves 2 = .ok (.invokevirtual 108, 3) := by decide +kernel
theorem dX6_moves_5 : decode cX6_moves 5 = .ok (.bipush (-60), 2) := by decide +kernel
theorem dX6_moves_7 : decode cX6_moves 7 = .ok (.istore 5, 2) := by decide +kernel
theorem dX6_moves_9 : decode cX6_moves 9 = .ok (.iload 5, 2) := by decide +kernel
theorem dX6_moves_11 : decode cX6_moves 11 = .ok (.bipush 59, 2) := by decide +kernel
theorem dX6_moves_13 : decode cX6_moves 13 = .ok (.if_icmp .gt 69, 3) := by decide +kernel
theorem dX6_moves_16 : decode cX6_moves 16 = .ok (.bipush (-60), 2) := by decide +kernel
theorem dX6_moves_18 : decode cX6_moves 18 = .ok (.istore 6, 2) := by decide +kernel
theorem dX6_moves_20 : decode cX6_moves 20 = .ok (.iload 6, 2) := by decide +kernel
theorem dX6_moves_22 : decode cX6_moves 22 = .ok (.bipush 59, 2) := by decide +kernel
theorem dX6_moves_24 : decode cX6_moves 24 = .ok (.if_icmp .gt 52, 3) := by decide +kernel
theorem dX6_moves_27 : decode cX6_moves 27 = .ok (.aload_n 0, 1) := by decide +kernel
theorem dX6_moves_28 : decode cX6_moves 28 = .ok (.iload_n 1, 1) := by decide +kernel
theorem dX6_moves_29 : decode cX6_moves 29 = .ok (.iload 6, 2) := by decide +kernel
theorem dX6_moves_31 : decode cX6_moves 31 = .ok (.iload 5, 2) := by decide +kernel
theorem dX6_moves_33 : decode cX6_moves 33 = .ok (.invokevirtual 65, 3) := by decide +kernel
theorem dX6_moves_36 : decode cX6_moves 36 = .ok (.ifCond .eq 34, 3) := by decide +kernel
theorem dX6_moves_39 : decode cX6_moves 39 = .ok (.iload 6, 2) := by decide +kernel
theorem dX6_moves_41 : decode cX6_moves 41 = .ok (.iload_n 2, 1) := by decide +kernel
theorem dX6_moves_42 : decode cX6_moves 42 = .ok (.iadd, 1) := by decide +kernel
theorem dX6_moves_43 : decode cX6_moves 43 = .ok (.iload 5, 2) := by decide +kernel
theorem dX6_moves_45 : decode cX6_moves 45 = .ok (.iload_n 3, 1) := by decide +kernel
theorem dX6_moves_46 : decode cX6_moves 46 = .ok (.iadd, 1) := by decide +kernel
theorem dX6_moves_47 : decode cX6_moves 47 = .ok (.invokestatic 37, 3) := by decide +kernel
theorem dX6_moves_50 : decode cX6_moves 50 = .ok (.ifCond .ne 7, 3) := by decide +kernel
theorem dX6_moves_53 : decode cX6_moves 53 = .ok (.sipush (-203), 3) := by decide +kernel
theorem dX6_moves_56 : decode cX6_moves 56 = .ok (.ireturn, 1) := by decide +kernel
theorem dX6_moves_57 : decode cX6_moves 57 = .ok (.aload_n 0, 1) := by decide +kernel
theorem dX6_moves_58 : decode cX6_moves 58 = .ok (.iconst 5, 1) := by decide +kernel
theorem dX6_moves_59 : decode cX6_moves 59 = .ok (.iload 6, 2) := by decide +kernel
theorem dX6_moves_61 : decode cX6_moves 61 = .ok (.iload_n 2, 1) := by decide +kernel
theorem dX6_moves_62 : decode cX6_moves 62 = .ok (.iadd, 1) := by decide +kernel
theorem dX6_moves_63 : decode cX6_moves 63 = .ok (.iload 5, 2) := by decide +kernel
theorem dX6_moves_65 : decode cX6_moves 65 = .ok (.iload_n 3, 1) := by decide +kernel
theorem dX6_moves_66 : decode cX6_moves 66 = .ok (.iadd, 1) := by decide +kernel
theorem dX6_moves_67 : decode cX6_moves 67 = .ok (.invokevirtual 117, 3) := by decide +kernel
theorem dX6_moves_70 : decode cX6_moves 70 = .ok (.iinc 6 1, 3) := by decide +kernel
theorem dX6_moves_73 : decode cX6_moves 73 = .ok (.goto (-53), 3) := by decide +kernel
theorem dX6_moves_76 : decode cX6_moves 76 = .ok (.iinc 5 1, 3) := by decide +kernel
theorem dX6_moves_79 : decode cX6_moves 79 = .ok (.goto (-70), 3) := by decide +kernel
theorem dX6_moves_82 : decode cX6_moves 82 = .ok (.aload_n 0, 1) := by decide +kernel
theorem dX6_moves_83 : decode cX6_moves 83 = .ok (.iload 4, 2) := by decide +kernel
theorem dX6_moves_85 : decode cX6_moves 85 = .ok (.invokevirtual 114, 3) := by decide +kernel
theorem dX6_moves_88 : decode cX6_moves 88 = .ok (.ireturn, 1) := by decide +kernel
theorem dX6_step_0 : decode cX6_step 0 = .ok (.aload_n 0, 1) := by decide +kernel
theorem dX6_step_1 : decode cX6_step 1 = .ok (.iconst 5, 1) := by decide +kernel
theorem dX6_step_2 : decode cX6_step 2 = .ok (.bipush 6, 2) := by decide +kernel
theorem dX6_step_4 : decode cX6_step 4 = .ok (.invokevirtual 97, 3) := by decide +kernel
theorem dX6_step_7 : decode cX6_step 7 = .ok (.bipush (-60), 2) := by decide +kernel
theorem dX6_step_9 : decode cX6_step 9 = .ok (.istore_n 2, 1) := by decide +kernel
theorem dX6_step_10 : decode cX6_step 10 = .ok (.iload_n 2, 1) := by decide +kernel
theorem dX6_step_11 : decode cX6_step 11 = .ok (.bipush 59, 2) := by decide +kernel
theorem dX6_step_13 : decode cX6_step 13 = .ok (.if_icmp .gt 253, 3) := by decide +kernel
theorem dX6_step_16 : decode cX6_step 16 = .ok (.iload_n 1, 1) := by decide +kernel
theorem dX6_step_17 : decode cX6_step 17 = .ok (.ifCond .eq 7, 3) := by decide +kernel
theorem dX6_step_20 : decode cX6_step 20 = .ok (.lconst 0, 1) := by decide +kernel
theorem dX6_step_21 : decode cX6_step 21 = .ok (.goto 6, 3) := by decide +kernel
theorem dX6_step_24 : decode cX6_step 24 = .ok (.ldc2_w 123, 3) := by decide +kernel
theorem dX6_step_27 : decode cX6_step 27 = .ok (.lstore_n 3, 1) := by decide +kernel
theorem dX6_step_28 : decode cX6_step 28 = .ok (.lload_n 3, 1) := by decide +kernel
theorem dX6_step_29 : decode cX6_step 29 = .ok (.lstore 5, 2) := by decide +kernel
theorem dX6_step_31 : decode cX6_step 31 = .ok (.iload_n 2, 1) := by decide +kernel
theorem dX6_step_32 : decode cX6_step 32 = .ok (.iconst 1, 1) := by decide +kernel
theorem dX6_step_33 : decode cX6_step 33 = .ok (.isub, 1) := by decide +kernel
theorem dX6_step_34 : decode cX6_step 34 = .ok (.istore 7, 2) := by decide +kernel
theorem dX6_step_36 : decode cX6_step 36 = .ok (.iload 7, 2) := by decide +kernel
theorem dX6_step_38 : decode cX6_step 38 = .ok (.iload_n 2, 1) := by decide +kernel
theorem dX6_step_39 : decode cX6_step 39 = .ok (.iconst 1, 1) := by decide +kernel
theorem dX6_step_40 : decode cX6_step 40 = .ok (.iadd, 1) := by decide +kernel
theorem dX6_step_41 : decode cX6_step 41 = .ok (.if_icmp .gt 184, 3) := by decide +kernel
theorem dX6_step_44 : decode cX6_step 44 = .ok (.iload 7, 2) := by decide +kernel
theorem dX6_step_46 : decode cX6_step 46 = .ok (.bipush (-60), 2) := by decide +kernel
theorem dX6_step_48 : decode cX6_step 48 = .ok (.bipush 59, 2) := by decide +kernel
theorem dX6_step_50 : decode cX6_step 50 = .ok (.invokestatic 33, 3) := by decide +kernel
theorem dX6_step_53 : decode cX6_step 53 = .ok (.ifCond .eq 22, 3) := by decide +kernel
theorem dX6_step_56 : decode cX6_step 56 = .ok (.aload_n 0, 1) := by decide +kernel
theorem dX6_step_57 : decode cX6_step 57 = .ok (.getfield 7, 3) := by decide +kernel
theorem dX6_step_60 : decode cX6_step 60 = .ok (.sipush 1440, 3) := by decide +kernel
theorem dX6_step_63 : decode cX6_step 63 = .ok (.iconst 2, 1) := by decide +kernel
theorem dX6_step_64 : decode cX6_step 64 = .ok (.iload 7, 2) := by decide +kernel
theorem dX6_step_66 : decode cX6_step 66 = .ok (.bipush (-60), 2) := by decide +kernel
theorem dX6_step_68 : decode cX6_step 68 = .ok (.isub, 1) := by decide +kernel
theorem dX6_step_69 : decode cX6_step 69 = .ok (.imul, 1) := by decide +kernel
theorem dX6_step_70 : decode cX6_step 70 = .ok (.iadd, 1) := by decide +kernel
theorem dX6_step_71 : decode cX6_step 71 = .ok (.laload, 1) := by decide +kernel
theorem dX6_step_72 : decode cX6_step 72 = .ok (.goto 4, 3) := by decide +kernel
theorem dX6_step_75 : decode cX6_step 75 = .ok (.lconst 0, 1) := by decide +kernel
theorem dX6_step_76 : decode cX6_step 76 = .ok (.lstore 8, 2) := by decide +kernel
theorem dX6_step_78 : decode cX6_step 78 = .ok (.iload 7, 2) := by decide +kernel
theorem dX6_step_80 : decode cX6_step 80 = .ok (.bipush (-60), 2) := by decide +kernel
theorem dX6_step_82 : decode cX6_step 82 = .ok (.bipush 59, 2) := by decide +kernel
theorem dX6_step_84 : decode cX6_step 84 = .ok (.invokestatic 33, 3) := by decide +kernel
theorem dX6_step_87 : decode cX6_step 87 = .ok (.ifCond .eq 24, 3) := by decide +kernel
theorem dX6_step_90 : decode cX6_step 90 = .ok (.aload_n 0, 1) := by decide +kernel
theorem dX6_step_91 : decode cX6_step 91 = .ok (.getfield 7, 3) := by decide +kernel
theorem dX6_step_94 : decode cX6_step 94 = .ok (.sipush 1440, 3) := by decide +kernel
theorem dX6_step_97 : decode cX6_step 97 = .ok (.iconst 2, 1) := by decide +kernel
theorem dX6_step_98 : decode cX6_step 98 = .ok (.iload 7, 2) := by decide +kernel
theorem dX6_step_100 : decode cX6_step 100 = .ok (.bipush (-60), 2) := by decide +kernel
theorem dX6_step_102 : decode cX6_step 102 = .ok (.isub, 1) := by decide +kernel
theorem dX6_step_103 : decode cX6_step 103 = .ok (.imul, 1) := by decide +kernel
theorem dX6_step_104 : decode cX6_step 104 = .ok (.iadd, 1) := by decide +kernel
theorem dX6_step_105 : decode cX6_step 105 = .ok (.iconst 1, 1) := by decide +kernel
theorem dX6_step_106 : decode cX6_step 106 = .ok (.iadd, 1) := by decide +kernel
theorem dX6_step_107 : decode cX6_step 107 = .ok (.laload, 1) := by decide +kernel
theorem dX6_step_108 : decode cX6_step 108 = .ok (.goto 4, 3) := by decide +kernel
theorem dX6_step_111 : decode cX6_step 111 = .ok (.lconst 0, 1) := by decide +kernel
theorem dX6_step_112 : decode cX6_step 112 = .ok (.lstore 10, 2) := by decide +kernel
theorem dX6_step_114 : decode cX6_step 114 = .ok (.lload 8, 2) := by decide +kernel
theorem dX6_step_116 : decode cX6_step 116 = .ok (.iconst 1, 1) := by decide +kernel
theorem dX6_step_117 : decode cX6_step 117 = .ok (.lshl, 1) := by decide +kernel
theorem dX6_step_118 : decode cX6_step 118 = .ok (.ldc2_w 123, 3) := by decide +kernel
theorem dX6_step_121 : decode cX6_step 121 = .ok (.land, 1) := by decide +kernel
theorem dX6_step_122 : decode cX6_step 122 = .ok (.lstore 12, 2) := by decide +kernel
theorem dX6_step_124 : decode cX6_step 124 = .ok (.lload 10, 2) := by decide +kernel
theorem dX6_step_126 : decode cX6_step 126 = .ok (.iconst 1, 1) := by decide +kernel
theorem dX6_step_127 : decode cX6_step 127 = .ok (.lshl, 1) := by decide +kernel
theorem dX6_step_128 : decode cX6_step 128 = .ok (.lload 8, 2) := by decide +kernel
theorem dX6_step_130 : decode cX6_step 130 = .ok (.bipush 59, 2) := by decide +kernel
theorem dX6_step_132 : decode cX6_step 132 = .ok (.lshr, 1) := by decide +kernel
theorem dX6_step_133 : decode cX6_step 133 = .ok (.lor, 1) := by decide +kernel
theorem dX6_step_134 : decode cX6_step 134 = .ok (.ldc2_w 123, 3) := by decide +kernel
theorem dX6_step_137 : decode cX6_step 137 = .ok (.land, 1) := by decide +kernel
theorem dX6_step_138 : decode cX6_step 138 = .ok (.lstore 14, 2) := by decide +kernel
theorem dX6_step_140 : decode cX6_step 140 = .ok (.lload 8, 2) := by decide +kernel
theorem dX6_step_142 : decode cX6_step 142 = .ok (.iconst 1, 1) := by decide +kernel
theorem dX6_step_143 : decode cX6_step 143 = .ok (.lshr, 1) := by decide +kernel
theorem dX6_step_144 : decode cX6_step 144 = .ok (.lload 10, 2) := by decide +kernel
theorem dX6_step_146 : decode cX6_step 146 = .ok (.lconst 1, 1) := by decide +kernel
theorem dX6_step_147 : decode cX6_step 147 = .ok (.land, 1) := by decide +kernel
theorem dX6_step_148 : decode cX6_step 148 = .ok (.bipush 59, 2) := by decide +kernel
theorem dX6_step_150 : decode cX6_step 150 = .ok (.lshl, 1) := by decide +kernel
theorem dX6_step_151 : decode cX6_step 151 = .ok (.lor, 1) := by decide +kernel
theorem dX6_step_152 : decode cX6_step 152 = .ok (.lstore 16, 2) := by decide +kernel
theorem dX6_step_154 : decode cX6_step 154 = .ok (.lload 10, 2) := by decide +kernel
theorem dX6_step_156 : decode cX6_step 156 = .ok (.iconst 1, 1) := by decide +kernel
theorem dX6_step_157 : decode cX6_step 157 = .ok (.lshr, 1) := by decide +kernel
theorem dX6_step_158 : decode cX6_step 158 = .ok (.lstore 18, 2) := by decide +kernel
theorem dX6_step_160 : decode cX6_step 160 = .ok (.iload_n 1, 1) := by decide +kernel
theorem dX6_step_161 : decode cX6_step 161 = .ok (.ifCond .eq 16, 3) := by decide +kernel
theorem dX6_step_164 : decode cX6_step 164 = .ok (.lload_n 3, 1) := by decide +kernel
theorem dX6_step_165 : decode cX6_step 165 = .ok (.lload 8, 2) := by decide +kernel
theorem dX6_step_167 : decode cX6_step 167 = .ok (.lor, 1) := by decide +kernel
theorem dX6_step_168 : decode cX6_step 168 = .ok (.lload 12, 2) := by decide +kernel
theorem dX6_step_170 : decode cX6_step 170 = .ok (.lor, 1) := by decide +kernel
theorem dX6_step_171 : decode cX6_step 171 = .ok (.lload 16, 2) := by decide +kernel
theorem dX6_step_173 : decode cX6_step 173 = .ok (.lor, 1) := by decide +kernel
theorem dX6_step_174 : decode cX6_step 174 = .ok (.goto 13, 3) := by decide +kernel
theorem dX6_step_177 : decode cX6_step 177 = .ok (.lload_n 3, 1) := by decide +kernel
theorem dX6_step_178 : decode cX6_step 178 = .ok (.lload 8, 2) := by decide +kernel
theorem dX6_step_180 : decode cX6_step 180 = .ok (.land, 1) := by decide +kernel
theorem dX6_step_181 : decode cX6_step 181 = .ok (.lload 12, 2) := by decide +kernel
theorem dX6_step_183 : decode cX6_step 183 = .ok (.land, 1) := by decide +kernel
theorem dX6_step_184 : decode cX6_step 184 = .ok (.lload 16, 2) := by decide +kernel
theorem dX6_step_186 : decode cX6_step 186 = .ok (.land, 1) := by decide +kernel
theorem dX6_step_187 : decode cX6_step 187 = .ok (.lstore_n 3, 1) := by decide +kernel
theorem dX6_step_188 : decode cX6_step 188 = .ok (.iload_n 1, 1) := by decide +kernel
theorem dX6_step_189 : decode cX6_step 189 = .ok (.ifCond .eq 17, 3) := by decide +kernel
theorem dX6_step_192 : decode cX6_step 192 = .ok (.lload 5, 2) := by decide +kernel
theorem dX6_step_194 : decode cX6_step 194 = .ok (.lload 10, 2) := by decide +kernel
theorem dX6_step_196 : decode cX6_step 196 = .ok (.lor, 1) := by decide +kernel
theorem dX6_step_197 : decode cX6_step 197 = .ok (.lload 14, 2) := by decide +kernel
theorem dX6_step_199 : decode cX6_step 199 = .ok (.lor, 1) := by decide +kernel
theorem dX6_step_200 : decode cX6_step 200 = .ok (.lload 18, 2) := by decide +kernel
theorem dX6_step_202 : decode cX6_step 202 = .ok (.lor, 1) := by decide +kernel
theorem dX6_step_203 : decode cX6_step 203 = .ok (.goto 14, 3) := by decide +kernel
theorem dX6_step_206 : decode cX6_step 206 = .ok (.lload 5, 2) := by decide +kernel
theorem dX6_step_208 : decode cX6_step 208 = .ok (.lload 10, 2) := by decide +kernel
theorem dX6_step_210 : decode cX6_step 210 = .ok (.land, 1) := by decide +kernel
theorem dX6_step_211 : decode cX6_step 211 = .ok (.lload 14, 2) := by decide +kernel
theorem dX6_step_213 : decode cX6_step 213 = .ok (.land, 1) := by decide +kernel
theorem dX6_step_214 : decode cX6_step 214 = .ok (.lload 18, 2) := by decide +kernel
theorem dX6_step_216 : decode cX6_step 216 = .ok (.land, 1) := by decide +kernel
theorem dX6_step_217 : decode cX6_step 217 = .ok (.lstore 5, 2) := by decide +kernel
theorem dX6_step_219 : decode cX6_step 219 = .ok (.iinc 7 1, 3) := by decide +kernel
theorem dX6_step_222 : decode cX6_step 222 = .ok (.goto (-186), 3) := by decide +kernel
theorem dX6_step_225 : decode cX6_step 225 = .ok (.aload_n 0, 1) := by decide +kernel
theorem dX6_step_226 : decode cX6_step 226 = .ok (.getfield 7, 3) := by decide +kernel
theorem dX6_step_229 : decode cX6_step 229 = .ok (.sipush 1200, 3) := by decide +kernel
theorem dX6_step_232 : decode cX6_step 232 = .ok (.iconst 2, 1) := by decide +kernel
theorem dX6_step_233 : decode cX6_step 233 = .ok (.iload_n 2, 1) := by decide +kernel
theorem dX6_step_234 : decode cX6_step 234 = .ok (.bipush (-60), 2) := by decide +kernel
theorem dX6_step_236 : decode cX6_step 236 = .ok (.isub, 1) := by decide +kernel
theorem dX6_step_237 : decode cX6_step 237 = .ok (.imul, 1) := by decide +kernel
theorem dX6_step_238 : decode cX6_step 238 = .ok (.iadd, 1) := by decide +kernel
theorem dX6_step_239 : decode cX6_step 239 = .ok (.lload_n 3, 1) := by decide +kernel
theorem dX6_step_240 : decode cX6_step 240 = .ok (.lastore, 1) := by decide +kernel
theorem dX6_step_241 : decode cX6_step 241 = .ok (.aload_n 0, 1) := by decide +kernel
theorem dX6_step_242 : decode cX6_step 242 = .ok (.getfield 7, 3) := by decide +kernel
theorem dX6_step_245 : decode cX6_step 245 = .ok (.sipush 1200, 3) := by decide +kernel
theorem dX6_step_248 : decode cX6_step 248 = .ok (.iconst 2, 1) := by decide +kernel
theorem dX6_step_249 : decode cX6_step 249 = .ok (.iload_n 2, 1) := by decide +kernel
theorem dX6_step_250 : decode cX6_step 250 = .ok (.bipush (-60), 2) := by decide +kernel
theorem dX6_step_252 : decode cX6_step 252 = .ok (.isub, 1) := by decide +kernel
theorem dX6_step_253 : decode cX6_step 253 = .ok (.imul, 1) := by decide +kernel
theorem dX6_step_254 : decode cX6_step 254 = .ok (.iadd, 1) := by decide +kernel
theorem dX6_step_255 : decode cX6_step 255 = .ok (.iconst 1, 1) := by decide +kernel
theorem dX6_step_256 : decode cX6_step 256 = .ok (.iadd, 1) := by decide +kernel
theorem dX6_step_257 : decode cX6_step 257 = .ok (.lload 5, 2) := by decide +kernel
theorem dX6_step_259 : decode cX6_step 259 = .ok (.lastore, 1) := by decide +kernel
theorem dX6_step_260 : decode cX6_step 260 = .ok (.iinc 2 1, 3) := by decide +kernel
theorem dX6_step_263 : decode cX6_step 263 = .ok (.goto (-253), 3) := by decide +kernel
theorem dX6_step_266 : decode cX6_step 266 = .ok (.return_, 1) := by decide +kernel
theorem dX6_grows_0 : decode cX6_grows 0 = .ok (.aload_n 0, 1) := by decide +kernel
theorem dX6_grows_1 : decode cX6_grows 1 = .ok (.iload_n 1, 1) := by decide +kernel
theorem dX6_grows_2 : decode cX6_grows 2 = .ok (.iconst 5, 1) := by decide +kernel
theorem dX6_grows_3 : decode cX6_grows 3 = .ok (.invokevirtual 97, 3) := by decide +kernel
theorem dX6_grows_6 : decode cX6_grows 6 = .ok (.iconst 0, 1) := by decide +kernel
theorem dX6_grows_7 : decode cX6_grows 7 = .ok (.istore 4, 2) := by decide +kernel
theorem dX6_grows_9 : decode cX6_grows 9 = .ok (.iload 4, 2) := by decide +kernel
theorem dX6_grows_11 : decode cX6_grows 11 = .ok (.iload_n 2, 1) := by decide +kernel
theorem dX6_grows_12 : decode cX6_grows 12 = .ok (.ifCond .ge 8, 3) := by decide +kernel
theorem dX6_grows_15 : decode cX6_grows 15 = .ok (.iload_n 2, 1) := by decide +kernel
theorem dX6_grows_16 : decode cX6_grows 16 = .ok (.ineg, 1) := by decide +kernel
theorem dX6_grows_17 : decode cX6_grows 17 = .ok (.goto 4, 3) := by decide +kernel
theorem dX6_grows_20 : decode cX6_grows 20 = .ok (.iload_n 2, 1) := by decide +kernel
theorem dX6_grows_21 : decode cX6_grows 21 = .ok (.if_icmp .ge 22, 3) := by decide +kernel
theorem dX6_grows_24 : decode cX6_grows 24 = .ok (.aload_n 0, 1) := by decide +kernel
theorem dX6_grows_25 : decode cX6_grows 25 = .ok (.iload_n 2, 1) := by decide +kernel
theorem dX6_grows_26 : decode cX6_grows 26 = .ok (.ifCond .le 7, 3) := by decide +kernel
theorem dX6_grows_29 : decode cX6_grows 29 = .ok (.iconst 1, 1) := by decide +kernel
theorem dX6_grows_30 : decode cX6_grows 30 = .ok (.goto 4, 3) := by decide +kernel
theorem dX6_grows_33 : decode cX6_grows 33 = .ok (.iconst 0, 1) := by decide +kernel
theorem dX6_grows_34 : decode cX6_grows 34 = .ok (.invokevirtual 125, 3) := by decide +kernel
theorem dX6_grows_37 : decode cX6_grows 37 = .ok (.iinc 4 1, 3) := by decide +kernel
theorem dX6_grows_40 : decode cX6_grows 40 = .ok (.goto (-31), 3) := by decide +kernel
theorem dX6_grows_43 : decode cX6_grows 43 = .ok (.aload_n 0, 1) := by decide +kernel
theorem dX6_grows_44 : decode cX6_grows 44 = .ok (.iload_n 3, 1) := by decide +kernel
theorem dX6_grows_45 : decode cX6_grows 45 = .ok (.invokevirtual 114, 3) := by decide +kernel
theorem dX6_grows_48 : decode cX6_grows 48 = .ok (.ireturn, 1) := by decide +kernel
theorem dX6_flips_0 : decode cX6_flips 0 = .ok (.aload_n 0, 1) := by decide +kernel
theorem dX6_flips_1 : decode cX6_flips 1 = .ok (.iconst 5, 1) := by decide +kernel
theorem dX6_flips_2 : decode cX6_flips 2 = .ok (.invokevirtual 108, 3) := by decide +kernel
theorem dX6_flips_5 : decode cX6_flips 5 = .ok (.bipush (-60), 2) := by decide +kernel
theorem dX6_flips_7 : decode cX6_flips 7 = .ok (.istore 4, 2) := by decide +kernel
theorem dX6_flips_9 : decode cX6_flips 9 = .ok (.iload 4, 2) := by decide +kernel
theorem dX6_flips_11 : decode cX6_flips 11 = .ok (.bipush 59, 2) := by decide +kernel
theorem dX6_flips_13 : decode cX6_flips 13 = .ok (.if_icmp .gt 89, 3) := by decide +kernel
theorem dX6_flips_16 : decode cX6_flips 16 = .ok (.bipush (-60), 2) := by decide +kernel
theorem dX6_flips_18 : decode cX6_flips 18 = .ok (.istore 5, 2) := by decide +kernel
theorem dX6_flips_20 : decode cX6_flips 20 = .ok (.iload 5, 2) := by decide +kernel
theorem dX6_flips_22 : decode cX6_flips 22 = .ok (.bipush 59, 2) := by decide +kernel
theorem dX6_flips_24 : decode cX6_flips 24 = .ok (.if_icmp .gt 72, 3) := by decide +kernel
theorem dX6_flips_27 : decode cX6_flips 27 = .ok (.aload_n 0, 1) := by decide +kernel
theorem dX6_flips_28 : decode cX6_flips 28 = .ok (.iload_n 1, 1) := by decide +kernel
theorem dX6_flips_29 : decode cX6_flips 29 = .ok (.iload 5, 2) := by decide +kernel
theorem dX6_flips_31 : decode cX6_flips 31 = .ok (.iload 4, 2) := by decide +kernel
theorem dX6_flips_33 : decode cX6_flips 33 = .ok (.invokevirtual 65, 3) := by decide +kernel
theorem dX6_flips_36 : decode cX6_flips 36 = .ok (.ifCond .eq 54, 3) := by decide +kernel
theorem dX6_flips_39 : decode cX6_flips 39 = .ok (.aload_n 0, 1) := by decide +kernel
theorem dX6_flips_40 : decode cX6_flips 40 = .ok (.iconst 5, 1) := by decide +kernel
theorem dX6_flips_41 : decode cX6_flips 41 = .ok (.iload_n 2, 1) := by decide +kernel
theorem dX6_flips_42 : decode cX6_flips 42 = .ok (.ifCond .ne 10, 3) := by decide +kernel
theorem dX6_flips_45 : decode cX6_flips 45 = .ok (.iconst (-1), 1) := by decide +kernel
theorem dX6_flips_46 : decode cX6_flips 46 = .ok (.iload 5, 2) := by decide +kernel
theorem dX6_flips_48 : decode cX6_flips 48 = .ok (.isub, 1) := by decide +kernel
theorem dX6_flips_49 : decode cX6_flips 49 = .ok (.goto 15, 3) := by decide +kernel
theorem dX6_flips_52 : decode cX6_flips 52 = .ok (.iload_n 2, 1) := by decide +kernel
theorem dX6_flips_53 : decode cX6_flips 53 = .ok (.iconst 1, 1) := by decide +kernel
theorem dX6_flips_54 : decode cX6_flips 54 = .ok (.if_icmp .ne 8, 3) := by decide +kernel
theorem dX6_flips_57 : decode cX6_flips 57 = .ok (.iload 5, 2) := by decide +kernel
theorem dX6_flips_59 : decode cX6_flips 59 = .ok (.goto 5, 3) := by decide +kernel
theorem dX6_flips_62 : decode cX6_flips 62 = .ok (.iload 4, 2) := by decide +kernel
theorem dX6_flips_64 : decode cX6_flips 64 = .ok (.iload_n 2, 1) := by decide +kernel
theorem dX6_flips_65 : decode cX6_flips 65 = .ok (.ifCond .ne 8, 3) := by decide +kernel
theorem dX6_flips_68 : decode cX6_flips 68 = .ok (.iload 4, 2) := by decide +kernel
theorem dX6_flips_70 : decode cX6_flips 70 = .ok (.goto 17, 3) := by decide +kernel
theorem dX6_flips_73 : decode cX6_flips 73 = .ok (.iload_n 2, 1) := by decide +kernel
theorem dX6_flips_74 : decode cX6_flips 74 = .ok (.iconst 1, 1) := by decide +kernel
theorem dX6_flips_75 : decode cX6_flips 75 = .ok (.if_icmp .ne 10, 3) := by decide +kernel
theorem dX6_flips_78 : decode cX6_flips 78 = .ok (.iconst (-1), 1) := by decide +kernel
theorem dX6_flips_79 : decode cX6_flips 79 = .ok (.iload 4, 2) := by decide +kernel
theorem dX6_flips_81 : decode cX6_flips 81 = .ok (.isub, 1) := by decide +kernel
theorem dX6_flips_82 : decode cX6_flips 82 = .ok (.goto 5, 3) := by decide +kernel
theorem dX6_flips_85 : decode cX6_flips 85 = .ok (.iload 5, 2) := by decide +kernel
theorem dX6_flips_87 : decode cX6_flips 87 = .ok (.invokevirtual 117, 3) := by decide +kernel
theorem dX6_flips_90 : decode cX6_flips 90 = .ok (.iinc 5 1, 3) := by decide +kernel
theorem dX6_flips_93 : decode cX6_flips 93 = .ok (.goto (-73), 3) := by decide +kernel
theorem dX6_flips_96 : decode cX6_flips 96 = .ok (.iinc 4 1, 3) := by decide +kernel
theorem dX6_flips_99 : decode cX6_flips 99 = .ok (.goto (-90), 3) := by decide +kernel
theorem dX6_flips_102 : decode cX6_flips 102 = .ok (.aload_n 0, 1) := by decide +kernel
theorem dX6_flips_103 : decode cX6_flips 103 = .ok (.iload_n 3, 1) := by decide +kernel
theorem dX6_flips_104 : decode cX6_flips 104 = .ok (.invokevirtual 114, 3) := by decide +kernel
theorem dX6_flips_107 : decode cX6_flips 107 = .ok (.ireturn, 1) := by decide +kernel
theorem dX6_box_0 : decode cX6_box 0 = .ok (.iload_n 1, 1) := by decide +kernel
theorem dX6_box_1 : decode cX6_box 1 = .ok (.iload_n 2, 1) := by decide +kernel
theorem dX6_box_2 : decode cX6_box 2 = .ok (.invokestatic 37, 3) := by decide +kernel
theorem dX6_box_5 : decode cX6_box 5 = .ok (.ifCond .eq 50, 3) := by decide +kernel
theorem dX6_box_8 : decode cX6_box 8 = .ok (.iload_n 3, 1) := by decide +kernel
theorem dX6_box_9 : decode cX6_box 9 = .ok (.iconst 1, 1) := by decide +kernel
theorem dX6_box_10 : decode cX6_box 10 = .ok (.bipush 99, 2) := by decide +kernel
theorem dX6_box_12 : decode cX6_box 12 = .ok (.invokestatic 33, 3) := by decide +kernel
theorem dX6_box_15 : decode cX6_box 15 = .ok (.ifCond .eq 40, 3) := by decide +kernel
theorem dX6_box_18 : decode cX6_box 18 = .ok (.iload 4, 2) := by decide +kernel
theorem dX6_box_20 : decode cX6_box 20 = .ok (.iconst 1, 1) := by decide +kernel
theorem dX6_box_21 : decode cX6_box 21 = .ok (.bipush 99, 2) := by decide +kernel
theorem dX6_box_23 : decode cX6_box 23 = .ok (.invokestatic 33, 3) := by decide +kernel
theorem dX6_box_26 : decode cX6_box 26 = .ok (.ifCond .eq 29, 3) := by decide +kernel
theorem dX6_box_29 : decode cX6_box 29 = .ok (.iload 5, 2) := by decide +kernel
theorem dX6_box_31 : decode cX6_box 31 = .ok (.invokestatic 129, 3) := by decide +kernel
theorem dX6_box_34 : decode cX6_box 34 = .ok (.ifCond .eq 21, 3) := by decide +kernel
theorem dX6_box_37 : decode cX6_box 37 = .ok (.aload_n 0, 1) := by decide +kernel
theorem dX6_box_38 : decode cX6_box 38 = .ok (.aload_n 0, 1) := by decide +kernel
theorem dX6_box_39 : decode cX6_box 39 = .ok (.iload_n 1, 1) := by decide +kernel
theorem dX6_box_40 : decode cX6_box 40 = .ok (.iload_n 2, 1) := by decide +kernel
theorem dX6_box_41 : decode cX6_box 41 = .ok (.iload_n 3, 1) := by decide +kernel
theorem dX6_box_42 : decode cX6_box 42 = .ok (.iload 4, 2) := by decide +kernel
theorem dX6_box_44 : decode cX6_box 44 = .ok (.iload 5, 2) := by decide +kernel
theorem dX6_box_46 : decode cX6_box 46 = .ok (.invokevirtual 133, 3) := by decide +kernel
theorem dX6_box_49 : decode cX6_box 49 = .ok (.invokevirtual 136, 3) := by decide +kernel
theorem dX6_box_52 : decode cX6_box 52 = .ok (.goto 10, 3) := by decide +kernel
theorem dX6_box_55 : decode cX6_box 55 = .ok (.aload_n 0, 1) := by decide +kernel
theorem dX6_box_56 : decode cX6_box 56 = .ok (.sipush (-202), 3) := by decide +kernel
theorem dX6_box_59 : decode cX6_box 59 = .ok (.invokevirtual 105, 3) := by decide +kernel
theorem dX6_box_62 : decode cX6_box 62 = .ok (.ireturn, 1) := by decide +kernel
theorem dX6_mix_0 : decode cX6_mix 0 = .ok (.iload_n 1, 1) := by decide +kernel
theorem dX6_mix_1 : decode cX6_mix 1 = .ok (.iconst 0, 1) := by decide +kernel
theorem dX6_mix_2 : decode cX6_mix 2 = .ok (.iconst 3, 1) := by decide +kernel
theorem dX6_mix_3 : decode cX6_mix 3 = .ok (.invokestatic 33, 3) := by decide +kernel
theorem dX6_mix_6 : decode cX6_mix 6 = .ok (.ifCond .eq 41, 3) := by decide +kernel
theorem dX6_mix_9 : decode cX6_mix 9 = .ok (.iload_n 2, 1) := by decide +kernel
theorem dX6_mix_10 : decode cX6_mix 10 = .ok (.invokestatic 129, 3) := by decide +kernel
theorem dX6_mix_13 : decode cX6_mix 13 = .ok (.ifCond .eq 34, 3) := by decide +kernel
theorem dX6_mix_16 : decode cX6_mix 16 = .ok (.iload_n 3, 1) := by decide +kernel
theorem dX6_mix_17 : decode cX6_mix 17 = .ok (.invokestatic 129, 3) := by decide +kernel
theorem dX6_mix_20 : decode cX6_mix 20 = .ok (.ifCond .eq 27, 3) := by decide +kernel
theorem dX6_mix_23 : decode cX6_mix 23 = .ok (.iload 4, 2) := by decide +kernel
theorem dX6_mix_25 : decode cX6_mix 25 = .ok (.invokestatic 129, 3) := by decide +kernel
theorem dX6_mix_28 : decode cX6_mix 28 = .ok (.ifCond .eq 19, 3) := by decide +kernel
theorem dX6_mix_31 : decode cX6_mix 31 = .ok (.aload_n 0, 1) := by decide +kernel
theorem dX6_mix_32 : decode cX6_mix 32 = .ok (.aload_n 0, 1) := by decide +kernel
theorem dX6_mix_33 : decode cX6_mix 33 = .ok (.iload_n 1, 1) := by decide +kernel
theorem dX6_mix_34 : decode cX6_mix 34 = .ok (.iload_n 2, 1) := by decide +kernel
theorem dX6_mix_35 : decode cX6_mix 35 = .ok (.iload_n 3, 1) := by decide +kernel
theorem dX6_mix_36 : decode cX6_mix 36 = .ok (.iload 4, 2) := by decide +kernel
theorem dX6_mix_38 : decode cX6_mix 38 = .ok (.invokevirtual 139, 3) := by decide +kernel
theorem dX6_mix_41 : decode cX6_mix 41 = .ok (.invokevirtual 136, 3) := by decide +kernel
theorem dX6_mix_44 : decode cX6_mix 44 = .ok (.goto 10, 3) := by decide +kernel
theorem dX6_mix_47 : decode cX6_mix 47 = .ok (.aload_n 0, 1) := by decide +kernel
theorem dX6_mix_48 : decode cX6_mix 48 = .ok (.sipush (-202), 3) := by decide +kernel
theorem dX6_mix_51 : decode cX6_mix 51 = .ok (.invokevirtual 105, 3) := by decide +kernel
theorem dX6_mix_54 : decode cX6_mix 54 = .ok (.ireturn, 1) := by decide +kernel
theorem dX6_move_0 : decode cX6_move 0 = .ok (.iload_n 1, 1) := by decide +kernel
theorem dX6_move_1 : decode cX6_move 1 = .ok (.invokestatic 129, 3) := by decide +kernel
theorem dX6_move_4 : decode cX6_move 4 = .ok (.ifCond .eq 49, 3) := by decide +kernel
theorem dX6_move_7 : decode cX6_move 7 = .ok (.iload_n 2, 1) := by decide +kernel
theorem dX6_move_8 : decode cX6_move 8 = .ok (.bipush (-120), 2) := by decide +kernel
theorem dX6_move_10 : decode cX6_move 10 = .ok (.bipush 120, 2) := by decide +kernel
theorem dX6_move_12 : decode cX6_move 12 = .ok (.invokestatic 33, 3) := by decide +kernel
theorem dX6_move_15 : decode cX6_move 15 = .ok (.ifCond .eq 38, 3) := by decide +kernel
theorem dX6_move_18 : decode cX6_move 18 = .ok (.iload_n 3, 1) := by decide +kernel
theorem dX6_move_19 : decode cX6_move 19 = .ok (.bipush (-120), 2) := by decide +kernel
theorem dX6_move_21 : decode cX6_move 21 = .ok (.bipush 120, 2) := by decide +kernel
theorem dX6_move_23 : decode cX6_move 23 = .ok (.invokestatic 33, 3) := by decide +kernel
theorem dX6_move_26 : decode cX6_move 26 = .ok (.ifCond .eq 27, 3) := by decide +kernel
theorem dX6_move_29 : decode cX6_move 29 = .ok (.iload 4, 2) := by decide +kernel
theorem dX6_move_31 : decode cX6_move 31 = .ok (.invokestatic 129, 3) := by decide +kernel
theorem dX6_move_34 : decode cX6_move 34 = .ok (.ifCond .eq 19, 3) := by decide +kernel
theorem dX6_move_37 : decode cX6_move 37 = .ok (.aload_n 0, 1) := by decide +kernel
theorem dX6_move_38 : decode cX6_move 38 = .ok (.aload_n 0, 1) := by decide +kernel
theorem dX6_move_39 : decode cX6_move 39 = .ok (.iload_n 1, 1) := by decide +kernel
theorem dX6_move_40 : decode cX6_move 40 = .ok (.iload_n 2, 1) := by decide +kernel
theorem dX6_move_41 : decode cX6_move 41 = .ok (.iload_n 3, 1) := by decide +kernel
theorem dX6_move_42 : decode cX6_move 42 = .ok (.iload 4, 2) := by decide +kernel
theorem dX6_move_44 : decode cX6_move 44 = .ok (.invokevirtual 143, 3) := by decide +kernel
theorem dX6_move_47 : decode cX6_move 47 = .ok (.invokevirtual 136, 3) := by decide +kernel
theorem dX6_move_50 : decode cX6_move 50 = .ok (.goto 10, 3) := by decide +kernel
theorem dX6_move_53 : decode cX6_move 53 = .ok (.aload_n 0, 1) := by decide +kernel
theorem dX6_move_54 : decode cX6_move 54 = .ok (.sipush (-202), 3) := by decide +kernel
theorem dX6_move_57 : decode cX6_move 57 = .ok (.invokevirtual 105, 3) := by decide +kernel
theorem dX6_move_60 : decode cX6_move 60 = .ok (.ireturn, 1) := by decide +kernel
theorem dX6_grow_0 : decode cX6_grow 0 = .ok (.iload_n 1, 1) := by decide +kernel
theorem dX6_grow_1 : decode cX6_grow 1 = .ok (.invokestatic 129, 3) := by decide +kernel
theorem dX6_grow_4 : decode cX6_grow 4 = .ok (.ifCond .eq 35, 3) := by decide +kernel
theorem dX6_grow_7 : decode cX6_grow 7 = .ok (.iload_n 2, 1) := by decide +kernel
theorem dX6_grow_8 : decode cX6_grow 8 = .ok (.bipush (-9), 2) := by decide +kernel
theorem dX6_grow_10 : decode cX6_grow 10 = .ok (.bipush 9, 2) := by decide +kernel
theorem dX6_grow_12 : decode cX6_grow 12 = .ok (.invokestatic 33, 3) := by decide +kernel
theorem dX6_grow_15 : decode cX6_grow 15 = .ok (.ifCond .eq 24, 3) := by decide +kernel
theorem dX6_grow_18 : decode cX6_grow 18 = .ok (.iload_n 3, 1) := by decide +kernel
theorem dX6_grow_19 : decode cX6_grow 19 = .ok (.invokestatic 129, 3) := by decide +kernel
theorem dX6_grow_22 : decode cX6_grow 22 = .ok (.ifCond .eq 17, 3) := by decide +kernel
theorem dX6_grow_25 : decode cX6_grow 25 = .ok (.aload_n 0, 1) := by decide +kernel
theorem dX6_grow_26 : decode cX6_grow 26 = .ok (.aload_n 0, 1) := by decide +kernel
theorem dX6_grow_27 : decode cX6_grow 27 = .ok (.iload_n 1, 1) := by decide +kernel
theorem dX6_grow_28 : decode cX6_grow 28 = .ok (.iload_n 2, 1) := by decide +kernel
theorem dX6_grow_29 : decode cX6_grow 29 = .ok (.iload_n 3, 1) := by decide +kernel
theorem dX6_grow_30 : decode cX6_grow 30 = .ok (.invokevirtual 146, 3) := by decide +kernel
theorem dX6_grow_33 : decode cX6_grow 33 = .ok (.invokevirtual 136, 3) := by decide +kernel
theorem dX6_grow_36 : decode cX6_grow 36 = .ok (.goto 10, 3) := by decide +kernel
theorem dX6_grow_39 : decode cX6_grow 39 = .ok (.aload_n 0, 1) := by decide +kernel
theorem dX6_grow_40 : decode cX6_grow 40 = .ok (.sipush (-202), 3) := by decide +kernel
theorem dX6_grow_43 : decode cX6_grow 43 = .ok (.invokevirtual 105, 3) := by decide +kernel
theorem dX6_grow_46 : decode cX6_grow 46 = .ok (.ireturn, 1) := by decide +kernel
theorem dX6_flip_0 : decode cX6_flip 0 = .ok (.iload_n 1, 1) := by decide +kernel
theorem dX6_flip_1 : decode cX6_flip 1 = .ok (.invokestatic 129, 3) := by decide +kernel
theorem dX6_flip_4 : decode cX6_flip 4 = .ok (.ifCond .eq 33, 3) := by decide +kernel
theorem dX6_flip_7 : decode cX6_flip 7 = .ok (.iload_n 2, 1) := by decide +kernel
theorem dX6_flip_8 : decode cX6_flip 8 = .ok (.iconst 0, 1) := by decide +kernel
theorem dX6_flip_9 : decode cX6_flip 9 = .ok (.iconst 2, 1) := by decide +kernel
theorem dX6_flip_10 : decode cX6_flip 10 = .ok (.invokestatic 33, 3) := by decide +kernel
theorem dX6_flip_13 : decode cX6_flip 13 = .ok (.ifCond .eq 24, 3) := by decide +kernel
theorem dX6_flip_16 : decode cX6_flip 16 = .ok (.iload_n 3, 1) := by decide +kernel
theorem dX6_flip_17 : decode cX6_flip 17 = .ok (.invokestatic 129, 3) := by decide +kernel
theorem dX6_flip_20 : decode cX6_flip 20 = .ok (.ifCond .eq 17, 3) := by decide +kernel
theorem dX6_flip_23 : decode cX6_flip 23 = .ok (.aload_n 0, 1) := by decide +kernel
theorem dX6_flip_24 : decode cX6_flip 24 = .ok (.aload_n 0, 1) := by decide +kernel
theorem dX6_flip_25 : decode cX6_flip 25 = .ok (.iload_n 1, 1) := by decide +kernel
theorem dX6_flip_26 : decode cX6_flip 26 = .ok (.iload_n 2, 1) := by decide +kernel
theorem dX6_flip_27 : decode cX6_flip 27 = .ok (.iload_n 3, 1) := by decide +kernel
theorem dX6_flip_28 : decode cX6_flip 28 = .ok (.invokevirtual 150, 3) := by decide +kernel
theorem dX6_flip_31 : decode cX6_flip 31 = .ok (.invokevirtual 136, 3) := by decide +kernel
theorem dX6_flip_34 : decode cX6_flip 34 = .ok (.goto 10, 3) := by decide +kernel
theorem dX6_flip_37 : decode cX6_flip 37 = .ok (.aload_n 0, 1) := by decide +kernel
theorem dX6_flip_38 : decode cX6_flip 38 = .ok (.sipush (-202), 3) := by decide +kernel
theorem dX6_flip_41 : decode cX6_flip 41 = .ok (.invokevirtual 105, 3) := by decide +kernel
theorem dX6_flip_44 : decode cX6_flip 44 = .ok (.ireturn, 1) := by decide +kernel
theorem dX6_rest_0 : decode cX6_rest 0 = .ok (.iload_n 1, 1) := by decide +kernel
theorem dX6_rest_1 : decode cX6_rest 1 = .ok (.invokestatic 129, 3) := by decide +kernel
theorem dX6_rest_4 : decode cX6_rest 4 = .ok (.ifCond .eq 10, 3) := by decide +kernel
theorem dX6_rest_7 : decode cX6_rest 7 = .ok (.iload_n 2, 1) := by decide +kernel
theorem dX6_rest_8 : decode cX6_rest 8 = .ok (.invokestatic 129, 3) := by decide +kernel
theorem dX6_rest_11 : decode cX6_rest 11 = .ok (.ifCond .ne 11, 3) := by decide +kernel
theorem dX6_rest_14 : decode cX6_rest 14 = .ok (.aload_n 0, 1) := by decide +kernel
theorem dX6_rest_15 : decode cX6_rest 15 = .ok (.sipush (-202), 3) := by decide +kernel
theorem dX6_rest_18 : decode cX6_rest 18 = .ok (.invokevirtual 105, 3) := by decide +kernel
theorem dX6_rest_21 : decode cX6_rest 21 = .ok (.ireturn, 1) := by decide +kernel
theorem dX6_rest_22 : decode cX6_rest 22 = .ok (.iconst 0, 1) := by decide +kernel
theorem dX6_rest_23 : decode cX6_rest 23 = .ok (.istore_n 3, 1) := by decide +kernel
theorem dX6_rest_24 : decode cX6_rest 24 = .ok (.iload_n 3, 1) := by decide +kernel
theorem dX6_rest_25 : decode cX6_rest 25 = .ok (.sipush 240, 3) := by decide +kernel
theorem dX6_rest_28 : decode cX6_rest 28 = .ok (.if_icmp .ge 39, 3) := by decide +kernel
theorem dX6_rest_31 : decode cX6_rest 31 = .ok (.aload_n 0, 1) := by decide +kernel
theorem dX6_rest_32 : decode cX6_rest 32 = .ok (.getfield 7, 3) := by decide +kernel
theorem dX6_rest_35 : decode cX6_rest 35 = .ok (.sipush 1200, 3) := by decide +kernel
theorem dX6_rest_38 : decode cX6_rest 38 = .ok (.iload_n 3, 1) := by decide +kernel
theorem dX6_rest_39 : decode cX6_rest 39 = .ok (.iadd, 1) := by decide +kernel
theorem dX6_rest_40 : decode cX6_rest 40 = .ok (.ldc2_w 123, 3) := by decide +kernel
theorem dX6_rest_43 : decode cX6_rest 43 = .ok (.aload_n 0, 1) := by decide +kernel
theorem dX6_rest_44 : decode cX6_rest 44 = .ok (.getfield 7, 3) := by decide +kernel
theorem dX6_rest_47 : decode cX6_rest 47 = .ok (.sipush 240, 3) := by decide +kernel
theorem dX6_rest_50 : decode cX6_rest 50 = .ok (.iload_n 1, 1) := by decide +kernel
theorem dX6_rest_51 : decode cX6_rest 51 = .ok (.imul, 1) := by decide +kernel
theorem dX6_rest_52 : decode cX6_rest 52 = .ok (.iload_n 3, 1) := by decide +kernel
theorem dX6_rest_53 : decode cX6_rest 53 = .ok (.iadd, 1) := by decide +kernel
theorem dX6_rest_54 : decode cX6_rest 54 = .ok (.laload, 1) := by decide +kernel
theorem dX6_rest_55 : decode cX6_rest 55 = .ok (.ldc2_w 121, 3) := by decide +kernel
theorem dX6_rest_58 : decode cX6_rest 58 = .ok (.lxor, 1) := by decide +kernel
theorem dX6_rest_59 : decode cX6_rest 59 = .ok (.land, 1) := by decide +kernel
theorem dX6_rest_60 : decode cX6_rest 60 = .ok (.lastore, 1) := by decide +kernel
theorem dX6_rest_61 : decode cX6_rest 61 = .ok (.iinc 3 1, 3) := by decide +kernel
theorem dX6_rest_64 : decode cX6_rest 64 = .ok (.goto (-40), 3) := by decide +kernel
theorem dX6_rest_67 : decode cX6_rest 67 = .ok (.aload_n 0, 1) := by decide +kernel
theorem dX6_rest_68 : decode cX6_rest 68 = .ok (.aload_n 0, 1) := by decide +kernel
theorem dX6_rest_69 : decode cX6_rest 69 = .ok (.iload_n 2, 1) := by decide +kernel
theorem dX6_rest_70 : decode cX6_rest 70 = .ok (.invokevirtual 114, 3) := by decide +kernel
theorem dX6_rest_73 : decode cX6_rest 73 = .ok (.invokevirtual 136, 3) := by decide +kernel
theorem dX6_rest_76 : decode cX6_rest 76 = .ok (.ireturn, 1) := by decide +kernel
theorem dX6_hangs_0 : decode cX6_hangs 0 = .ok (.iconst 1, 1) := by decide +kernel
theorem dX6_hangs_1 : decode cX6_hangs 1 = .ok (.istore_n 1, 1) := by decide +kernel
theorem dX6_hangs_2 : decode cX6_hangs 2 = .ok (.iload_n 1, 1) := by decide +kernel
theorem dX6_hangs_3 : decode cX6_hangs 3 = .ok (.ifCond .eq 254, 3) := by decide +kernel
theorem dX6_hangs_6 : decode cX6_hangs 6 = .ok (.iconst 0, 1) := by decide +kernel
theorem dX6_hangs_7 : decode cX6_hangs 7 = .ok (.istore_n 1, 1) := by decide +kernel
theorem dX6_hangs_8 : decode cX6_hangs 8 = .ok (.bipush (-60), 2) := by decide +kernel
theorem dX6_hangs_10 : decode cX6_hangs 10 = .ok (.istore_n 2, 1) := by decide +kernel
theorem dX6_hangs_11 : decode cX6_hangs 11 = .ok (.iload_n 2, 1) := by decide +kernel
theorem dX6_hangs_12 : decode cX6_hangs 12 = .ok (.bipush 59, 2) := by decide +kernel
theorem dX6_hangs_14 : decode cX6_hangs 14 = .ok (.if_icmp .gt 240, 3) := by decide +kernel
theorem dX6_hangs_17 : decode cX6_hangs 17 = .ok (.sipush 1200, 3) := by decide +kernel
theorem dX6_hangs_20 : decode cX6_hangs 20 = .ok (.iconst 2, 1) := by decide +kernel
theorem dX6_hangs_21 : decode cX6_hangs 21 = .ok (.iload_n 2, 1) := by decide +kernel
theorem dX6_hangs_22 : decode cX6_hangs 22 = .ok (.bipush (-60), 2) := by decide +kernel
theorem dX6_hangs_24 : decode cX6_hangs 24 = .ok (.isub, 1) := by decide +kernel
theorem dX6_hangs_25 : decode cX6_hangs 25 = .ok (.imul, 1) := by decide +kernel
theorem dX6_hangs_26 : decode cX6_hangs 26 = .ok (.iadd, 1) := by decide +kernel
theorem dX6_hangs_27 : decode cX6_hangs 27 = .ok (.istore_n 3, 1) := by decide +kernel
theorem dX6_hangs_28 : decode cX6_hangs 28 = .ok (.aload_n 0, 1) := by decide +kernel
theorem dX6_hangs_29 : decode cX6_hangs 29 = .ok (.getfield 7, 3) := by decide +kernel
theorem dX6_hangs_32 : decode cX6_hangs 32 = .ok (.iload_n 3, 1) := by decide +kernel
theorem dX6_hangs_33 : decode cX6_hangs 33 = .ok (.laload, 1) := by decide +kernel
theorem dX6_hangs_34 : decode cX6_hangs 34 = .ok (.lstore 4, 2) := by decide +kernel
theorem dX6_hangs_36 : decode cX6_hangs 36 = .ok (.aload_n 0, 1) := by decide +kernel
theorem dX6_hangs_37 : decode cX6_hangs 37 = .ok (.getfield 7, 3) := by decide +kernel
theorem dX6_hangs_40 : decode cX6_hangs 40 = .ok (.iload_n 3, 1) := by decide +kernel
theorem dX6_hangs_41 : decode cX6_hangs 41 = .ok (.iconst 1, 1) := by decide +kernel
theorem dX6_hangs_42 : decode cX6_hangs 42 = .ok (.iadd, 1) := by decide +kernel
theorem dX6_hangs_43 : decode cX6_hangs 43 = .ok (.laload, 1) := by decide +kernel
theorem dX6_hangs_44 : decode cX6_hangs 44 = .ok (.lstore 6, 2) := by decide +kernel
theorem dX6_hangs_46 : decode cX6_hangs 46 = .ok (.lload 4, 2) := by decide +kernel
theorem dX6_hangs_48 : decode cX6_hangs 48 = .ok (.lload 4, 2) := by decide +kernel
theorem dX6_hangs_50 : decode cX6_hangs 50 = .ok (.iconst 1, 1) := by decide +kernel
theorem dX6_hangs_51 : decode cX6_hangs 51 = .ok (.lshl, 1) := by decide +kernel
theorem dX6_hangs_52 : decode cX6_hangs 52 = .ok (.ldc2_w 123, 3) := by decide +kernel
theorem dX6_hangs_55 : decode cX6_hangs 55 = .ok (.land, 1) := by decide +kernel
theorem dX6_hangs_56 : decode cX6_hangs 56 = .ok (.lor, 1) := by decide +kernel
theorem dX6_hangs_57 : decode cX6_hangs 57 = .ok (.lload 4, 2) := by decide +kernel
theorem dX6_hangs_59 : decode cX6_hangs 59 = .ok (.iconst 1, 1) := by decide +kernel
theorem dX6_hangs_60 : decode cX6_hangs 60 = .ok (.lshr, 1) := by decide +kernel
theorem dX6_hangs_61 : decode cX6_hangs 61 = .ok (.lor, 1) := by decide +kernel
theorem dX6_hangs_62 : decode cX6_hangs 62 = .ok (.lload 6, 2) := by decide +kernel
theorem dX6_hangs_64 : decode cX6_hangs 64 = .ok (.lconst 1, 1) := by decide +kernel
theorem dX6_hangs_65 : decode cX6_hangs 65 = .ok (.land, 1) := by decide +kernel
theorem dX6_hangs_66 : decode cX6_hangs 66 = .ok (.bipush 59, 2) := by decide +kernel
theorem dX6_hangs_68 : decode cX6_hangs 68 = .ok (.lshl, 1) := by decide +kernel
theorem dX6_hangs_69 : decode cX6_hangs 69 = .ok (.lor, 1) := by decide +kernel
theorem dX6_hangs_70 : decode cX6_hangs 70 = .ok (.iload_n 2, 1) := by decide +kernel
theorem dX6_hangs_71 : decode cX6_hangs 71 = .ok (.bipush (-60), 2) := by decide +kernel
theorem dX6_hangs_73 : decode cX6_hangs 73 = .ok (.if_icmp .le 14, 3) := by decide +kernel
theorem dX6_hangs_76 : decode cX6_hangs 76 = .ok (.aload_n 0, 1) := by decide +kernel
theorem dX6_hangs_77 : decode cX6_hangs 77 = .ok (.getfield 7, 3) := by decide +kernel
theorem dX6_hangs_80 : decode cX6_hangs 80 = .ok (.iload_n 3, 1) := by decide +kernel
theorem dX6_hangs_81 : decode cX6_hangs 81 = .ok (.iconst 2, 1) := by decide +kernel
theorem dX6_hangs_82 : decode cX6_hangs 82 = .ok (.isub, 1) := by decide +kernel
theorem dX6_hangs_83 : decode cX6_hangs 83 = .ok (.laload, 1) := by decide +kernel
theorem dX6_hangs_84 : decode cX6_hangs 84 = .ok (.goto 4, 3) := by decide +kernel
theorem dX6_hangs_87 : decode cX6_hangs 87 = .ok (.lconst 0, 1) := by decide +kernel
theorem dX6_hangs_88 : decode cX6_hangs 88 = .ok (.lor, 1) := by decide +kernel
theorem dX6_hangs_89 : decode cX6_hangs 89 = .ok (.iload_n 2, 1) := by decide +kernel
theorem dX6_hangs_90 : decode cX6_hangs 90 = .ok (.bipush 59, 2) := by decide +kernel
theorem dX6_hangs_92 : decode cX6_hangs 92 = .ok (.if_icmp .ge 14, 3) := by decide +kernel
theorem dX6_hangs_95 : decode cX6_hangs 95 = .ok (.aload_n 0, 1) := by decide +kernel
theorem dX6_hangs_96 : decode cX6_hangs 96 = .ok (.getfield 7, 3) := by decide +kernel
theorem dX6_hangs_99 : decode cX6_hangs 99 = .ok (.iload_n 3, 1) := by decide +kernel
theorem dX6_hangs_100 : decode cX6_hangs 100 = .ok (.iconst 2, 1) := by decide +kernel
theorem dX6_hangs_101 : decode cX6_hangs 101 = .ok (.iadd, 1) := by decide +kernel
theorem dX6_hangs_102 : decode cX6_hangs 102 = .ok (.laload, 1) := by decide +kernel
theorem dX6_hangs_103 : decode cX6_hangs 103 = .ok (.goto 4, 3) := by decide +kernel
theorem dX6_hangs_106 : decode cX6_hangs 106 = .ok (.lconst 0, 1) := by decide +kernel
theorem dX6_hangs_107 : decode cX6_hangs 107 = .ok (.lor, 1) := by decide +kernel
theorem dX6_hangs_108 : decode cX6_hangs 108 = .ok (.lstore 8, 2) := by decide +kernel
theorem dX6_hangs_110 : decode cX6_hangs 110 = .ok (.lload 6, 2) := by decide +kernel
theorem dX6_hangs_112 : decode cX6_hangs 112 = .ok (.lload 6, 2) := by decide +kernel
theorem dX6_hangs_114 : decode cX6_hangs 114 = .ok (.iconst 1, 1) := by decide +kernel
theorem dX6_hangs_115 : decode cX6_hangs 115 = .ok (.lshl, 1) := by decide +kernel
theorem dX6_hangs_116 : decode cX6_hangs 116 = .ok (.lload 4, 2) := by decide +kernel
theorem dX6_hangs_118 : decode cX6_hangs 118 = .ok (.bipush 59, 2) := by decide +kernel
theorem dX6_hangs_120 : decode cX6_hangs 120 = .ok (.lshr, 1) := by decide +kernel
theorem dX6_hangs_121 : decode cX6_hangs 121 = .ok (.lor, 1) := by decide +kernel
theorem dX6_hangs_122 : decode cX6_hangs 122 = .ok (.ldc2_w 123, 3) := by decide +kernel
theorem dX6_hangs_125 : decode cX6_hangs 125 = .ok (.land, 1) := by decide +kernel
theorem dX6_hangs_126 : decode cX6_hangs 126 = .ok (.lor, 1) := by decide +kernel
theorem dX6_hangs_127 : decode cX6_hangs 127 = .ok (.lload 6, 2) := by decide +kernel
theorem dX6_hangs_129 : decode cX6_hangs 129 = .ok (.iconst 1, 1) := by decide +kernel
theorem dX6_hangs_130 : decode cX6_hangs 130 = .ok (.lshr, 1) := by decide +kernel
theorem dX6_hangs_131 : decode cX6_hangs 131 = .ok (.lor, 1) := by decide +kernel
theorem dX6_hangs_132 : decode cX6_hangs 132 = .ok (.iload_n 2, 1) := by decide +kernel
theorem dX6_hangs_133 : decode cX6_hangs 133 = .ok (.bipush (-60), 2) := by decide +kernel
theorem dX6_hangs_135 : decode cX6_hangs 135 = .ok (.if_icmp .le 14, 3) := by decide +kernel
theorem dX6_hangs_138 : decode cX6_hangs 138 = .ok (.aload_n 0, 1) := by decide +kernel
theorem dX6_hangs_139 : decode cX6_hangs 139 = .ok (.getfield 7, 3) := by decide +kernel
theorem dX6_hangs_142 : decode cX6_hangs 142 = .ok (.iload_n 3, 1) := by decide +kernel
theorem dX6_hangs_143 : decode cX6_hangs 143 = .ok (.iconst 1, 1) := by decide +kernel
theorem dX6_hangs_144 : decode cX6_hangs 144 = .ok (.isub, 1) := by decide +kernel
theorem dX6_hangs_145 : decode cX6_hangs 145 = .ok (.laload, 1) := by decide +kernel
theorem dX6_hangs_146 : decode cX6_hangs 146 = .ok (.goto 4, 3) := by decide +kernel
theorem dX6_hangs_149 : decode cX6_hangs 149 = .ok (.lconst 0, 1) := by decide +kernel
theorem dX6_hangs_150 : decode cX6_hangs 150 = .ok (.lor, 1) := by decide +kernel
theorem dX6_hangs_151 : decode cX6_hangs 151 = .ok (.iload_n 2, 1) := by decide +kernel
theorem dX6_hangs_152 : decode cX6_hangs 152 = .ok (.bipush 59, 2) := by decide +kernel
theorem dX6_hangs_154 : decode cX6_hangs 154 = .ok (.if_icmp .ge 14, 3) := by decide +kernel
theorem dX6_hangs_157 : decode cX6_hangs 157 = .ok (.aload_n 0, 1) := by decide +kernel
theorem dX6_hangs_158 : decode cX6_hangs 158 = .ok (.getfield 7, 3) := by decide +kernel
theorem dX6_hangs_161 : decode cX6_hangs 161 = .ok (.iload_n 3, 1) := by decide +kernel
theorem dX6_hangs_162 : decode cX6_hangs 162 = .ok (.iconst 3, 1) := by decide +kernel
theorem dX6_hangs_163 : decode cX6_hangs 163 = .ok (.iadd, 1) := by decide +kernel
theorem dX6_hangs_164 : decode cX6_hangs 164 = .ok (.laload, 1) := by decide +kernel
theorem dX6_hangs_165 : decode cX6_hangs 165 = .ok (.goto 4, 3) := by decide +kernel
theorem dX6_hangs_168 : decode cX6_hangs 168 = .ok (.lconst 0, 1) := by decide +kernel
theorem dX6_hangs_169 : decode cX6_hangs 169 = .ok (.lor, 1) := by decide +kernel
theorem dX6_hangs_170 : decode cX6_hangs 170 = .ok (.lstore 10, 2) := by decide +kernel
theorem dX6_hangs_172 : decode cX6_hangs 172 = .ok (.lload 8, 2) := by decide +kernel
theorem dX6_hangs_174 : decode cX6_hangs 174 = .ok (.aload_n 0, 1) := by decide +kernel
theorem dX6_hangs_175 : decode cX6_hangs 175 = .ok (.getfield 7, 3) := by decide +kernel
theorem dX6_hangs_178 : decode cX6_hangs 178 = .ok (.sipush 480, 3) := by decide +kernel
theorem dX6_hangs_181 : decode cX6_hangs 181 = .ok (.iload_n 3, 1) := by decide +kernel
theorem dX6_hangs_182 : decode cX6_hangs 182 = .ok (.iadd, 1) := by decide +kernel
theorem dX6_hangs_183 : decode cX6_hangs 183 = .ok (.laload, 1) := by decide +kernel
theorem dX6_hangs_184 : decode cX6_hangs 184 = .ok (.land, 1) := by decide +kernel
theorem dX6_hangs_185 : decode cX6_hangs 185 = .ok (.lstore 8, 2) := by decide +kernel
theorem dX6_hangs_187 : decode cX6_hangs 187 = .ok (.lload 10, 2) := by decide +kernel
theorem dX6_hangs_189 : decode cX6_hangs 189 = .ok (.aload_n 0, 1) := by decide +kernel
theorem dX6_hangs_190 : decode cX6_hangs 190 = .ok (.getfield 7, 3) := by decide +kernel
theorem dX6_hangs_193 : decode cX6_hangs 193 = .ok (.sipush 480, 3) := by decide +kernel
theorem dX6_hangs_196 : decode cX6_hangs 196 = .ok (.iload_n 3, 1) := by decide +kernel
theorem dX6_hangs_197 : decode cX6_hangs 197 = .ok (.iadd, 1) := by decide +kernel
theorem dX6_hangs_198 : decode cX6_hangs 198 = .ok (.iconst 1, 1) := by decide +kernel
theorem dX6_hangs_199 : decode cX6_hangs 199 = .ok (.iadd, 1) := by decide +kernel
theorem dX6_hangs_200 : decode cX6_hangs 200 = .ok (.laload, 1) := by decide +kernel
theorem dX6_hangs_201 : decode cX6_hangs 201 = .ok (.land, 1) := by decide +kernel
theorem dX6_hangs_202 : decode cX6_hangs 202 = .ok (.lstore 10, 2) := by decide +kernel
theorem dX6_hangs_204 : decode cX6_hangs 204 = .ok (.iload_n 1, 1) := by decide +kernel
theorem dX6_hangs_205 : decode cX6_hangs 205 = .ok (.ifCond .ne 19, 3) := by decide +kernel
theorem dX6_hangs_208 : decode cX6_hangs 208 = .ok (.lload 8, 2) := by decide +kernel
theorem dX6_hangs_210 : decode cX6_hangs 210 = .ok (.lload 4, 2) := by decide +kernel
theorem dX6_hangs_212 : decode cX6_hangs 212 = .ok (.lcmp, 1) := by decide +kernel
theorem dX6_hangs_213 : decode cX6_hangs 213 = .ok (.ifCond .ne 11, 3) := by decide +kernel
theorem dX6_hangs_216 : decode cX6_hangs 216 = .ok (.lload 10, 2) := by decide +kernel
theorem dX6_hangs_218 : decode cX6_hangs 218 = .ok (.lload 6, 2) := by decide +kernel
theorem dX6_hangs_220 : decode cX6_hangs 220 = .ok (.lcmp, 1) := by decide +kernel
theorem dX6_hangs_221 : decode cX6_hangs 221 = .ok (.ifCond .eq 7, 3) := by decide +kernel
theorem dX6_hangs_224 : decode cX6_hangs 224 = .ok (.iconst 1, 1) := by decide +kernel
theorem dX6_hangs_225 : decode cX6_hangs 225 = .ok (.goto 4, 3) := by decide +kernel
theorem dX6_hangs_228 : decode cX6_hangs 228 = .ok (.iconst 0, 1) := by decide +kernel
theorem dX6_hangs_229 : decode cX6_hangs 229 = .ok (.istore_n 1, 1) := by decide +kernel
theorem dX6_hangs_230 : decode cX6_hangs 230 = .ok (.aload_n 0, 1) := by decide +kernel
theorem dX6_hangs_231 : decode cX6_hangs 231 = .ok (.getfield 7, 3) := by decide +kernel
theorem dX6_hangs_234 : decode cX6_hangs 234 = .ok (.iload_n 3, 1) := by decide +kernel
theorem dX6_hangs_235 : decode cX6_hangs 235 = .ok (.lload 8, 2) := by decide +kernel
theorem dX6_hangs_237 : decode cX6_hangs 237 = .ok (.lastore, 1) := by decide +kernel
theorem dX6_hangs_238 : decode cX6_hangs 238 = .ok (.aload_n 0, 1) := by decide +kernel
theorem dX6_hangs_239 : decode cX6_hangs 239 = .ok (.getfield 7, 3) := by decide +kernel
theorem dX6_hangs_242 : decode cX6_hangs 242 = .ok (.iload_n 3, 1) := by decide +kernel
theorem dX6_hangs_243 : decode cX6_hangs 243 = .ok (.iconst 1, 1) := by decide +kernel
theorem dX6_hangs_244 : decode cX6_hangs 244 = .ok (.iadd, 1) := by decide +kernel
theorem dX6_hangs_245 : decode cX6_hangs 245 = .ok (.lload 10, 2) := by decide +kernel
theorem dX6_hangs_247 : decode cX6_hangs 247 = .ok (.lastore, 1) := by decide +kernel
theorem dX6_hangs_248 : decode cX6_hangs 248 = .ok (.iinc 2 1, 3) := by decide +kernel
theorem dX6_hangs_251 : decode cX6_hangs 251 = .ok (.goto (-240), 3) := by decide +kernel
theorem dX6_hangs_254 : decode cX6_hangs 254 = .ok (.goto (-252), 3) := by decide +kernel
theorem dX6_hangs_257 : decode cX6_hangs 257 = .ok (.return_, 1) := by decide +kernel
theorem dX6_part_0 : decode cX6_part 0 = .ok (.iload_n 1, 1) := by decide +kernel
theorem dX6_part_1 : decode cX6_part 1 = .ok (.invokestatic 129, 3) := by decide +kernel
theorem dX6_part_4 : decode cX6_part 4 = .ok (.ifCond .eq 19, 3) := by decide +kernel
theorem dX6_part_7 : decode cX6_part 7 = .ok (.iload_n 2, 1) := by decide +kernel
theorem dX6_part_8 : decode cX6_part 8 = .ok (.iload_n 3, 1) := by decide +kernel
theorem dX6_part_9 : decode cX6_part 9 = .ok (.invokestatic 37, 3) := by decide +kernel
theorem dX6_part_12 : decode cX6_part 12 = .ok (.ifCond .eq 11, 3) := by decide +kernel
theorem dX6_part_15 : decode cX6_part 15 = .ok (.iload 4, 2) := by decide +kernel
theorem dX6_part_17 : decode cX6_part 17 = .ok (.invokestatic 129, 3) := by decide +kernel
theorem dX6_part_20 : decode cX6_part 20 = .ok (.ifCond .ne 11, 3) := by decide +kernel
theorem dX6_part_23 : decode cX6_part 23 = .ok (.aload_n 0, 1) := by decide +kernel
theorem dX6_part_24 : decode cX6_part 24 = .ok (.sipush (-202), 3) := by decide +kernel
theorem dX6_part_27 : decode cX6_part 27 = .ok (.invokevirtual 105, 3) := by decide +kernel
theorem dX6_part_30 : decode cX6_part 30 = .ok (.ireturn, 1) := by decide +kernel
theorem dX6_part_31 : decode cX6_part 31 = .ok (.aload_n 0, 1) := by decide +kernel
theorem dX6_part_32 : decode cX6_part 32 = .ok (.iload_n 1, 1) := by decide +kernel
theorem dX6_part_33 : decode cX6_part 33 = .ok (.iload_n 2, 1) := by decide +kernel
theorem dX6_part_34 : decode cX6_part 34 = .ok (.iload_n 3, 1) := by decide +kernel
theorem dX6_part_35 : decode cX6_part 35 = .ok (.invokevirtual 65, 3) := by decide +kernel
theorem dX6_part_38 : decode cX6_part 38 = .ok (.ifCond .ne 11, 3) := by decide +kernel
theorem dX6_part_41 : decode cX6_part 41 = .ok (.aload_n 0, 1) := by decide +kernel
theorem dX6_part_42 : decode cX6_part 42 = .ok (.sipush (-203), 3) := by decide +kernel
theorem dX6_part_45 : decode cX6_part 45 = .ok (.invokevirtual 105, 3) := by decide +kernel
theorem dX6_part_48 : decode cX6_part 48 = .ok (.ireturn, 1) := by decide +kernel
theorem dX6_part_49 : decode cX6_part 49 = .ok (.aload_n 0, 1) := by decide +kernel
theorem dX6_part_50 : decode cX6_part 50 = .ok (.iload_n 1, 1) := by decide +kernel
theorem dX6_part_51 : decode cX6_part 51 = .ok (.bipush 7, 2) := by decide +kernel
theorem dX6_part_53 : decode cX6_part 53 = .ok (.invokevirtual 97, 3) := by decide +kernel
theorem dX6_part_56 : decode cX6_part 56 = .ok (.aload_n 0, 1) := by decide +kernel
theorem dX6_part_57 : decode cX6_part 57 = .ok (.iconst 5, 1) := by decide +kernel
theorem dX6_part_58 : decode cX6_part 58 = .ok (.invokevirtual 108, 3) := by decide +kernel
theorem dX6_part_61 : decode cX6_part 61 = .ok (.aload_n 0, 1) := by decide +kernel
theorem dX6_part_62 : decode cX6_part 62 = .ok (.iconst 5, 1) := by decide +kernel
theorem dX6_part_63 : decode cX6_part 63 = .ok (.iload_n 2, 1) := by decide +kernel
theorem dX6_part_64 : decode cX6_part 64 = .ok (.iload_n 3, 1) := by decide +kernel
theorem dX6_part_65 : decode cX6_part 65 = .ok (.invokevirtual 117, 3) := by decide +kernel
theorem dX6_part_68 : decode cX6_part 68 = .ok (.aload_n 0, 1) := by decide +kernel
theorem dX6_part_69 : decode cX6_part 69 = .ok (.invokevirtual 153, 3) := by decide +kernel
theorem dX6_part_72 : decode cX6_part 72 = .ok (.aload_n 0, 1) := by decide +kernel
theorem dX6_part_73 : decode cX6_part 73 = .ok (.aload_n 0, 1) := by decide +kernel
theorem dX6_part_74 : decode cX6_part 74 = .ok (.iload 4, 2) := by decide +kernel
theorem dX6_part_76 : decode cX6_part 76 = .ok (.invokevirtual 114, 3) := by decide +kernel
theorem dX6_part_79 : decode cX6_part 79 = .ok (.invokevirtual 136, 3) := by decide +kernel
theorem dX6_part_82 : decode cX6_part 82 = .ok (.ireturn, 1) := by decide +kernel
theorem dX6_partsOf_0 : decode cX6_partsOf 0 = .ok (.iconst 0, 1) := by decide +kernel
theorem dX6_partsOf_1 : decode cX6_partsOf 1 = .ok (.istore_n 2, 1) := by decide +kernel
theorem dX6_partsOf_2 : decode cX6_partsOf 2 = .ok (.aload_n 0, 1) := by decide +kernel
theorem dX6_partsOf_3 : decode cX6_partsOf 3 = .ok (.iload_n 1, 1) := by decide +kernel
theorem dX6_partsOf_4 : decode cX6_partsOf 4 = .ok (.bipush 7, 2) := by decide +kernel
theorem dX6_partsOf_6 : decode cX6_partsOf 6 = .ok (.invokevirtual 97, 3) := by decide +kernel
theorem dX6_partsOf_9 : decode cX6_partsOf 9 = .ok (.bipush (-60), 2) := by decide +kernel
theorem dX6_partsOf_11 : decode cX6_partsOf 11 = .ok (.istore_n 3, 1) := by decide +kernel
theorem dX6_partsOf_12 : decode cX6_partsOf 12 = .ok (.iload_n 3, 1) := by decide +kernel
theorem dX6_partsOf_13 : decode cX6_partsOf 13 = .ok (.bipush 59, 2) := by decide +kernel
theorem dX6_partsOf_15 : decode cX6_partsOf 15 = .ok (.if_icmp .gt 104, 3) := by decide +kernel
theorem dX6_partsOf_18 : decode cX6_partsOf 18 = .ok (.bipush (-60), 2) := by decide +kernel
theorem dX6_partsOf_20 : decode cX6_partsOf 20 = .ok (.istore 4, 2) := by decide +kernel
theorem dX6_partsOf_22 : decode cX6_partsOf 22 = .ok (.iload 4, 2) := by decide +kernel
theorem dX6_partsOf_24 : decode cX6_partsOf 24 = .ok (.bipush 59, 2) := by decide +kernel
theorem dX6_partsOf_26 : decode cX6_partsOf 26 = .ok (.if_icmp .gt 87, 3) := by decide +kernel
theorem dX6_partsOf_29 : decode cX6_partsOf 29 = .ok (.aload_n 0, 1) := by decide +kernel
theorem dX6_partsOf_30 : decode cX6_partsOf 30 = .ok (.bipush 7, 2) := by decide +kernel
theorem dX6_partsOf_32 : decode cX6_partsOf 32 = .ok (.iload 4, 2) := by decide +kernel
theorem dX6_partsOf_34 : decode cX6_partsOf 34 = .ok (.iload_n 3, 1) := by decide +kernel
theorem dX6_partsOf_35 : decode cX6_partsOf 35 = .ok (.invokevirtual 65, 3) := by decide +kernel
theorem dX6_partsOf_38 : decode cX6_partsOf 38 = .ok (.ifCond .eq 69, 3) := by decide +kernel
theorem dX6_partsOf_41 : decode cX6_partsOf 41 = .ok (.iinc 2 1, 3) := by decide +kernel
theorem dX6_partsOf_44 : decode cX6_partsOf 44 = .ok (.aload_n 0, 1) := by decide +kernel
theorem dX6_partsOf_45 : decode cX6_partsOf 45 = .ok (.iconst 5, 1) := by decide +kernel
theorem dX6_partsOf_46 : decode cX6_partsOf 46 = .ok (.invokevirtual 108, 3) := by decide +kernel
theorem dX6_partsOf_49 : decode cX6_partsOf 49 = .ok (.aload_n 0, 1) := by decide +kernel
theorem dX6_partsOf_50 : decode cX6_partsOf 50 = .ok (.iconst 5, 1) := by decide +kernel
theorem dX6_partsOf_51 : decode cX6_partsOf 51 = .ok (.iload 4, 2) := by decide +kernel
theorem dX6_partsOf_53 : decode cX6_partsOf 53 = .ok (.iload_n 3, 1) := by decide +kernel
theorem dX6_partsOf_54 : decode cX6_partsOf 54 = .ok (.invokevirtual 117, 3) := by decide +kernel
theorem dX6_partsOf_57 : decode cX6_partsOf 57 = .ok (.aload_n 0, 1) := by decide +kernel
theorem dX6_partsOf_58 : decode cX6_partsOf 58 = .ok (.invokevirtual 153, 3) := by decide +kernel
theorem dX6_partsOf_61 : decode cX6_partsOf 61 = .ok (.iconst 0, 1) := by decide +kernel
theorem dX6_partsOf_62 : decode cX6_partsOf 62 = .ok (.istore 5, 2) := by decide +kernel
theorem dX6_partsOf_64 : decode cX6_partsOf 64 = .ok (.iload 5, 2) := by decide +kernel
theorem dX6_partsOf_66 : decode cX6_partsOf 66 = .ok (.sipush 240, 3) := by decide +kernel
theorem dX6_partsOf_69 : decode cX6_partsOf 69 = .ok (.if_icmp .ge 38, 3) := by decide +kernel
theorem dX6_partsOf_72 : decode cX6_partsOf 72 = .ok (.aload_n 0, 1) := by decide +kernel
theorem dX6_partsOf_73 : decode cX6_partsOf 73 = .ok (.getfield 7, 3) := by decide +kernel
theorem dX6_partsOf_76 : decode cX6_partsOf 76 = .ok (.sipush 1680, 3) := by decide +kernel
theorem dX6_partsOf_79 : decode cX6_partsOf 79 = .ok (.iload 5, 2) := by decide +kernel
theorem dX6_partsOf_81 : decode cX6_partsOf 81 = .ok (.iadd, 1) := by decide +kernel
theorem dX6_partsOf_82 : decode cX6_partsOf 82 = .ok (.dup2, 1) := by decide +kernel
theorem dX6_partsOf_83 : decode cX6_partsOf 83 = .ok (.laload, 1) := by decide +kernel
theorem dX6_partsOf_84 : decode cX6_partsOf 84 = .ok (.aload_n 0, 1) := by decide +kernel
theorem dX6_partsOf_85 : decode cX6_partsOf 85 = .ok (.getfield 7, 3) := by decide +kernel
theorem dX6_partsOf_88 : decode cX6_partsOf 88 = .ok (.sipush 1200, 3) := by decide +kernel
theorem dX6_partsOf_91 : decode cX6_partsOf 91 = .ok (.iload 5, 2) := by decide +kernel
theorem dX6_partsOf_93 : decode cX6_partsOf 93 = .ok (.iadd, 1) := by decide +kernel
theorem dX6_partsOf_94 : decode cX6_partsOf 94 = .ok (.laload, 1) := by decide +kernel
theorem dX6_partsOf_95 : decode cX6_partsOf 95 = .ok (.ldc2_w 121, 3) := by decide +kernel
theorem dX6_partsOf_98 : decode cX6_partsOf 98 = .ok (.lxor, 1) := by decide +kernel
theorem dX6_partsOf_99 : decode cX6_partsOf 99 = .ok (.land, 1) := by decide +kernel
theorem dX6_partsOf_100 : decode cX6_partsOf 100 = .ok (.lastore, 1) := by decide +kernel
theorem dX6_partsOf_101 : decode cX6_partsOf 101 = .ok (.iinc 5 1, 3) := by decide +kernel
theorem dX6_partsOf_104 : decode cX6_partsOf 104 = .ok (.goto (-40), 3) := by decide +kernel
theorem dX6_partsOf_107 : decode cX6_partsOf 107 = .ok (.iinc 4 1, 3) := by decide +kernel
theorem dX6_partsOf_110 : decode cX6_partsOf 110 = .ok (.goto (-88), 3) := by decide +kernel
theorem dX6_partsOf_113 : decode cX6_partsOf 113 = .ok (.iinc 3 1, 3) := by decide +kernel
theorem dX6_partsOf_116 : decode cX6_partsOf 116 = .ok (.goto (-104), 3) := by decide +kernel
theorem dX6_partsOf_119 : decode cX6_partsOf 119 = .ok (.iload_n 2, 1) := by decide +kernel
theorem dX6_partsOf_120 : decode cX6_partsOf 120 = .ok (.ireturn, 1) := by decide +kernel
theorem dX6_corner_0 : decode cX6_corner 0 = .ok (.iload_n 1, 1) := by decide +kernel
theorem dX6_corner_1 : decode cX6_corner 1 = .ok (.bipush (-60), 2) := by decide +kernel
theorem dX6_corner_3 : decode cX6_corner 3 = .ok (.bipush 60, 2) := by decide +kernel
theorem dX6_corner_5 : decode cX6_corner 5 = .ok (.invokestatic 33, 3) := by decide +kernel
theorem dX6_corner_8 : decode cX6_corner 8 = .ok (.ifCond .eq 14, 3) := by decide +kernel
theorem dX6_corner_11 : decode cX6_corner 11 = .ok (.iload_n 2, 1) := by decide +kernel
theorem dX6_corner_12 : decode cX6_corner 12 = .ok (.bipush (-60), 2) := by decide +kernel
theorem dX6_corner_14 : decode cX6_corner 14 = .ok (.bipush 60, 2) := by decide +kernel
theorem dX6_corner_16 : decode cX6_corner 16 = .ok (.invokestatic 33, 3) := by decide +kernel
theorem dX6_corner_19 : decode cX6_corner 19 = .ok (.ifCond .ne 11, 3) := by decide +kernel
theorem dX6_corner_22 : decode cX6_corner 22 = .ok (.aload_n 0, 1) := by decide +kernel
theorem dX6_corner_23 : decode cX6_corner 23 = .ok (.sipush (-202), 3) := by decide +kernel
theorem dX6_corner_26 : decode cX6_corner 26 = .ok (.invokevirtual 105, 3) := by decide +kernel
theorem dX6_corner_29 : decode cX6_corner 29 = .ok (.ireturn, 1) := by decide +kernel
theorem dX6_corner_30 : decode cX6_corner 30 = .ok (.aload_n 0, 1) := by decide +kernel
theorem dX6_corner_31 : decode cX6_corner 31 = .ok (.getfield 156, 3) := by decide +kernel
theorem dX6_corner_34 : decode cX6_corner 34 = .ok (.bipush 10, 2) := by decide +kernel
theorem dX6_corner_36 : decode cX6_corner 36 = .ok (.if_icmp .ne 11, 3) := by decide +kernel
theorem dX6_corner_39 : decode cX6_corner 39 = .ok (.aload_n 0, 1) := by decide +kernel
theorem dX6_corner_40 : decode cX6_corner 40 = .ok (.sipush (-204), 3) := by decide +kernel
theorem dX6_corner_43 : decode cX6_corner 43 = .ok (.invokevirtual 105, 3) := by decide +kernel
theorem dX6_corner_46 : decode cX6_corner 46 = .ok (.ireturn, 1) := by decide +kernel
theorem dX6_corner_47 : decode cX6_corner 47 = .ok (.aload_n 0, 1) := by decide +kernel
theorem dX6_corner_48 : decode cX6_corner 48 = .ok (.getfield 20, 3) := by decide +kernel
theorem dX6_corner_51 : decode cX6_corner 51 = .ok (.aload_n 0, 1) := by decide +kernel
theorem dX6_corner_52 : decode cX6_corner 52 = .ok (.getfield 156, 3) := by decide +kernel
theorem dX6_corner_55 : decode cX6_corner 55 = .ok (.iload_n 1, 1) := by decide +kernel
theorem dX6_corner_56 : decode cX6_corner 56 = .ok (.iastore, 1) := by decide +kernel
theorem dX6_corner_57 : decode cX6_corner 57 = .ok (.aload_n 0, 1) := by decide +kernel
theorem dX6_corner_58 : decode cX6_corner 58 = .ok (.getfield 23, 3) := by decide +kernel
theorem dX6_corner_61 : decode cX6_corner 61 = .ok (.aload_n 0, 1) := by decide +kernel
theorem dX6_corner_62 : decode cX6_corner 62 = .ok (.getfield 156, 3) := by decide +kernel
theorem dX6_corner_65 : decode cX6_corner 65 = .ok (.iload_n 2, 1) := by decide +kernel
theorem dX6_corner_66 : decode cX6_corner 66 = .ok (.iastore, 1) := by decide +kernel
theorem dX6_corner_67 : decode cX6_corner 67 = .ok (.aload_n 0, 1) := by decide +kernel
theorem dX6_corner_68 : decode cX6_corner 68 = .ok (.dup, 1) := by decide +kernel
theorem dX6_corner_69 : decode cX6_corner 69 = .ok (.getfield 156, 3) := by decide +kernel
theorem dX6_corner_72 : decode cX6_corner 72 = .ok (.iconst 1, 1) := by decide +kernel
theorem dX6_corner_73 : decode cX6_corner 73 = .ok (.iadd, 1) := by decide +kernel
theorem dX6_corner_74 : decode cX6_corner 74 = .ok (.putfield 156, 3) := by decide +kernel
theorem dX6_corner_77 : decode cX6_corner 77 = .ok (.aload_n 0, 1) := by decide +kernel
theorem dX6_corner_78 : decode cX6_corner 78 = .ok (.getfield 156, 3) := by decide +kernel
theorem dX6_corner_81 : decode cX6_corner 81 = .ok (.ireturn, 1) := by decide +kernel
theorem dX6_crossed_0 : decode cX6_crossed 0 = .ok (.iconst 0, 1) := by decide +kernel
theorem dX6_crossed_1 : decode cX6_crossed 1 = .ok (.istore_n 3, 1) := by decide +kernel
theorem dX6_crossed_2 : decode cX6_crossed 2 = .ok (.iconst 0, 1) := by decide +kernel
theorem dX6_crossed_3 : decode cX6_crossed 3 = .ok (.istore 4, 2) := by decide +kernel
theorem dX6_crossed_5 : decode cX6_crossed 5 = .ok (.iload 4, 2) := by decide +kernel
theorem dX6_crossed_7 : decode cX6_crossed 7 = .ok (.aload_n 0, 1) := by decide +kernel
theorem dX6_crossed_8 : decode cX6_crossed 8 = .ok (.getfield 156, 3) := by decide +kernel
theorem dX6_crossed_11 : decode cX6_crossed 11 = .ok (.if_icmp .ge 170, 3) := by decide +kernel
theorem dX6_crossed_14 : decode cX6_crossed 14 = .ok (.iload 4, 2) := by decide +kernel
theorem dX6_crossed_16 : decode cX6_crossed 16 = .ok (.iconst 1, 1) := by decide +kernel
theorem dX6_crossed_17 : decode cX6_crossed 17 = .ok (.iadd, 1) := by decide +kernel
theorem dX6_crossed_18 : decode cX6_crossed 18 = .ok (.aload_n 0, 1) := by decide +kernel
theorem dX6_crossed_19 : decode cX6_crossed 19 = .ok (.getfield 156, 3) := by decide +kernel
theorem dX6_crossed_22 : decode cX6_crossed 22 = .ok (.if_icmp .ge 10, 3) := by decide +kernel
theorem dX6_crossed_25 : decode cX6_crossed 25 = .ok (.iload 4, 2) := by decide +kernel
theorem dX6_crossed_27 : decode cX6_crossed 27 = .ok (.iconst 1, 1) := by decide +kernel
theorem dX6_crossed_28 : decode cX6_crossed 28 = .ok (.iadd, 1) := by decide +kernel
theorem dX6_crossed_29 : decode cX6_crossed 29 = .ok (.goto 4, 3) := by decide +kernel
theorem dX6_crossed_32 : decode cX6_crossed 32 = .ok (.iconst 0, 1) := by decide +kernel
theorem dX6_crossed_33 : decode cX6_crossed 33 = .ok (.istore 5, 2) := by decide +kernel
theorem dX6_crossed_35 : decode cX6_crossed 35 = .ok (.aload_n 0, 1) := by decide +kernel
theorem dX6_crossed_36 : decode cX6_crossed 36 = .ok (.getfield 23, 3) := by decide +kernel
theorem dX6_crossed_39 : decode cX6_crossed 39 = .ok (.iload 5, 2) := by decide +kernel
theorem dX6_crossed_41 : decode cX6_crossed 41 = .ok (.iaload, 1) := by decide +kernel
theorem dX6_crossed_42 : decode cX6_crossed 42 = .ok (.aload_n 0, 1) := by decide +kernel
theorem dX6_crossed_43 : decode cX6_crossed 43 = .ok (.getfield 23, 3) := by decide +kernel
theorem dX6_crossed_46 : decode cX6_crossed 46 = .ok (.iload 4, 2) := by decide +kernel
theorem dX6_crossed_48 : decode cX6_crossed 48 = .ok (.iaload, 1) := by decide +kernel
theorem dX6_crossed_49 : decode cX6_crossed 49 = .ok (.isub, 1) := by decide +kernel
theorem dX6_crossed_50 : decode cX6_crossed 50 = .ok (.istore 6, 2) := by decide +kernel
theorem dX6_crossed_52 : decode cX6_crossed 52 = .ok (.aload_n 0, 1) := by decide +kernel
theorem dX6_crossed_53 : decode cX6_crossed 53 = .ok (.getfield 23, 3) := by decide +kernel
theorem dX6_crossed_56 : decode cX6_crossed 56 = .ok (.iload 4, 2) := by decide +kernel
theorem dX6_crossed_58 : decode cX6_crossed 58 = .ok (.iaload, 1) := by decide +kernel
theorem dX6_crossed_59 : decode cX6_crossed 59 = .ok (.iload_n 2, 1) := by decide +kernel
theorem dX6_crossed_60 : decode cX6_crossed 60 = .ok (.if_icmp .gt 7, 3) := by decide +kernel
theorem dX6_crossed_63 : decode cX6_crossed 63 = .ok (.iconst 1, 1) := by decide +kernel
theorem dX6_crossed_64 : decode cX6_crossed 64 = .ok (.goto 4, 3) := by decide +kernel
theorem dX6_crossed_67 : decode cX6_crossed 67 = .ok (.iconst 0, 1) := by decide +kernel
theorem dX6_crossed_68 : decode cX6_crossed 68 = .ok (.aload_n 0, 1) := by decide +kernel
theorem dX6_crossed_69 : decode cX6_crossed 69 = .ok (.getfield 23, 3) := by decide +kernel
theorem dX6_crossed_72 : decode cX6_crossed 72 = .ok (.iload 5, 2) := by decide +kernel
theorem dX6_crossed_74 : decode cX6_crossed 74 = .ok (.iaload, 1) := by decide +kernel
theorem dX6_crossed_75 : decode cX6_crossed 75 = .ok (.iload_n 2, 1) := by decide +kernel
theorem dX6_crossed_76 : decode cX6_crossed 76 = .ok (.if_icmp .gt 7, 3) := by decide +kernel
theorem dX6_crossed_79 : decode cX6_crossed 79 = .ok (.iconst 1, 1) := by decide +kernel
theorem dX6_crossed_80 : decode cX6_crossed 80 = .ok (.goto 4, 3) := by decide +kernel
theorem dX6_crossed_83 : decode cX6_crossed 83 = .ok (.iconst 0, 1) := by decide +kernel
theorem dX6_crossed_84 : decode cX6_crossed 84 = .ok (.if_icmp .eq 91, 3) := by decide +kernel
theorem dX6_crossed_87 : decode cX6_crossed 87 = .ok (.iconst 2, 1) := by decide +kernel
theorem dX6_crossed_88 : decode cX6_crossed 88 = .ok (.aload_n 0, 1) := by decide +kernel
theorem dX6_crossed_89 : decode cX6_crossed 89 = .ok (.getfield 20, 3) := by decide +kernel
theorem dX6_crossed_92 : decode cX6_crossed 92 = .ok (.iload 4, 2) := by decide +kernel
theorem dX6_crossed_94 : decode cX6_crossed 94 = .ok (.iaload, 1) := by decide +kernel
theorem dX6_crossed_95 : decode cX6_crossed 95 = .ok (.imul, 1) := by decide +kernel
theorem dX6_crossed_96 : decode cX6_crossed 96 = .ok (.iconst 2, 1) := by decide +kernel
theorem dX6_crossed_97 : decode cX6_crossed 97 = .ok (.iload_n 1, 1) := by decide +kernel
theorem dX6_crossed_98 : decode cX6_crossed 98 = .ok (.imul, 1) := by decide +kernel
theorem dX6_crossed_99 : decode cX6_crossed 99 = .ok (.isub, 1) := by decide +kernel
theorem dX6_crossed_100 : decode cX6_crossed 100 = .ok (.iconst 1, 1) := by decide +kernel
theorem dX6_crossed_101 : decode cX6_crossed 101 = .ok (.isub, 1) := by decide +kernel
theorem dX6_crossed_102 : decode cX6_crossed 102 = .ok (.iload 6, 2) := by decide +kernel
theorem dX6_crossed_104 : decode cX6_crossed 104 = .ok (.imul, 1) := by decide +kernel
theorem dX6_crossed_105 : decode cX6_crossed 105 = .ok (.iconst 2, 1) := by decide +kernel
theorem dX6_crossed_106 : decode cX6_crossed 106 = .ok (.iload_n 2, 1) := by decide +kernel
theorem dX6_crossed_107 : decode cX6_crossed 107 = .ok (.imul, 1) := by decide +kernel
theorem dX6_crossed_108 : decode cX6_crossed 108 = .ok (.iconst 1, 1) := by decide +kernel
theorem dX6_crossed_109 : decode cX6_crossed 109 = .ok (.iadd, 1) := by decide +kernel
theorem dX6_crossed_110 : decode cX6_crossed 110 = .ok (.iconst 2, 1) := by decide +kernel
theorem dX6_crossed_111 : decode cX6_crossed 111 = .ok (.aload_n 0, 1) := by decide +kernel
theorem dX6_crossed_112 : decode cX6_crossed 112 = .ok (.getfield 23, 3) := by decide +kernel
theorem dX6_crossed_115 : decode cX6_crossed 115 = .ok (.iload 4, 2) := by decide +kernel
theorem dX6_crossed_117 : decode cX6_crossed 117 = .ok (.iaload, 1) := by decide +kernel
theorem dX6_crossed_118 : decode cX6_crossed 118 = .ok (.imul, 1) := by decide +kernel
theorem dX6_crossed_119 : decode cX6_crossed 119 = .ok (.isub, 1) := by decide +kernel
theorem dX6_crossed_120 : decode cX6_crossed 120 = .ok (.aload_n 0, 1) := by decide +kernel
theorem dX6_crossed_121 : decode cX6_crossed 121 = .ok (.getfield 20, 3) := by decide +kernel
theorem dX6_crossed_124 : decode cX6_crossed 124 = .ok (.iload 5, 2) := by decide +kernel
theorem dX6_crossed_126 : decode cX6_crossed 126 = .ok (.iaload, 1) := by decide +kernel
theorem dX6_crossed_127 : decode cX6_crossed 127 = .ok (.aload_n 0, 1) := by decide +kernel
theorem dX6_crossed_128 : decode cX6_crossed 128 = .ok (.getfield 20, 3) := by decide +kernel
theorem dX6_crossed_131 : decode cX6_crossed 131 = .ok (.iload 4, 2) := by decide +kernel
theorem dX6_crossed_133 : decode cX6_crossed 133 = .ok (.iaload, 1) := by decide +kernel
theorem dX6_crossed_134 : decode cX6_crossed 134 = .ok (.isub, 1) := by decide +kernel
theorem dX6_crossed_135 : decode cX6_crossed 135 = .ok (.imul, 1) := by decide +kernel
theorem dX6_crossed_136 : decode cX6_crossed 136 = .ok (.iadd, 1) := by decide +kernel
theorem dX6_crossed_137 : decode cX6_crossed 137 = .ok (.istore 7, 2) := by decide +kernel
theorem dX6_crossed_139 : decode cX6_crossed 139 = .ok (.iload_n 3, 1) := by decide +kernel
theorem dX6_crossed_140 : decode cX6_crossed 140 = .ok (.iload 6, 2) := by decide +kernel
theorem dX6_crossed_142 : decode cX6_crossed 142 = .ok (.ifCond .le 7, 3) := by decide +kernel
theorem dX6_crossed_145 : decode cX6_crossed 145 = .ok (.iconst 1, 1) := by decide +kernel
theorem dX6_crossed_146 : decode cX6_crossed 146 = .ok (.goto 4, 3) := by decide +kernel
theorem dX6_crossed_149 : decode cX6_crossed 149 = .ok (.iconst 0, 1) := by decide +kernel
theorem dX6_crossed_150 : decode cX6_crossed 150 = .ok (.iload 7, 2) := by decide +kernel
theorem dX6_crossed_152 : decode cX6_crossed 152 = .ok (.ifCond .le 7, 3) := by decide +kernel
theorem dX6_crossed_155 : decode cX6_crossed 155 = .ok (.iconst 1, 1) := by decide +kernel
theorem dX6_crossed_156 : decode cX6_crossed 156 = .ok (.goto 4, 3) := by decide +kernel
theorem dX6_crossed_159 : decode cX6_crossed 159 = .ok (.iconst 0, 1) := by decide +kernel
theorem dX6_crossed_160 : decode cX6_crossed 160 = .ok (.if_icmp .ne 12, 3) := by decide +kernel
theorem dX6_crossed_163 : decode cX6_crossed 163 = .ok (.iload 7, 2) := by decide +kernel
theorem dX6_crossed_165 : decode cX6_crossed 165 = .ok (.ifCond .eq 7, 3) := by decide +kernel
theorem dX6_crossed_168 : decode cX6_crossed 168 = .ok (.iconst 1, 1) := by decide +kernel
theorem dX6_crossed_169 : decode cX6_crossed 169 = .ok (.goto 4, 3) := by decide +kernel
theorem dX6_crossed_172 : decode cX6_crossed 172 = .ok (.iconst 0, 1) := by decide +kernel
theorem dX6_crossed_173 : decode cX6_crossed 173 = .ok (.iadd, 1) := by decide +kernel
theorem dX6_crossed_174 : decode cX6_crossed 174 = .ok (.istore_n 3, 1) := by decide +kernel
theorem dX6_crossed_175 : decode cX6_crossed 175 = .ok (.iinc 4 1, 3) := by decide +kernel
theorem dX6_crossed_178 : decode cX6_crossed 178 = .ok (.goto (-173), 3) := by decide +kernel
theorem dX6_crossed_181 : decode cX6_crossed 181 = .ok (.iload_n 3, 1) := by decide +kernel
theorem dX6_crossed_182 : decode cX6_crossed 182 = .ok (.ireturn, 1) := by decide +kernel
theorem dX6_round_0 : decode cX6_round 0 = .ok (.iload_n 1, 1) := by decide +kernel
theorem dX6_round_1 : decode cX6_round 1 = .ok (.invokestatic 129, 3) := by decide +kernel
theorem dX6_round_4 : decode cX6_round 4 = .ok (.ifCond .ne 11, 3) := by decide +kernel
theorem dX6_round_7 : decode cX6_round 7 = .ok (.aload_n 0, 1) := by decide +kernel
theorem dX6_round_8 : decode cX6_round 8 = .ok (.sipush (-202), 3) := by decide +kernel
theorem dX6_round_11 : decode cX6_round 11 = .ok (.invokevirtual 105, 3) := by decide +kernel
theorem dX6_round_14 : decode cX6_round 14 = .ok (.ireturn, 1) := by decide +kernel
theorem dX6_round_15 : decode cX6_round 15 = .ok (.aload_n 0, 1) := by decide +kernel
theorem dX6_round_16 : decode cX6_round 16 = .ok (.getfield 156, 3) := by decide +kernel
theorem dX6_round_19 : decode cX6_round 19 = .ok (.iconst 3, 1) := by decide +kernel
theorem dX6_round_20 : decode cX6_round 20 = .ok (.if_icmp .ge 11, 3) := by decide +kernel
theorem dX6_round_23 : decode cX6_round 23 = .ok (.aload_n 0, 1) := by decide +kernel
theorem dX6_round_24 : decode cX6_round 24 = .ok (.sipush (-203), 3) := by decide +kernel
theorem dX6_round_27 : decode cX6_round 27 = .ok (.invokevirtual 105, 3) := by decide +kernel
theorem dX6_round_30 : decode cX6_round 30 = .ok (.ireturn, 1) := by decide +kernel
theorem dX6_round_31 : decode cX6_round 31 = .ok (.aload_n 0, 1) := by decide +kernel
theorem dX6_round_32 : decode cX6_round 32 = .ok (.iconst 5, 1) := by decide +kernel
theorem dX6_round_33 : decode cX6_round 33 = .ok (.invokevirtual 108, 3) := by decide +kernel
theorem dX6_round_36 : decode cX6_round 36 = .ok (.bipush (-60), 2) := by decide +kernel
theorem dX6_round_38 : decode cX6_round 38 = .ok (.istore_n 2, 1) := by decide +kernel
theorem dX6_round_39 : decode cX6_round 39 = .ok (.iload_n 2, 1) := by decide +kernel
theorem dX6_round_40 : decode cX6_round 40 = .ok (.bipush 59, 2) := by decide +kernel
theorem dX6_round_42 : decode cX6_round 42 = .ok (.if_icmp .gt 43, 3) := by decide +kernel
theorem dX6_round_45 : decode cX6_round 45 = .ok (.bipush (-60), 2) := by decide +kernel
theorem dX6_round_47 : decode cX6_round 47 = .ok (.istore_n 3, 1) := by decide +kernel
theorem dX6_round_48 : decode cX6_round 48 = .ok (.iload_n 3, 1) := by decide +kernel
theorem dX6_round_49 : decode cX6_round 49 = .ok (.bipush 59, 2) := by decide +kernel
theorem dX6_round_51 : decode cX6_round 51 = .ok (.if_icmp .gt 28, 3) := by decide +kernel
theorem dX6_round_54 : decode cX6_round 54 = .ok (.aload_n 0, 1) := by decide +kernel
theorem dX6_round_55 : decode cX6_round 55 = .ok (.iload_n 3, 1) := by decide +kernel
theorem dX6_round_56 : decode cX6_round 56 = .ok (.iload_n 2, 1) := by decide +kernel
theorem dX6_round_57 : decode cX6_round 57 = .ok (.invokevirtual 159, 3) := by decide +kernel
theorem dX6_round_60 : decode cX6_round 60 = .ok (.iconst 2, 1) := by decide +kernel
theorem dX6_round_61 : decode cX6_round 61 = .ok (.irem, 1) := by decide +kernel
theorem dX6_round_62 : decode cX6_round 62 = .ok (.iconst 1, 1) := by decide +kernel
theorem dX6_round_63 : decode cX6_round 63 = .ok (.if_icmp .ne 10, 3) := by decide +kernel
theorem dX6_round_66 : decode cX6_round 66 = .ok (.aload_n 0, 1) := by decide +kernel
theorem dX6_round_67 : decode cX6_round 67 = .ok (.iconst 5, 1) := by decide +kernel
theorem dX6_round_68 : decode cX6_round 68 = .ok (.iload_n 3, 1) := by decide +kernel
theorem dX6_round_69 : decode cX6_round 69 = .ok (.iload_n 2, 1) := by decide +kernel
theorem dX6_round_70 : decode cX6_round 70 = .ok (.invokevirtual 117, 3) := by decide +kernel
theorem dX6_round_73 : decode cX6_round 73 = .ok (.iinc 3 1, 3) := by decide +kernel
theorem dX6_round_76 : decode cX6_round 76 = .ok (.goto (-28), 3) := by decide +kernel
theorem dX6_round_79 : decode cX6_round 79 = .ok (.iinc 2 1, 3) := by decide +kernel
theorem dX6_round_82 : decode cX6_round 82 = .ok (.goto (-43), 3) := by decide +kernel
theorem dX6_round_85 : decode cX6_round 85 = .ok (.aload_n 0, 1) := by decide +kernel
theorem dX6_round_86 : decode cX6_round 86 = .ok (.iload_n 1, 1) := by decide +kernel
theorem dX6_round_87 : decode cX6_round 87 = .ok (.invokevirtual 114, 3) := by decide +kernel
theorem dX6_round_90 : decode cX6_round 90 = .ok (.istore_n 2, 1) := by decide +kernel
theorem dX6_round_91 : decode cX6_round 91 = .ok (.iload_n 2, 1) := by decide +kernel
theorem dX6_round_92 : decode cX6_round 92 = .ok (.sipush (-204), 3) := by decide +kernel
theorem dX6_round_95 : decode cX6_round 95 = .ok (.if_icmp .ne 11, 3) := by decide +kernel
theorem dX6_round_98 : decode cX6_round 98 = .ok (.aload_n 0, 1) := by decide +kernel
theorem dX6_round_99 : decode cX6_round 99 = .ok (.sipush (-204), 3) := by decide +kernel
theorem dX6_round_102 : decode cX6_round 102 = .ok (.invokevirtual 105, 3) := by decide +kernel
theorem dX6_round_105 : decode cX6_round 105 = .ok (.ireturn, 1) := by decide +kernel
theorem dX6_round_106 : decode cX6_round 106 = .ok (.aload_n 0, 1) := by decide +kernel
theorem dX6_round_107 : decode cX6_round 107 = .ok (.iconst 0, 1) := by decide +kernel
theorem dX6_round_108 : decode cX6_round 108 = .ok (.putfield 156, 3) := by decide +kernel
theorem dX6_round_111 : decode cX6_round 111 = .ok (.iload_n 2, 1) := by decide +kernel
theorem dX6_round_112 : decode cX6_round 112 = .ok (.ireturn, 1) := by decide +kernel
theorem dX6_draw_0 : decode cX6_draw 0 = .ok (.iload_n 1, 1) := by decide +kernel
theorem dX6_draw_1 : decode cX6_draw 1 = .ok (.iconst 0, 1) := by decide +kernel
theorem dX6_draw_2 : decode cX6_draw 2 = .ok (.ldc 163, 2) := by decide +kernel
theorem dX6_draw_4 : decode cX6_draw 4 = .ok (.invokestatic 33, 3) := by decide +kernel
theorem dX6_draw_7 : decode cX6_draw 7 = .ok (.ifCond .eq 20, 3) := by decide +kernel
theorem dX6_draw_10 : decode cX6_draw 10 = .ok (.iload_n 2, 1) := by decide +kernel
theorem dX6_draw_11 : decode cX6_draw 11 = .ok (.iconst 1, 1) := by decide +kernel
theorem dX6_draw_12 : decode cX6_draw 12 = .ok (.bipush 9, 2) := by decide +kernel
theorem dX6_draw_14 : decode cX6_draw 14 = .ok (.invokestatic 33, 3) := by decide +kernel
theorem dX6_draw_17 : decode cX6_draw 17 = .ok (.ifCond .eq 10, 3) := by decide +kernel
theorem dX6_draw_20 : decode cX6_draw 20 = .ok (.iload_n 3, 1) := by decide +kernel
theorem dX6_draw_21 : decode cX6_draw 21 = .ok (.invokestatic 129, 3) := by decide +kernel
theorem dX6_draw_24 : decode cX6_draw 24 = .ok (.ifCond .ne 11, 3) := by decide +kernel
theorem dX6_draw_27 : decode cX6_draw 27 = .ok (.aload_n 0, 1) := by decide +kernel
theorem dX6_draw_28 : decode cX6_draw 28 = .ok (.sipush (-202), 3) := by decide +kernel
theorem dX6_draw_31 : decode cX6_draw 31 = .ok (.invokevirtual 105, 3) := by decide +kernel
theorem dX6_draw_34 : decode cX6_draw 34 = .ok (.ireturn, 1) := by decide +kernel
theorem dX6_draw_35 : decode cX6_draw 35 = .ok (.aload_n 0, 1) := by decide +kernel
theorem dX6_draw_36 : decode cX6_draw 36 = .ok (.iconst 5, 1) := by decide +kernel
theorem dX6_draw_37 : decode cX6_draw 37 = .ok (.invokevirtual 108, 3) := by decide +kernel
theorem dX6_draw_40 : decode cX6_draw 40 = .ok (.iload_n 1, 1) := by decide +kernel
theorem dX6_draw_41 : decode cX6_draw 41 = .ok (.i2l, 1) := by decide +kernel
theorem dX6_draw_42 : decode cX6_draw 42 = .ok (.lstore 4, 2) := by decide +kernel
theorem dX6_draw_44 : decode cX6_draw 44 = .ok (.iconst 0, 1) := by decide +kernel
theorem dX6_draw_45 : decode cX6_draw 45 = .ok (.istore 6, 2) := by decide +kernel
theorem dX6_draw_47 : decode cX6_draw 47 = .ok (.iload 6, 2) := by decide +kernel
theorem dX6_draw_49 : decode cX6_draw 49 = .ok (.iload_n 2, 1) := by decide +kernel
theorem dX6_draw_50 : decode cX6_draw 50 = .ok (.if_icmp .ge 83, 3) := by decide +kernel
theorem dX6_draw_53 : decode cX6_draw 53 = .ok (.lload 4, 2) := by decide +kernel
theorem dX6_draw_55 : decode cX6_draw 55 = .ok (.ldc2_w 164, 3) := by decide +kernel
theorem dX6_draw_58 : decode cX6_draw 58 = .ok (.lmul, 1) := by decide +kernel
theorem dX6_draw_59 : decode cX6_draw 59 = .ok (.ldc2_w 166, 3) := by decide +kernel
theorem dX6_draw_62 : decode cX6_draw 62 = .ok (.ladd, 1) := by decide +kernel
theorem dX6_draw_63 : decode cX6_draw 63 = .ok (.ldc2_w 168, 3) := by decide +kernel
theorem dX6_draw_66 : decode cX6_draw 66 = .ok (.lrem, 1) := by decide +kernel
theorem dX6_draw_67 : decode cX6_draw 67 = .ok (.lstore 4, 2) := by decide +kernel
theorem dX6_draw_69 : decode cX6_draw 69 = .ok (.aload_n 0, 1) := by decide +kernel
theorem dX6_draw_70 : decode cX6_draw 70 = .ok (.lload 4, 2) := by decide +kernel
theorem dX6_draw_72 : decode cX6_draw 72 = .ok (.ldc2_w 170, 3) := by decide +kernel
theorem dX6_draw_75 : decode cX6_draw 75 = .ok (.ldiv, 1) := by decide +kernel
theorem dX6_draw_76 : decode cX6_draw 76 = .ok (.ldc2_w 172, 3) := by decide +kernel
theorem dX6_draw_79 : decode cX6_draw 79 = .ok (.lrem, 1) := by decide +kernel
theorem dX6_draw_80 : decode cX6_draw 80 = .ok (.l2i, 1) := by decide +kernel
theorem dX6_draw_81 : decode cX6_draw 81 = .ok (.bipush 25, 2) := by decide +kernel
theorem dX6_draw_83 : decode cX6_draw 83 = .ok (.isub, 1) := by decide +kernel
theorem dX6_draw_84 : decode cX6_draw 84 = .ok (.lload 4, 2) := by decide +kernel
theorem dX6_draw_86 : decode cX6_draw 86 = .ok (.ldc2_w 174, 3) := by decide +kernel
theorem dX6_draw_89 : decode cX6_draw 89 = .ok (.ldiv, 1) := by decide +kernel
theorem dX6_draw_90 : decode cX6_draw 90 = .ok (.ldc2_w 172, 3) := by decide +kernel
theorem dX6_draw_93 : decode cX6_draw 93 = .ok (.lrem, 1) := by decide +kernel
theorem dX6_draw_94 : decode cX6_draw 94 = .ok (.l2i, 1) := by decide +kernel
theorem dX6_draw_95 : decode cX6_draw 95 = .ok (.bipush 25, 2) := by decide +kernel
theorem dX6_draw_97 : decode cX6_draw 97 = .ok (.isub, 1) := by decide +kernel
theorem dX6_draw_98 : decode cX6_draw 98 = .ok (.lload 4, 2) := by decide +kernel
theorem dX6_draw_100 : decode cX6_draw 100 = .ok (.ldc2_w 176, 3) := by decide +kernel
theorem dX6_draw_103 : decode cX6_draw 103 = .ok (.ldiv, 1) := by decide +kernel
theorem dX6_draw_104 : decode cX6_draw 104 = .ok (.ldc2_w 178, 3) := by decide +kernel
theorem dX6_draw_107 : decode cX6_draw 107 = .ok (.lrem, 1) := by decide +kernel
theorem dX6_draw_108 : decode cX6_draw 108 = .ok (.l2i, 1) := by decide +kernel
theorem dX6_draw_109 : decode cX6_draw 109 = .ok (.iconst 1, 1) := by decide +kernel
theorem dX6_draw_110 : decode cX6_draw 110 = .ok (.iadd, 1) := by decide +kernel
theorem dX6_draw_111 : decode cX6_draw 111 = .ok (.lload 4, 2) := by decide +kernel
theorem dX6_draw_113 : decode cX6_draw 113 = .ok (.ldc2_w 180, 3) := by decide +kernel
theorem dX6_draw_116 : decode cX6_draw 116 = .ok (.ldiv, 1) := by decide +kernel
theorem dX6_draw_117 : decode cX6_draw 117 = .ok (.ldc2_w 178, 3) := by decide +kernel
theorem dX6_draw_120 : decode cX6_draw 120 = .ok (.lrem, 1) := by decide +kernel
theorem dX6_draw_121 : decode cX6_draw 121 = .ok (.l2i, 1) := by decide +kernel
theorem dX6_draw_122 : decode cX6_draw 122 = .ok (.iconst 1, 1) := by decide +kernel
theorem dX6_draw_123 : decode cX6_draw 123 = .ok (.iadd, 1) := by decide +kernel
theorem dX6_draw_124 : decode cX6_draw 124 = .ok (.invokevirtual 111, 3) := by decide +kernel
theorem dX6_draw_127 : decode cX6_draw 127 = .ok (.iinc 6 1, 3) := by decide +kernel
theorem dX6_draw_130 : decode cX6_draw 130 = .ok (.goto (-83), 3) := by decide +kernel
theorem dX6_draw_133 : decode cX6_draw 133 = .ok (.aload_n 0, 1) := by decide +kernel
theorem dX6_draw_134 : decode cX6_draw 134 = .ok (.aload_n 0, 1) := by decide +kernel
theorem dX6_draw_135 : decode cX6_draw 135 = .ok (.iload_n 3, 1) := by decide +kernel
theorem dX6_draw_136 : decode cX6_draw 136 = .ok (.invokevirtual 114, 3) := by decide +kernel
theorem dX6_draw_139 : decode cX6_draw 139 = .ok (.invokevirtual 136, 3) := by decide +kernel
theorem dX6_draw_142 : decode cX6_draw 142 = .ok (.ireturn, 1) := by decide +kernel
theorem dX6_hit_0 : decode cX6_hit 0 = .ok (.iload_n 1, 1) := by decide +kernel
theorem dX6_hit_1 : decode cX6_hit 1 = .ok (.invokestatic 129, 3) := by decide +kernel
theorem dX6_hit_4 : decode cX6_hit 4 = .ok (.ifCond .eq 21, 3) := by decide +kernel
theorem dX6_hit_7 : decode cX6_hit 7 = .ok (.aload_n 0, 1) := by decide +kernel
theorem dX6_hit_8 : decode cX6_hit 8 = .ok (.iload_n 1, 1) := by decide +kernel
theorem dX6_hit_9 : decode cX6_hit 9 = .ok (.iload_n 2, 1) := by decide +kernel
theorem dX6_hit_10 : decode cX6_hit 10 = .ok (.iload_n 3, 1) := by decide +kernel
theorem dX6_hit_11 : decode cX6_hit 11 = .ok (.invokevirtual 65, 3) := by decide +kernel
theorem dX6_hit_14 : decode cX6_hit 14 = .ok (.ifCond .eq 7, 3) := by decide +kernel
theorem dX6_hit_17 : decode cX6_hit 17 = .ok (.iconst 1, 1) := by decide +kernel
theorem dX6_hit_18 : decode cX6_hit 18 = .ok (.goto 14, 3) := by decide +kernel
theorem dX6_hit_21 : decode cX6_hit 21 = .ok (.iconst 0, 1) := by decide +kernel
theorem dX6_hit_22 : decode cX6_hit 22 = .ok (.goto 10, 3) := by decide +kernel
theorem dX6_hit_25 : decode cX6_hit 25 = .ok (.aload_n 0, 1) := by decide +kernel
theorem dX6_hit_26 : decode cX6_hit 26 = .ok (.sipush (-202), 3) := by decide +kernel
theorem dX6_hit_29 : decode cX6_hit 29 = .ok (.invokevirtual 105, 3) := by decide +kernel
theorem dX6_hit_32 : decode cX6_hit 32 = .ok (.ireturn, 1) := by decide +kernel
theorem dX6_sides_0 : decode cX6_sides 0 = .ok (.iconst 0, 1) := by decide +kernel
theorem dX6_sides_1 : decode cX6_sides 1 = .ok (.istore_n 2, 1) := by decide +kernel
theorem dX6_sides_2 : decode cX6_sides 2 = .ok (.bipush (-60), 2) := by decide +kernel
theorem dX6_sides_4 : decode cX6_sides 4 = .ok (.istore_n 3, 1) := by decide +kernel
theorem dX6_sides_5 : decode cX6_sides 5 = .ok (.iload_n 3, 1) := by decide +kernel
theorem dX6_sides_6 : decode cX6_sides 6 = .ok (.bipush 59, 2) := by decide +kernel
theorem dX6_sides_8 : decode cX6_sides 8 = .ok (.if_icmp .gt 115, 3) := by decide +kernel
theorem dX6_sides_11 : decode cX6_sides 11 = .ok (.bipush (-60), 2) := by decide +kernel
theorem dX6_sides_13 : decode cX6_sides 13 = .ok (.istore 4, 2) := by decide +kernel
theorem dX6_sides_15 : decode cX6_sides 15 = .ok (.iload 4, 2) := by decide +kernel
theorem dX6_sides_17 : decode cX6_sides 17 = .ok (.bipush 59, 2) := by decide +kernel
theorem dX6_sides_19 : decode cX6_sides 19 = .ok (.if_icmp .gt 98, 3) := by decide +kernel
theorem dX6_sides_22 : decode cX6_sides 22 = .ok (.aload_n 0, 1) := by decide +kernel
theorem dX6_sides_23 : decode cX6_sides 23 = .ok (.iload_n 1, 1) := by decide +kernel
theorem dX6_sides_24 : decode cX6_sides 24 = .ok (.iload 4, 2) := by decide +kernel
theorem dX6_sides_26 : decode cX6_sides 26 = .ok (.iload_n 3, 1) := by decide +kernel
theorem dX6_sides_27 : decode cX6_sides 27 = .ok (.invokevirtual 65, 3) := by decide +kernel
theorem dX6_sides_30 : decode cX6_sides 30 = .ok (.ifCond .eq 81, 3) := by decide +kernel
theorem dX6_sides_33 : decode cX6_sides 33 = .ok (.iload_n 2, 1) := by decide +kernel
theorem dX6_sides_34 : decode cX6_sides 34 = .ok (.aload_n 0, 1) := by decide +kernel
theorem dX6_sides_35 : decode cX6_sides 35 = .ok (.iload_n 1, 1) := by decide +kernel
theorem dX6_sides_36 : decode cX6_sides 36 = .ok (.iload 4, 2) := by decide +kernel
theorem dX6_sides_38 : decode cX6_sides 38 = .ok (.iconst 1, 1) := by decide +kernel
theorem dX6_sides_39 : decode cX6_sides 39 = .ok (.isub, 1) := by decide +kernel
theorem dX6_sides_40 : decode cX6_sides 40 = .ok (.iload_n 3, 1) := by decide +kernel
theorem dX6_sides_41 : decode cX6_sides 41 = .ok (.invokevirtual 65, 3) := by decide +kernel
theorem dX6_sides_44 : decode cX6_sides 44 = .ok (.ifCond .eq 7, 3) := by decide +kernel
theorem dX6_sides_47 : decode cX6_sides 47 = .ok (.iconst 0, 1) := by decide +kernel
theorem dX6_sides_48 : decode cX6_sides 48 = .ok (.goto 4, 3) := by decide +kernel
theorem dX6_sides_51 : decode cX6_sides 51 = .ok (.iconst 1, 1) := by decide +kernel
theorem dX6_sides_52 : decode cX6_sides 52 = .ok (.aload_n 0, 1) := by decide +kernel
theorem dX6_sides_53 : decode cX6_sides 53 = .ok (.iload_n 1, 1) := by decide +kernel
theorem dX6_sides_54 : decode cX6_sides 54 = .ok (.iload 4, 2) := by decide +kernel
theorem dX6_sides_56 : decode cX6_sides 56 = .ok (.iconst 1, 1) := by decide +kernel
theorem dX6_sides_57 : decode cX6_sides 57 = .ok (.iadd, 1) := by decide +kernel
theorem dX6_sides_58 : decode cX6_sides 58 = .ok (.iload_n 3, 1) := by decide +kernel
theorem dX6_sides_59 : decode cX6_sides 59 = .ok (.invokevirtual 65, 3) := by decide +kernel
theorem dX6_sides_62 : decode cX6_sides 62 = .ok (.ifCond .eq 7, 3) := by decide +kernel
theorem dX6_sides_65 : decode cX6_sides 65 = .ok (.iconst 0, 1) := by decide +kernel
theorem dX6_sides_66 : decode cX6_sides 66 = .ok (.goto 4, 3) := by decide +kernel
theorem dX6_sides_69 : decode cX6_sides 69 = .ok (.iconst 1, 1) := by decide +kernel
theorem dX6_sides_70 : decode cX6_sides 70 = .ok (.iadd, 1) := by decide +kernel
theorem dX6_sides_71 : decode cX6_sides 71 = .ok (.aload_n 0, 1) := by decide +kernel
theorem dX6_sides_72 : decode cX6_sides 72 = .ok (.iload_n 1, 1) := by decide +kernel
theorem dX6_sides_73 : decode cX6_sides 73 = .ok (.iload 4, 2) := by decide +kernel
theorem dX6_sides_75 : decode cX6_sides 75 = .ok (.iload_n 3, 1) := by decide +kernel
theorem dX6_sides_76 : decode cX6_sides 76 = .ok (.iconst 1, 1) := by decide +kernel
theorem dX6_sides_77 : decode cX6_sides 77 = .ok (.isub, 1) := by decide +kernel
theorem dX6_sides_78 : decode cX6_sides 78 = .ok (.invokevirtual 65, 3) := by decide +kernel
theorem dX6_sides_81 : decode cX6_sides 81 = .ok (.ifCond .eq 7, 3) := by decide +kernel
theorem dX6_sides_84 : decode cX6_sides 84 = .ok (.iconst 0, 1) := by decide +kernel
theorem dX6_sides_85 : decode cX6_sides 85 = .ok (.goto 4, 3) := by decide +kernel
theorem dX6_sides_88 : decode cX6_sides 88 = .ok (.iconst 1, 1) := by decide +kernel
theorem dX6_sides_89 : decode cX6_sides 89 = .ok (.iadd, 1) := by decide +kernel
theorem dX6_sides_90 : decode cX6_sides 90 = .ok (.aload_n 0, 1) := by decide +kernel
theorem dX6_sides_91 : decode cX6_sides 91 = .ok (.iload_n 1, 1) := by decide +kernel
theorem dX6_sides_92 : decode cX6_sides 92 = .ok (.iload 4, 2) := by decide +kernel
theorem dX6_sides_94 : decode cX6_sides 94 = .ok (.iload_n 3, 1) := by decide +kernel
theorem dX6_sides_95 : decode cX6_sides 95 = .ok (.iconst 1, 1) := by decide +kernel
theorem dX6_sides_96 : decode cX6_sides 96 = .ok (.iadd, 1) := by decide +kernel
theorem dX6_sides_97 : decode cX6_sides 97 = .ok (.invokevirtual 65, 3) := by decide +kernel
theorem dX6_sides_100 : decode cX6_sides 100 = .ok (.ifCond .eq 7, 3) := by decide +kernel
theorem dX6_sides_103 : decode cX6_sides 103 = .ok (.iconst 0, 1) := by decide +kernel
theorem dX6_sides_104 : decode cX6_sides 104 = .ok (.goto 4, 3) := by decide +kernel
theorem dX6_sides_107 : decode cX6_sides 107 = .ok (.iconst 1, 1) := by decide +kernel
theorem dX6_sides_108 : decode cX6_sides 108 = .ok (.iadd, 1) := by decide +kernel
theorem dX6_sides_109 : decode cX6_sides 109 = .ok (.iadd, 1) := by decide +kernel
theorem dX6_sides_110 : decode cX6_sides 110 = .ok (.istore_n 2, 1) := by decide +kernel
theorem dX6_sides_111 : decode cX6_sides 111 = .ok (.iinc 4 1, 3) := by decide +kernel
theorem dX6_sides_114 : decode cX6_sides 114 = .ok (.goto (-99), 3) := by decide +kernel
theorem dX6_sides_117 : decode cX6_sides 117 = .ok (.iinc 3 1, 3) := by decide +kernel
theorem dX6_sides_120 : decode cX6_sides 120 = .ok (.goto (-115), 3) := by decide +kernel
theorem dX6_sides_123 : decode cX6_sides 123 = .ok (.iload_n 2, 1) := by decide +kernel
theorem dX6_sides_124 : decode cX6_sides 124 = .ok (.ireturn, 1) := by decide +kernel
theorem dX6_bound_0 : decode cX6_bound 0 = .ok (.sipush (-201), 3) := by decide +kernel
theorem dX6_bound_3 : decode cX6_bound 3 = .ok (.istore_n 3, 1) := by decide +kernel
theorem dX6_bound_4 : decode cX6_bound 4 = .ok (.bipush (-60), 2) := by decide +kernel
theorem dX6_bound_6 : decode cX6_bound 6 = .ok (.istore 4, 2) := by decide +kernel
theorem dX6_bound_8 : decode cX6_bound 8 = .ok (.iload 4, 2) := by decide +kernel
theorem dX6_bound_10 : decode cX6_bound 10 = .ok (.bipush 59, 2) := by decide +kernel
theorem dX6_bound_12 : decode cX6_bound 12 = .ok (.if_icmp .gt 114, 3) := by decide +kernel
theorem dX6_bound_15 : decode cX6_bound 15 = .ok (.bipush (-60), 2) := by decide +kernel
theorem dX6_bound_17 : decode cX6_bound 17 = .ok (.istore 5, 2) := by decide +kernel
theorem dX6_bound_19 : decode cX6_bound 19 = .ok (.iload 5, 2) := by decide +kernel
theorem dX6_bound_21 : decode cX6_bound 21 = .ok (.bipush 59, 2) := by decide +kernel
theorem dX6_bound_23 : decode cX6_bound 23 = .ok (.if_icmp .gt 97, 3) := by decide +kernel
theorem dX6_bound_26 : decode cX6_bound 26 = .ok (.aload_n 0, 1) := by decide +kernel
theorem dX6_bound_27 : decode cX6_bound 27 = .ok (.iload_n 1, 1) := by decide +kernel
theorem dX6_bound_28 : decode cX6_bound 28 = .ok (.iload 5, 2) := by decide +kernel
theorem dX6_bound_30 : decode cX6_bound 30 = .ok (.iload 4, 2) := by decide +kernel
theorem dX6_bound_32 : decode cX6_bound 32 = .ok (.invokevirtual 65, 3) := by decide +kernel
theorem dX6_bound_35 : decode cX6_bound 35 = .ok (.ifCond .eq 79, 3) := by decide +kernel
theorem dX6_bound_38 : decode cX6_bound 38 = .ok (.iload_n 2, 1) := by decide +kernel
theorem dX6_bound_39 : decode cX6_bound 39 = .ok (.iconst 5, 1) := by decide +kernel
theorem dX6_bound_40 : decode cX6_bound 40 = .ok (.if_icmp .ne 8, 3) := by decide +kernel
theorem dX6_bound_43 : decode cX6_bound 43 = .ok (.iload 5, 2) := by decide +kernel
theorem dX6_bound_45 : decode cX6_bound 45 = .ok (.goto 31, 3) := by decide +kernel
theorem dX6_bound_48 : decode cX6_bound 48 = .ok (.iload_n 2, 1) := by decide +kernel
theorem dX6_bound_49 : decode cX6_bound 49 = .ok (.bipush 6, 2) := by decide +kernel
theorem dX6_bound_51 : decode cX6_bound 51 = .ok (.if_icmp .ne 10, 3) := by decide +kernel
theorem dX6_bound_54 : decode cX6_bound 54 = .ok (.iload 5, 2) := by decide +kernel
theorem dX6_bound_56 : decode cX6_bound 56 = .ok (.iconst 1, 1) := by decide +kernel
theorem dX6_bound_57 : decode cX6_bound 57 = .ok (.iadd, 1) := by decide +kernel
theorem dX6_bound_58 : decode cX6_bound 58 = .ok (.goto 18, 3) := by decide +kernel
theorem dX6_bound_61 : decode cX6_bound 61 = .ok (.iload_n 2, 1) := by decide +kernel
theorem dX6_bound_62 : decode cX6_bound 62 = .ok (.bipush 7, 2) := by decide +kernel
theorem dX6_bound_64 : decode cX6_bound 64 = .ok (.if_icmp .ne 8, 3) := by decide +kernel
theorem dX6_bound_67 : decode cX6_bound 67 = .ok (.iload 4, 2) := by decide +kernel
theorem dX6_bound_69 : decode cX6_bound 69 = .ok (.goto 7, 3) := by decide +kernel
theorem dX6_bound_72 : decode cX6_bound 72 = .ok (.iload 4, 2) := by decide +kernel
theorem dX6_bound_74 : decode cX6_bound 74 = .ok (.iconst 1, 1) := by decide +kernel
theorem dX6_bound_75 : decode cX6_bound 75 = .ok (.iadd, 1) := by decide +kernel
theorem dX6_bound_76 : decode cX6_bound 76 = .ok (.istore 6, 2) := by decide +kernel
theorem dX6_bound_78 : decode cX6_bound 78 = .ok (.iload_n 3, 1) := by decide +kernel
theorem dX6_bound_79 : decode cX6_bound 79 = .ok (.sipush (-201), 3) := by decide +kernel
theorem dX6_bound_82 : decode cX6_bound 82 = .ok (.if_icmp .eq 25, 3) := by decide +kernel
theorem dX6_bound_85 : decode cX6_bound 85 = .ok (.iload_n 2, 1) := by decide +kernel
theorem dX6_bound_86 : decode cX6_bound 86 = .ok (.iconst 2, 1) := by decide +kernel
theorem dX6_bound_87 : decode cX6_bound 87 = .ok (.irem, 1) := by decide +kernel
theorem dX6_bound_88 : decode cX6_bound 88 = .ok (.iconst 1, 1) := by decide +kernel
theorem dX6_bound_89 : decode cX6_bound 89 = .ok (.if_icmp .ne 12, 3) := by decide +kernel
theorem dX6_bound_92 : decode cX6_bound 92 = .ok (.iload 6, 2) := by decide +kernel
theorem dX6_bound_94 : decode cX6_bound 94 = .ok (.iload_n 3, 1) := by decide +kernel
theorem dX6_bound_95 : decode cX6_bound 95 = .ok (.if_icmp .ge 17, 3) := by decide +kernel
theorem dX6_bound_98 : decode cX6_bound 98 = .ok (.goto 9, 3) := by decide +kernel
theorem dX6_bound_101 : decode cX6_bound 101 = .ok (.iload 6, 2) := by decide +kernel
theorem dX6_bound_103 : decode cX6_bound 103 = .ok (.iload_n 3, 1) := by decide +kernel
theorem dX6_bound_104 : decode cX6_bound 104 = .ok (.if_icmp .le 8, 3) := by decide +kernel
theorem dX6_bound_107 : decode cX6_bound 107 = .ok (.iload 6, 2) := by decide +kernel
theorem dX6_bound_109 : decode cX6_bound 109 = .ok (.goto 4, 3) := by decide +kernel
theorem dX6_bound_112 : decode cX6_bound 112 = .ok (.iload_n 3, 1) := by decide +kernel
theorem dX6_bound_113 : decode cX6_bound 113 = .ok (.istore_n 3, 1) := by decide +kernel
theorem dX6_bound_114 : decode cX6_bound 114 = .ok (.iinc 5 1, 3) := by decide +kernel
theorem dX6_bound_117 : decode cX6_bound 117 = .ok (.goto (-98), 3) := by decide +kernel
theorem dX6_bound_120 : decode cX6_bound 120 = .ok (.iinc 4 1, 3) := by decide +kernel
theorem dX6_bound_123 : decode cX6_bound 123 = .ok (.goto (-115), 3) := by decide +kernel
theorem dX6_bound_126 : decode cX6_bound 126 = .ok (.iload_n 3, 1) := by decide +kernel
theorem dX6_bound_127 : decode cX6_bound 127 = .ok (.ireturn, 1) := by decide +kernel
theorem dX6_of_0 : decode cX6_of 0 = .ok (.iload_n 1, 1) := by decide +kernel
theorem dX6_of_1 : decode cX6_of 1 = .ok (.invokestatic 129, 3) := by decide +kernel
theorem dX6_of_4 : decode cX6_of 4 = .ok (.ifCond .eq 13, 3) := by decide +kernel
theorem dX6_of_7 : decode cX6_of 7 = .ok (.iload_n 2, 1) := by decide +kernel
theorem dX6_of_8 : decode cX6_of 8 = .ok (.iconst 0, 1) := by decide +kernel
theorem dX6_of_9 : decode cX6_of 9 = .ok (.bipush 8, 2) := by decide +kernel
theorem dX6_of_11 : decode cX6_of 11 = .ok (.invokestatic 33, 3) := by decide +kernel
theorem dX6_of_14 : decode cX6_of 14 = .ok (.ifCond .ne 11, 3) := by decide +kernel
theorem dX6_of_17 : decode cX6_of 17 = .ok (.aload_n 0, 1) := by decide +kernel
theorem dX6_of_18 : decode cX6_of 18 = .ok (.sipush (-202), 3) := by decide +kernel
theorem dX6_of_21 : decode cX6_of 21 = .ok (.invokevirtual 105, 3) := by decide +kernel
theorem dX6_of_24 : decode cX6_of 24 = .ok (.ireturn, 1) := by decide +kernel
theorem dX6_of_25 : decode cX6_of 25 = .ok (.iload_n 2, 1) := by decide +kernel
theorem dX6_of_26 : decode cX6_of 26 = .ok (.tableswitch 78 0 4 #[34, 40, 53, 66, 72], 34) := by decide +kernel
theorem dX6_of_60 : decode cX6_of 60 = .ok (.aload_n 0, 1) := by decide +kernel
theorem dX6_of_61 : decode cX6_of 61 = .ok (.iload_n 1, 1) := by decide +kernel
theorem dX6_of_62 : decode cX6_of 62 = .ok (.invokevirtual 101, 3) := by decide +kernel
theorem dX6_of_65 : decode cX6_of 65 = .ok (.ireturn, 1) := by decide +kernel
theorem dX6_of_66 : decode cX6_of 66 = .ok (.aload_n 0, 1) := by decide +kernel
theorem dX6_of_67 : decode cX6_of 67 = .ok (.iload_n 1, 1) := by decide +kernel
theorem dX6_of_68 : decode cX6_of 68 = .ok (.iconst 0, 1) := by decide +kernel
theorem dX6_of_69 : decode cX6_of 69 = .ok (.iconst 0, 1) := by decide +kernel
theorem dX6_of_70 : decode cX6_of 70 = .ok (.iconst 0, 1) := by decide +kernel
theorem dX6_of_71 : decode cX6_of 71 = .ok (.invokevirtual 94, 3) := by decide +kernel
theorem dX6_of_74 : decode cX6_of 74 = .ok (.aload_n 0, 1) := by decide +kernel
theorem dX6_of_75 : decode cX6_of 75 = .ok (.getfield 81, 3) := by decide +kernel
theorem dX6_of_78 : decode cX6_of 78 = .ok (.ireturn, 1) := by decide +kernel
theorem dX6_of_79 : decode cX6_of 79 = .ok (.aload_n 0, 1) := by decide +kernel
theorem dX6_of_80 : decode cX6_of 80 = .ok (.iload_n 1, 1) := by decide +kernel
theorem dX6_of_81 : decode cX6_of 81 = .ok (.iconst 0, 1) := by decide +kernel
theorem dX6_of_82 : decode cX6_of 82 = .ok (.iconst 0, 1) := by decide +kernel
theorem dX6_of_83 : decode cX6_of 83 = .ok (.iconst 0, 1) := by decide +kernel
theorem dX6_of_84 : decode cX6_of 84 = .ok (.invokevirtual 94, 3) := by decide +kernel
theorem dX6_of_87 : decode cX6_of 87 = .ok (.aload_n 0, 1) := by decide +kernel
theorem dX6_of_88 : decode cX6_of 88 = .ok (.getfield 68, 3) := by decide +kernel
theorem dX6_of_91 : decode cX6_of 91 = .ok (.ireturn, 1) := by decide +kernel
theorem dX6_of_92 : decode cX6_of 92 = .ok (.aload_n 0, 1) := by decide +kernel
theorem dX6_of_93 : decode cX6_of 93 = .ok (.iload_n 1, 1) := by decide +kernel
theorem dX6_of_94 : decode cX6_of 94 = .ok (.invokevirtual 182, 3) := by decide +kernel
theorem dX6_of_97 : decode cX6_of 97 = .ok (.ireturn, 1) := by decide +kernel
theorem dX6_of_98 : decode cX6_of 98 = .ok (.aload_n 0, 1) := by decide +kernel
theorem dX6_of_99 : decode cX6_of 99 = .ok (.iload_n 1, 1) := by decide +kernel
theorem dX6_of_100 : decode cX6_of 100 = .ok (.invokevirtual 185, 3) := by decide +kernel
theorem dX6_of_103 : decode cX6_of 103 = .ok (.ireturn, 1) := by decide +kernel
theorem dX6_of_104 : decode cX6_of 104 = .ok (.aload_n 0, 1) := by decide +kernel
theorem dX6_of_105 : decode cX6_of 105 = .ok (.iload_n 1, 1) := by decide +kernel
theorem dX6_of_106 : decode cX6_of 106 = .ok (.iload_n 2, 1) := by decide +kernel
theorem dX6_of_107 : decode cX6_of 107 = .ok (.invokevirtual 188, 3) := by decide +kernel
theorem dX6_of_110 : decode cX6_of 110 = .ok (.ireturn, 1) := by decide +kernel
theorem dX6_span_0 : decode cX6_span 0 = .ok (.iload_n 1, 1) := by decide +kernel
theorem dX6_span_1 : decode cX6_span 1 = .ok (.invokestatic 129, 3) := by decide +kernel
theorem dX6_span_4 : decode cX6_span 4 = .ok (.ifCond .eq 16, 3) := by decide +kernel
theorem dX6_span_7 : decode cX6_span 7 = .ok (.iload_n 2, 1) := by decide +kernel
theorem dX6_span_8 : decode cX6_span 8 = .ok (.ifCond .lt 12, 3) := by decide +kernel
theorem dX6_span_11 : decode cX6_span 11 = .ok (.iload_n 3, 1) := by decide +kernel
theorem dX6_span_12 : decode cX6_span 12 = .ok (.iconst 0, 1) := by decide +kernel
theorem dX6_span_13 : decode cX6_span 13 = .ok (.iconst 3, 1) := by decide +kernel
theorem dX6_span_14 : decode cX6_span 14 = .ok (.invokestatic 33, 3) := by decide +kernel
theorem dX6_span_17 : decode cX6_span 17 = .ok (.ifCond .ne 11, 3) := by decide +kernel
theorem dX6_span_20 : decode cX6_span 20 = .ok (.aload_n 0, 1) := by decide +kernel
theorem dX6_span_21 : decode cX6_span 21 = .ok (.sipush (-202), 3) := by decide +kernel
theorem dX6_span_24 : decode cX6_span 24 = .ok (.invokevirtual 105, 3) := by decide +kernel
theorem dX6_span_27 : decode cX6_span 27 = .ok (.ireturn, 1) := by decide +kernel
theorem dX6_span_28 : decode cX6_span 28 = .ok (.aload_n 0, 1) := by decide +kernel
theorem dX6_span_29 : decode cX6_span 29 = .ok (.iload_n 1, 1) := by decide +kernel
theorem dX6_span_30 : decode cX6_span 30 = .ok (.iload_n 2, 1) := by decide +kernel
theorem dX6_span_31 : decode cX6_span 31 = .ok (.iload_n 3, 1) := by decide +kernel
theorem dX6_span_32 : decode cX6_span 32 = .ok (.iconst 0, 1) := by decide +kernel
theorem dX6_span_33 : decode cX6_span 33 = .ok (.invokevirtual 94, 3) := by decide +kernel
theorem dX6_span_36 : decode cX6_span 36 = .ok (.aload_n 0, 1) := by decide +kernel
theorem dX6_span_37 : decode cX6_span 37 = .ok (.getfield 78, 3) := by decide +kernel
theorem dX6_span_40 : decode cX6_span 40 = .ok (.ireturn, 1) := by decide +kernel
theorem dX6_commonOf_0 : decode cX6_commonOf 0 = .ok (.iconst 0, 1) := by decide +kernel
theorem dX6_commonOf_1 : decode cX6_commonOf 1 = .ok (.istore_n 3, 1) := by decide +kernel
theorem dX6_commonOf_2 : decode cX6_commonOf 2 = .ok (.iconst 0, 1) := by decide +kernel
theorem dX6_commonOf_3 : decode cX6_commonOf 3 = .ok (.istore 4, 2) := by decide +kernel
theorem dX6_commonOf_5 : decode cX6_commonOf 5 = .ok (.iload 4, 2) := by decide +kernel
theorem dX6_commonOf_7 : decode cX6_commonOf 7 = .ok (.sipush 240, 3) := by decide +kernel
theorem dX6_commonOf_10 : decode cX6_commonOf 10 = .ok (.if_icmp .ge 42, 3) := by decide +kernel
theorem dX6_commonOf_13 : decode cX6_commonOf 13 = .ok (.iload_n 3, 1) := by decide +kernel
theorem dX6_commonOf_14 : decode cX6_commonOf 14 = .ok (.aload_n 0, 1) := by decide +kernel
theorem dX6_commonOf_15 : decode cX6_commonOf 15 = .ok (.getfield 7, 3) := by decide +kernel
theorem dX6_commonOf_18 : decode cX6_commonOf 18 = .ok (.sipush 240, 3) := by decide +kernel
theorem dX6_commonOf_21 : decode cX6_commonOf 21 = .ok (.iload_n 1, 1) := by decide +kernel
theorem dX6_commonOf_22 : decode cX6_commonOf 22 = .ok (.imul, 1) := by decide +kernel
theorem dX6_commonOf_23 : decode cX6_commonOf 23 = .ok (.iload 4, 2) := by decide +kernel
theorem dX6_commonOf_25 : decode cX6_commonOf 25 = .ok (.iadd, 1) := by decide +kernel
theorem dX6_commonOf_26 : decode cX6_commonOf 26 = .ok (.laload, 1) := by decide +kernel
theorem dX6_commonOf_27 : decode cX6_commonOf 27 = .ok (.aload_n 0, 1) := by decide +kernel
theorem dX6_commonOf_28 : decode cX6_commonOf 28 = .ok (.getfield 7, 3) := by decide +kernel
theorem dX6_commonOf_31 : decode cX6_commonOf 31 = .ok (.sipush 240, 3) := by decide +kernel
theorem dX6_commonOf_34 : decode cX6_commonOf 34 = .ok (.iload_n 2, 1) := by decide +kernel
theorem dX6_commonOf_35 : decode cX6_commonOf 35 = .ok (.imul, 1) := by decide +kernel
theorem dX6_commonOf_36 : decode cX6_commonOf 36 = .ok (.iload 4, 2) := by decide +kernel
theorem dX6_commonOf_38 : decode cX6_commonOf 38 = .ok (.iadd, 1) := by decide +kernel
theorem dX6_commonOf_39 : decode cX6_commonOf 39 = .ok (.laload, 1) := by decide +kernel
theorem dX6_commonOf_40 : decode cX6_commonOf 40 = .ok (.land, 1) := by decide +kernel
theorem dX6_commonOf_41 : decode cX6_commonOf 41 = .ok (.invokestatic 41, 3) := by decide +kernel
theorem dX6_commonOf_44 : decode cX6_commonOf 44 = .ok (.iadd, 1) := by decide +kernel
theorem dX6_commonOf_45 : decode cX6_commonOf 45 = .ok (.istore_n 3, 1) := by decide +kernel
theorem dX6_commonOf_46 : decode cX6_commonOf 46 = .ok (.iinc 4 1, 3) := by decide +kernel
theorem dX6_commonOf_49 : decode cX6_commonOf 49 = .ok (.goto (-44), 3) := by decide +kernel
theorem dX6_commonOf_52 : decode cX6_commonOf 52 = .ok (.iload_n 3, 1) := by decide +kernel
theorem dX6_commonOf_53 : decode cX6_commonOf 53 = .ok (.ireturn, 1) := by decide +kernel
theorem dX6_beside_0 : decode cX6_beside 0 = .ok (.iconst 0, 1) := by decide +kernel
theorem dX6_beside_1 : decode cX6_beside 1 = .ok (.istore_n 3, 1) := by decide +kernel
theorem dX6_beside_2 : decode cX6_beside 2 = .ok (.bipush (-60), 2) := by decide +kernel
theorem dX6_beside_4 : decode cX6_beside 4 = .ok (.istore 4, 2) := by decide +kernel
theorem dX6_beside_6 : decode cX6_beside 6 = .ok (.iload 4, 2) := by decide +kernel
theorem dX6_beside_8 : decode cX6_beside 8 = .ok (.bipush 59, 2) := by decide +kernel
theorem dX6_beside_10 : decode cX6_beside 10 = .ok (.if_icmp .gt 116, 3) := by decide +kernel
theorem dX6_beside_13 : decode cX6_beside 13 = .ok (.bipush (-60), 2) := by decide +kernel
theorem dX6_beside_15 : decode cX6_beside 15 = .ok (.istore 5, 2) := by decide +kernel
theorem dX6_beside_17 : decode cX6_beside 17 = .ok (.iload 5, 2) := by decide +kernel
theorem dX6_beside_19 : decode cX6_beside 19 = .ok (.bipush 59, 2) := by decide +kernel
theorem dX6_beside_21 : decode cX6_beside 21 = .ok (.if_icmp .gt 99, 3) := by decide +kernel
theorem dX6_beside_24 : decode cX6_beside 24 = .ok (.iload_n 3, 1) := by decide +kernel
theorem dX6_beside_25 : decode cX6_beside 25 = .ok (.ifCond .ne 83, 3) := by decide +kernel
theorem dX6_beside_28 : decode cX6_beside 28 = .ok (.aload_n 0, 1) := by decide +kernel
theorem dX6_beside_29 : decode cX6_beside 29 = .ok (.iload_n 1, 1) := by decide +kernel
theorem dX6_beside_30 : decode cX6_beside 30 = .ok (.iload 5, 2) := by decide +kernel
theorem dX6_beside_32 : decode cX6_beside 32 = .ok (.iload 4, 2) := by decide +kernel
theorem dX6_beside_34 : decode cX6_beside 34 = .ok (.invokevirtual 65, 3) := by decide +kernel
theorem dX6_beside_37 : decode cX6_beside 37 = .ok (.ifCond .eq 75, 3) := by decide +kernel
theorem dX6_beside_40 : decode cX6_beside 40 = .ok (.aload_n 0, 1) := by decide +kernel
theorem dX6_beside_41 : decode cX6_beside 41 = .ok (.iload_n 2, 1) := by decide +kernel
theorem dX6_beside_42 : decode cX6_beside 42 = .ok (.iload 5, 2) := by decide +kernel
theorem dX6_beside_44 : decode cX6_beside 44 = .ok (.iload 4, 2) := by decide +kernel
theorem dX6_beside_46 : decode cX6_beside 46 = .ok (.invokevirtual 65, 3) := by decide +kernel
theorem dX6_beside_49 : decode cX6_beside 49 = .ok (.ifCond .ne 59, 3) := by decide +kernel
theorem dX6_beside_52 : decode cX6_beside 52 = .ok (.aload_n 0, 1) := by decide +kernel
theorem dX6_beside_53 : decode cX6_beside 53 = .ok (.iload_n 2, 1) := by decide +kernel
theorem dX6_beside_54 : decode cX6_beside 54 = .ok (.iload 5, 2) := by decide +kernel
theorem dX6_beside_56 : decode cX6_beside 56 = .ok (.iconst 1, 1) := by decide +kernel
theorem dX6_beside_57 : decode cX6_beside 57 = .ok (.isub, 1) := by decide +kernel
theorem dX6_beside_58 : decode cX6_beside 58 = .ok (.iload 4, 2) := by decide +kernel
theorem dX6_beside_60 : decode cX6_beside 60 = .ok (.invokevirtual 65, 3) := by decide +kernel
theorem dX6_beside_63 : decode cX6_beside 63 = .ok (.ifCond .ne 45, 3) := by decide +kernel
theorem dX6_beside_66 : decode cX6_beside 66 = .ok (.aload_n 0, 1) := by decide +kernel
theorem dX6_beside_67 : decode cX6_beside 67 = .ok (.iload_n 2, 1) := by decide +kernel
theorem dX6_beside_68 : decode cX6_beside 68 = .ok (.iload 5, 2) := by decide +kernel
theorem dX6_beside_70 : decode cX6_beside 70 = .ok (.iconst 1, 1) := by decide +kernel
theorem dX6_beside_71 : decode cX6_beside 71 = .ok (.iadd, 1) := by decide +kernel
theorem dX6_beside_72 : decode cX6_beside 72 = .ok (.iload 4, 2) := by decide +kernel
theorem dX6_beside_74 : decode cX6_beside 74 = .ok (.invokevirtual 65, 3) := by decide +kernel
theorem dX6_beside_77 : decode cX6_beside 77 = .ok (.ifCond .ne 31, 3) := by decide +kernel
theorem dX6_beside_80 : decode cX6_beside 80 = .ok (.aload_n 0, 1) := by decide +kernel
theorem dX6_beside_81 : decode cX6_beside 81 = .ok (.iload_n 2, 1) := by decide +kernel
theorem dX6_beside_82 : decode cX6_beside 82 = .ok (.iload 5, 2) := by decide +kernel
theorem dX6_beside_84 : decode cX6_beside 84 = .ok (.iload 4, 2) := by decide +kernel
theorem dX6_beside_86 : decode cX6_beside 86 = .ok (.iconst 1, 1) := by decide +kernel
theorem dX6_beside_87 : decode cX6_beside 87 = .ok (.isub, 1) := by decide +kernel
theorem dX6_beside_88 : decode cX6_beside 88 = .ok (.invokevirtual 65, 3) := by decide +kernel
theorem dX6_beside_91 : decode cX6_beside 91 = .ok (.ifCond .ne 17, 3) := by decide +kernel
theorem dX6_beside_94 : decode cX6_beside 94 = .ok (.aload_n 0, 1) := by decide +kernel
theorem dX6_beside_95 : decode cX6_beside 95 = .ok (.iload_n 2, 1) := by decide +kernel
theorem dX6_beside_96 : decode cX6_beside 96 = .ok (.iload 5, 2) := by decide +kernel
theorem dX6_beside_98 : decode cX6_beside 98 = .ok (.iload 4, 2) := by decide +kernel
theorem dX6_beside_100 : decode cX6_beside 100 = .ok (.iconst 1, 1) := by decide +kernel
theorem dX6_beside_101 : decode cX6_beside 101 = .ok (.iadd, 1) := by decide +kernel
theorem dX6_beside_102 : decode cX6_beside 102 = .ok (.invokevirtual 65, 3) := by decide +kernel
theorem dX6_beside_105 : decode cX6_beside 105 = .ok (.ifCond .eq 7, 3) := by decide +kernel
theorem dX6_beside_108 : decode cX6_beside 108 = .ok (.iconst 1, 1) := by decide +kernel
theorem dX6_beside_109 : decode cX6_beside 109 = .ok (.goto 4, 3) := by decide +kernel
theorem dX6_beside_112 : decode cX6_beside 112 = .ok (.iconst 0, 1) := by decide +kernel
theorem dX6_beside_113 : decode cX6_beside 113 = .ok (.istore_n 3, 1) := by decide +kernel
theorem dX6_beside_114 : decode cX6_beside 114 = .ok (.iinc 5 1, 3) := by decide +kernel
theorem dX6_beside_117 : decode cX6_beside 117 = .ok (.goto (-100), 3) := by decide +kernel
theorem dX6_beside_120 : decode cX6_beside 120 = .ok (.iinc 4 1, 3) := by decide +kernel
theorem dX6_beside_123 : decode cX6_beside 123 = .ok (.goto (-117), 3) := by decide +kernel
theorem dX6_beside_126 : decode cX6_beside 126 = .ok (.iload_n 3, 1) := by decide +kernel
theorem dX6_beside_127 : decode cX6_beside 127 = .ok (.ireturn, 1) := by decide +kernel
theorem dX6_two_0 : decode cX6_two 0 = .ok (.iload_n 1, 1) := by decide +kernel
theorem dX6_two_1 : decode cX6_two 1 = .ok (.invokestatic 129, 3) := by decide +kernel
theorem dX6_two_4 : decode cX6_two 4 = .ok (.ifCond .eq 19, 3) := by decide +kernel
theorem dX6_two_7 : decode cX6_two 7 = .ok (.iload_n 2, 1) := by decide +kernel
theorem dX6_two_8 : decode cX6_two 8 = .ok (.invokestatic 129, 3) := by decide +kernel
theorem dX6_two_11 : decode cX6_two 11 = .ok (.ifCond .eq 12, 3) := by decide +kernel
theorem dX6_two_14 : decode cX6_two 14 = .ok (.iload_n 3, 1) := by decide +kernel
theorem dX6_two_15 : decode cX6_two 15 = .ok (.iconst 0, 1) := by decide +kernel
theorem dX6_two_16 : decode cX6_two 16 = .ok (.iconst 3, 1) := by decide +kernel
theorem dX6_two_17 : decode cX6_two 17 = .ok (.invokestatic 33, 3) := by decide +kernel
theorem dX6_two_20 : decode cX6_two 20 = .ok (.ifCond .ne 11, 3) := by decide +kernel
theorem dX6_two_23 : decode cX6_two 23 = .ok (.aload_n 0, 1) := by decide +kernel
theorem dX6_two_24 : decode cX6_two 24 = .ok (.sipush (-202), 3) := by decide +kernel
theorem dX6_two_27 : decode cX6_two 27 = .ok (.invokevirtual 105, 3) := by decide +kernel
theorem dX6_two_30 : decode cX6_two 30 = .ok (.ireturn, 1) := by decide +kernel
theorem dX6_two_31 : decode cX6_two 31 = .ok (.aload_n 0, 1) := by decide +kernel
theorem dX6_two_32 : decode cX6_two 32 = .ok (.iload_n 1, 1) := by decide +kernel
theorem dX6_two_33 : decode cX6_two 33 = .ok (.iload_n 2, 1) := by decide +kernel
theorem dX6_two_34 : decode cX6_two 34 = .ok (.invokevirtual 191, 3) := by decide +kernel
theorem dX6_two_37 : decode cX6_two 37 = .ok (.istore 4, 2) := by decide +kernel
theorem dX6_two_39 : decode cX6_two 39 = .ok (.iload 4, 2) := by decide +kernel
theorem dX6_two_41 : decode cX6_two 41 = .ok (.aload_n 0, 1) := by decide +kernel
theorem dX6_two_42 : decode cX6_two 42 = .ok (.iload_n 1, 1) := by decide +kernel
theorem dX6_two_43 : decode cX6_two 43 = .ok (.invokevirtual 101, 3) := by decide +kernel
theorem dX6_two_46 : decode cX6_two 46 = .ok (.if_icmp .ne 7, 3) := by decide +kernel
theorem dX6_two_49 : decode cX6_two 49 = .ok (.iconst 1, 1) := by decide +kernel
theorem dX6_two_50 : decode cX6_two 50 = .ok (.goto 4, 3) := by decide +kernel
theorem dX6_two_53 : decode cX6_two 53 = .ok (.iconst 0, 1) := by decide +kernel
theorem dX6_two_54 : decode cX6_two 54 = .ok (.istore 5, 2) := by decide +kernel
theorem dX6_two_56 : decode cX6_two 56 = .ok (.iload_n 3, 1) := by decide +kernel
theorem dX6_two_57 : decode cX6_two 57 = .ok (.ifCond .ne 26, 3) := by decide +kernel
theorem dX6_two_60 : decode cX6_two 60 = .ok (.iload 5, 2) := by decide +kernel
theorem dX6_two_62 : decode cX6_two 62 = .ok (.ifCond .eq 17, 3) := by decide +kernel
theorem dX6_two_65 : decode cX6_two 65 = .ok (.iload 4, 2) := by decide +kernel
theorem dX6_two_67 : decode cX6_two 67 = .ok (.aload_n 0, 1) := by decide +kernel
theorem dX6_two_68 : decode cX6_two 68 = .ok (.iload_n 2, 1) := by decide +kernel
theorem dX6_two_69 : decode cX6_two 69 = .ok (.invokevirtual 101, 3) := by decide +kernel
theorem dX6_two_72 : decode cX6_two 72 = .ok (.if_icmp .ne 7, 3) := by decide +kernel
theorem dX6_two_75 : decode cX6_two 75 = .ok (.iconst 1, 1) := by decide +kernel
theorem dX6_two_76 : decode cX6_two 76 = .ok (.goto 41, 3) := by decide +kernel
theorem dX6_two_79 : decode cX6_two 79 = .ok (.iconst 0, 1) := by decide +kernel
theorem dX6_two_80 : decode cX6_two 80 = .ok (.goto 37, 3) := by decide +kernel
theorem dX6_two_83 : decode cX6_two 83 = .ok (.iload_n 3, 1) := by decide +kernel
theorem dX6_two_84 : decode cX6_two 84 = .ok (.iconst 1, 1) := by decide +kernel
theorem dX6_two_85 : decode cX6_two 85 = .ok (.if_icmp .ne 8, 3) := by decide +kernel
theorem dX6_two_88 : decode cX6_two 88 = .ok (.iload 5, 2) := by decide +kernel
theorem dX6_two_90 : decode cX6_two 90 = .ok (.goto 27, 3) := by decide +kernel
theorem dX6_two_93 : decode cX6_two 93 = .ok (.iload_n 3, 1) := by decide +kernel
theorem dX6_two_94 : decode cX6_two 94 = .ok (.iconst 2, 1) := by decide +kernel
theorem dX6_two_95 : decode cX6_two 95 = .ok (.if_icmp .ne 16, 3) := by decide +kernel
theorem dX6_two_98 : decode cX6_two 98 = .ok (.iload 4, 2) := by decide +kernel
theorem dX6_two_100 : decode cX6_two 100 = .ok (.ifCond .le 7, 3) := by decide +kernel
theorem dX6_two_103 : decode cX6_two 103 = .ok (.iconst 1, 1) := by decide +kernel
theorem dX6_two_104 : decode cX6_two 104 = .ok (.goto 13, 3) := by decide +kernel
theorem dX6_two_107 : decode cX6_two 107 = .ok (.iconst 0, 1) := by decide +kernel
theorem dX6_two_108 : decode cX6_two 108 = .ok (.goto 9, 3) := by decide +kernel
theorem dX6_two_111 : decode cX6_two 111 = .ok (.aload_n 0, 1) := by decide +kernel
theorem dX6_two_112 : decode cX6_two 112 = .ok (.iload_n 1, 1) := by decide +kernel
theorem dX6_two_113 : decode cX6_two 113 = .ok (.iload_n 2, 1) := by decide +kernel
theorem dX6_two_114 : decode cX6_two 114 = .ok (.invokevirtual 194, 3) := by decide +kernel
theorem dX6_two_117 : decode cX6_two 117 = .ok (.istore 6, 2) := by decide +kernel
theorem dX6_two_119 : decode cX6_two 119 = .ok (.iload 6, 2) := by decide +kernel
theorem dX6_two_121 : decode cX6_two 121 = .ok (.ifCond .eq 7, 3) := by decide +kernel
theorem dX6_two_124 : decode cX6_two 124 = .ok (.iconst 1, 1) := by decide +kernel
theorem dX6_two_125 : decode cX6_two 125 = .ok (.goto 4, 3) := by decide +kernel
theorem dX6_two_128 : decode cX6_two 128 = .ok (.iconst 0, 1) := by decide +kernel
theorem dX6_two_129 : decode cX6_two 129 = .ok (.ireturn, 1) := by decide +kernel
theorem dX6_common_0 : decode cX6_common 0 = .ok (.iload_n 1, 1) := by decide +kernel
theorem dX6_common_1 : decode cX6_common 1 = .ok (.invokestatic 129, 3) := by decide +kernel
theorem dX6_common_4 : decode cX6_common 4 = .ok (.ifCond .eq 19, 3) := by decide +kernel
theorem dX6_common_7 : decode cX6_common 7 = .ok (.iload_n 2, 1) := by decide +kernel
theorem dX6_common_8 : decode cX6_common 8 = .ok (.invokestatic 129, 3) := by decide +kernel
theorem dX6_common_11 : decode cX6_common 11 = .ok (.ifCond .eq 12, 3) := by decide +kernel
theorem dX6_common_14 : decode cX6_common 14 = .ok (.aload_n 0, 1) := by decide +kernel
theorem dX6_common_15 : decode cX6_common 15 = .ok (.iload_n 1, 1) := by decide +kernel
theorem dX6_common_16 : decode cX6_common 16 = .ok (.iload_n 2, 1) := by decide +kernel
theorem dX6_common_17 : decode cX6_common 17 = .ok (.invokevirtual 191, 3) := by decide +kernel
theorem dX6_common_20 : decode cX6_common 20 = .ok (.goto 10, 3) := by decide +kernel
theorem dX6_common_23 : decode cX6_common 23 = .ok (.aload_n 0, 1) := by decide +kernel
theorem dX6_common_24 : decode cX6_common 24 = .ok (.sipush (-202), 3) := by decide +kernel
theorem dX6_common_27 : decode cX6_common 27 = .ok (.invokevirtual 105, 3) := by decide +kernel
theorem dX6_common_30 : decode cX6_common 30 = .ok (.ireturn, 1) := by decide +kernel
theorem dX6_across_0 : decode cX6_across 0 = .ok (.iload_n 1, 1) := by decide +kernel
theorem dX6_across_1 : decode cX6_across 1 = .ok (.invokestatic 129, 3) := by decide +kernel
theorem dX6_across_4 : decode cX6_across 4 = .ok (.ifCond .eq 23, 3) := by decide +kernel
theorem dX6_across_7 : decode cX6_across 7 = .ok (.iload_n 2, 1) := by decide +kernel
theorem dX6_across_8 : decode cX6_across 8 = .ok (.iconst 0, 1) := by decide +kernel
theorem dX6_across_9 : decode cX6_across 9 = .ok (.iconst 1, 1) := by decide +kernel
theorem dX6_across_10 : decode cX6_across 10 = .ok (.invokestatic 33, 3) := by decide +kernel
theorem dX6_across_13 : decode cX6_across 13 = .ok (.ifCond .eq 14, 3) := by decide +kernel
theorem dX6_across_16 : decode cX6_across 16 = .ok (.iload_n 3, 1) := by decide +kernel
theorem dX6_across_17 : decode cX6_across 17 = .ok (.bipush (-60), 2) := by decide +kernel
theorem dX6_across_19 : decode cX6_across 19 = .ok (.bipush 59, 2) := by decide +kernel
theorem dX6_across_21 : decode cX6_across 21 = .ok (.invokestatic 33, 3) := by decide +kernel
theorem dX6_across_24 : decode cX6_across 24 = .ok (.ifCond .ne 11, 3) := by decide +kernel
theorem dX6_across_27 : decode cX6_across 27 = .ok (.aload_n 0, 1) := by decide +kernel
theorem dX6_across_28 : decode cX6_across 28 = .ok (.sipush (-202), 3) := by decide +kernel
theorem dX6_across_31 : decode cX6_across 31 = .ok (.invokevirtual 105, 3) := by decide +kernel
theorem dX6_across_34 : decode cX6_across 34 = .ok (.ireturn, 1) := by decide +kernel
theorem dX6_across_35 : decode cX6_across 35 = .ok (.iconst 0, 1) := by decide +kernel
theorem dX6_across_36 : decode cX6_across 36 = .ok (.istore 4, 2) := by decide +kernel
theorem dX6_across_38 : decode cX6_across 38 = .ok (.bipush (-60), 2) := by decide +kernel
theorem dX6_across_40 : decode cX6_across 40 = .ok (.istore 5, 2) := by decide +kernel
theorem dX6_across_42 : decode cX6_across 42 = .ok (.iload 5, 2) := by decide +kernel
theorem dX6_across_44 : decode cX6_across 44 = .ok (.bipush 59, 2) := by decide +kernel
theorem dX6_across_46 : decode cX6_across 46 = .ok (.if_icmp .gt 48, 3) := by decide +kernel
theorem dX6_across_49 : decode cX6_across 49 = .ok (.iload 4, 2) := by decide +kernel
theorem dX6_across_51 : decode cX6_across 51 = .ok (.iload_n 2, 1) := by decide +kernel
theorem dX6_across_52 : decode cX6_across 52 = .ok (.ifCond .ne 17, 3) := by decide +kernel
theorem dX6_across_55 : decode cX6_across 55 = .ok (.aload_n 0, 1) := by decide +kernel
theorem dX6_across_56 : decode cX6_across 56 = .ok (.iload_n 1, 1) := by decide +kernel
theorem dX6_across_57 : decode cX6_across 57 = .ok (.iload 5, 2) := by decide +kernel
theorem dX6_across_59 : decode cX6_across 59 = .ok (.iload_n 3, 1) := by decide +kernel
theorem dX6_across_60 : decode cX6_across 60 = .ok (.invokevirtual 65, 3) := by decide +kernel
theorem dX6_across_63 : decode cX6_across 63 = .ok (.ifCond .eq 21, 3) := by decide +kernel
theorem dX6_across_66 : decode cX6_across 66 = .ok (.goto 14, 3) := by decide +kernel
theorem dX6_across_69 : decode cX6_across 69 = .ok (.aload_n 0, 1) := by decide +kernel
theorem dX6_across_70 : decode cX6_across 70 = .ok (.iload_n 1, 1) := by decide +kernel
theorem dX6_across_71 : decode cX6_across 71 = .ok (.iload_n 3, 1) := by decide +kernel
theorem dX6_across_72 : decode cX6_across 72 = .ok (.iload 5, 2) := by decide +kernel
theorem dX6_across_74 : decode cX6_across 74 = .ok (.invokevirtual 65, 3) := by decide +kernel
theorem dX6_across_77 : decode cX6_across 77 = .ok (.ifCond .eq 7, 3) := by decide +kernel
theorem dX6_across_80 : decode cX6_across 80 = .ok (.iconst 1, 1) := by decide +kernel
theorem dX6_across_81 : decode cX6_across 81 = .ok (.goto 4, 3) := by decide +kernel
theorem dX6_across_84 : decode cX6_across 84 = .ok (.iconst 0, 1) := by decide +kernel
theorem dX6_across_85 : decode cX6_across 85 = .ok (.iadd, 1) := by decide +kernel
theorem dX6_across_86 : decode cX6_across 86 = .ok (.istore 4, 2) := by decide +kernel
theorem dX6_across_88 : decode cX6_across 88 = .ok (.iinc 5 1, 3) := by decide +kernel
theorem dX6_across_91 : decode cX6_across 91 = .ok (.goto (-49), 3) := by decide +kernel
theorem dX6_across_94 : decode cX6_across 94 = .ok (.iload 4, 2) := by decide +kernel
theorem dX6_across_96 : decode cX6_across 96 = .ok (.ireturn, 1) := by decide +kernel
theorem dX6_apart_0 : decode cX6_apart 0 = .ok (.iload_n 1, 1) := by decide +kernel
theorem dX6_apart_1 : decode cX6_apart 1 = .ok (.invokestatic 129, 3) := by decide +kernel
theorem dX6_apart_4 : decode cX6_apart 4 = .ok (.ifCond .eq 10, 3) := by decide +kernel
theorem dX6_apart_7 : decode cX6_apart 7 = .ok (.iload_n 2, 1) := by decide +kernel
theorem dX6_apart_8 : decode cX6_apart 8 = .ok (.invokestatic 129, 3) := by decide +kernel
theorem dX6_apart_11 : decode cX6_apart 11 = .ok (.ifCond .ne 11, 3) := by decide +kernel
theorem dX6_apart_14 : decode cX6_apart 14 = .ok (.aload_n 0, 1) := by decide +kernel
theorem dX6_apart_15 : decode cX6_apart 15 = .ok (.sipush (-202), 3) := by decide +kernel
theorem dX6_apart_18 : decode cX6_apart 18 = .ok (.invokevirtual 105, 3) := by decide +kernel
theorem dX6_apart_21 : decode cX6_apart 21 = .ok (.ireturn, 1) := by decide +kernel
theorem dX6_apart_22 : decode cX6_apart 22 = .ok (.aload_n 0, 1) := by decide +kernel
theorem dX6_apart_23 : decode cX6_apart 23 = .ok (.iload_n 1, 1) := by decide +kernel
theorem dX6_apart_24 : decode cX6_apart 24 = .ok (.iconst 5, 1) := by decide +kernel
theorem dX6_apart_25 : decode cX6_apart 25 = .ok (.invokevirtual 97, 3) := by decide +kernel
theorem dX6_apart_28 : decode cX6_apart 28 = .ok (.iconst 0, 1) := by decide +kernel
theorem dX6_apart_29 : decode cX6_apart 29 = .ok (.istore_n 3, 1) := by decide +kernel
theorem dX6_apart_30 : decode cX6_apart 30 = .ok (.iload_n 3, 1) := by decide +kernel
theorem dX6_apart_31 : decode cX6_apart 31 = .ok (.bipush 10, 2) := by decide +kernel
theorem dX6_apart_33 : decode cX6_apart 33 = .ok (.if_icmp .ge 25, 3) := by decide +kernel
theorem dX6_apart_36 : decode cX6_apart 36 = .ok (.aload_n 0, 1) := by decide +kernel
theorem dX6_apart_37 : decode cX6_apart 37 = .ok (.iconst 5, 1) := by decide +kernel
theorem dX6_apart_38 : decode cX6_apart 38 = .ok (.iload_n 2, 1) := by decide +kernel
theorem dX6_apart_39 : decode cX6_apart 39 = .ok (.invokevirtual 191, 3) := by decide +kernel
theorem dX6_apart_42 : decode cX6_apart 42 = .ok (.ifCond .le 5, 3) := by decide +kernel
theorem dX6_apart_45 : decode cX6_apart 45 = .ok (.iload_n 3, 1) := by decide +kernel
theorem dX6_apart_46 : decode cX6_apart 46 = .ok (.ireturn, 1) := by decide +kernel
theorem dX6_apart_47 : decode cX6_apart 47 = .ok (.aload_n 0, 1) := by decide +kernel
theorem dX6_apart_48 : decode cX6_apart 48 = .ok (.iconst 1, 1) := by decide +kernel
theorem dX6_apart_49 : decode cX6_apart 49 = .ok (.invokevirtual 125, 3) := by decide +kernel
theorem dX6_apart_52 : decode cX6_apart 52 = .ok (.iinc 3 1, 3) := by decide +kernel
theorem dX6_apart_55 : decode cX6_apart 55 = .ok (.goto (-25), 3) := by decide +kernel
theorem dX6_apart_58 : decode cX6_apart 58 = .ok (.sipush (-201), 3) := by decide +kernel
theorem dX6_apart_61 : decode cX6_apart 61 = .ok (.ireturn, 1) := by decide +kernel
theorem dX6_type_0 : decode cX6_type 0 = .ok (.iload_n 1, 1) := by decide +kernel
theorem dX6_type_1 : decode cX6_type 1 = .ok (.iconst 0, 1) := by decide +kernel
theorem dX6_type_2 : decode cX6_type 2 = .ok (.bipush 127, 2) := by decide +kernel
theorem dX6_type_4 : decode cX6_type 4 = .ok (.invokestatic 33, 3) := by decide +kernel
theorem dX6_type_7 : decode cX6_type 7 = .ok (.ifCond .ne 11, 3) := by decide +kernel
theorem dX6_type_10 : decode cX6_type 10 = .ok (.aload_n 0, 1) := by decide +kernel
theorem dX6_type_11 : decode cX6_type 11 = .ok (.sipush (-202), 3) := by decide +kernel
theorem dX6_type_14 : decode cX6_type 14 = .ok (.invokevirtual 105, 3) := by decide +kernel
theorem dX6_type_17 : decode cX6_type 17 = .ok (.ireturn, 1) := by decide +kernel
theorem dX6_type_18 : decode cX6_type 18 = .ok (.aload_n 0, 1) := by decide +kernel
theorem dX6_type_19 : decode cX6_type 19 = .ok (.getfield 197, 3) := by decide +kernel
theorem dX6_type_22 : decode cX6_type 22 = .ok (.bipush 120, 2) := by decide +kernel
theorem dX6_type_24 : decode cX6_type 24 = .ok (.if_icmp .ne 11, 3) := by decide +kernel
theorem dX6_type_27 : decode cX6_type 27 = .ok (.aload_n 0, 1) := by decide +kernel
theorem dX6_type_28 : decode cX6_type 28 = .ok (.sipush (-204), 3) := by decide +kernel
theorem dX6_type_31 : decode cX6_type 31 = .ok (.invokevirtual 105, 3) := by decide +kernel
theorem dX6_type_34 : decode cX6_type 34 = .ok (.ireturn, 1) := by decide +kernel
theorem dX6_type_35 : decode cX6_type 35 = .ok (.aload_n 0, 1) := by decide +kernel
theorem dX6_type_36 : decode cX6_type 36 = .ok (.getfield 17, 3) := by decide +kernel
theorem dX6_type_39 : decode cX6_type 39 = .ok (.aload_n 0, 1) := by decide +kernel
theorem dX6_type_40 : decode cX6_type 40 = .ok (.getfield 197, 3) := by decide +kernel
theorem dX6_type_43 : decode cX6_type 43 = .ok (.iload_n 1, 1) := by decide +kernel
theorem dX6_type_44 : decode cX6_type 44 = .ok (.iastore, 1) := by decide +kernel
theorem dX6_type_45 : decode cX6_type 45 = .ok (.aload_n 0, 1) := by decide +kernel
theorem dX6_type_46 : decode cX6_type 46 = .ok (.dup, 1) := by decide +kernel
theorem dX6_type_47 : decode cX6_type 47 = .ok (.getfield 197, 3) := by decide +kernel
theorem dX6_type_50 : decode cX6_type 50 = .ok (.iconst 1, 1) := by decide +kernel
theorem dX6_type_51 : decode cX6_type 51 = .ok (.iadd, 1) := by decide +kernel
theorem dX6_type_52 : decode cX6_type 52 = .ok (.putfield 197, 3) := by decide +kernel
theorem dX6_type_55 : decode cX6_type 55 = .ok (.aload_n 0, 1) := by decide +kernel
theorem dX6_type_56 : decode cX6_type 56 = .ok (.getfield 197, 3) := by decide +kernel
theorem dX6_type_59 : decode cX6_type 59 = .ok (.ireturn, 1) := by decide +kernel
theorem dX6_clear_0 : decode cX6_clear 0 = .ok (.aload_n 0, 1) := by decide +kernel
theorem dX6_clear_1 : decode cX6_clear 1 = .ok (.getfield 197, 3) := by decide +kernel
theorem dX6_clear_4 : decode cX6_clear 4 = .ok (.istore_n 1, 1) := by decide +kernel
theorem dX6_clear_5 : decode cX6_clear 5 = .ok (.aload_n 0, 1) := by decide +kernel
theorem dX6_clear_6 : decode cX6_clear 6 = .ok (.iconst 0, 1) := by decide +kernel
theorem dX6_clear_7 : decode cX6_clear 7 = .ok (.putfield 197, 3) := by decide +kernel
theorem dX6_clear_10 : decode cX6_clear 10 = .ok (.iload_n 1, 1) := by decide +kernel
theorem dX6_clear_11 : decode cX6_clear 11 = .ok (.ireturn, 1) := by decide +kernel
theorem dX6_byteAt_0 : decode cX6_byteAt 0 = .ok (.iload_n 1, 1) := by decide +kernel
theorem dX6_byteAt_1 : decode cX6_byteAt 1 = .ok (.aload_n 0, 1) := by decide +kernel
theorem dX6_byteAt_2 : decode cX6_byteAt 2 = .ok (.getfield 197, 3) := by decide +kernel
theorem dX6_byteAt_5 : decode cX6_byteAt 5 = .ok (.if_icmp .ge 12, 3) := by decide +kernel
theorem dX6_byteAt_8 : decode cX6_byteAt 8 = .ok (.aload_n 0, 1) := by decide +kernel
theorem dX6_byteAt_9 : decode cX6_byteAt 9 = .ok (.getfield 17, 3) := by decide +kernel
theorem dX6_byteAt_12 : decode cX6_byteAt 12 = .ok (.iload_n 1, 1) := by decide +kernel
theorem dX6_byteAt_13 : decode cX6_byteAt 13 = .ok (.iaload, 1) := by decide +kernel
theorem dX6_byteAt_14 : decode cX6_byteAt 14 = .ok (.goto 4, 3) := by decide +kernel
theorem dX6_byteAt_17 : decode cX6_byteAt 17 = .ok (.iconst (-1), 1) := by decide +kernel
theorem dX6_byteAt_18 : decode cX6_byteAt 18 = .ok (.ireturn, 1) := by decide +kernel
theorem dX6_skips_0 : decode cX6_skips 0 = .ok (.aload_n 0, 1) := by decide +kernel
theorem dX6_skips_1 : decode cX6_skips 1 = .ok (.aload_n 0, 1) := by decide +kernel
theorem dX6_skips_2 : decode cX6_skips 2 = .ok (.getfield 200, 3) := by decide +kernel
theorem dX6_skips_5 : decode cX6_skips 5 = .ok (.invokevirtual 203, 3) := by decide +kernel
theorem dX6_skips_8 : decode cX6_skips 8 = .ok (.bipush 32, 2) := by decide +kernel
theorem dX6_skips_10 : decode cX6_skips 10 = .ok (.if_icmp .ne 16, 3) := by decide +kernel
theorem dX6_skips_13 : decode cX6_skips 13 = .ok (.aload_n 0, 1) := by decide +kernel
theorem dX6_skips_14 : decode cX6_skips 14 = .ok (.dup, 1) := by decide +kernel
theorem dX6_skips_15 : decode cX6_skips 15 = .ok (.getfield 200, 3) := by decide +kernel
theorem dX6_skips_18 : decode cX6_skips 18 = .ok (.iconst 1, 1) := by decide +kernel
theorem dX6_skips_19 : decode cX6_skips 19 = .ok (.iadd, 1) := by decide +kernel
theorem dX6_skips_20 : decode cX6_skips 20 = .ok (.putfield 200, 3) := by decide +kernel
theorem dX6_skips_23 : decode cX6_skips 23 = .ok (.goto (-23), 3) := by decide +kernel
theorem dX6_skips_26 : decode cX6_skips 26 = .ok (.return_, 1) := by decide +kernel
theorem dX6_isDigit_0 : decode cX6_isDigit 0 = .ok (.iload_n 0, 1) := by decide +kernel
theorem dX6_isDigit_1 : decode cX6_isDigit 1 = .ok (.bipush 48, 2) := by decide +kernel
theorem dX6_isDigit_3 : decode cX6_isDigit 3 = .ok (.bipush 57, 2) := by decide +kernel
theorem dX6_isDigit_5 : decode cX6_isDigit 5 = .ok (.invokestatic 33, 3) := by decide +kernel
theorem dX6_isDigit_8 : decode cX6_isDigit 8 = .ok (.ireturn, 1) := by decide +kernel
theorem dX6_number_0 : decode cX6_number 0 = .ok (.aload_n 0, 1) := by decide +kernel
theorem dX6_number_1 : decode cX6_number 1 = .ok (.invokevirtual 206, 3) := by decide +kernel
theorem dX6_number_4 : decode cX6_number 4 = .ok (.aload_n 0, 1) := by decide +kernel
theorem dX6_number_5 : decode cX6_number 5 = .ok (.aload_n 0, 1) := by decide +kernel
theorem dX6_number_6 : decode cX6_number 6 = .ok (.getfield 200, 3) := by decide +kernel
theorem dX6_number_9 : decode cX6_number 9 = .ok (.invokevirtual 203, 3) := by decide +kernel
theorem dX6_number_12 : decode cX6_number 12 = .ok (.bipush 45, 2) := by decide +kernel
theorem dX6_number_14 : decode cX6_number 14 = .ok (.if_icmp .ne 7, 3) := by decide +kernel
theorem dX6_number_17 : decode cX6_number 17 = .ok (.iconst 1, 1) := by decide +kernel
theorem dX6_number_18 : decode cX6_number 18 = .ok (.goto 4, 3) := by decide +kernel
theorem dX6_number_21 : decode cX6_number 21 = .ok (.iconst 0, 1) := by decide +kernel
theorem dX6_number_22 : decode cX6_number 22 = .ok (.istore 4, 2) := by decide +kernel
theorem dX6_number_24 : decode cX6_number 24 = .ok (.iload 4, 2) := by decide +kernel
theorem dX6_number_26 : decode cX6_number 26 = .ok (.ifCond .eq 12, 3) := by decide +kernel
theorem dX6_number_29 : decode cX6_number 29 = .ok (.aload_n 0, 1) := by decide +kernel
theorem dX6_number_30 : decode cX6_number 30 = .ok (.getfield 200, 3) := by decide +kernel
theorem dX6_number_33 : decode cX6_number 33 = .ok (.iconst 1, 1) := by decide +kernel
theorem dX6_number_34 : decode cX6_number 34 = .ok (.iadd, 1) := by decide +kernel
theorem dX6_number_35 : decode cX6_number 35 = .ok (.goto 7, 3) := by decide +kernel
theorem dX6_number_38 : decode cX6_number 38 = .ok (.aload_n 0, 1) := by decide +kernel
theorem dX6_number_39 : decode cX6_number 39 = .ok (.getfield 200, 3) := by decide +kernel
theorem dX6_number_42 : decode cX6_number 42 = .ok (.istore 5, 2) := by decide +kernel
theorem dX6_number_44 : decode cX6_number 44 = .ok (.iload 5, 2) := by decide +kernel
theorem dX6_number_46 : decode cX6_number 46 = .ok (.istore 6, 2) := by decide +kernel
theorem dX6_number_48 : decode cX6_number 48 = .ok (.iconst 0, 1) := by decide +kernel
theorem dX6_number_49 : decode cX6_number 49 = .ok (.istore 7, 2) := by decide +kernel
theorem dX6_number_51 : decode cX6_number 51 = .ok (.aload_n 0, 1) := by decide +kernel
theorem dX6_number_52 : decode cX6_number 52 = .ok (.iload 6, 2) := by decide +kernel
theorem dX6_number_54 : decode cX6_number 54 = .ok (.invokevirtual 203, 3) := by decide +kernel
theorem dX6_number_57 : decode cX6_number 57 = .ok (.invokestatic 209, 3) := by decide +kernel
theorem dX6_number_60 : decode cX6_number 60 = .ok (.ifCond .eq 36, 3) := by decide +kernel
theorem dX6_number_63 : decode cX6_number 63 = .ok (.iload 6, 2) := by decide +kernel
theorem dX6_number_65 : decode cX6_number 65 = .ok (.iload 5, 2) := by decide +kernel
theorem dX6_number_67 : decode cX6_number 67 = .ok (.isub, 1) := by decide +kernel
theorem dX6_number_68 : decode cX6_number 68 = .ok (.iconst 3, 1) := by decide +kernel
theorem dX6_number_69 : decode cX6_number 69 = .ok (.if_icmp .ge 27, 3) := by decide +kernel
theorem dX6_number_72 : decode cX6_number 72 = .ok (.bipush 10, 2) := by decide +kernel
theorem dX6_number_74 : decode cX6_number 74 = .ok (.iload 7, 2) := by decide +kernel
theorem dX6_number_76 : decode cX6_number 76 = .ok (.imul, 1) := by decide +kernel
theorem dX6_number_77 : decode cX6_number 77 = .ok (.aload_n 0, 1) := by decide +kernel
theorem dX6_number_78 : decode cX6_number 78 = .ok (.getfield 17, 3) := by decide +kernel
theorem dX6_number_81 : decode cX6_number 81 = .ok (.iload 6, 2) := by decide +kernel
theorem dX6_number_83 : decode cX6_number 83 = .ok (.iaload, 1) := by decide +kernel
theorem dX6_number_84 : decode cX6_number 84 = .ok (.iadd, 1) := by decide +kernel
theorem dX6_number_85 : decode cX6_number 85 = .ok (.bipush 48, 2) := by decide +kernel
theorem dX6_number_87 : decode cX6_number 87 = .ok (.isub, 1) := by decide +kernel
theorem dX6_number_88 : decode cX6_number 88 = .ok (.istore 7, 2) := by decide +kernel
theorem dX6_number_90 : decode cX6_number 90 = .ok (.iinc 6 1, 3) := by decide +kernel
theorem dX6_number_93 : decode cX6_number 93 = .ok (.goto (-42), 3) := by decide +kernel
theorem dX6_number_96 : decode cX6_number 96 = .ok (.iload 4, 2) := by decide +kernel
theorem dX6_number_98 : decode cX6_number 98 = .ok (.ifCond .eq 9, 3) := by decide +kernel
theorem dX6_number_101 : decode cX6_number 101 = .ok (.iload 7, 2) := by decide +kernel
theorem dX6_number_103 : decode cX6_number 103 = .ok (.ineg, 1) := by decide +kernel
theorem dX6_number_104 : decode cX6_number 104 = .ok (.goto 5, 3) := by decide +kernel
theorem dX6_number_107 : decode cX6_number 107 = .ok (.iload 7, 2) := by decide +kernel
theorem dX6_number_109 : decode cX6_number 109 = .ok (.istore 7, 2) := by decide +kernel
theorem dX6_number_111 : decode cX6_number 111 = .ok (.iload 6, 2) := by decide +kernel
theorem dX6_number_113 : decode cX6_number 113 = .ok (.iload 5, 2) := by decide +kernel
theorem dX6_number_115 : decode cX6_number 115 = .ok (.if_icmp .le 26, 3) := by decide +kernel
theorem dX6_number_118 : decode cX6_number 118 = .ok (.iload 6, 2) := by decide +kernel
theorem dX6_number_120 : decode cX6_number 120 = .ok (.iload 5, 2) := by decide +kernel
theorem dX6_number_122 : decode cX6_number 122 = .ok (.isub, 1) := by decide +kernel
theorem dX6_number_123 : decode cX6_number 123 = .ok (.iconst 3, 1) := by decide +kernel
theorem dX6_number_124 : decode cX6_number 124 = .ok (.if_icmp .ge 17, 3) := by decide +kernel
theorem dX6_number_127 : decode cX6_number 127 = .ok (.iload 7, 2) := by decide +kernel
theorem dX6_number_129 : decode cX6_number 129 = .ok (.iload_n 2, 1) := by decide +kernel
theorem dX6_number_130 : decode cX6_number 130 = .ok (.iload_n 3, 1) := by decide +kernel
theorem dX6_number_131 : decode cX6_number 131 = .ok (.invokestatic 33, 3) := by decide +kernel
theorem dX6_number_134 : decode cX6_number 134 = .ok (.ifCond .eq 7, 3) := by decide +kernel
theorem dX6_number_137 : decode cX6_number 137 = .ok (.iconst 1, 1) := by decide +kernel
theorem dX6_number_138 : decode cX6_number 138 = .ok (.goto 4, 3) := by decide +kernel
theorem dX6_number_141 : decode cX6_number 141 = .ok (.iconst 0, 1) := by decide +kernel
theorem dX6_number_142 : decode cX6_number 142 = .ok (.istore 8, 2) := by decide +kernel
theorem dX6_number_144 : decode cX6_number 144 = .ok (.aload_n 0, 1) := by decide +kernel
theorem dX6_number_145 : decode cX6_number 145 = .ok (.getfield 26, 3) := by decide +kernel
theorem dX6_number_148 : decode cX6_number 148 = .ok (.iload_n 1, 1) := by decide +kernel
theorem dX6_number_149 : decode cX6_number 149 = .ok (.iload 7, 2) := by decide +kernel
theorem dX6_number_151 : decode cX6_number 151 = .ok (.iastore, 1) := by decide +kernel
theorem dX6_number_152 : decode cX6_number 152 = .ok (.aload_n 0, 1) := by decide +kernel
theorem dX6_number_153 : decode cX6_number 153 = .ok (.iload 8, 2) := by decide +kernel
theorem dX6_number_155 : decode cX6_number 155 = .ok (.ifCond .eq 8, 3) := by decide +kernel
theorem dX6_number_158 : decode cX6_number 158 = .ok (.iload 6, 2) := by decide +kernel
theorem dX6_number_160 : decode cX6_number 160 = .ok (.goto 7, 3) := by decide +kernel
theorem dX6_number_163 : decode cX6_number 163 = .ok (.aload_n 0, 1) := by decide +kernel
theorem dX6_number_164 : decode cX6_number 164 = .ok (.getfield 200, 3) := by decide +kernel
theorem dX6_number_167 : decode cX6_number 167 = .ok (.putfield 200, 3) := by decide +kernel
theorem dX6_number_170 : decode cX6_number 170 = .ok (.iload 8, 2) := by decide +kernel
theorem dX6_number_172 : decode cX6_number 172 = .ok (.ireturn, 1) := by decide +kernel
theorem dX6_isWord_0 : decode cX6_isWord 0 = .ok (.iconst 1, 1) := by decide +kernel
theorem dX6_isWord_1 : decode cX6_isWord 1 = .ok (.istore_n 3, 1) := by decide +kernel
theorem dX6_isWord_2 : decode cX6_isWord 2 = .ok (.iconst 0, 1) := by decide +kernel
theorem dX6_isWord_3 : decode cX6_isWord 3 = .ok (.istore 4, 2) := by decide +kernel
theorem dX6_isWord_5 : decode cX6_isWord 5 = .ok (.iload 4, 2) := by decide +kernel
theorem dX6_isWord_7 : decode cX6_isWord 7 = .ok (.iload_n 2, 1) := by decide +kernel
theorem dX6_isWord_8 : decode cX6_isWord 8 = .ok (.if_icmp .ge 42, 3) := by decide +kernel
theorem dX6_isWord_11 : decode cX6_isWord 11 = .ok (.iload_n 3, 1) := by decide +kernel
theorem dX6_isWord_12 : decode cX6_isWord 12 = .ok (.ifCond .eq 30, 3) := by decide +kernel
theorem dX6_isWord_15 : decode cX6_isWord 15 = .ok (.aload_n 0, 1) := by decide +kernel
theorem dX6_isWord_16 : decode cX6_isWord 16 = .ok (.aload_n 0, 1) := by decide +kernel
theorem dX6_isWord_17 : decode cX6_isWord 17 = .ok (.getfield 200, 3) := by decide +kernel
theorem dX6_isWord_20 : decode cX6_isWord 20 = .ok (.iload 4, 2) := by decide +kernel
theorem dX6_isWord_22 : decode cX6_isWord 22 = .ok (.iadd, 1) := by decide +kernel
theorem dX6_isWord_23 : decode cX6_isWord 23 = .ok (.invokevirtual 203, 3) := by decide +kernel
theorem dX6_isWord_26 : decode cX6_isWord 26 = .ok (.aload_n 0, 1) := by decide +kernel
theorem dX6_isWord_27 : decode cX6_isWord 27 = .ok (.getfield 29, 3) := by decide +kernel
theorem dX6_isWord_30 : decode cX6_isWord 30 = .ok (.iload_n 1, 1) := by decide +kernel
theorem dX6_isWord_31 : decode cX6_isWord 31 = .ok (.iload 4, 2) := by decide +kernel
theorem dX6_isWord_33 : decode cX6_isWord 33 = .ok (.iadd, 1) := by decide +kernel
theorem dX6_isWord_34 : decode cX6_isWord 34 = .ok (.caload, 1) := by decide +kernel
theorem dX6_isWord_35 : decode cX6_isWord 35 = .ok (.if_icmp .ne 7, 3) := by decide +kernel
theorem dX6_isWord_38 : decode cX6_isWord 38 = .ok (.iconst 1, 1) := by decide +kernel
theorem dX6_isWord_39 : decode cX6_isWord 39 = .ok (.goto 4, 3) := by decide +kernel
theorem dX6_isWord_42 : decode cX6_isWord 42 = .ok (.iconst 0, 1) := by decide +kernel
theorem dX6_isWord_43 : decode cX6_isWord 43 = .ok (.istore_n 3, 1) := by decide +kernel
theorem dX6_isWord_44 : decode cX6_isWord 44 = .ok (.iinc 4 1, 3) := by decide +kernel
theorem dX6_isWord_47 : decode cX6_isWord 47 = .ok (.goto (-42), 3) := by decide +kernel
theorem dX6_isWord_50 : decode cX6_isWord 50 = .ok (.iload_n 3, 1) := by decide +kernel
theorem dX6_isWord_51 : decode cX6_isWord 51 = .ok (.ifCond .eq 27, 3) := by decide +kernel
theorem dX6_isWord_54 : decode cX6_isWord 54 = .ok (.aload_n 0, 1) := by decide +kernel
theorem dX6_isWord_55 : decode cX6_isWord 55 = .ok (.aload_n 0, 1) := by decide +kernel
theorem dX6_isWord_56 : decode cX6_isWord 56 = .ok (.getfield 200, 3) := by decide +kernel
theorem dX6_isWord_59 : decode cX6_isWord 59 = .ok (.iload_n 2, 1) := by decide +kernel
theorem dX6_isWord_60 : decode cX6_isWord 60 = .ok (.iadd, 1) := by decide +kernel
theorem dX6_isWord_61 : decode cX6_isWord 61 = .ok (.invokevirtual 203, 3) := by decide +kernel
theorem dX6_isWord_64 : decode cX6_isWord 64 = .ok (.bipush 97, 2) := by decide +kernel
theorem dX6_isWord_66 : decode cX6_isWord 66 = .ok (.bipush 122, 2) := by decide +kernel
theorem dX6_isWord_68 : decode cX6_isWord 68 = .ok (.invokestatic 33, 3) := by decide +kernel
theorem dX6_isWord_71 : decode cX6_isWord 71 = .ok (.ifCond .ne 7, 3) := by decide +kernel
theorem dX6_isWord_74 : decode cX6_isWord 74 = .ok (.iconst 1, 1) := by decide +kernel
theorem dX6_isWord_75 : decode cX6_isWord 75 = .ok (.goto 4, 3) := by decide +kernel
theorem dX6_isWord_78 : decode cX6_isWord 78 = .ok (.iconst 0, 1) := by decide +kernel
theorem dX6_isWord_79 : decode cX6_isWord 79 = .ok (.ireturn, 1) := by decide +kernel
theorem dX6_word_0 : decode cX6_word 0 = .ok (.aload_n 0, 1) := by decide +kernel
theorem dX6_word_1 : decode cX6_word 1 = .ok (.invokevirtual 206, 3) := by decide +kernel
theorem dX6_word_4 : decode cX6_word 4 = .ok (.iconst 0, 1) := by decide +kernel
theorem dX6_word_5 : decode cX6_word 5 = .ok (.istore_n 1, 1) := by decide +kernel
theorem dX6_word_6 : decode cX6_word 6 = .ok (.iconst 0, 1) := by decide +kernel
theorem dX6_word_7 : decode cX6_word 7 = .ok (.istore_n 2, 1) := by decide +kernel
theorem dX6_word_8 : decode cX6_word 8 = .ok (.iload_n 2, 1) := by decide +kernel
theorem dX6_word_9 : decode cX6_word 9 = .ok (.aload_n 0, 1) := by decide +kernel
theorem dX6_word_10 : decode cX6_word 10 = .ok (.getfield 29, 3) := by decide +kernel
theorem dX6_word_13 : decode cX6_word 13 = .ok (.arraylength, 1) := by decide +kernel
theorem dX6_word_14 : decode cX6_word 14 = .ok (.if_icmp .ge 57, 3) := by decide +kernel
theorem dX6_word_17 : decode cX6_word 17 = .ok (.iconst 0, 1) := by decide +kernel
theorem dX6_word_18 : decode cX6_word 18 = .ok (.istore_n 3, 1) := by decide +kernel
theorem dX6_word_19 : decode cX6_word 19 = .ok (.aload_n 0, 1) := by decide +kernel
theorem dX6_word_20 : decode cX6_word 20 = .ok (.getfield 29, 3) := by decide +kernel
theorem dX6_word_23 : decode cX6_word 23 = .ok (.iload_n 2, 1) := by decide +kernel
theorem dX6_word_24 : decode cX6_word 24 = .ok (.iload_n 3, 1) := by decide +kernel
theorem dX6_word_25 : decode cX6_word 25 = .ok (.iadd, 1) := by decide +kernel
theorem dX6_word_26 : decode cX6_word 26 = .ok (.caload, 1) := by decide +kernel
theorem dX6_word_27 : decode cX6_word 27 = .ok (.bipush 32, 2) := by decide +kernel
theorem dX6_word_29 : decode cX6_word 29 = .ok (.if_icmp .eq 9, 3) := by decide +kernel
theorem dX6_word_32 : decode cX6_word 32 = .ok (.iinc 3 1, 3) := by decide +kernel
theorem dX6_word_35 : decode cX6_word 35 = .ok (.goto (-16), 3) := by decide +kernel
theorem dX6_word_38 : decode cX6_word 38 = .ok (.aload_n 0, 1) := by decide +kernel
theorem dX6_word_39 : decode cX6_word 39 = .ok (.iload_n 2, 1) := by decide +kernel
theorem dX6_word_40 : decode cX6_word 40 = .ok (.iload_n 3, 1) := by decide +kernel
theorem dX6_word_41 : decode cX6_word 41 = .ok (.invokevirtual 212, 3) := by decide +kernel
theorem dX6_word_44 : decode cX6_word 44 = .ok (.ifCond .eq 15, 3) := by decide +kernel
theorem dX6_word_47 : decode cX6_word 47 = .ok (.aload_n 0, 1) := by decide +kernel
theorem dX6_word_48 : decode cX6_word 48 = .ok (.dup, 1) := by decide +kernel
theorem dX6_word_49 : decode cX6_word 49 = .ok (.getfield 200, 3) := by decide +kernel
theorem dX6_word_52 : decode cX6_word 52 = .ok (.iload_n 3, 1) := by decide +kernel
theorem dX6_word_53 : decode cX6_word 53 = .ok (.iadd, 1) := by decide +kernel
theorem dX6_word_54 : decode cX6_word 54 = .ok (.putfield 200, 3) := by decide +kernel
theorem dX6_word_57 : decode cX6_word 57 = .ok (.iload_n 1, 1) := by decide +kernel
theorem dX6_word_58 : decode cX6_word 58 = .ok (.ireturn, 1) := by decide +kernel
theorem dX6_word_59 : decode cX6_word 59 = .ok (.iinc 1 1, 3) := by decide +kernel
theorem dX6_word_62 : decode cX6_word 62 = .ok (.iload_n 2, 1) := by decide +kernel
theorem dX6_word_63 : decode cX6_word 63 = .ok (.iload_n 3, 1) := by decide +kernel
theorem dX6_word_64 : decode cX6_word 64 = .ok (.iconst 1, 1) := by decide +kernel
theorem dX6_word_65 : decode cX6_word 65 = .ok (.iadd, 1) := by decide +kernel
theorem dX6_word_66 : decode cX6_word 66 = .ok (.iadd, 1) := by decide +kernel
theorem dX6_word_67 : decode cX6_word 67 = .ok (.istore_n 2, 1) := by decide +kernel
theorem dX6_word_68 : decode cX6_word 68 = .ok (.goto (-60), 3) := by decide +kernel
theorem dX6_word_71 : decode cX6_word 71 = .ok (.iconst (-1), 1) := by decide +kernel
theorem dX6_word_72 : decode cX6_word 72 = .ok (.ireturn, 1) := by decide +kernel
theorem dX6_sentence_0 : decode cX6_sentence 0 = .ok (.aload_n 0, 1) := by decide +kernel
theorem dX6_sentence_1 : decode cX6_sentence 1 = .ok (.iconst 0, 1) := by decide +kernel
theorem dX6_sentence_2 : decode cX6_sentence 2 = .ok (.iconst 0, 1) := by decide +kernel
theorem dX6_sentence_3 : decode cX6_sentence 3 = .ok (.iconst 4, 1) := by decide +kernel
theorem dX6_sentence_4 : decode cX6_sentence 4 = .ok (.invokevirtual 215, 3) := by decide +kernel
theorem dX6_sentence_7 : decode cX6_sentence 7 = .ok (.ifCond .ne 5, 3) := by decide +kernel
theorem dX6_sentence_10 : decode cX6_sentence 10 = .ok (.iconst (-1), 1) := by decide +kernel
theorem dX6_sentence_11 : decode cX6_sentence 11 = .ok (.ireturn, 1) := by decide +kernel
theorem dX6_sentence_12 : decode cX6_sentence 12 = .ok (.aload_n 0, 1) := by decide +kernel
theorem dX6_sentence_13 : decode cX6_sentence 13 = .ok (.aload_n 0, 1) := by decide +kernel
theorem dX6_sentence_14 : decode cX6_sentence 14 = .ok (.getfield 26, 3) := by decide +kernel
theorem dX6_sentence_17 : decode cX6_sentence 17 = .ok (.iconst 0, 1) := by decide +kernel
theorem dX6_sentence_18 : decode cX6_sentence 18 = .ok (.iaload, 1) := by decide +kernel
theorem dX6_sentence_19 : decode cX6_sentence 19 = .ok (.putfield 218, 3) := by decide +kernel
theorem dX6_sentence_22 : decode cX6_sentence 22 = .ok (.aload_n 0, 1) := by decide +kernel
theorem dX6_sentence_23 : decode cX6_sentence 23 = .ok (.invokevirtual 221, 3) := by decide +kernel
theorem dX6_sentence_26 : decode cX6_sentence 26 = .ok (.istore_n 1, 1) := by decide +kernel
theorem dX6_sentence_27 : decode cX6_sentence 27 = .ok (.iload_n 1, 1) := by decide +kernel
theorem dX6_sentence_28 : decode cX6_sentence 28 = .ok (.ifCond .lt 7, 3) := by decide +kernel
theorem dX6_sentence_31 : decode cX6_sentence 31 = .ok (.iconst 1, 1) := by decide +kernel
theorem dX6_sentence_32 : decode cX6_sentence 32 = .ok (.goto 4, 3) := by decide +kernel
theorem dX6_sentence_35 : decode cX6_sentence 35 = .ok (.iconst 0, 1) := by decide +kernel
theorem dX6_sentence_36 : decode cX6_sentence 36 = .ok (.istore_n 2, 1) := by decide +kernel
theorem dX6_sentence_37 : decode cX6_sentence 37 = .ok (.iload_n 1, 1) := by decide +kernel
theorem dX6_sentence_38 : decode cX6_sentence 38 = .ok (.ifCond .eq 14, 3) := by decide +kernel
theorem dX6_sentence_41 : decode cX6_sentence 41 = .ok (.iload_n 1, 1) := by decide +kernel
theorem dX6_sentence_42 : decode cX6_sentence 42 = .ok (.iconst 3, 1) := by decide +kernel
theorem dX6_sentence_43 : decode cX6_sentence 43 = .ok (.if_icmp .lt 20, 3) := by decide +kernel
theorem dX6_sentence_46 : decode cX6_sentence 46 = .ok (.iload_n 1, 1) := by decide +kernel
theorem dX6_sentence_47 : decode cX6_sentence 47 = .ok (.bipush 7, 2) := by decide +kernel
theorem dX6_sentence_49 : decode cX6_sentence 49 = .ok (.if_icmp .ge 14, 3) := by decide +kernel
theorem dX6_sentence_52 : decode cX6_sentence 52 = .ok (.aload_n 0, 1) := by decide +kernel
theorem dX6_sentence_53 : decode cX6_sentence 53 = .ok (.iconst 0, 1) := by decide +kernel
theorem dX6_sentence_54 : decode cX6_sentence 54 = .ok (.iconst 0, 1) := by decide +kernel
theorem dX6_sentence_55 : decode cX6_sentence 55 = .ok (.iconst 4, 1) := by decide +kernel
theorem dX6_sentence_56 : decode cX6_sentence 56 = .ok (.invokevirtual 215, 3) := by decide +kernel
theorem dX6_sentence_59 : decode cX6_sentence 59 = .ok (.istore_n 2, 1) := by decide +kernel
theorem dX6_sentence_60 : decode cX6_sentence 60 = .ok (.goto 123, 3) := by decide +kernel
theorem dX6_sentence_63 : decode cX6_sentence 63 = .ok (.iload_n 1, 1) := by decide +kernel
theorem dX6_sentence_64 : decode cX6_sentence 64 = .ok (.iconst 1, 1) := by decide +kernel
theorem dX6_sentence_65 : decode cX6_sentence 65 = .ok (.if_icmp .ne 58, 3) := by decide +kernel
theorem dX6_sentence_68 : decode cX6_sentence 68 = .ok (.aload_n 0, 1) := by decide +kernel
theorem dX6_sentence_69 : decode cX6_sentence 69 = .ok (.iconst 0, 1) := by decide +kernel
theorem dX6_sentence_70 : decode cX6_sentence 70 = .ok (.bipush (-60), 2) := by decide +kernel
theorem dX6_sentence_72 : decode cX6_sentence 72 = .ok (.bipush 59, 2) := by decide +kernel
theorem dX6_sentence_74 : decode cX6_sentence 74 = .ok (.invokevirtual 215, 3) := by decide +kernel
theorem dX6_sentence_77 : decode cX6_sentence 77 = .ok (.ifCond .eq 41, 3) := by decide +kernel
theorem dX6_sentence_80 : decode cX6_sentence 80 = .ok (.aload_n 0, 1) := by decide +kernel
theorem dX6_sentence_81 : decode cX6_sentence 81 = .ok (.iconst 1, 1) := by decide +kernel
theorem dX6_sentence_82 : decode cX6_sentence 82 = .ok (.bipush (-60), 2) := by decide +kernel
theorem dX6_sentence_84 : decode cX6_sentence 84 = .ok (.bipush 59, 2) := by decide +kernel
theorem dX6_sentence_86 : decode cX6_sentence 86 = .ok (.invokevirtual 215, 3) := by decide +kernel
theorem dX6_sentence_89 : decode cX6_sentence 89 = .ok (.ifCond .eq 29, 3) := by decide +kernel
theorem dX6_sentence_92 : decode cX6_sentence 92 = .ok (.aload_n 0, 1) := by decide +kernel
theorem dX6_sentence_93 : decode cX6_sentence 93 = .ok (.iconst 2, 1) := by decide +kernel
theorem dX6_sentence_94 : decode cX6_sentence 94 = .ok (.iconst 1, 1) := by decide +kernel
theorem dX6_sentence_95 : decode cX6_sentence 95 = .ok (.bipush 99, 2) := by decide +kernel
theorem dX6_sentence_97 : decode cX6_sentence 97 = .ok (.invokevirtual 215, 3) := by decide +kernel
theorem dX6_sentence_100 : decode cX6_sentence 100 = .ok (.ifCond .eq 18, 3) := by decide +kernel
theorem dX6_sentence_103 : decode cX6_sentence 103 = .ok (.aload_n 0, 1) := by decide +kernel
theorem dX6_sentence_104 : decode cX6_sentence 104 = .ok (.iconst 3, 1) := by decide +kernel
theorem dX6_sentence_105 : decode cX6_sentence 105 = .ok (.iconst 1, 1) := by decide +kernel
theorem dX6_sentence_106 : decode cX6_sentence 106 = .ok (.bipush 99, 2) := by decide +kernel
theorem dX6_sentence_108 : decode cX6_sentence 108 = .ok (.invokevirtual 215, 3) := by decide +kernel
theorem dX6_sentence_111 : decode cX6_sentence 111 = .ok (.ifCond .eq 7, 3) := by decide +kernel
theorem dX6_sentence_114 : decode cX6_sentence 114 = .ok (.iconst 1, 1) := by decide +kernel
theorem dX6_sentence_115 : decode cX6_sentence 115 = .ok (.goto 4, 3) := by decide +kernel
theorem dX6_sentence_118 : decode cX6_sentence 118 = .ok (.iconst 0, 1) := by decide +kernel
theorem dX6_sentence_119 : decode cX6_sentence 119 = .ok (.istore_n 2, 1) := by decide +kernel
theorem dX6_sentence_120 : decode cX6_sentence 120 = .ok (.goto 63, 3) := by decide +kernel
theorem dX6_sentence_123 : decode cX6_sentence 123 = .ok (.iload_n 1, 1) := by decide +kernel
theorem dX6_sentence_124 : decode cX6_sentence 124 = .ok (.bipush 7, 2) := by decide +kernel
theorem dX6_sentence_126 : decode cX6_sentence 126 = .ok (.if_icmp .ne 36, 3) := by decide +kernel
theorem dX6_sentence_129 : decode cX6_sentence 129 = .ok (.aload_n 0, 1) := by decide +kernel
theorem dX6_sentence_130 : decode cX6_sentence 130 = .ok (.iconst 0, 1) := by decide +kernel
theorem dX6_sentence_131 : decode cX6_sentence 131 = .ok (.bipush (-99), 2) := by decide +kernel
theorem dX6_sentence_133 : decode cX6_sentence 133 = .ok (.bipush 99, 2) := by decide +kernel
theorem dX6_sentence_135 : decode cX6_sentence 135 = .ok (.invokevirtual 215, 3) := by decide +kernel
theorem dX6_sentence_138 : decode cX6_sentence 138 = .ok (.ifCond .eq 19, 3) := by decide +kernel
theorem dX6_sentence_141 : decode cX6_sentence 141 = .ok (.aload_n 0, 1) := by decide +kernel
theorem dX6_sentence_142 : decode cX6_sentence 142 = .ok (.iconst 1, 1) := by decide +kernel
theorem dX6_sentence_143 : decode cX6_sentence 143 = .ok (.bipush (-99), 2) := by decide +kernel
theorem dX6_sentence_145 : decode cX6_sentence 145 = .ok (.bipush 99, 2) := by decide +kernel
theorem dX6_sentence_147 : decode cX6_sentence 147 = .ok (.invokevirtual 215, 3) := by decide +kernel
theorem dX6_sentence_150 : decode cX6_sentence 150 = .ok (.ifCond .eq 7, 3) := by decide +kernel
theorem dX6_sentence_153 : decode cX6_sentence 153 = .ok (.iconst 1, 1) := by decide +kernel
theorem dX6_sentence_154 : decode cX6_sentence 154 = .ok (.goto 4, 3) := by decide +kernel
theorem dX6_sentence_157 : decode cX6_sentence 157 = .ok (.iconst 0, 1) := by decide +kernel
theorem dX6_sentence_158 : decode cX6_sentence 158 = .ok (.istore_n 2, 1) := by decide +kernel
theorem dX6_sentence_159 : decode cX6_sentence 159 = .ok (.goto 24, 3) := by decide +kernel
theorem dX6_sentence_162 : decode cX6_sentence 162 = .ok (.iload_n 1, 1) := by decide +kernel
theorem dX6_sentence_163 : decode cX6_sentence 163 = .ok (.bipush 8, 2) := by decide +kernel
theorem dX6_sentence_165 : decode cX6_sentence 165 = .ok (.if_icmp .eq 9, 3) := by decide +kernel
theorem dX6_sentence_168 : decode cX6_sentence 168 = .ok (.iload_n 1, 1) := by decide +kernel
theorem dX6_sentence_169 : decode cX6_sentence 169 = .ok (.bipush 9, 2) := by decide +kernel
theorem dX6_sentence_171 : decode cX6_sentence 171 = .ok (.if_icmp .ne 12, 3) := by decide +kernel
theorem dX6_sentence_174 : decode cX6_sentence 174 = .ok (.aload_n 0, 1) := by decide +kernel
theorem dX6_sentence_175 : decode cX6_sentence 175 = .ok (.iconst 0, 1) := by decide +kernel
theorem dX6_sentence_176 : decode cX6_sentence 176 = .ok (.iconst 1, 1) := by decide +kernel
theorem dX6_sentence_177 : decode cX6_sentence 177 = .ok (.bipush 9, 2) := by decide +kernel
theorem dX6_sentence_179 : decode cX6_sentence 179 = .ok (.invokevirtual 215, 3) := by decide +kernel
theorem dX6_sentence_182 : decode cX6_sentence 182 = .ok (.istore_n 2, 1) := by decide +kernel
theorem dX6_sentence_183 : decode cX6_sentence 183 = .ok (.iload_n 2, 1) := by decide +kernel
theorem dX6_sentence_184 : decode cX6_sentence 184 = .ok (.ifCond .ne 5, 3) := by decide +kernel
theorem dX6_sentence_187 : decode cX6_sentence 187 = .ok (.iconst (-1), 1) := by decide +kernel
theorem dX6_sentence_188 : decode cX6_sentence 188 = .ok (.ireturn, 1) := by decide +kernel
theorem dX6_sentence_189 : decode cX6_sentence 189 = .ok (.aload_n 0, 1) := by decide +kernel
theorem dX6_sentence_190 : decode cX6_sentence 190 = .ok (.invokevirtual 206, 3) := by decide +kernel
theorem dX6_sentence_193 : decode cX6_sentence 193 = .ok (.aload_n 0, 1) := by decide +kernel
theorem dX6_sentence_194 : decode cX6_sentence 194 = .ok (.aload_n 0, 1) := by decide +kernel
theorem dX6_sentence_195 : decode cX6_sentence 195 = .ok (.getfield 200, 3) := by decide +kernel
theorem dX6_sentence_198 : decode cX6_sentence 198 = .ok (.invokevirtual 203, 3) := by decide +kernel
theorem dX6_sentence_201 : decode cX6_sentence 201 = .ok (.bipush 59, 2) := by decide +kernel
theorem dX6_sentence_203 : decode cX6_sentence 203 = .ok (.if_icmp .eq 5, 3) := by decide +kernel
theorem dX6_sentence_206 : decode cX6_sentence 206 = .ok (.iconst (-1), 1) := by decide +kernel
theorem dX6_sentence_207 : decode cX6_sentence 207 = .ok (.ireturn, 1) := by decide +kernel
theorem dX6_sentence_208 : decode cX6_sentence 208 = .ok (.aload_n 0, 1) := by decide +kernel
theorem dX6_sentence_209 : decode cX6_sentence 209 = .ok (.dup, 1) := by decide +kernel
theorem dX6_sentence_210 : decode cX6_sentence 210 = .ok (.getfield 200, 3) := by decide +kernel
theorem dX6_sentence_213 : decode cX6_sentence 213 = .ok (.iconst 1, 1) := by decide +kernel
theorem dX6_sentence_214 : decode cX6_sentence 214 = .ok (.iadd, 1) := by decide +kernel
theorem dX6_sentence_215 : decode cX6_sentence 215 = .ok (.putfield 200, 3) := by decide +kernel
theorem dX6_sentence_218 : decode cX6_sentence 218 = .ok (.iload_n 1, 1) := by decide +kernel
theorem dX6_sentence_219 : decode cX6_sentence 219 = .ok (.ireturn, 1) := by decide +kernel
theorem dX6_done_0 : decode cX6_done 0 = .ok (.aload_n 0, 1) := by decide +kernel
theorem dX6_done_1 : decode cX6_done 1 = .ok (.getfield 26, 3) := by decide +kernel
theorem dX6_done_4 : decode cX6_done 4 = .ok (.iconst 0, 1) := by decide +kernel
theorem dX6_done_5 : decode cX6_done 5 = .ok (.iaload, 1) := by decide +kernel
theorem dX6_done_6 : decode cX6_done 6 = .ok (.istore_n 2, 1) := by decide +kernel
theorem dX6_done_7 : decode cX6_done 7 = .ok (.iload_n 1, 1) := by decide +kernel
theorem dX6_done_8 : decode cX6_done 8 = .ok (.ifCond .ne 15, 3) := by decide +kernel
theorem dX6_done_11 : decode cX6_done 11 = .ok (.aload_n 0, 1) := by decide +kernel
theorem dX6_done_12 : decode cX6_done 12 = .ok (.iload_n 2, 1) := by decide +kernel
theorem dX6_done_13 : decode cX6_done 13 = .ok (.iconst 0, 1) := by decide +kernel
theorem dX6_done_14 : decode cX6_done 14 = .ok (.iconst 0, 1) := by decide +kernel
theorem dX6_done_15 : decode cX6_done 15 = .ok (.aload_n 0, 1) := by decide +kernel
theorem dX6_done_16 : decode cX6_done 16 = .ok (.getfield 218, 3) := by decide +kernel
theorem dX6_done_19 : decode cX6_done 19 = .ok (.invokevirtual 143, 3) := by decide +kernel
theorem dX6_done_22 : decode cX6_done 22 = .ok (.ireturn, 1) := by decide +kernel
theorem dX6_done_23 : decode cX6_done 23 = .ok (.iload_n 1, 1) := by decide +kernel
theorem dX6_done_24 : decode cX6_done 24 = .ok (.iconst 1, 1) := by decide +kernel
theorem dX6_done_25 : decode cX6_done 25 = .ok (.if_icmp .ne 31, 3) := by decide +kernel
theorem dX6_done_28 : decode cX6_done 28 = .ok (.aload_n 0, 1) := by decide +kernel
theorem dX6_done_29 : decode cX6_done 29 = .ok (.iload_n 2, 1) := by decide +kernel
theorem dX6_done_30 : decode cX6_done 30 = .ok (.aload_n 0, 1) := by decide +kernel
theorem dX6_done_31 : decode cX6_done 31 = .ok (.getfield 26, 3) := by decide +kernel
theorem dX6_done_34 : decode cX6_done 34 = .ok (.iconst 1, 1) := by decide +kernel
theorem dX6_done_35 : decode cX6_done 35 = .ok (.iaload, 1) := by decide +kernel
theorem dX6_done_36 : decode cX6_done 36 = .ok (.aload_n 0, 1) := by decide +kernel
theorem dX6_done_37 : decode cX6_done 37 = .ok (.getfield 26, 3) := by decide +kernel
theorem dX6_done_40 : decode cX6_done 40 = .ok (.iconst 2, 1) := by decide +kernel
theorem dX6_done_41 : decode cX6_done 41 = .ok (.iaload, 1) := by decide +kernel
theorem dX6_done_42 : decode cX6_done 42 = .ok (.aload_n 0, 1) := by decide +kernel
theorem dX6_done_43 : decode cX6_done 43 = .ok (.getfield 26, 3) := by decide +kernel
theorem dX6_done_46 : decode cX6_done 46 = .ok (.iconst 3, 1) := by decide +kernel
theorem dX6_done_47 : decode cX6_done 47 = .ok (.iaload, 1) := by decide +kernel
theorem dX6_done_48 : decode cX6_done 48 = .ok (.aload_n 0, 1) := by decide +kernel
theorem dX6_done_49 : decode cX6_done 49 = .ok (.getfield 218, 3) := by decide +kernel
theorem dX6_done_52 : decode cX6_done 52 = .ok (.invokevirtual 133, 3) := by decide +kernel
theorem dX6_done_55 : decode cX6_done 55 = .ok (.ireturn, 1) := by decide +kernel
theorem dX6_done_56 : decode cX6_done 56 = .ok (.iload_n 1, 1) := by decide +kernel
theorem dX6_done_57 : decode cX6_done 57 = .ok (.iconst 2, 1) := by decide +kernel
theorem dX6_done_58 : decode cX6_done 58 = .ok (.if_icmp .ne 13, 3) := by decide +kernel
theorem dX6_done_61 : decode cX6_done 61 = .ok (.aload_n 0, 1) := by decide +kernel
theorem dX6_done_62 : decode cX6_done 62 = .ok (.aload_n 0, 1) := by decide +kernel
theorem dX6_done_63 : decode cX6_done 63 = .ok (.getfield 218, 3) := by decide +kernel
theorem dX6_done_66 : decode cX6_done 66 = .ok (.invokevirtual 108, 3) := by decide +kernel
theorem dX6_done_69 : decode cX6_done 69 = .ok (.iconst 0, 1) := by decide +kernel
theorem dX6_done_70 : decode cX6_done 70 = .ok (.ireturn, 1) := by decide +kernel
theorem dX6_done_71 : decode cX6_done 71 = .ok (.iload_n 1, 1) := by decide +kernel
theorem dX6_done_72 : decode cX6_done 72 = .ok (.bipush 7, 2) := by decide +kernel
theorem dX6_done_74 : decode cX6_done 74 = .ok (.if_icmp .ge 20, 3) := by decide +kernel
theorem dX6_done_77 : decode cX6_done 77 = .ok (.aload_n 0, 1) := by decide +kernel
theorem dX6_done_78 : decode cX6_done 78 = .ok (.iload_n 1, 1) := by decide +kernel
theorem dX6_done_79 : decode cX6_done 79 = .ok (.iconst 3, 1) := by decide +kernel
theorem dX6_done_80 : decode cX6_done 80 = .ok (.isub, 1) := by decide +kernel
theorem dX6_done_81 : decode cX6_done 81 = .ok (.aload_n 0, 1) := by decide +kernel
theorem dX6_done_82 : decode cX6_done 82 = .ok (.getfield 218, 3) := by decide +kernel
theorem dX6_done_85 : decode cX6_done 85 = .ok (.iload_n 2, 1) := by decide +kernel
theorem dX6_done_86 : decode cX6_done 86 = .ok (.aload_n 0, 1) := by decide +kernel
theorem dX6_done_87 : decode cX6_done 87 = .ok (.getfield 218, 3) := by decide +kernel
theorem dX6_done_90 : decode cX6_done 90 = .ok (.invokevirtual 139, 3) := by decide +kernel
theorem dX6_done_93 : decode cX6_done 93 = .ok (.ireturn, 1) := by decide +kernel
theorem dX6_done_94 : decode cX6_done 94 = .ok (.iload_n 1, 1) := by decide +kernel
theorem dX6_done_95 : decode cX6_done 95 = .ok (.bipush 7, 2) := by decide +kernel
theorem dX6_done_97 : decode cX6_done 97 = .ok (.if_icmp .ne 23, 3) := by decide +kernel
theorem dX6_done_100 : decode cX6_done 100 = .ok (.aload_n 0, 1) := by decide +kernel
theorem dX6_done_101 : decode cX6_done 101 = .ok (.aload_n 0, 1) := by decide +kernel
theorem dX6_done_102 : decode cX6_done 102 = .ok (.getfield 218, 3) := by decide +kernel
theorem dX6_done_105 : decode cX6_done 105 = .ok (.iload_n 2, 1) := by decide +kernel
theorem dX6_done_106 : decode cX6_done 106 = .ok (.aload_n 0, 1) := by decide +kernel
theorem dX6_done_107 : decode cX6_done 107 = .ok (.getfield 26, 3) := by decide +kernel
theorem dX6_done_110 : decode cX6_done 110 = .ok (.iconst 1, 1) := by decide +kernel
theorem dX6_done_111 : decode cX6_done 111 = .ok (.iaload, 1) := by decide +kernel
theorem dX6_done_112 : decode cX6_done 112 = .ok (.aload_n 0, 1) := by decide +kernel
theorem dX6_done_113 : decode cX6_done 113 = .ok (.getfield 218, 3) := by decide +kernel
theorem dX6_done_116 : decode cX6_done 116 = .ok (.invokevirtual 143, 3) := by decide +kernel
theorem dX6_done_119 : decode cX6_done 119 = .ok (.ireturn, 1) := by decide +kernel
theorem dX6_done_120 : decode cX6_done 120 = .ok (.iload_n 1, 1) := by decide +kernel
theorem dX6_done_121 : decode cX6_done 121 = .ok (.bipush 10, 2) := by decide +kernel
theorem dX6_done_123 : decode cX6_done 123 = .ok (.if_icmp .ge 30, 3) := by decide +kernel
theorem dX6_done_126 : decode cX6_done 126 = .ok (.aload_n 0, 1) := by decide +kernel
theorem dX6_done_127 : decode cX6_done 127 = .ok (.aload_n 0, 1) := by decide +kernel
theorem dX6_done_128 : decode cX6_done 128 = .ok (.getfield 218, 3) := by decide +kernel
theorem dX6_done_131 : decode cX6_done 131 = .ok (.iload_n 1, 1) := by decide +kernel
theorem dX6_done_132 : decode cX6_done 132 = .ok (.bipush 8, 2) := by decide +kernel
theorem dX6_done_134 : decode cX6_done 134 = .ok (.if_icmp .ne 7, 3) := by decide +kernel
theorem dX6_done_137 : decode cX6_done 137 = .ok (.iload_n 2, 1) := by decide +kernel
theorem dX6_done_138 : decode cX6_done 138 = .ok (.goto 5, 3) := by decide +kernel
theorem dX6_done_141 : decode cX6_done 141 = .ok (.iload_n 2, 1) := by decide +kernel
theorem dX6_done_142 : decode cX6_done 142 = .ok (.ineg, 1) := by decide +kernel
theorem dX6_done_143 : decode cX6_done 143 = .ok (.aload_n 0, 1) := by decide +kernel
theorem dX6_done_144 : decode cX6_done 144 = .ok (.getfield 218, 3) := by decide +kernel
theorem dX6_done_147 : decode cX6_done 147 = .ok (.invokevirtual 146, 3) := by decide +kernel
theorem dX6_done_150 : decode cX6_done 150 = .ok (.goto 26, 3) := by decide +kernel
theorem dX6_done_153 : decode cX6_done 153 = .ok (.aload_n 0, 1) := by decide +kernel
theorem dX6_done_154 : decode cX6_done 154 = .ok (.aload_n 0, 1) := by decide +kernel
theorem dX6_done_155 : decode cX6_done 155 = .ok (.getfield 218, 3) := by decide +kernel
theorem dX6_done_158 : decode cX6_done 158 = .ok (.iload_n 1, 1) := by decide +kernel
theorem dX6_done_159 : decode cX6_done 159 = .ok (.bipush 10, 2) := by decide +kernel
theorem dX6_done_161 : decode cX6_done 161 = .ok (.if_icmp .ne 7, 3) := by decide +kernel
theorem dX6_done_164 : decode cX6_done 164 = .ok (.iconst 0, 1) := by decide +kernel
theorem dX6_done_165 : decode cX6_done 165 = .ok (.goto 4, 3) := by decide +kernel
theorem dX6_done_168 : decode cX6_done 168 = .ok (.iconst 2, 1) := by decide +kernel
theorem dX6_done_169 : decode cX6_done 169 = .ok (.aload_n 0, 1) := by decide +kernel
theorem dX6_done_170 : decode cX6_done 170 = .ok (.getfield 218, 3) := by decide +kernel
theorem dX6_done_173 : decode cX6_done 173 = .ok (.invokevirtual 150, 3) := by decide +kernel
theorem dX6_done_176 : decode cX6_done 176 = .ok (.ireturn, 1) := by decide +kernel
theorem dX6_goesThrough_0 : decode cX6_goesThrough 0 = .ok (.iconst 0, 1) := by decide +kernel
theorem dX6_goesThrough_1 : decode cX6_goesThrough 1 = .ok (.istore_n 2, 1) := by decide +kernel
theorem dX6_goesThrough_2 : decode cX6_goesThrough 2 = .ok (.aload_n 0, 1) := by decide +kernel
theorem dX6_goesThrough_3 : decode cX6_goesThrough 3 = .ok (.iconst 0, 1) := by decide +kernel
theorem dX6_goesThrough_4 : decode cX6_goesThrough 4 = .ok (.putfield 200, 3) := by decide +kernel
theorem dX6_goesThrough_7 : decode cX6_goesThrough 7 = .ok (.aload_n 0, 1) := by decide +kernel
theorem dX6_goesThrough_8 : decode cX6_goesThrough 8 = .ok (.invokevirtual 206, 3) := by decide +kernel
theorem dX6_goesThrough_11 : decode cX6_goesThrough 11 = .ok (.aload_n 0, 1) := by decide +kernel
theorem dX6_goesThrough_12 : decode cX6_goesThrough 12 = .ok (.getfield 200, 3) := by decide +kernel
theorem dX6_goesThrough_15 : decode cX6_goesThrough 15 = .ok (.aload_n 0, 1) := by decide +kernel
theorem dX6_goesThrough_16 : decode cX6_goesThrough 16 = .ok (.getfield 197, 3) := by decide +kernel
theorem dX6_goesThrough_19 : decode cX6_goesThrough 19 = .ok (.if_icmp .lt 7, 3) := by decide +kernel
theorem dX6_goesThrough_22 : decode cX6_goesThrough 22 = .ok (.iload_n 2, 1) := by decide +kernel
theorem dX6_goesThrough_23 : decode cX6_goesThrough 23 = .ok (.ifCond .ne 49, 3) := by decide +kernel
theorem dX6_goesThrough_26 : decode cX6_goesThrough 26 = .ok (.aload_n 0, 1) := by decide +kernel
theorem dX6_goesThrough_27 : decode cX6_goesThrough 27 = .ok (.invokevirtual 225, 3) := by decide +kernel
theorem dX6_goesThrough_30 : decode cX6_goesThrough 30 = .ok (.istore_n 3, 1) := by decide +kernel
theorem dX6_goesThrough_31 : decode cX6_goesThrough 31 = .ok (.iload_n 3, 1) := by decide +kernel
theorem dX6_goesThrough_32 : decode cX6_goesThrough 32 = .ok (.ifCond .ge 7, 3) := by decide +kernel
theorem dX6_goesThrough_35 : decode cX6_goesThrough 35 = .ok (.sipush (-201), 3) := by decide +kernel
theorem dX6_goesThrough_38 : decode cX6_goesThrough 38 = .ok (.ireturn, 1) := by decide +kernel
theorem dX6_goesThrough_39 : decode cX6_goesThrough 39 = .ok (.iload_n 1, 1) := by decide +kernel
theorem dX6_goesThrough_40 : decode cX6_goesThrough 40 = .ok (.ifCond .eq 11, 3) := by decide +kernel
theorem dX6_goesThrough_43 : decode cX6_goesThrough 43 = .ok (.aload_n 0, 1) := by decide +kernel
theorem dX6_goesThrough_44 : decode cX6_goesThrough 44 = .ok (.iload_n 3, 1) := by decide +kernel
theorem dX6_goesThrough_45 : decode cX6_goesThrough 45 = .ok (.invokevirtual 228, 3) := by decide +kernel
theorem dX6_goesThrough_48 : decode cX6_goesThrough 48 = .ok (.goto 4, 3) := by decide +kernel
theorem dX6_goesThrough_51 : decode cX6_goesThrough 51 = .ok (.iconst 0, 1) := by decide +kernel
theorem dX6_goesThrough_52 : decode cX6_goesThrough 52 = .ok (.istore 4, 2) := by decide +kernel
theorem dX6_goesThrough_54 : decode cX6_goesThrough 54 = .ok (.iload 4, 2) := by decide +kernel
theorem dX6_goesThrough_56 : decode cX6_goesThrough 56 = .ok (.ifCond .ge 6, 3) := by decide +kernel
theorem dX6_goesThrough_59 : decode cX6_goesThrough 59 = .ok (.iload 4, 2) := by decide +kernel
theorem dX6_goesThrough_61 : decode cX6_goesThrough 61 = .ok (.ireturn, 1) := by decide +kernel
theorem dX6_goesThrough_62 : decode cX6_goesThrough 62 = .ok (.iinc 2 1, 3) := by decide +kernel
theorem dX6_goesThrough_65 : decode cX6_goesThrough 65 = .ok (.aload_n 0, 1) := by decide +kernel
theorem dX6_goesThrough_66 : decode cX6_goesThrough 66 = .ok (.invokevirtual 206, 3) := by decide +kernel
theorem dX6_goesThrough_69 : decode cX6_goesThrough 69 = .ok (.goto (-58), 3) := by decide +kernel
theorem dX6_goesThrough_72 : decode cX6_goesThrough 72 = .ok (.iload_n 2, 1) := by decide +kernel
theorem dX6_goesThrough_73 : decode cX6_goesThrough 73 = .ok (.ireturn, 1) := by decide +kernel
theorem dX6_does_0 : decode cX6_does 0 = .ok (.aload_n 0, 1) := by decide +kernel
theorem dX6_does_1 : decode cX6_does 1 = .ok (.iconst 0, 1) := by decide +kernel
theorem dX6_does_2 : decode cX6_does 2 = .ok (.invokevirtual 231, 3) := by decide +kernel
theorem dX6_does_5 : decode cX6_does 5 = .ok (.sipush (-201), 3) := by decide +kernel
theorem dX6_does_8 : decode cX6_does 8 = .ok (.if_icmp .ne 12, 3) := by decide +kernel
theorem dX6_does_11 : decode cX6_does 11 = .ok (.sipush (-300), 3) := by decide +kernel
theorem dX6_does_14 : decode cX6_does 14 = .ok (.aload_n 0, 1) := by decide +kernel
theorem dX6_does_15 : decode cX6_does 15 = .ok (.getfield 200, 3) := by decide +kernel
theorem dX6_does_18 : decode cX6_does 18 = .ok (.isub, 1) := by decide +kernel
theorem dX6_does_19 : decode cX6_does 19 = .ok (.ireturn, 1) := by decide +kernel
theorem dX6_does_20 : decode cX6_does 20 = .ok (.iconst 0, 1) := by decide +kernel
theorem dX6_does_21 : decode cX6_does 21 = .ok (.istore_n 1, 1) := by decide +kernel
theorem dX6_does_22 : decode cX6_does 22 = .ok (.iload_n 1, 1) := by decide +kernel
theorem dX6_does_23 : decode cX6_does 23 = .ok (.iconst 5, 1) := by decide +kernel
theorem dX6_does_24 : decode cX6_does 24 = .ok (.if_icmp .ge 18, 3) := by decide +kernel
theorem dX6_does_27 : decode cX6_does 27 = .ok (.aload_n 0, 1) := by decide +kernel
theorem dX6_does_28 : decode cX6_does 28 = .ok (.iload_n 1, 1) := by decide +kernel
theorem dX6_does_29 : decode cX6_does 29 = .ok (.bipush 8, 2) := by decide +kernel
theorem dX6_does_31 : decode cX6_does 31 = .ok (.iload_n 1, 1) := by decide +kernel
theorem dX6_does_32 : decode cX6_does 32 = .ok (.iadd, 1) := by decide +kernel
theorem dX6_does_33 : decode cX6_does 33 = .ok (.invokevirtual 97, 3) := by decide +kernel
theorem dX6_does_36 : decode cX6_does 36 = .ok (.iinc 1 1, 3) := by decide +kernel
theorem dX6_does_39 : decode cX6_does 39 = .ok (.goto (-17), 3) := by decide +kernel
theorem dX6_does_42 : decode cX6_does 42 = .ok (.aload_n 0, 1) := by decide +kernel
theorem dX6_does_43 : decode cX6_does 43 = .ok (.iconst 1, 1) := by decide +kernel
theorem dX6_does_44 : decode cX6_does 44 = .ok (.invokevirtual 231, 3) := by decide +kernel
theorem dX6_does_47 : decode cX6_does 47 = .ok (.istore_n 1, 1) := by decide +kernel
theorem dX6_does_48 : decode cX6_does 48 = .ok (.iload_n 1, 1) := by decide +kernel
theorem dX6_does_49 : decode cX6_does 49 = .ok (.ifCond .ge 25, 3) := by decide +kernel
theorem dX6_does_52 : decode cX6_does 52 = .ok (.iconst 0, 1) := by decide +kernel
theorem dX6_does_53 : decode cX6_does 53 = .ok (.istore_n 2, 1) := by decide +kernel
theorem dX6_does_54 : decode cX6_does 54 = .ok (.iload_n 2, 1) := by decide +kernel
theorem dX6_does_55 : decode cX6_does 55 = .ok (.iconst 5, 1) := by decide +kernel
theorem dX6_does_56 : decode cX6_does 56 = .ok (.if_icmp .ge 18, 3) := by decide +kernel
theorem dX6_does_59 : decode cX6_does 59 = .ok (.aload_n 0, 1) := by decide +kernel
theorem dX6_does_60 : decode cX6_does 60 = .ok (.bipush 8, 2) := by decide +kernel
theorem dX6_does_62 : decode cX6_does 62 = .ok (.iload_n 2, 1) := by decide +kernel
theorem dX6_does_63 : decode cX6_does 63 = .ok (.iadd, 1) := by decide +kernel
theorem dX6_does_64 : decode cX6_does 64 = .ok (.iload_n 2, 1) := by decide +kernel
theorem dX6_does_65 : decode cX6_does 65 = .ok (.invokevirtual 97, 3) := by decide +kernel
theorem dX6_does_68 : decode cX6_does 68 = .ok (.iinc 2 1, 3) := by decide +kernel
theorem dX6_does_71 : decode cX6_does 71 = .ok (.goto (-17), 3) := by decide +kernel
theorem dX6_does_74 : decode cX6_does 74 = .ok (.aload_n 0, 1) := by decide +kernel
theorem dX6_does_75 : decode cX6_does 75 = .ok (.iload_n 1, 1) := by decide +kernel
theorem dX6_does_76 : decode cX6_does 76 = .ok (.invokevirtual 136, 3) := by decide +kernel
theorem dX6_does_79 : decode cX6_does 79 = .ok (.ireturn, 1) := by decide +kernel
theorem dX6_writing_0 : decode cX6_writing 0 = .ok (.iload_n 1, 1) := by decide +kernel
theorem dX6_writing_1 : decode cX6_writing 1 = .ok (.invokestatic 129, 3) := by decide +kernel
theorem dX6_writing_4 : decode cX6_writing 4 = .ok (.ifCond .eq 8, 3) := by decide +kernel
theorem dX6_writing_7 : decode cX6_writing 7 = .ok (.iload_n 2, 1) := by decide +kernel
theorem dX6_writing_8 : decode cX6_writing 8 = .ok (.iconst (-1), 1) := by decide +kernel
theorem dX6_writing_9 : decode cX6_writing 9 = .ok (.if_icmp .ge 11, 3) := by decide +kernel
theorem dX6_writing_12 : decode cX6_writing 12 = .ok (.aload_n 0, 1) := by decide +kernel
theorem dX6_writing_13 : decode cX6_writing 13 = .ok (.sipush (-202), 3) := by decide +kernel
theorem dX6_writing_16 : decode cX6_writing 16 = .ok (.invokevirtual 105, 3) := by decide +kernel
theorem dX6_writing_19 : decode cX6_writing 19 = .ok (.ireturn, 1) := by decide +kernel
theorem dX6_writing_20 : decode cX6_writing 20 = .ok (.aload_n 0, 1) := by decide +kernel
theorem dX6_writing_21 : decode cX6_writing 21 = .ok (.iload_n 1, 1) := by decide +kernel
theorem dX6_writing_22 : decode cX6_writing 22 = .ok (.iconst 0, 1) := by decide +kernel
theorem dX6_writing_23 : decode cX6_writing 23 = .ok (.iconst 0, 1) := by decide +kernel
theorem dX6_writing_24 : decode cX6_writing 24 = .ok (.iload_n 2, 1) := by decide +kernel
theorem dX6_writing_25 : decode cX6_writing 25 = .ok (.invokevirtual 94, 3) := by decide +kernel
theorem dX6_writing_28 : decode cX6_writing 28 = .ok (.iload_n 2, 1) := by decide +kernel
theorem dX6_writing_29 : decode cX6_writing 29 = .ok (.iconst (-1), 1) := by decide +kernel
theorem dX6_writing_30 : decode cX6_writing 30 = .ok (.if_icmp .ne 10, 3) := by decide +kernel
theorem dX6_writing_33 : decode cX6_writing 33 = .ok (.aload_n 0, 1) := by decide +kernel
theorem dX6_writing_34 : decode cX6_writing 34 = .ok (.getfield 45, 3) := by decide +kernel
theorem dX6_writing_37 : decode cX6_writing 37 = .ok (.goto 7, 3) := by decide +kernel
theorem dX6_writing_40 : decode cX6_writing 40 = .ok (.aload_n 0, 1) := by decide +kernel
theorem dX6_writing_41 : decode cX6_writing 41 = .ok (.getfield 52, 3) := by decide +kernel
theorem dX6_writing_44 : decode cX6_writing 44 = .ok (.ireturn, 1) := by decide +kernel
theorem dX6_markOf_0 : decode cX6_markOf 0 = .ok (.aload_n 0, 1) := by decide +kernel
theorem dX6_markOf_1 : decode cX6_markOf 1 = .ok (.iload_n 1, 1) := by decide +kernel
theorem dX6_markOf_2 : decode cX6_markOf 2 = .ok (.iconst 0, 1) := by decide +kernel
theorem dX6_markOf_3 : decode cX6_markOf 3 = .ok (.iconst 0, 1) := by decide +kernel
theorem dX6_markOf_4 : decode cX6_markOf 4 = .ok (.iconst 0, 1) := by decide +kernel
theorem dX6_markOf_5 : decode cX6_markOf 5 = .ok (.invokevirtual 94, 3) := by decide +kernel
theorem dX6_markOf_8 : decode cX6_markOf 8 = .ok (.aload_n 0, 1) := by decide +kernel
theorem dX6_markOf_9 : decode cX6_markOf 9 = .ok (.getfield 55, 3) := by decide +kernel
theorem dX6_markOf_12 : decode cX6_markOf 12 = .ok (.ireturn, 1) := by decide +kernel
theorem dX6_mark_0 : decode cX6_mark 0 = .ok (.iload_n 1, 1) := by decide +kernel
theorem dX6_mark_1 : decode cX6_mark 1 = .ok (.invokestatic 129, 3) := by decide +kernel
theorem dX6_mark_4 : decode cX6_mark 4 = .ok (.ifCond .eq 11, 3) := by decide +kernel
theorem dX6_mark_7 : decode cX6_mark 7 = .ok (.aload_n 0, 1) := by decide +kernel
theorem dX6_mark_8 : decode cX6_mark 8 = .ok (.iload_n 1, 1) := by decide +kernel
theorem dX6_mark_9 : decode cX6_mark 9 = .ok (.invokevirtual 235, 3) := by decide +kernel
theorem dX6_mark_12 : decode cX6_mark 12 = .ok (.goto 10, 3) := by decide +kernel
theorem dX6_mark_15 : decode cX6_mark 15 = .ok (.aload_n 0, 1) := by decide +kernel
theorem dX6_mark_16 : decode cX6_mark 16 = .ok (.sipush (-202), 3) := by decide +kernel
theorem dX6_mark_19 : decode cX6_mark 19 = .ok (.invokevirtual 105, 3) := by decide +kernel
theorem dX6_mark_22 : decode cX6_mark 22 = .ok (.ireturn, 1) := by decide +kernel
theorem dX6_toldOf_0 : decode cX6_toldOf 0 = .ok (.iconst 0, 1) := by decide +kernel
theorem dX6_toldOf_1 : decode cX6_toldOf 1 = .ok (.istore_n 2, 1) := by decide +kernel
theorem dX6_toldOf_2 : decode cX6_toldOf 2 = .ok (.iload_n 1, 1) := by decide +kernel
theorem dX6_toldOf_3 : decode cX6_toldOf 3 = .ok (.tableswitch 50 0 4 #[33, 33, 33, 40, 45], 33) := by decide +kernel
theorem dX6_toldOf_36 : decode cX6_toldOf 36 = .ok (.aload_n 0, 1) := by decide +kernel
theorem dX6_toldOf_37 : decode cX6_toldOf 37 = .ok (.getfield 13, 3) := by decide +kernel
theorem dX6_toldOf_40 : decode cX6_toldOf 40 = .ok (.iload_n 1, 1) := by decide +kernel
theorem dX6_toldOf_41 : decode cX6_toldOf 41 = .ok (.iaload, 1) := by decide +kernel
theorem dX6_toldOf_42 : decode cX6_toldOf 42 = .ok (.ireturn, 1) := by decide +kernel
theorem dX6_toldOf_43 : decode cX6_toldOf 43 = .ok (.aload_n 0, 1) := by decide +kernel
theorem dX6_toldOf_44 : decode cX6_toldOf 44 = .ok (.getfield 197, 3) := by decide +kernel
theorem dX6_toldOf_47 : decode cX6_toldOf 47 = .ok (.ireturn, 1) := by decide +kernel
theorem dX6_toldOf_48 : decode cX6_toldOf 48 = .ok (.aload_n 0, 1) := by decide +kernel
theorem dX6_toldOf_49 : decode cX6_toldOf 49 = .ok (.getfield 156, 3) := by decide +kernel
theorem dX6_toldOf_52 : decode cX6_toldOf 52 = .ok (.ireturn, 1) := by decide +kernel
theorem dX6_toldOf_53 : decode cX6_toldOf 53 = .ok (.iconst 0, 1) := by decide +kernel
theorem dX6_toldOf_54 : decode cX6_toldOf 54 = .ok (.istore_n 3, 1) := by decide +kernel
theorem dX6_toldOf_55 : decode cX6_toldOf 55 = .ok (.iload_n 3, 1) := by decide +kernel
theorem dX6_toldOf_56 : decode cX6_toldOf 56 = .ok (.iconst 5, 1) := by decide +kernel
theorem dX6_toldOf_57 : decode cX6_toldOf 57 = .ok (.if_icmp .ge 17, 3) := by decide +kernel
theorem dX6_toldOf_60 : decode cX6_toldOf 60 = .ok (.iload_n 2, 1) := by decide +kernel
theorem dX6_toldOf_61 : decode cX6_toldOf 61 = .ok (.aload_n 0, 1) := by decide +kernel
theorem dX6_toldOf_62 : decode cX6_toldOf 62 = .ok (.iload_n 3, 1) := by decide +kernel
theorem dX6_toldOf_63 : decode cX6_toldOf 63 = .ok (.invokevirtual 101, 3) := by decide +kernel
theorem dX6_toldOf_66 : decode cX6_toldOf 66 = .ok (.iadd, 1) := by decide +kernel
theorem dX6_toldOf_67 : decode cX6_toldOf 67 = .ok (.istore_n 2, 1) := by decide +kernel
theorem dX6_toldOf_68 : decode cX6_toldOf 68 = .ok (.iinc 3 1, 3) := by decide +kernel
theorem dX6_toldOf_71 : decode cX6_toldOf 71 = .ok (.goto (-16), 3) := by decide +kernel
theorem dX6_toldOf_74 : decode cX6_toldOf 74 = .ok (.iload_n 2, 1) := by decide +kernel
theorem dX6_toldOf_75 : decode cX6_toldOf 75 = .ok (.ireturn, 1) := by decide +kernel
theorem dX6_told_0 : decode cX6_told 0 = .ok (.iload_n 1, 1) := by decide +kernel
theorem dX6_told_1 : decode cX6_told 1 = .ok (.iconst 0, 1) := by decide +kernel
theorem dX6_told_2 : decode cX6_told 2 = .ok (.iconst 5, 1) := by decide +kernel
theorem dX6_told_3 : decode cX6_told 3 = .ok (.invokestatic 33, 3) := by decide +kernel
theorem dX6_told_6 : decode cX6_told 6 = .ok (.ifCond .eq 11, 3) := by decide +kernel
theorem dX6_told_9 : decode cX6_told 9 = .ok (.aload_n 0, 1) := by decide +kernel
theorem dX6_told_10 : decode cX6_told 10 = .ok (.iload_n 1, 1) := by decide +kernel
theorem dX6_told_11 : decode cX6_told 11 = .ok (.invokevirtual 238, 3) := by decide +kernel
theorem dX6_told_14 : decode cX6_told 14 = .ok (.goto 10, 3) := by decide +kernel
theorem dX6_told_17 : decode cX6_told 17 = .ok (.aload_n 0, 1) := by decide +kernel
theorem dX6_told_18 : decode cX6_told 18 = .ok (.sipush (-202), 3) := by decide +kernel
theorem dX6_told_21 : decode cX6_told 21 = .ok (.invokevirtual 105, 3) := by decide +kernel
theorem dX6_told_24 : decode cX6_told 24 = .ok (.ireturn, 1) := by decide +kernel
theorem dX6_digest_0 : decode cX6_digest 0 = .ok (.ldc2_w 241, 3) := by decide +kernel
theorem dX6_digest_3 : decode cX6_digest 3 = .ok (.lstore_n 1, 1) := by decide +kernel
theorem dX6_digest_4 : decode cX6_digest 4 = .ok (.iconst 0, 1) := by decide +kernel
theorem dX6_digest_5 : decode cX6_digest 5 = .ok (.istore_n 3, 1) := by decide +kernel
theorem dX6_digest_6 : decode cX6_digest 6 = .ok (.iload_n 3, 1) := by decide +kernel
theorem dX6_digest_7 : decode cX6_digest 7 = .ok (.bipush 6, 2) := by decide +kernel
theorem dX6_digest_9 : decode cX6_digest 9 = .ok (.if_icmp .ge 22, 3) := by decide +kernel
theorem dX6_digest_12 : decode cX6_digest 12 = .ok (.ldc2_w 243, 3) := by decide +kernel
theorem dX6_digest_15 : decode cX6_digest 15 = .ok (.lload_n 1, 1) := by decide +kernel
theorem dX6_digest_16 : decode cX6_digest 16 = .ok (.lmul, 1) := by decide +kernel
theorem dX6_digest_17 : decode cX6_digest 17 = .ok (.aload_n 0, 1) := by decide +kernel
theorem dX6_digest_18 : decode cX6_digest 18 = .ok (.iload_n 3, 1) := by decide +kernel
theorem dX6_digest_19 : decode cX6_digest 19 = .ok (.invokevirtual 238, 3) := by decide +kernel
theorem dX6_digest_22 : decode cX6_digest 22 = .ok (.i2l, 1) := by decide +kernel
theorem dX6_digest_23 : decode cX6_digest 23 = .ok (.ladd, 1) := by decide +kernel
theorem dX6_digest_24 : decode cX6_digest 24 = .ok (.lstore_n 1, 1) := by decide +kernel
theorem dX6_digest_25 : decode cX6_digest 25 = .ok (.iinc 3 1, 3) := by decide +kernel
theorem dX6_digest_28 : decode cX6_digest 28 = .ok (.goto (-22), 3) := by decide +kernel
theorem dX6_digest_31 : decode cX6_digest 31 = .ok (.iconst 0, 1) := by decide +kernel
theorem dX6_digest_32 : decode cX6_digest 32 = .ok (.istore_n 3, 1) := by decide +kernel
theorem dX6_digest_33 : decode cX6_digest 33 = .ok (.iload_n 3, 1) := by decide +kernel
theorem dX6_digest_34 : decode cX6_digest 34 = .ok (.iconst 5, 1) := by decide +kernel
theorem dX6_digest_35 : decode cX6_digest 35 = .ok (.if_icmp .ge 63, 3) := by decide +kernel
theorem dX6_digest_38 : decode cX6_digest 38 = .ok (.aload_n 0, 1) := by decide +kernel
theorem dX6_digest_39 : decode cX6_digest 39 = .ok (.iload_n 3, 1) := by decide +kernel
theorem dX6_digest_40 : decode cX6_digest 40 = .ok (.invokevirtual 235, 3) := by decide +kernel
theorem dX6_digest_43 : decode cX6_digest 43 = .ok (.istore 4, 2) := by decide +kernel
theorem dX6_digest_45 : decode cX6_digest 45 = .ok (.ldc2_w 243, 3) := by decide +kernel
theorem dX6_digest_48 : decode cX6_digest 48 = .ok (.lload_n 1, 1) := by decide +kernel
theorem dX6_digest_49 : decode cX6_digest 49 = .ok (.lmul, 1) := by decide +kernel
theorem dX6_digest_50 : decode cX6_digest 50 = .ok (.aload_n 0, 1) := by decide +kernel
theorem dX6_digest_51 : decode cX6_digest 51 = .ok (.iload_n 3, 1) := by decide +kernel
theorem dX6_digest_52 : decode cX6_digest 52 = .ok (.invokevirtual 101, 3) := by decide +kernel
theorem dX6_digest_55 : decode cX6_digest 55 = .ok (.i2l, 1) := by decide +kernel
theorem dX6_digest_56 : decode cX6_digest 56 = .ok (.ladd, 1) := by decide +kernel
theorem dX6_digest_57 : decode cX6_digest 57 = .ok (.lstore_n 1, 1) := by decide +kernel
theorem dX6_digest_58 : decode cX6_digest 58 = .ok (.ldc2_w 243, 3) := by decide +kernel
theorem dX6_digest_61 : decode cX6_digest 61 = .ok (.lload_n 1, 1) := by decide +kernel
theorem dX6_digest_62 : decode cX6_digest 62 = .ok (.lmul, 1) := by decide +kernel
theorem dX6_digest_63 : decode cX6_digest 63 = .ok (.aload_n 0, 1) := by decide +kernel
theorem dX6_digest_64 : decode cX6_digest 64 = .ok (.getfield 81, 3) := by decide +kernel
theorem dX6_digest_67 : decode cX6_digest 67 = .ok (.i2l, 1) := by decide +kernel
theorem dX6_digest_68 : decode cX6_digest 68 = .ok (.ladd, 1) := by decide +kernel
theorem dX6_digest_69 : decode cX6_digest 69 = .ok (.lstore_n 1, 1) := by decide +kernel
theorem dX6_digest_70 : decode cX6_digest 70 = .ok (.ldc2_w 243, 3) := by decide +kernel
theorem dX6_digest_73 : decode cX6_digest 73 = .ok (.lload_n 1, 1) := by decide +kernel
theorem dX6_digest_74 : decode cX6_digest 74 = .ok (.lmul, 1) := by decide +kernel
theorem dX6_digest_75 : decode cX6_digest 75 = .ok (.aload_n 0, 1) := by decide +kernel
theorem dX6_digest_76 : decode cX6_digest 76 = .ok (.getfield 68, 3) := by decide +kernel
theorem dX6_digest_79 : decode cX6_digest 79 = .ok (.i2l, 1) := by decide +kernel
theorem dX6_digest_80 : decode cX6_digest 80 = .ok (.ladd, 1) := by decide +kernel
theorem dX6_digest_81 : decode cX6_digest 81 = .ok (.lstore_n 1, 1) := by decide +kernel
theorem dX6_digest_82 : decode cX6_digest 82 = .ok (.ldc2_w 243, 3) := by decide +kernel
theorem dX6_digest_85 : decode cX6_digest 85 = .ok (.lload_n 1, 1) := by decide +kernel
theorem dX6_digest_86 : decode cX6_digest 86 = .ok (.lmul, 1) := by decide +kernel
theorem dX6_digest_87 : decode cX6_digest 87 = .ok (.iload 4, 2) := by decide +kernel
theorem dX6_digest_89 : decode cX6_digest 89 = .ok (.i2l, 1) := by decide +kernel
theorem dX6_digest_90 : decode cX6_digest 90 = .ok (.ladd, 1) := by decide +kernel
theorem dX6_digest_91 : decode cX6_digest 91 = .ok (.lstore_n 1, 1) := by decide +kernel
theorem dX6_digest_92 : decode cX6_digest 92 = .ok (.iinc 3 1, 3) := by decide +kernel
theorem dX6_digest_95 : decode cX6_digest 95 = .ok (.goto (-62), 3) := by decide +kernel
theorem dX6_digest_98 : decode cX6_digest 98 = .ok (.lload_n 1, 1) := by decide +kernel
theorem dX6_digest_99 : decode cX6_digest 99 = .ok (.lreturn, 1) := by decide +kernel
