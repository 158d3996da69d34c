theorem dX8_init_0 : decode cX8_init 0 = .ok (.aload_n 0, 1) := by decide +kernel
theorem dX8_init_1 : decode cX8_init 1 = .ok (.invokespecial 1, 3) := by decide +kernel
theorem dX8_init_4 : decode cX8_init 4 = .ok (.aload_n 0, 1) := by decide +kernel
theorem dX8_init_5 : decode cX8_init 5 = .ok (.sipush 320, 3) := by decide +kernel
theorem dX8_init_8 : decode cX8_init 8 = .ok (.newarray .int, 2) := by decide +kernel
theorem dX8_init_10 : decode cX8_init 10 = .ok (.putfield 7, 3) := by decide +kernel
theorem dX8_init_13 : decode cX8_init 13 = .ok (.aload_n 0, 1) := by decide +kernel
theorem dX8_init_14 : decode cX8_init 14 = .ok (.bipush 9, 2) := by decide +kernel
theorem dX8_init_16 : decode cX8_init 16 = .ok (.newarray .int, 2) := by decide +kernel
theorem dX8_init_18 : decode cX8_init 18 = .ok (.dup, 1) := by decide +kernel
theorem dX8_init_19 : decode cX8_init 19 = .ok (.iconst 0, 1) := by decide +kernel
theorem dX8_init_20 : decode cX8_init 20 = .ok (.iconst 0, 1) := by decide +kernel
theorem dX8_init_21 : decode cX8_init 21 = .ok (.iastore, 1) := by decide +kernel
theorem dX8_init_22 : decode cX8_init 22 = .ok (.dup, 1) := by decide +kernel
theorem dX8_init_23 : decode cX8_init 23 = .ok (.iconst 1, 1) := by decide +kernel
theorem dX8_init_24 : decode cX8_init 24 = .ok (.iconst 5, 1) := by decide +kernel
theorem dX8_init_25 : decode cX8_init 25 = .ok (.iastore, 1) := by decide +kernel
theorem dX8_init_26 : decode cX8_init 26 = .ok (.dup, 1) := by decide +kernel
theorem dX8_init_27 : decode cX8_init 27 = .ok (.iconst 2, 1) := by decide +kernel
theorem dX8_init_28 : decode cX8_init 28 = .ok (.bipush 9, 2) := by decide +kernel
theorem dX8_init_30 : decode cX8_init 30 = .ok (.iastore, 1) := by decide +kernel
theorem dX8_init_31 : decode cX8_init 31 = .ok (.dup, 1) := by decide +kernel
theorem dX8_init_32 : decode cX8_init 32 = .ok (.iconst 3, 1) := by decide +kernel
theorem dX8_init_33 : decode cX8_init 33 = .ok (.bipush 13, 2) := by decide +kernel
theorem dX8_init_35 : decode cX8_init 35 = .ok (.iastore, 1) := by decide +kernel
theorem dX8_init_36 : decode cX8_init 36 = .ok (.dup, 1) := by decide +kernel
theorem dX8_init_37 : decode cX8_init 37 = .ok (.iconst 4, 1) := by decide +kernel
theorem dX8_init_38 : decode cX8_init 38 = .ok (.bipush 18, 2) := by decide +kernel
theorem dX8_init_40 : decode cX8_init 40 = .ok (.iastore, 1) := by decide +kernel
theorem dX8_init_41 : decode cX8_init 41 = .ok (.dup, 1) := by decide +kernel
theorem dX8_init_42 : decode cX8_init 42 = .ok (.iconst 5, 1) := by decide +kernel
theorem dX8_init_43 : decode cX8_init 43 = .ok (.bipush 22, 2) := by decide +kernel
theorem dX8_init_45 : decode cX8_init 45 = .ok (.iastore, 1) := by decide +kernel
theorem dX8_init_46 : decode cX8_init 46 = .ok (.dup, 1) := by decide +kernel
theorem dX8_init_47 : decode cX8_init 47 = .ok (.bipush 6, 2) := by decide +kernel
theorem dX8_init_49 : decode cX8_init 49 = .ok (.bipush 26, 2) := by decide +kernel
theorem dX8_init_51 : decode cX8_init 51 = .ok (.iastore, 1) := by decide +kernel
theorem dX8_init_52 : decode cX8_init 52 = .ok (.dup, 1) := by decide +kernel
theorem dX8_init_53 : decode cX8_init 53 = .ok (.bipush 7, 2) := by decide +kernel
theorem dX8_init_55 : decode cX8_init 55 = .ok (.bipush 31, 2) := by decide +kernel
theorem dX8_init_57 : decode cX8_init 57 = .ok (.iastore, 1) := by decide +kernel
theorem dX8_init_58 : decode cX8_init 58 = .ok (.dup, 1) := by decide +kernel
theorem dX8_init_59 : decode cX8_init 59 = .ok (.bipush 8, 2) := by decide +kernel
theorem dX8_init_61 : decode cX8_init 61 = .ok (.bipush 34, 2) := by decide +kernel
theorem dX8_init_63 : decode cX8_init 63 = .ok (.iastore, 1) := by decide +kernel
theorem dX8_init_64 : decode cX8_init 64 = .ok (.putfield 13, 3) := by decide +kernel
theorem dX8_init_67 : decode cX8_init 67 = .ok (.aload_n 0, 1) := by decide +kernel
theorem dX8_init_68 : decode cX8_init 68 = .ok (.bipush 34, 2) := by decide +kernel
theorem dX8_init_70 : decode cX8_init 70 = .ok (.newarray .int, 2) := by decide +kernel
theorem dX8_init_72 : decode cX8_init 72 = .ok (.dup, 1) := by decide +kernel
theorem dX8_init_73 : decode cX8_init 73 = .ok (.iconst 0, 1) := by decide +kernel
theorem dX8_init_74 : decode cX8_init 74 = .ok (.bipush 99, 2) := by decide +kernel
theorem dX8_init_76 : decode cX8_init 76 = .ok (.iastore, 1) := by decide +kernel
theorem dX8_init_77 : decode cX8_init 77 = .ok (.dup, 1) := by decide +kernel
theorem dX8_init_78 : decode cX8_init 78 = .ok (.iconst 1, 1) := by decide +kernel
theorem dX8_init_79 : decode cX8_init 79 = .ok (.bipush 104, 2) := by decide +kernel
theorem dX8_init_81 : decode cX8_init 81 = .ok (.iastore, 1) := by decide +kernel
theorem dX8_init_82 : decode cX8_init 82 = .ok (.dup, 1) := by decide +kernel
theorem dX8_init_83 : decode cX8_init 83 = .ok (.iconst 2, 1) := by decide +kernel
theorem dX8_init_84 : decode cX8_init 84 = .ok (.bipush 117, 2) := by decide +kernel
theorem dX8_init_86 : decode cX8_init 86 = .ok (.iastore, 1) := by decide +kernel
theorem dX8_init_87 : decode cX8_init 87 = .ok (.dup, 1) := by decide +kernel
theorem dX8_init_88 : decode cX8_init 88 = .ok (.iconst 3, 1) := by decide +kernel
theorem dX8_init_89 : decode cX8_init 89 = .ok (.bipush 114, 2) := by decide +kernel
theorem dX8_init_91 : decode cX8_init 91 = .ok (.iastore, 1) := by decide +kernel
theorem dX8_init_92 : decode cX8_init 92 = .ok (.dup, 1) := by decide +kernel
theorem dX8_init_93 : decode cX8_init 93 = .ok (.iconst 4, 1) := by decide +kernel
theorem dX8_init_94 : decode cX8_init 94 = .ok (.bipush 110, 2) := by decide +kernel
theorem dX8_init_96 : decode cX8_init 96 = .ok (.iastore, 1) := by decide +kernel
theorem dX8_init_97 : decode cX8_init 97 = .ok (.dup, 1) := by decide +kernel
theorem dX8_init_98 : decode cX8_init 98 = .ok (.iconst 5, 1) := by decide +kernel
theorem dX8_init_99 : decode cX8_init 99 = .ok (.bipush 115, 2) := by decide +kernel
theorem dX8_init_101 : decode cX8_init 101 = .ok (.iastore, 1) := by decide +kernel
theorem dX8_init_102 : decode cX8_init 102 = .ok (.dup, 1) := by decide +kernel
theorem dX8_init_103 : decode cX8_init 103 = .ok (.bipush 6, 2) := by decide +kernel
theorem dX8_init_105 : decode cX8_init 105 = .ok (.bipush 111, 2) := by decide +kernel
theorem dX8_init_107 : decode cX8_init 107 = .ok (.iastore, 1) := by decide +kernel
theorem dX8_init_108 : decode cX8_init 108 = .ok (.dup, 1) := by decide +kernel
theorem dX8_init_109 : decode cX8_init 109 = .ok (.bipush 7, 2) := by decide +kernel
theorem dX8_init_111 : decode cX8_init 111 = .ok (.bipush 102, 2) := by decide +kernel
theorem dX8_init_113 : decode cX8_init 113 = .ok (.iastore, 1) := by decide +kernel
theorem dX8_init_114 : decode cX8_init 114 = .ok (.dup, 1) := by decide +kernel
theorem dX8_init_115 : decode cX8_init 115 = .ok (.bipush 8, 2) := by decide +kernel
theorem dX8_init_117 : decode cX8_init 117 = .ok (.bipush 116, 2) := by decide +kernel
theorem dX8_init_119 : decode cX8_init 119 = .ok (.iastore, 1) := by decide +kernel
theorem dX8_init_120 : decode cX8_init 120 = .ok (.dup, 1) := by decide +kernel
theorem dX8_init_121 : decode cX8_init 121 = .ok (.bipush 9, 2) := by decide +kernel
theorem dX8_init_123 : decode cX8_init 123 = .ok (.bipush 98, 2) := by decide +kernel
theorem dX8_init_125 : decode cX8_init 125 = .ok (.iastore, 1) := by decide +kernel
theorem dX8_init_126 : decode cX8_init 126 = .ok (.dup, 1) := by decide +kernel
theorem dX8_init_127 : decode cX8_init 127 = .ok (.bipush 10, 2) := by decide +kernel
theorem dX8_init_129 : decode cX8_init 129 = .ok (.bipush 101, 2) := by decide +kernel
theorem dX8_init_131 : decode cX8_init 131 = .ok (.iastore, 1) := by decide +kernel
theorem dX8_init_132 : decode cX8_init 132 = .ok (.dup, 1) := by decide +kernel
theorem dX8_init_133 : decode cX8_init 133 = .ok (.bipush 11, 2) := by decide +kernel
theorem dX8_init_135 : decode cX8_init 135 = .ok (.bipush 97, 2) := by decide +kernel
theorem dX8_init_137 : decode cX8_init 137 = .ok (.iastore, 1) := by decide +kernel
theorem dX8_init_138 : decode cX8_init 138 = .ok (.dup, 1) := by decide +kernel
theorem dX8_init_139 : decode cX8_init 139 = .ok (.bipush 12, 2) := by decide +kernel
theorem dX8_init_141 : decode cX8_init 141 = .ok (.bipush 116, 2) := by decide +kernel
theorem dX8_init_143 : decode cX8_init 143 = .ok (.iastore, 1) := by decide +kernel
theorem dX8_init_144 : decode cX8_init 144 = .ok (.dup, 1) := by decide +kernel
theorem dX8_init_145 : decode cX8_init 145 = .ok (.bipush 13, 2) := by decide +kernel
theorem dX8_init_147 : decode cX8_init 147 = .ok (.bipush 103, 2) := by decide +kernel
theorem dX8_init_149 : decode cX8_init 149 = .ok (.iastore, 1) := by decide +kernel
theorem dX8_init_150 : decode cX8_init 150 = .ok (.dup, 1) := by decide +kernel
theorem dX8_init_151 : decode cX8_init 151 = .ok (.bipush 14, 2) := by decide +kernel
theorem dX8_init_153 : decode cX8_init 153 = .ok (.bipush 114, 2) := by decide +kernel
theorem dX8_init_155 : decode cX8_init 155 = .ok (.iastore, 1) := by decide +kernel
theorem dX8_init_156 : decode cX8_init 156 = .ok (.dup, 1) := by decide +kernel
theorem dX8_init_157 : decode cX8_init 157 = .ok (.bipush 15, 2) := by decide +kernel
theorem dX8_init_159 : decode cX8_init 159 = .ok (.bipush 97, 2) := by decide +kernel
theorem dX8_init_161 : decode cX8_init 161 = .ok (.iastore, 1) := by decide +kernel
theorem dX8_init_162 : decode cX8_init 162 = .ok (.dup, 1) := by decide +kernel
theorem dX8_init_163 : decode cX8_init 163 = .ok (.bipush 16, 2) := by decide +kernel
theorem dX8_init_165 : decode cX8_init 165 = .ok (.bipush 105, 2) := by decide +kernel
theorem dX8_init_167 : decode cX8_init 167 = .ok (.iastore, 1) := by decide +kernel
theorem dX8_init_168 : decode cX8_init 168 = .ok (.dup, 1) := by decide +kernel
theorem dX8_init_169 : decode cX8_init 169 = .ok (.bipush 17, 2) := by decide +kernel
theorem dX8_init_171 : decode cX8_init 171 = .ok (.bipush 110, 2) := by decide +kernel
theorem dX8_init_173 : decode cX8_init 173 = .ok (.iastore, 1) := by decide +kernel
theorem dX8_init_174 : decode cX8_init 174 = .ok (.dup, 1) := by decide +kernel
theorem dX8_init_175 : decode cX8_init 175 = .ok (.bipush 18, 2) := by decide +kernel
theorem dX8_init_177 : decode cX8_init 177 = .ok (.bipush 104, 2) := by decide +kernel
theorem dX8_init_179 : decode cX8_init 179 = .ok (.iastore, 1) := by decide +kernel
theorem dX8_init_180 : decode cX8_init 180 = .ok (.dup, 1) := by decide +kernel
theorem dX8_init_181 : decode cX8_init 181 = .ok (.bipush 19, 2) := by decide +kernel
theorem dX8_init_183 : decode cX8_init 183 = .ok (.bipush 101, 2) := by decide +kernel
theorem dX8_init_185 : decode cX8_init 185 = .ok (.iastore, 1) := by decide +kernel
theorem dX8_init_186 : decode cX8_init 186 = .ok (.dup, 1) := by decide +kernel
theorem dX8_init_187 : decode cX8_init 187 = .ok (.bipush 20, 2) := by decide +kernel
theorem dX8_init_189 : decode cX8_init 189 = .ok (.bipush 97, 2) := by decide +kernel
theorem dX8_init_191 : decode cX8_init 191 = .ok (.iastore, 1) := by decide +kernel
theorem dX8_init_192 : decode cX8_init 192 = .ok (.dup, 1) := by decide +kernel
theorem dX8_init_193 : decode cX8_init 193 = .ok (.bipush 21, 2) := by decide +kernel
theorem dX8_init_195 : decode cX8_init 195 = .ok (.bipush 116, 2) := by decide +kernel
theorem dX8_init_197 : decode cX8_init 197 = .ok (.iastore, 1) := by decide +kernel
theorem dX8_init_198 : decode cX8_init 198 = .ok (.dup, 1) := by decide +kernel
theorem dX8_init_199 : decode cX8_init 199 = .ok (.bipush 22, 2) := by decide +kernel
theorem dX8_init_201 : decode cX8_init 201 = .ok (.bipush 103, 2) := by decide +kernel
theorem dX8_init_203 : decode cX8_init 203 = .ok (.iastore, 1) := by decide +kernel
theorem dX8_init_204 : decode cX8_init 204 = .ok (.dup, 1) := by decide +kernel
theorem dX8_init_205 : decode cX8_init 205 = .ok (.bipush 23, 2) := by decide +kernel
theorem dX8_init_207 : decode cX8_init 207 = .ok (.bipush 111, 2) := by decide +kernel
theorem dX8_init_209 : decode cX8_init 209 = .ok (.iastore, 1) := by decide +kernel
theorem dX8_init_210 : decode cX8_init 210 = .ok (.dup, 1) := by decide +kernel
theorem dX8_init_211 : decode cX8_init 211 = .ok (.bipush 24, 2) := by decide +kernel
theorem dX8_init_213 : decode cX8_init 213 = .ok (.bipush 111, 2) := by decide +kernel
theorem dX8_init_215 : decode cX8_init 215 = .ok (.iastore, 1) := by decide +kernel
theorem dX8_init_216 : decode cX8_init 216 = .ok (.dup, 1) := by decide +kernel
theorem dX8_init_217 : decode cX8_init 217 = .ok (.bipush 25, 2) := by decide +kernel
theorem dX8_init_219 : decode cX8_init 219 = .ok (.bipush 100, 2) := by decide +kernel
theorem dX8_init_221 : decode cX8_init 221 = .ok (.iastore, 1) := by decide +kernel
theorem dX8_init_222 : decode cX8_init 222 = .ok (.dup, 1) := by decide +kernel
theorem dX8_init_223 : decode cX8_init 223 = .ok (.bipush 26, 2) := by decide +kernel
theorem dX8_init_225 : decode cX8_init 225 = .ok (.bipush 100, 2) := by decide +kernel
theorem dX8_init_227 : decode cX8_init 227 = .ok (.iastore, 1) := by decide +kernel
theorem dX8_init_228 : decode cX8_init 228 = .ok (.dup, 1) := by decide +kernel
theorem dX8_init_229 : decode cX8_init 229 = .ok (.bipush 27, 2) := by decide +kernel
theorem dX8_init_231 : decode cX8_init 231 = .ok (.bipush 114, 2) := by decide +kernel
theorem dX8_init_233 : decode cX8_init 233 = .ok (.iastore, 1) := by decide +kernel
theorem dX8_init_234 : decode cX8_init 234 = .ok (.dup, 1) := by decide +kernel
theorem dX8_init_235 : decode cX8_init 235 = .ok (.bipush 28, 2) := by decide +kernel
theorem dX8_init_237 : decode cX8_init 237 = .ok (.bipush 111, 2) := by decide +kernel
theorem dX8_init_239 : decode cX8_init 239 = .ok (.iastore, 1) := by decide +kernel
theorem dX8_init_240 : decode cX8_init 240 = .ok (.dup, 1) := by decide +kernel
theorem dX8_init_241 : decode cX8_init 241 = .ok (.bipush 29, 2) := by decide +kernel
theorem dX8_init_243 : decode cX8_init 243 = .ok (.bipush 112, 2) := by decide +kernel
theorem dX8_init_245 : decode cX8_init 245 = .ok (.iastore, 1) := by decide +kernel
theorem dX8_init_246 : decode cX8_init 246 = .ok (.dup, 1) := by decide +kernel
theorem dX8_init_247 : decode cX8_init 247 = .ok (.bipush 30, 2) := by decide +kernel
theorem dX8_init_249 : decode cX8_init 249 = .ok (.bipush 115, 2) := by decide +kernel
theorem dX8_init_251 : decode cX8_init 251 = .ok (.iastore, 1) := by decide +kernel
theorem dX8_init_252 : decode cX8_init 252 = .ok (.dup, 1) := by decide +kernel
theorem dX8_init_253 : decode cX8_init 253 = .ok (.bipush 31, 2) := by decide +kernel
theorem dX8_init_255 : decode cX8_init 255 = .ok (.bipush 99, 2) := by decide +kernel
theorem dX8_init_257 : decode cX8_init 257 = .ok (.iastore, 1) := by decide +kernel
theorem dX8_init_258 : decode cX8_init 258 = .ok (.dup, 1) := by decide +kernel
theorem dX8_init_259 : decode cX8_init 259 = .ok (.bipush 32, 2) := by decide +kernel
theorem dX8_init_261 : decode cX8_init 261 = .ok (.bipush 111, 2) := by decide +kernel
theorem dX8_init_263 : decode cX8_init 263 = .ok (.iastore, 1) := by decide +kernel
theorem dX8_init_264 : decode cX8_init 264 = .ok (.dup, 1) := by decide +kernel
theorem dX8_init_265 : decode cX8_init 265 = .ok (.bipush 33, 2) := by decide +kernel
theorem dX8_init_267 : decode cX8_init 267 = .ok (.bipush 119, 2) := by decide +kernel
theorem dX8_init_269 : decode cX8_init 269 = .ok (.iastore, 1) := by decide +kernel
theorem dX8_init_270 : decode cX8_init 270 = .ok (.putfield 16, 3) := by decide +kernel
theorem dX8_init_273 : decode cX8_init 273 = .ok (.aload_n 0, 1) := by decide +kernel
theorem dX8_init_274 : decode cX8_init 274 = .ok (.bipush 7, 2) := by decide +kernel
theorem dX8_init_276 : decode cX8_init 276 = .ok (.newarray .int, 2) := by decide +kernel
theorem dX8_init_278 : decode cX8_init 278 = .ok (.dup, 1) := by decide +kernel
theorem dX8_init_279 : decode cX8_init 279 = .ok (.iconst 0, 1) := by decide +kernel
theorem dX8_init_280 : decode cX8_init 280 = .ok (.iconst 0, 1) := by decide +kernel
theorem dX8_init_281 : decode cX8_init 281 = .ok (.iastore, 1) := by decide +kernel
theorem dX8_init_282 : decode cX8_init 282 = .ok (.dup, 1) := by decide +kernel
theorem dX8_init_283 : decode cX8_init 283 = .ok (.iconst 1, 1) := by decide +kernel
theorem dX8_init_284 : decode cX8_init 284 = .ok (.iconst 1, 1) := by decide +kernel
theorem dX8_init_285 : decode cX8_init 285 = .ok (.iastore, 1) := by decide +kernel
theorem dX8_init_286 : decode cX8_init 286 = .ok (.dup, 1) := by decide +kernel
theorem dX8_init_287 : decode cX8_init 287 = .ok (.iconst 2, 1) := by decide +kernel
theorem dX8_init_288 : decode cX8_init 288 = .ok (.iconst 3, 1) := by decide +kernel
theorem dX8_init_289 : decode cX8_init 289 = .ok (.iastore, 1) := by decide +kernel
theorem dX8_init_290 : decode cX8_init 290 = .ok (.dup, 1) := by decide +kernel
theorem dX8_init_291 : decode cX8_init 291 = .ok (.iconst 3, 1) := by decide +kernel
theorem dX8_init_292 : decode cX8_init 292 = .ok (.iconst 5, 1) := by decide +kernel
theorem dX8_init_293 : decode cX8_init 293 = .ok (.iastore, 1) := by decide +kernel
theorem dX8_init_294 : decode cX8_init 294 = .ok (.dup, 1) := by decide +kernel
theorem dX8_init_295 : decode cX8_init 295 = .ok (.iconst 4, 1) := by decide +kernel
theorem dX8_init_296 : decode cX8_init 296 = .ok (.bipush 6, 2) := by decide +kernel
theorem dX8_init_298 : decode cX8_init 298 = .ok (.iastore, 1) := by decide +kernel
theorem dX8_init_299 : decode cX8_init 299 = .ok (.dup, 1) := by decide +kernel
theorem dX8_init_300 : decode cX8_init 300 = .ok (.iconst 5, 1) := by decide +kernel
theorem dX8_init_301 : decode cX8_init 301 = .ok (.bipush 7, 2) := by decide +kernel
theorem dX8_init_303 : decode cX8_init 303 = .ok (.iastore, 1) := by decide +kernel
theorem dX8_init_304 : decode cX8_init 304 = .ok (.dup, 1) := by decide +kernel
theorem dX8_init_305 : decode cX8_init 305 = .ok (.bipush 6, 2) := by decide +kernel
theorem dX8_init_307 : decode cX8_init 307 = .ok (.bipush 9, 2) := by decide +kernel
theorem dX8_init_309 : decode cX8_init 309 = .ok (.iastore, 1) := by decide +kernel
theorem dX8_init_310 : decode cX8_init 310 = .ok (.putfield 19, 3) := by decide +kernel
theorem dX8_init_313 : decode cX8_init 313 = .ok (.aload_n 0, 1) := by decide +kernel
theorem dX8_init_314 : decode cX8_init 314 = .ok (.bipush 7, 2) := by decide +kernel
theorem dX8_init_316 : decode cX8_init 316 = .ok (.newarray .int, 2) := by decide +kernel
theorem dX8_init_318 : decode cX8_init 318 = .ok (.dup, 1) := by decide +kernel
theorem dX8_init_319 : decode cX8_init 319 = .ok (.iconst 0, 1) := by decide +kernel
theorem dX8_init_320 : decode cX8_init 320 = .ok (.iconst 0, 1) := by decide +kernel
theorem dX8_init_321 : decode cX8_init 321 = .ok (.iastore, 1) := by decide +kernel
theorem dX8_init_322 : decode cX8_init 322 = .ok (.dup, 1) := by decide +kernel
theorem dX8_init_323 : decode cX8_init 323 = .ok (.iconst 1, 1) := by decide +kernel
theorem dX8_init_324 : decode cX8_init 324 = .ok (.iconst 2, 1) := by decide +kernel
theorem dX8_init_325 : decode cX8_init 325 = .ok (.iastore, 1) := by decide +kernel
theorem dX8_init_326 : decode cX8_init 326 = .ok (.dup, 1) := by decide +kernel
theorem dX8_init_327 : decode cX8_init 327 = .ok (.iconst 2, 1) := by decide +kernel
theorem dX8_init_328 : decode cX8_init 328 = .ok (.iconst 4, 1) := by decide +kernel
theorem dX8_init_329 : decode cX8_init 329 = .ok (.iastore, 1) := by decide +kernel
theorem dX8_init_330 : decode cX8_init 330 = .ok (.dup, 1) := by decide +kernel
theorem dX8_init_331 : decode cX8_init 331 = .ok (.iconst 3, 1) := by decide +kernel
theorem dX8_init_332 : decode cX8_init 332 = .ok (.iconst 5, 1) := by decide +kernel
theorem dX8_init_333 : decode cX8_init 333 = .ok (.iastore, 1) := by decide +kernel
theorem dX8_init_334 : decode cX8_init 334 = .ok (.dup, 1) := by decide +kernel
theorem dX8_init_335 : decode cX8_init 335 = .ok (.iconst 4, 1) := by decide +kernel
theorem dX8_init_336 : decode cX8_init 336 = .ok (.bipush 6, 2) := by decide +kernel
theorem dX8_init_338 : decode cX8_init 338 = .ok (.iastore, 1) := by decide +kernel
theorem dX8_init_339 : decode cX8_init 339 = .ok (.dup, 1) := by decide +kernel
theorem dX8_init_340 : decode cX8_init 340 = .ok (.iconst 5, 1) := by decide +kernel
theorem dX8_init_341 : decode cX8_init 341 = .ok (.bipush 8, 2) := by decide +kernel
theorem dX8_init_343 : decode cX8_init 343 = .ok (.iastore, 1) := by decide +kernel
theorem dX8_init_344 : decode cX8_init 344 = .ok (.dup, 1) := by decide +kernel
theorem dX8_init_345 : decode cX8_init 345 = .ok (.bipush 6, 2) := by decide +kernel
theorem dX8_init_347 : decode cX8_init 347 = .ok (.bipush 12, 2) := by decide +kernel
theorem dX8_init_349 : decode cX8_init 349 = .ok (.iastore, 1) := by decide +kernel
theorem dX8_init_350 : decode cX8_init 350 = .ok (.putfield 22, 3) := by decide +kernel
theorem dX8_init_353 : decode cX8_init 353 = .ok (.aload_n 0, 1) := by decide +kernel
theorem dX8_init_354 : decode cX8_init 354 = .ok (.bipush 13, 2) := by decide +kernel
theorem dX8_init_356 : decode cX8_init 356 = .ok (.newarray .int, 2) := by decide +kernel
theorem dX8_init_358 : decode cX8_init 358 = .ok (.dup, 1) := by decide +kernel
theorem dX8_init_359 : decode cX8_init 359 = .ok (.iconst 0, 1) := by decide +kernel
theorem dX8_init_360 : decode cX8_init 360 = .ok (.bipush 10, 2) := by decide +kernel
theorem dX8_init_362 : decode cX8_init 362 = .ok (.iastore, 1) := by decide +kernel
theorem dX8_init_363 : decode cX8_init 363 = .ok (.dup, 1) := by decide +kernel
theorem dX8_init_364 : decode cX8_init 364 = .ok (.iconst 1, 1) := by decide +kernel
theorem dX8_init_365 : decode cX8_init 365 = .ok (.iconst 0, 1) := by decide +kernel
theorem dX8_init_366 : decode cX8_init 366 = .ok (.iastore, 1) := by decide +kernel
theorem dX8_init_367 : decode cX8_init 367 = .ok (.dup, 1) := by decide +kernel
theorem dX8_init_368 : decode cX8_init 368 = .ok (.iconst 2, 1) := by decide +kernel
theorem dX8_init_369 : decode cX8_init 369 = .ok (.iconst 1, 1) := by decide +kernel
theorem dX8_init_370 : decode cX8_init 370 = .ok (.iastore, 1) := by decide +kernel
theorem dX8_init_371 : decode cX8_init 371 = .ok (.dup, 1) := by decide +kernel
theorem dX8_init_372 : decode cX8_init 372 = .ok (.iconst 3, 1) := by decide +kernel
theorem dX8_init_373 : decode cX8_init 373 = .ok (.iconst 0, 1) := by decide +kernel
theorem dX8_init_374 : decode cX8_init 374 = .ok (.iastore, 1) := by decide +kernel
theorem dX8_init_375 : decode cX8_init 375 = .ok (.dup, 1) := by decide +kernel
theorem dX8_init_376 : decode cX8_init 376 = .ok (.iconst 4, 1) := by decide +kernel
theorem dX8_init_377 : decode cX8_init 377 = .ok (.iconst 0, 1) := by decide +kernel
theorem dX8_init_378 : decode cX8_init 378 = .ok (.iastore, 1) := by decide +kernel
theorem dX8_init_379 : decode cX8_init 379 = .ok (.dup, 1) := by decide +kernel
theorem dX8_init_380 : decode cX8_init 380 = .ok (.iconst 5, 1) := by decide +kernel
theorem dX8_init_381 : decode cX8_init 381 = .ok (.iconst 3, 1) := by decide +kernel
theorem dX8_init_382 : decode cX8_init 382 = .ok (.iastore, 1) := by decide +kernel
theorem dX8_init_383 : decode cX8_init 383 = .ok (.dup, 1) := by decide +kernel
theorem dX8_init_384 : decode cX8_init 384 = .ok (.bipush 6, 2) := by decide +kernel
theorem dX8_init_386 : decode cX8_init 386 = .ok (.iconst 1, 1) := by decide +kernel
theorem dX8_init_387 : decode cX8_init 387 = .ok (.iastore, 1) := by decide +kernel
theorem dX8_init_388 : decode cX8_init 388 = .ok (.dup, 1) := by decide +kernel
theorem dX8_init_389 : decode cX8_init 389 = .ok (.bipush 7, 2) := by decide +kernel
theorem dX8_init_391 : decode cX8_init 391 = .ok (.iconst 0, 1) := by decide +kernel
theorem dX8_init_392 : decode cX8_init 392 = .ok (.iastore, 1) := by decide +kernel
theorem dX8_init_393 : decode cX8_init 393 = .ok (.dup, 1) := by decide +kernel
theorem dX8_init_394 : decode cX8_init 394 = .ok (.bipush 8, 2) := by decide +kernel
theorem dX8_init_396 : decode cX8_init 396 = .ok (.iconst 0, 1) := by decide +kernel
theorem dX8_init_397 : decode cX8_init 397 = .ok (.iastore, 1) := by decide +kernel
theorem dX8_init_398 : decode cX8_init 398 = .ok (.dup, 1) := by decide +kernel
theorem dX8_init_399 : decode cX8_init 399 = .ok (.bipush 9, 2) := by decide +kernel
theorem dX8_init_401 : decode cX8_init 401 = .ok (.iconst 0, 1) := by decide +kernel
theorem dX8_init_402 : decode cX8_init 402 = .ok (.iastore, 1) := by decide +kernel
theorem dX8_init_403 : decode cX8_init 403 = .ok (.dup, 1) := by decide +kernel
theorem dX8_init_404 : decode cX8_init 404 = .ok (.bipush 10, 2) := by decide +kernel
theorem dX8_init_406 : decode cX8_init 406 = .ok (.iconst 0, 1) := by decide +kernel
theorem dX8_init_407 : decode cX8_init 407 = .ok (.iastore, 1) := by decide +kernel
theorem dX8_init_408 : decode cX8_init 408 = .ok (.dup, 1) := by decide +kernel
theorem dX8_init_409 : decode cX8_init 409 = .ok (.bipush 11, 2) := by decide +kernel
theorem dX8_init_411 : decode cX8_init 411 = .ok (.iconst 0, 1) := by decide +kernel
theorem dX8_init_412 : decode cX8_init 412 = .ok (.iastore, 1) := by decide +kernel
theorem dX8_init_413 : decode cX8_init 413 = .ok (.dup, 1) := by decide +kernel
theorem dX8_init_414 : decode cX8_init 414 = .ok (.bipush 12, 2) := by decide +kernel
theorem dX8_init_416 : decode cX8_init 416 = .ok (.iconst 0, 1) := by decide +kernel
theorem dX8_init_417 : decode cX8_init 417 = .ok (.iastore, 1) := by decide +kernel
theorem dX8_init_418 : decode cX8_init 418 = .ok (.putfield 25, 3) := by decide +kernel
theorem dX8_init_421 : decode cX8_init 421 = .ok (.aload_n 0, 1) := by decide +kernel
theorem dX8_init_422 : decode cX8_init 422 = .ok (.bipush 13, 2) := by decide +kernel
theorem dX8_init_424 : decode cX8_init 424 = .ok (.newarray .int, 2) := by decide +kernel
theorem dX8_init_426 : decode cX8_init 426 = .ok (.dup, 1) := by decide +kernel
theorem dX8_init_427 : decode cX8_init 427 = .ok (.iconst 0, 1) := by decide +kernel
theorem dX8_init_428 : decode cX8_init 428 = .ok (.sipush 400, 3) := by decide +kernel
theorem dX8_init_431 : decode cX8_init 431 = .ok (.iastore, 1) := by decide +kernel
theorem dX8_init_432 : decode cX8_init 432 = .ok (.dup, 1) := by decide +kernel
theorem dX8_init_433 : decode cX8_init 433 = .ok (.iconst 1, 1) := by decide +kernel
theorem dX8_init_434 : decode cX8_init 434 = .ok (.sipush 400, 3) := by decide +kernel
theorem dX8_init_437 : decode cX8_init 437 = .ok (.iastore, 1) := by decide +kernel
theorem dX8_init_438 : decode cX8_init 438 = .ok (.dup, 1) := by decide +kernel
theorem dX8_init_439 : decode cX8_init 439 = .ok (.iconst 2, 1) := by decide +kernel
theorem dX8_init_440 : decode cX8_init 440 = .ok (.bipush 99, 2) := by decide +kernel
theorem dX8_init_442 : decode cX8_init 442 = .ok (.iastore, 1) := by decide +kernel
theorem dX8_init_443 : decode cX8_init 443 = .ok (.dup, 1) := by decide +kernel
theorem dX8_init_444 : decode cX8_init 444 = .ok (.iconst 3, 1) := by decide +kernel
theorem dX8_init_445 : decode cX8_init 445 = .ok (.bipush 50, 2) := by decide +kernel
theorem dX8_init_447 : decode cX8_init 447 = .ok (.iastore, 1) := by decide +kernel
theorem dX8_init_448 : decode cX8_init 448 = .ok (.dup, 1) := by decide +kernel
theorem dX8_init_449 : decode cX8_init 449 = .ok (.iconst 4, 1) := by decide +kernel
theorem dX8_init_450 : decode cX8_init 450 = .ok (.bipush 99, 2) := by decide +kernel
theorem dX8_init_452 : decode cX8_init 452 = .ok (.iastore, 1) := by decide +kernel
theorem dX8_init_453 : decode cX8_init 453 = .ok (.dup, 1) := by decide +kernel
theorem dX8_init_454 : decode cX8_init 454 = .ok (.iconst 5, 1) := by decide +kernel
theorem dX8_init_455 : decode cX8_init 455 = .ok (.bipush 6, 2) := by decide +kernel
theorem dX8_init_457 : decode cX8_init 457 = .ok (.iastore, 1) := by decide +kernel
theorem dX8_init_458 : decode cX8_init 458 = .ok (.dup, 1) := by decide +kernel
theorem dX8_init_459 : decode cX8_init 459 = .ok (.bipush 6, 2) := by decide +kernel
theorem dX8_init_461 : decode cX8_init 461 = .ok (.bipush 99, 2) := by decide +kernel
theorem dX8_init_463 : decode cX8_init 463 = .ok (.iastore, 1) := by decide +kernel
theorem dX8_init_464 : decode cX8_init 464 = .ok (.dup, 1) := by decide +kernel
theorem dX8_init_465 : decode cX8_init 465 = .ok (.bipush 7, 2) := by decide +kernel
theorem dX8_init_467 : decode cX8_init 467 = .ok (.bipush 100, 2) := by decide +kernel
theorem dX8_init_469 : decode cX8_init 469 = .ok (.iastore, 1) := by decide +kernel
theorem dX8_init_470 : decode cX8_init 470 = .ok (.dup, 1) := by decide +kernel
theorem dX8_init_471 : decode cX8_init 471 = .ok (.bipush 8, 2) := by decide +kernel
theorem dX8_init_473 : decode cX8_init 473 = .ok (.bipush 100, 2) := by decide +kernel
theorem dX8_init_475 : decode cX8_init 475 = .ok (.iastore, 1) := by decide +kernel
theorem dX8_init_476 : decode cX8_init 476 = .ok (.dup, 1) := by decide +kernel
theorem dX8_init_477 : decode cX8_init 477 = .ok (.bipush 9, 2) := by decide +kernel
theorem dX8_init_479 : decode cX8_init 479 = .ok (.bipush 99, 2) := by decide +kernel
theorem dX8_init_481 : decode cX8_init 481 = .ok (.iastore, 1) := by decide +kernel
theorem dX8_init_482 : decode cX8_init 482 = .ok (.dup, 1) := by decide +kernel
theorem dX8_init_483 : decode cX8_init 483 = .ok (.bipush 10, 2) := by decide +kernel
theorem dX8_init_485 : decode cX8_init 485 = .ok (.bipush 99, 2) := by decide +kernel
theorem dX8_init_487 : decode cX8_init 487 = .ok (.iastore, 1) := by decide +kernel
theorem dX8_init_488 : decode cX8_init 488 = .ok (.dup, 1) := by decide +kernel
theorem dX8_init_489 : decode cX8_init 489 = .ok (.bipush 11, 2) := by decide +kernel
theorem dX8_init_491 : decode cX8_init 491 = .ok (.bipush 99, 2) := by decide +kernel
theorem dX8_init_493 : decode cX8_init 493 = .ok (.iastore, 1) := by decide +kernel
theorem dX8_init_494 : decode cX8_init 494 = .ok (.dup, 1) := by decide +kernel
theorem dX8_init_495 : decode cX8_init 495 = .ok (.bipush 12, 2) := by decide +kernel
theorem dX8_init_497 : decode cX8_init 497 = .ok (.bipush 99, 2) := by decide +kernel
theorem dX8_init_499 : decode cX8_init 499 = .ok (.iastore, 1) := by decide +kernel
theorem dX8_init_500 : decode cX8_init 500 = .ok (.putfield 28, 3) := by decide +kernel
theorem dX8_init_503 : decode cX8_init 503 = .ok (.aload_n 0, 1) := by decide +kernel
theorem dX8_init_504 : decode cX8_init 504 = .ok (.bipush 13, 2) := by decide +kernel
theorem dX8_init_506 : decode cX8_init 506 = .ok (.newarray .int, 2) := by decide +kernel
theorem dX8_init_508 : decode cX8_init 508 = .ok (.dup, 1) := by decide +kernel
theorem dX8_init_509 : decode cX8_init 509 = .ok (.iconst 0, 1) := by decide +kernel
theorem dX8_init_510 : decode cX8_init 510 = .ok (.bipush 100, 2) := by decide +kernel
theorem dX8_init_512 : decode cX8_init 512 = .ok (.iastore, 1) := by decide +kernel
theorem dX8_init_513 : decode cX8_init 513 = .ok (.dup, 1) := by decide +kernel
theorem dX8_init_514 : decode cX8_init 514 = .ok (.iconst 1, 1) := by decide +kernel
theorem dX8_init_515 : decode cX8_init 515 = .ok (.sipush 130, 3) := by decide +kernel
theorem dX8_init_518 : decode cX8_init 518 = .ok (.iastore, 1) := by decide +kernel
theorem dX8_init_519 : decode cX8_init 519 = .ok (.dup, 1) := by decide +kernel
theorem dX8_init_520 : decode cX8_init 520 = .ok (.iconst 2, 1) := by decide +kernel
theorem dX8_init_521 : decode cX8_init 521 = .ok (.bipush 10, 2) := by decide +kernel
theorem dX8_init_523 : decode cX8_init 523 = .ok (.iastore, 1) := by decide +kernel
theorem dX8_init_524 : decode cX8_init 524 = .ok (.dup, 1) := by decide +kernel
theorem dX8_init_525 : decode cX8_init 525 = .ok (.iconst 3, 1) := by decide +kernel
theorem dX8_init_526 : decode cX8_init 526 = .ok (.bipush 10, 2) := by decide +kernel
theorem dX8_init_528 : decode cX8_init 528 = .ok (.iastore, 1) := by decide +kernel
theorem dX8_init_529 : decode cX8_init 529 = .ok (.dup, 1) := by decide +kernel
theorem dX8_init_530 : decode cX8_init 530 = .ok (.iconst 4, 1) := by decide +kernel
theorem dX8_init_531 : decode cX8_init 531 = .ok (.bipush 20, 2) := by decide +kernel
theorem dX8_init_533 : decode cX8_init 533 = .ok (.iastore, 1) := by decide +kernel
theorem dX8_init_534 : decode cX8_init 534 = .ok (.dup, 1) := by decide +kernel
theorem dX8_init_535 : decode cX8_init 535 = .ok (.iconst 5, 1) := by decide +kernel
theorem dX8_init_536 : decode cX8_init 536 = .ok (.iconst 4, 1) := by decide +kernel
theorem dX8_init_537 : decode cX8_init 537 = .ok (.iastore, 1) := by decide +kernel
theorem dX8_init_538 : decode cX8_init 538 = .ok (.dup, 1) := by decide +kernel
theorem dX8_init_539 : decode cX8_init 539 = .ok (.bipush 6, 2) := by decide +kernel
theorem dX8_init_541 : decode cX8_init 541 = .ok (.bipush 10, 2) := by decide +kernel
theorem dX8_init_543 : decode cX8_init 543 = .ok (.iastore, 1) := by decide +kernel
theorem dX8_init_544 : decode cX8_init 544 = .ok (.dup, 1) := by decide +kernel
theorem dX8_init_545 : decode cX8_init 545 = .ok (.bipush 7, 2) := by decide +kernel
theorem dX8_init_547 : decode cX8_init 547 = .ok (.bipush 20, 2) := by decide +kernel
theorem dX8_init_549 : decode cX8_init 549 = .ok (.iastore, 1) := by decide +kernel
theorem dX8_init_550 : decode cX8_init 550 = .ok (.dup, 1) := by decide +kernel
theorem dX8_init_551 : decode cX8_init 551 = .ok (.bipush 8, 2) := by decide +kernel
theorem dX8_init_553 : decode cX8_init 553 = .ok (.bipush 80, 2) := by decide +kernel
theorem dX8_init_555 : decode cX8_init 555 = .ok (.iastore, 1) := by decide +kernel
theorem dX8_init_556 : decode cX8_init 556 = .ok (.dup, 1) := by decide +kernel
theorem dX8_init_557 : decode cX8_init 557 = .ok (.bipush 9, 2) := by decide +kernel
theorem dX8_init_559 : decode cX8_init 559 = .ok (.bipush 64, 2) := by decide +kernel
theorem dX8_init_561 : decode cX8_init 561 = .ok (.iastore, 1) := by decide +kernel
theorem dX8_init_562 : decode cX8_init 562 = .ok (.dup, 1) := by decide +kernel
theorem dX8_init_563 : decode cX8_init 563 = .ok (.bipush 10, 2) := by decide +kernel
theorem dX8_init_565 : decode cX8_init 565 = .ok (.bipush 16, 2) := by decide +kernel
theorem dX8_init_567 : decode cX8_init 567 = .ok (.iastore, 1) := by decide +kernel
theorem dX8_init_568 : decode cX8_init 568 = .ok (.dup, 1) := by decide +kernel
theorem dX8_init_569 : decode cX8_init 569 = .ok (.bipush 11, 2) := by decide +kernel
theorem dX8_init_571 : decode cX8_init 571 = .ok (.iconst 4, 1) := by decide +kernel
theorem dX8_init_572 : decode cX8_init 572 = .ok (.iastore, 1) := by decide +kernel
theorem dX8_init_573 : decode cX8_init 573 = .ok (.dup, 1) := by decide +kernel
theorem dX8_init_574 : decode cX8_init 574 = .ok (.bipush 12, 2) := by decide +kernel
theorem dX8_init_576 : decode cX8_init 576 = .ok (.iconst 0, 1) := by decide +kernel
theorem dX8_init_577 : decode cX8_init 577 = .ok (.iastore, 1) := by decide +kernel
theorem dX8_init_578 : decode cX8_init 578 = .ok (.putfield 31, 3) := by decide +kernel
theorem dX8_init_581 : decode cX8_init 581 = .ok (.aload_n 0, 1) := by decide +kernel
theorem dX8_init_582 : decode cX8_init 582 = .ok (.bipush 13, 2) := by decide +kernel
theorem dX8_init_584 : decode cX8_init 584 = .ok (.newarray .int, 2) := by decide +kernel
theorem dX8_init_586 : decode cX8_init 586 = .ok (.dup, 1) := by decide +kernel
theorem dX8_init_587 : decode cX8_init 587 = .ok (.iconst 0, 1) := by decide +kernel
theorem dX8_init_588 : decode cX8_init 588 = .ok (.bipush 100, 2) := by decide +kernel
theorem dX8_init_590 : decode cX8_init 590 = .ok (.iastore, 1) := by decide +kernel
theorem dX8_init_591 : decode cX8_init 591 = .ok (.dup, 1) := by decide +kernel
theorem dX8_init_592 : decode cX8_init 592 = .ok (.iconst 1, 1) := by decide +kernel
theorem dX8_init_593 : decode cX8_init 593 = .ok (.sipush 130, 3) := by decide +kernel
theorem dX8_init_596 : decode cX8_init 596 = .ok (.iastore, 1) := by decide +kernel
theorem dX8_init_597 : decode cX8_init 597 = .ok (.dup, 1) := by decide +kernel
theorem dX8_init_598 : decode cX8_init 598 = .ok (.iconst 2, 1) := by decide +kernel
theorem dX8_init_599 : decode cX8_init 599 = .ok (.bipush 10, 2) := by decide +kernel
theorem dX8_init_601 : decode cX8_init 601 = .ok (.iastore, 1) := by decide +kernel
theorem dX8_init_602 : decode cX8_init 602 = .ok (.dup, 1) := by decide +kernel
theorem dX8_init_603 : decode cX8_init 603 = .ok (.iconst 3, 1) := by decide +kernel
theorem dX8_init_604 : decode cX8_init 604 = .ok (.bipush 10, 2) := by decide +kernel
theorem dX8_init_606 : decode cX8_init 606 = .ok (.iastore, 1) := by decide +kernel
theorem dX8_init_607 : decode cX8_init 607 = .ok (.dup, 1) := by decide +kernel
theorem dX8_init_608 : decode cX8_init 608 = .ok (.iconst 4, 1) := by decide +kernel
theorem dX8_init_609 : decode cX8_init 609 = .ok (.bipush 20, 2) := by decide +kernel
theorem dX8_init_611 : decode cX8_init 611 = .ok (.iastore, 1) := by decide +kernel
theorem dX8_init_612 : decode cX8_init 612 = .ok (.dup, 1) := by decide +kernel
theorem dX8_init_613 : decode cX8_init 613 = .ok (.iconst 5, 1) := by decide +kernel
theorem dX8_init_614 : decode cX8_init 614 = .ok (.iconst 4, 1) := by decide +kernel
theorem dX8_init_615 : decode cX8_init 615 = .ok (.iastore, 1) := by decide +kernel
theorem dX8_init_616 : decode cX8_init 616 = .ok (.dup, 1) := by decide +kernel
theorem dX8_init_617 : decode cX8_init 617 = .ok (.bipush 6, 2) := by decide +kernel
theorem dX8_init_619 : decode cX8_init 619 = .ok (.bipush 10, 2) := by decide +kernel
theorem dX8_init_621 : decode cX8_init 621 = .ok (.iastore, 1) := by decide +kernel
theorem dX8_init_622 : decode cX8_init 622 = .ok (.dup, 1) := by decide +kernel
theorem dX8_init_623 : decode cX8_init 623 = .ok (.bipush 7, 2) := by decide +kernel
theorem dX8_init_625 : decode cX8_init 625 = .ok (.bipush 20, 2) := by decide +kernel
theorem dX8_init_627 : decode cX8_init 627 = .ok (.iastore, 1) := by decide +kernel
theorem dX8_init_628 : decode cX8_init 628 = .ok (.dup, 1) := by decide +kernel
theorem dX8_init_629 : decode cX8_init 629 = .ok (.bipush 8, 2) := by decide +kernel
theorem dX8_init_631 : decode cX8_init 631 = .ok (.bipush 80, 2) := by decide +kernel
theorem dX8_init_633 : decode cX8_init 633 = .ok (.iastore, 1) := by decide +kernel
theorem dX8_init_634 : decode cX8_init 634 = .ok (.dup, 1) := by decide +kernel
theorem dX8_init_635 : decode cX8_init 635 = .ok (.bipush 9, 2) := by decide +kernel
theorem dX8_init_637 : decode cX8_init 637 = .ok (.bipush 64, 2) := by decide +kernel
theorem dX8_init_639 : decode cX8_init 639 = .ok (.iastore, 1) := by decide +kernel
theorem dX8_init_640 : decode cX8_init 640 = .ok (.dup, 1) := by decide +kernel
theorem dX8_init_641 : decode cX8_init 641 = .ok (.bipush 10, 2) := by decide +kernel
theorem dX8_init_643 : decode cX8_init 643 = .ok (.bipush 16, 2) := by decide +kernel
theorem dX8_init_645 : decode cX8_init 645 = .ok (.iastore, 1) := by decide +kernel
theorem dX8_init_646 : decode cX8_init 646 = .ok (.dup, 1) := by decide +kernel
theorem dX8_init_647 : decode cX8_init 647 = .ok (.bipush 11, 2) := by decide +kernel
theorem dX8_init_649 : decode cX8_init 649 = .ok (.iconst 4, 1) := by decide +kernel
theorem dX8_init_650 : decode cX8_init 650 = .ok (.iastore, 1) := by decide +kernel
theorem dX8_init_651 : decode cX8_init 651 = .ok (.dup, 1) := by decide +kernel
theorem dX8_init_652 : decode cX8_init 652 = .ok (.bipush 12, 2) := by decide +kernel
theorem dX8_init_654 : decode cX8_init 654 = .ok (.iconst 0, 1) := by decide +kernel
theorem dX8_init_655 : decode cX8_init 655 = .ok (.iastore, 1) := by decide +kernel
theorem dX8_init_656 : decode cX8_init 656 = .ok (.putfield 34, 3) := by decide +kernel
theorem dX8_init_659 : decode cX8_init 659 = .ok (.aload_n 0, 1) := by decide +kernel
theorem dX8_init_660 : decode cX8_init 660 = .ok (.bipush 16, 2) := by decide +kernel
theorem dX8_init_662 : decode cX8_init 662 = .ok (.newarray .int, 2) := by decide +kernel
theorem dX8_init_664 : decode cX8_init 664 = .ok (.putfield 37, 3) := by decide +kernel
theorem dX8_init_667 : decode cX8_init 667 = .ok (.aload_n 0, 1) := by decide +kernel
theorem dX8_init_668 : decode cX8_init 668 = .ok (.bipush 13, 2) := by decide +kernel
theorem dX8_init_670 : decode cX8_init 670 = .ok (.newarray .int, 2) := by decide +kernel
theorem dX8_init_672 : decode cX8_init 672 = .ok (.putfield 40, 3) := by decide +kernel
theorem dX8_init_675 : decode cX8_init 675 = .ok (.aload_n 0, 1) := by decide +kernel
theorem dX8_init_676 : decode cX8_init 676 = .ok (.bipush 16, 2) := by decide +kernel
theorem dX8_init_678 : decode cX8_init 678 = .ok (.newarray .int, 2) := by decide +kernel
theorem dX8_init_680 : decode cX8_init 680 = .ok (.putfield 43, 3) := by decide +kernel
theorem dX8_init_683 : decode cX8_init 683 = .ok (.aload_n 0, 1) := by decide +kernel
theorem dX8_init_684 : decode cX8_init 684 = .ok (.bipush 80, 2) := by decide +kernel
theorem dX8_init_686 : decode cX8_init 686 = .ok (.newarray .int, 2) := by decide +kernel
theorem dX8_init_688 : decode cX8_init 688 = .ok (.putfield 46, 3) := by decide +kernel
theorem dX8_init_691 : decode cX8_init 691 = .ok (.aload_n 0, 1) := by decide +kernel
theorem dX8_init_692 : decode cX8_init 692 = .ok (.bipush 7, 2) := by decide +kernel
theorem dX8_init_694 : decode cX8_init 694 = .ok (.newarray .int, 2) := by decide +kernel
theorem dX8_init_696 : decode cX8_init 696 = .ok (.putfield 49, 3) := by decide +kernel
theorem dX8_init_699 : decode cX8_init 699 = .ok (.aload_n 0, 1) := by decide +kernel
theorem dX8_init_700 : decode cX8_init 700 = .ok (.iconst 4, 1) := by decide +kernel
theorem dX8_init_701 : decode cX8_init 701 = .ok (.newarray .int, 2) := by decide +kernel
theorem dX8_init_703 : decode cX8_init 703 = .ok (.putfield 52, 3) := by decide +kernel
theorem dX8_init_706 : decode cX8_init 706 = .ok (.aload_n 0, 1) := by decide +kernel
theorem dX8_init_707 : decode cX8_init 707 = .ok (.bipush 16, 2) := by decide +kernel
theorem dX8_init_709 : decode cX8_init 709 = .ok (.newarray .int, 2) := by decide +kernel
theorem dX8_init_711 : decode cX8_init 711 = .ok (.putfield 55, 3) := by decide +kernel
theorem dX8_init_714 : decode cX8_init 714 = .ok (.aload_n 0, 1) := by decide +kernel
theorem dX8_init_715 : decode cX8_init 715 = .ok (.bipush 8, 2) := by decide +kernel
theorem dX8_init_717 : decode cX8_init 717 = .ok (.newarray .int, 2) := by decide +kernel
theorem dX8_init_719 : decode cX8_init 719 = .ok (.putfield 58, 3) := by decide +kernel
theorem dX8_init_722 : decode cX8_init 722 = .ok (.aload_n 0, 1) := by decide +kernel
theorem dX8_init_723 : decode cX8_init 723 = .ok (.iconst 2, 1) := by decide +kernel
theorem dX8_init_724 : decode cX8_init 724 = .ok (.newarray .boolean, 2) := by decide +kernel
theorem dX8_init_726 : decode cX8_init 726 = .ok (.putfield 61, 3) := by decide +kernel
theorem dX8_init_729 : decode cX8_init 729 = .ok (.aload_n 0, 1) := by decide +kernel
theorem dX8_init_730 : decode cX8_init 730 = .ok (.iconst 4, 1) := by decide +kernel
theorem dX8_init_731 : decode cX8_init 731 = .ok (.newarray .int, 2) := by decide +kernel
theorem dX8_init_733 : decode cX8_init 733 = .ok (.dup, 1) := by decide +kernel
theorem dX8_init_734 : decode cX8_init 734 = .ok (.iconst 0, 1) := by decide +kernel
theorem dX8_init_735 : decode cX8_init 735 = .ok (.bipush (-4), 2) := by decide +kernel
theorem dX8_init_737 : decode cX8_init 737 = .ok (.iastore, 1) := by decide +kernel
theorem dX8_init_738 : decode cX8_init 738 = .ok (.dup, 1) := by decide +kernel
theorem dX8_init_739 : decode cX8_init 739 = .ok (.iconst 1, 1) := by decide +kernel
theorem dX8_init_740 : decode cX8_init 740 = .ok (.bipush (-4), 2) := by decide +kernel
theorem dX8_init_742 : decode cX8_init 742 = .ok (.iastore, 1) := by decide +kernel
theorem dX8_init_743 : decode cX8_init 743 = .ok (.dup, 1) := by decide +kernel
theorem dX8_init_744 : decode cX8_init 744 = .ok (.iconst 2, 1) := by decide +kernel
theorem dX8_init_745 : decode cX8_init 745 = .ok (.bipush (-4), 2) := by decide +kernel
theorem dX8_init_747 : decode cX8_init 747 = .ok (.iastore, 1) := by decide +kernel
theorem dX8_init_748 : decode cX8_init 748 = .ok (.dup, 1) := by decide +kernel
theorem dX8_init_749 : decode cX8_init 749 = .ok (.iconst 3, 1) := by decide +kernel
theorem dX8_init_750 : decode cX8_init 750 = .ok (.bipush (-4), 2) := by decide +kernel
theorem dX8_init_752 : decode cX8_init 752 = .ok (.iastore, 1) := by decide +kernel
theorem dX8_init_753 : decode cX8_init 753 = .ok (.putfield 65, 3) := by decide +kernel
theorem dX8_init_756 : decode cX8_init 756 = .ok (.aload_n 0, 1) := by decide +kernel
theorem dX8_init_757 : decode cX8_init 757 = .ok (.iconst 4, 1) := by decide +kernel
theorem dX8_init_758 : decode cX8_init 758 = .ok (.newarray .int, 2) := by decide +kernel
theorem dX8_init_760 : decode cX8_init 760 = .ok (.putfield 68, 3) := by decide +kernel
theorem dX8_init_763 : decode cX8_init 763 = .ok (.aload_n 0, 1) := by decide +kernel
theorem dX8_init_764 : decode cX8_init 764 = .ok (.sipush 160, 3) := by decide +kernel
theorem dX8_init_767 : decode cX8_init 767 = .ok (.newarray .int, 2) := by decide +kernel
theorem dX8_init_769 : decode cX8_init 769 = .ok (.putfield 71, 3) := by decide +kernel
theorem dX8_init_772 : decode cX8_init 772 = .ok (.return_, 1) := by decide +kernel
theorem dX8_in_0 : decode cX8_in 0 = .ok (.lload_n 0, 1) := by decide +kernel
theorem dX8_in_1 : decode cX8_in 1 = .ok (.lload_n 2, 1) := by decide +kernel
theorem dX8_in_2 : decode cX8_in 2 = .ok (.lcmp, 1) := by decide +kernel
theorem dX8_in_3 : decode cX8_in 3 = .ok (.ifCond .lt 14, 3) := by decide +kernel
theorem dX8_in_6 : decode cX8_in 6 = .ok (.lload_n 0, 1) := by decide +kernel
theorem dX8_in_7 : decode cX8_in 7 = .ok (.lload 4, 2) := by decide +kernel
theorem dX8_in_9 : decode cX8_in 9 = .ok (.lcmp, 1) := by decide +kernel
theorem dX8_in_10 : decode cX8_in 10 = .ok (.ifCond .gt 7, 3) := by decide +kernel
theorem dX8_in_13 : decode cX8_in 13 = .ok (.iconst 1, 1) := by decide +kernel
theorem dX8_in_14 : decode cX8_in 14 = .ok (.goto 4, 3) := by decide +kernel
theorem dX8_in_17 : decode cX8_in 17 = .ok (.iconst 0, 1) := by decide +kernel
theorem dX8_in_18 : decode cX8_in 18 = .ok (.ireturn, 1) := by decide +kernel
theorem dX8_feed_0 : decode cX8_feed 0 = .ok (.aload_n 0, 1) := by decide +kernel
theorem dX8_feed_1 : decode cX8_feed 1 = .ok (.getfield 74, 3) := by decide +kernel
theorem dX8_feed_4 : decode cX8_feed 4 = .ok (.bipush 8, 2) := by decide +kernel
theorem dX8_feed_6 : decode cX8_feed 6 = .ok (.iadd, 1) := by decide +kernel
theorem dX8_feed_7 : decode cX8_feed 7 = .ok (.sipush 320, 3) := by decide +kernel
theorem dX8_feed_10 : decode cX8_feed 10 = .ok (.if_icmp .le 6, 3) := by decide +kernel
theorem dX8_feed_13 : decode cX8_feed 13 = .ok (.bipush (-3), 2) := by decide +kernel
theorem dX8_feed_15 : decode cX8_feed 15 = .ok (.ireturn, 1) := by decide +kernel
theorem dX8_feed_16 : decode cX8_feed 16 = .ok (.bipush 56, 2) := by decide +kernel
theorem dX8_feed_18 : decode cX8_feed 18 = .ok (.istore_n 3, 1) := by decide +kernel
theorem dX8_feed_19 : decode cX8_feed 19 = .ok (.iload_n 3, 1) := by decide +kernel
theorem dX8_feed_20 : decode cX8_feed 20 = .ok (.ifCond .lt 36, 3) := by decide +kernel
theorem dX8_feed_23 : decode cX8_feed 23 = .ok (.aload_n 0, 1) := by decide +kernel
theorem dX8_feed_24 : decode cX8_feed 24 = .ok (.getfield 7, 3) := by decide +kernel
theorem dX8_feed_27 : decode cX8_feed 27 = .ok (.aload_n 0, 1) := by decide +kernel
theorem dX8_feed_28 : decode cX8_feed 28 = .ok (.getfield 74, 3) := by decide +kernel
theorem dX8_feed_31 : decode cX8_feed 31 = .ok (.lload_n 1, 1) := by decide +kernel
theorem dX8_feed_32 : decode cX8_feed 32 = .ok (.iload_n 3, 1) := by decide +kernel
theorem dX8_feed_33 : decode cX8_feed 33 = .ok (.lshr, 1) := by decide +kernel
theorem dX8_feed_34 : decode cX8_feed 34 = .ok (.l2i, 1) := by decide +kernel
theorem dX8_feed_35 : decode cX8_feed 35 = .ok (.sipush 255, 3) := by decide +kernel
theorem dX8_feed_38 : decode cX8_feed 38 = .ok (.iand, 1) := by decide +kernel
theorem dX8_feed_39 : decode cX8_feed 39 = .ok (.iastore, 1) := by decide +kernel
theorem dX8_feed_40 : decode cX8_feed 40 = .ok (.aload_n 0, 1) := by decide +kernel
theorem dX8_feed_41 : decode cX8_feed 41 = .ok (.dup, 1) := by decide +kernel
theorem dX8_feed_42 : decode cX8_feed 42 = .ok (.getfield 74, 3) := by decide +kernel
theorem dX8_feed_45 : decode cX8_feed 45 = .ok (.iconst 1, 1) := by decide +kernel
theorem dX8_feed_46 : decode cX8_feed 46 = .ok (.iadd, 1) := by decide +kernel
theorem dX8_feed_47 : decode cX8_feed 47 = .ok (.putfield 74, 3) := by decide +kernel
theorem dX8_feed_50 : decode cX8_feed 50 = .ok (.iinc 3 (-8), 3) := by decide +kernel
theorem dX8_feed_53 : decode cX8_feed 53 = .ok (.goto (-34), 3) := by decide +kernel
theorem dX8_feed_56 : decode cX8_feed 56 = .ok (.aload_n 0, 1) := by decide +kernel
theorem dX8_feed_57 : decode cX8_feed 57 = .ok (.getfield 74, 3) := by decide +kernel
theorem dX8_feed_60 : decode cX8_feed 60 = .ok (.ireturn, 1) := by decide +kernel
theorem dX8_end_0 : decode cX8_end 0 = .ok (.iload_n 1, 1) := by decide +kernel
theorem dX8_end_1 : decode cX8_end 1 = .ok (.i2l, 1) := by decide +kernel
theorem dX8_end_2 : decode cX8_end 2 = .ok (.lconst 0, 1) := by decide +kernel
theorem dX8_end_3 : decode cX8_end 3 = .ok (.aload_n 0, 1) := by decide +kernel
theorem dX8_end_4 : decode cX8_end 4 = .ok (.getfield 74, 3) := by decide +kernel
theorem dX8_end_7 : decode cX8_end 7 = .ok (.i2l, 1) := by decide +kernel
theorem dX8_end_8 : decode cX8_end 8 = .ok (.invokestatic 78, 3) := by decide +kernel
theorem dX8_end_11 : decode cX8_end 11 = .ok (.ifCond .ne 5, 3) := by decide +kernel
theorem dX8_end_14 : decode cX8_end 14 = .ok (.iconst (-1), 1) := by decide +kernel
theorem dX8_end_15 : decode cX8_end 15 = .ok (.ireturn, 1) := by decide +kernel
theorem dX8_end_16 : decode cX8_end 16 = .ok (.aload_n 0, 1) := by decide +kernel
theorem dX8_end_17 : decode cX8_end 17 = .ok (.getfield 74, 3) := by decide +kernel
theorem dX8_end_20 : decode cX8_end 20 = .ok (.istore_n 2, 1) := by decide +kernel
theorem dX8_end_21 : decode cX8_end 21 = .ok (.aload_n 0, 1) := by decide +kernel
theorem dX8_end_22 : decode cX8_end 22 = .ok (.iload_n 1, 1) := by decide +kernel
theorem dX8_end_23 : decode cX8_end 23 = .ok (.putfield 74, 3) := by decide +kernel
theorem dX8_end_26 : decode cX8_end 26 = .ok (.iload_n 2, 1) := by decide +kernel
theorem dX8_end_27 : decode cX8_end 27 = .ok (.ireturn, 1) := by decide +kernel
theorem dX8_byteAt_0 : decode cX8_byteAt 0 = .ok (.iload_n 1, 1) := by decide +kernel
theorem dX8_byteAt_1 : decode cX8_byteAt 1 = .ok (.aload_n 0, 1) := by decide +kernel
theorem dX8_byteAt_2 : decode cX8_byteAt 2 = .ok (.getfield 74, 3) := by decide +kernel
theorem dX8_byteAt_5 : decode cX8_byteAt 5 = .ok (.if_icmp .ge 12, 3) := by decide +kernel
theorem dX8_byteAt_8 : decode cX8_byteAt 8 = .ok (.aload_n 0, 1) := by decide +kernel
theorem dX8_byteAt_9 : decode cX8_byteAt 9 = .ok (.getfield 7, 3) := by decide +kernel
theorem dX8_byteAt_12 : decode cX8_byteAt 12 = .ok (.iload_n 1, 1) := by decide +kernel
theorem dX8_byteAt_13 : decode cX8_byteAt 13 = .ok (.iaload, 1) := by decide +kernel
theorem dX8_byteAt_14 : decode cX8_byteAt 14 = .ok (.goto 5, 3) := by decide +kernel
theorem dX8_byteAt_17 : decode cX8_byteAt 17 = .ok (.bipush (-4), 2) := by decide +kernel
theorem dX8_byteAt_19 : decode cX8_byteAt 19 = .ok (.ireturn, 1) := by decide +kernel
theorem dX8_fails_0 : decode cX8_fails 0 = .ok (.aload_n 0, 1) := by decide +kernel
theorem dX8_fails_1 : decode cX8_fails 1 = .ok (.getfield 82, 3) := by decide +kernel
theorem dX8_fails_4 : decode cX8_fails 4 = .ok (.ifCond .ne 16, 3) := by decide +kernel
theorem dX8_fails_7 : decode cX8_fails 7 = .ok (.aload_n 0, 1) := by decide +kernel
theorem dX8_fails_8 : decode cX8_fails 8 = .ok (.iload_n 1, 1) := by decide +kernel
theorem dX8_fails_9 : decode cX8_fails 9 = .ok (.putfield 82, 3) := by decide +kernel
theorem dX8_fails_12 : decode cX8_fails 12 = .ok (.aload_n 0, 1) := by decide +kernel
theorem dX8_fails_13 : decode cX8_fails 13 = .ok (.aload_n 0, 1) := by decide +kernel
theorem dX8_fails_14 : decode cX8_fails 14 = .ok (.getfield 85, 3) := by decide +kernel
theorem dX8_fails_17 : decode cX8_fails 17 = .ok (.putfield 88, 3) := by decide +kernel
theorem dX8_fails_20 : decode cX8_fails 20 = .ok (.return_, 1) := by decide +kernel
theorem dX8_nameHere_0 : decode cX8_nameHere 0 = .ok (.iconst 0, 1) := by decide +kernel
theorem dX8_nameHere_1 : decode cX8_nameHere 1 = .ok (.istore_n 1, 1) := by decide +kernel
theorem dX8_nameHere_2 : decode cX8_nameHere 2 = .ok (.iload_n 1, 1) := by decide +kernel
theorem dX8_nameHere_3 : decode cX8_nameHere 3 = .ok (.bipush 8, 2) := by decide +kernel
theorem dX8_nameHere_5 : decode cX8_nameHere 5 = .ok (.if_icmp .ge 113, 3) := by decide +kernel
theorem dX8_nameHere_8 : decode cX8_nameHere 8 = .ok (.aload_n 0, 1) := by decide +kernel
theorem dX8_nameHere_9 : decode cX8_nameHere 9 = .ok (.getfield 91, 3) := by decide +kernel
theorem dX8_nameHere_12 : decode cX8_nameHere 12 = .ok (.iconst 1, 1) := by decide +kernel
theorem dX8_nameHere_13 : decode cX8_nameHere 13 = .ok (.if_icmp .ne 105, 3) := by decide +kernel
theorem dX8_nameHere_16 : decode cX8_nameHere 16 = .ok (.aload_n 0, 1) := by decide +kernel
theorem dX8_nameHere_17 : decode cX8_nameHere 17 = .ok (.getfield 94, 3) := by decide +kernel
theorem dX8_nameHere_20 : decode cX8_nameHere 20 = .ok (.aload_n 0, 1) := by decide +kernel
theorem dX8_nameHere_21 : decode cX8_nameHere 21 = .ok (.getfield 85, 3) := by decide +kernel
theorem dX8_nameHere_24 : decode cX8_nameHere 24 = .ok (.isub, 1) := by decide +kernel
theorem dX8_nameHere_25 : decode cX8_nameHere 25 = .ok (.aload_n 0, 1) := by decide +kernel
theorem dX8_nameHere_26 : decode cX8_nameHere 26 = .ok (.getfield 13, 3) := by decide +kernel
theorem dX8_nameHere_29 : decode cX8_nameHere 29 = .ok (.iload_n 1, 1) := by decide +kernel
theorem dX8_nameHere_30 : decode cX8_nameHere 30 = .ok (.iconst 1, 1) := by decide +kernel
theorem dX8_nameHere_31 : decode cX8_nameHere 31 = .ok (.iadd, 1) := by decide +kernel
theorem dX8_nameHere_32 : decode cX8_nameHere 32 = .ok (.iaload, 1) := by decide +kernel
theorem dX8_nameHere_33 : decode cX8_nameHere 33 = .ok (.aload_n 0, 1) := by decide +kernel
theorem dX8_nameHere_34 : decode cX8_nameHere 34 = .ok (.getfield 13, 3) := by decide +kernel
theorem dX8_nameHere_37 : decode cX8_nameHere 37 = .ok (.iload_n 1, 1) := by decide +kernel
theorem dX8_nameHere_38 : decode cX8_nameHere 38 = .ok (.iaload, 1) := by decide +kernel
theorem dX8_nameHere_39 : decode cX8_nameHere 39 = .ok (.isub, 1) := by decide +kernel
theorem dX8_nameHere_40 : decode cX8_nameHere 40 = .ok (.if_icmp .ne 7, 3) := by decide +kernel
theorem dX8_nameHere_43 : decode cX8_nameHere 43 = .ok (.iconst 1, 1) := by decide +kernel
theorem dX8_nameHere_44 : decode cX8_nameHere 44 = .ok (.goto 4, 3) := by decide +kernel
theorem dX8_nameHere_47 : decode cX8_nameHere 47 = .ok (.iconst 0, 1) := by decide +kernel
theorem dX8_nameHere_48 : decode cX8_nameHere 48 = .ok (.istore_n 2, 1) := by decide +kernel
theorem dX8_nameHere_49 : decode cX8_nameHere 49 = .ok (.iconst 0, 1) := by decide +kernel
theorem dX8_nameHere_50 : decode cX8_nameHere 50 = .ok (.istore_n 3, 1) := by decide +kernel
theorem dX8_nameHere_51 : decode cX8_nameHere 51 = .ok (.iload_n 2, 1) := by decide +kernel
theorem dX8_nameHere_52 : decode cX8_nameHere 52 = .ok (.ifCond .eq 54, 3) := by decide +kernel
theorem dX8_nameHere_55 : decode cX8_nameHere 55 = .ok (.iload_n 3, 1) := by decide +kernel
theorem dX8_nameHere_56 : decode cX8_nameHere 56 = .ok (.aload_n 0, 1) := by decide +kernel
theorem dX8_nameHere_57 : decode cX8_nameHere 57 = .ok (.getfield 94, 3) := by decide +kernel
theorem dX8_nameHere_60 : decode cX8_nameHere 60 = .ok (.aload_n 0, 1) := by decide +kernel
theorem dX8_nameHere_61 : decode cX8_nameHere 61 = .ok (.getfield 85, 3) := by decide +kernel
theorem dX8_nameHere_64 : decode cX8_nameHere 64 = .ok (.isub, 1) := by decide +kernel
theorem dX8_nameHere_65 : decode cX8_nameHere 65 = .ok (.if_icmp .ge 41, 3) := by decide +kernel
theorem dX8_nameHere_68 : decode cX8_nameHere 68 = .ok (.aload_n 0, 1) := by decide +kernel
theorem dX8_nameHere_69 : decode cX8_nameHere 69 = .ok (.aload_n 0, 1) := by decide +kernel
theorem dX8_nameHere_70 : decode cX8_nameHere 70 = .ok (.getfield 85, 3) := by decide +kernel
theorem dX8_nameHere_73 : decode cX8_nameHere 73 = .ok (.iload_n 3, 1) := by decide +kernel
theorem dX8_nameHere_74 : decode cX8_nameHere 74 = .ok (.iadd, 1) := by decide +kernel
theorem dX8_nameHere_75 : decode cX8_nameHere 75 = .ok (.invokevirtual 97, 3) := by decide +kernel
theorem dX8_nameHere_78 : decode cX8_nameHere 78 = .ok (.aload_n 0, 1) := by decide +kernel
theorem dX8_nameHere_79 : decode cX8_nameHere 79 = .ok (.getfield 16, 3) := by decide +kernel
theorem dX8_nameHere_82 : decode cX8_nameHere 82 = .ok (.aload_n 0, 1) := by decide +kernel
theorem dX8_nameHere_83 : decode cX8_nameHere 83 = .ok (.getfield 13, 3) := by decide +kernel
theorem dX8_nameHere_86 : decode cX8_nameHere 86 = .ok (.iload_n 1, 1) := by decide +kernel
theorem dX8_nameHere_87 : decode cX8_nameHere 87 = .ok (.iaload, 1) := by decide +kernel
theorem dX8_nameHere_88 : decode cX8_nameHere 88 = .ok (.iload_n 3, 1) := by decide +kernel
theorem dX8_nameHere_89 : decode cX8_nameHere 89 = .ok (.iadd, 1) := by decide +kernel
theorem dX8_nameHere_90 : decode cX8_nameHere 90 = .ok (.iaload, 1) := by decide +kernel
theorem dX8_nameHere_91 : decode cX8_nameHere 91 = .ok (.if_icmp .ne 7, 3) := by decide +kernel
theorem dX8_nameHere_94 : decode cX8_nameHere 94 = .ok (.iconst 1, 1) := by decide +kernel
theorem dX8_nameHere_95 : decode cX8_nameHere 95 = .ok (.goto 4, 3) := by decide +kernel
theorem dX8_nameHere_98 : decode cX8_nameHere 98 = .ok (.iconst 0, 1) := by decide +kernel
theorem dX8_nameHere_99 : decode cX8_nameHere 99 = .ok (.istore_n 2, 1) := by decide +kernel
theorem dX8_nameHere_100 : decode cX8_nameHere 100 = .ok (.iinc 3 1, 3) := by decide +kernel
theorem dX8_nameHere_103 : decode cX8_nameHere 103 = .ok (.goto (-52), 3) := by decide +kernel
theorem dX8_nameHere_106 : decode cX8_nameHere 106 = .ok (.iload_n 2, 1) := by decide +kernel
theorem dX8_nameHere_107 : decode cX8_nameHere 107 = .ok (.ifCond .eq 5, 3) := by decide +kernel
theorem dX8_nameHere_110 : decode cX8_nameHere 110 = .ok (.iload_n 1, 1) := by decide +kernel
theorem dX8_nameHere_111 : decode cX8_nameHere 111 = .ok (.ireturn, 1) := by decide +kernel
theorem dX8_nameHere_112 : decode cX8_nameHere 112 = .ok (.iinc 1 1, 3) := by decide +kernel
theorem dX8_nameHere_115 : decode cX8_nameHere 115 = .ok (.goto (-113), 3) := by decide +kernel
theorem dX8_nameHere_118 : decode cX8_nameHere 118 = .ok (.bipush (-4), 2) := by decide +kernel
theorem dX8_nameHere_120 : decode cX8_nameHere 120 = .ok (.ireturn, 1) := by decide +kernel
theorem dX8_step_0 : decode cX8_step 0 = .ok (.aload_n 0, 1) := by decide +kernel
theorem dX8_step_1 : decode cX8_step 1 = .ok (.getfield 82, 3) := by decide +kernel
theorem dX8_step_4 : decode cX8_step 4 = .ok (.ifCond .le 4, 3) := by decide +kernel
theorem dX8_step_7 : decode cX8_step 7 = .ok (.return_, 1) := by decide +kernel
theorem dX8_step_8 : decode cX8_step 8 = .ok (.aload_n 0, 1) := by decide +kernel
theorem dX8_step_9 : decode cX8_step 9 = .ok (.aload_n 0, 1) := by decide +kernel
theorem dX8_step_10 : decode cX8_step 10 = .ok (.getfield 94, 3) := by decide +kernel
theorem dX8_step_13 : decode cX8_step 13 = .ok (.invokevirtual 97, 3) := by decide +kernel
theorem dX8_step_16 : decode cX8_step 16 = .ok (.bipush 32, 2) := by decide +kernel
theorem dX8_step_18 : decode cX8_step 18 = .ok (.if_icmp .ne 16, 3) := by decide +kernel
theorem dX8_step_21 : decode cX8_step 21 = .ok (.aload_n 0, 1) := by decide +kernel
theorem dX8_step_22 : decode cX8_step 22 = .ok (.dup, 1) := by decide +kernel
theorem dX8_step_23 : decode cX8_step 23 = .ok (.getfield 94, 3) := by decide +kernel
theorem dX8_step_26 : decode cX8_step 26 = .ok (.iconst 1, 1) := by decide +kernel
theorem dX8_step_27 : decode cX8_step 27 = .ok (.iadd, 1) := by decide +kernel
theorem dX8_step_28 : decode cX8_step 28 = .ok (.putfield 94, 3) := by decide +kernel
theorem dX8_step_31 : decode cX8_step 31 = .ok (.goto (-23), 3) := by decide +kernel
theorem dX8_step_34 : decode cX8_step 34 = .ok (.aload_n 0, 1) := by decide +kernel
theorem dX8_step_35 : decode cX8_step 35 = .ok (.aload_n 0, 1) := by decide +kernel
theorem dX8_step_36 : decode cX8_step 36 = .ok (.getfield 94, 3) := by decide +kernel
theorem dX8_step_39 : decode cX8_step 39 = .ok (.putfield 85, 3) := by decide +kernel
theorem dX8_step_42 : decode cX8_step 42 = .ok (.aload_n 0, 1) := by decide +kernel
theorem dX8_step_43 : decode cX8_step 43 = .ok (.aload_n 0, 1) := by decide +kernel
theorem dX8_step_44 : decode cX8_step 44 = .ok (.getfield 94, 3) := by decide +kernel
theorem dX8_step_47 : decode cX8_step 47 = .ok (.invokevirtual 97, 3) := by decide +kernel
theorem dX8_step_50 : decode cX8_step 50 = .ok (.istore_n 1, 1) := by decide +kernel
theorem dX8_step_51 : decode cX8_step 51 = .ok (.aload_n 0, 1) := by decide +kernel
theorem dX8_step_52 : decode cX8_step 52 = .ok (.iconst 0, 1) := by decide +kernel
theorem dX8_step_53 : decode cX8_step 53 = .ok (.putfield 101, 3) := by decide +kernel
theorem dX8_step_56 : decode cX8_step 56 = .ok (.iload_n 1, 1) := by decide +kernel
theorem dX8_step_57 : decode cX8_step 57 = .ok (.bipush (-4), 2) := by decide +kernel
theorem dX8_step_59 : decode cX8_step 59 = .ok (.if_icmp .ne 11, 3) := by decide +kernel
theorem dX8_step_62 : decode cX8_step 62 = .ok (.aload_n 0, 1) := by decide +kernel
theorem dX8_step_63 : decode cX8_step 63 = .ok (.iconst 0, 1) := by decide +kernel
theorem dX8_step_64 : decode cX8_step 64 = .ok (.putfield 91, 3) := by decide +kernel
theorem dX8_step_67 : decode cX8_step 67 = .ok (.goto 202, 3) := by decide +kernel
theorem dX8_step_70 : decode cX8_step 70 = .ok (.iload_n 1, 1) := by decide +kernel
theorem dX8_step_71 : decode cX8_step 71 = .ok (.i2l, 1) := by decide +kernel
theorem dX8_step_72 : decode cX8_step 72 = .ok (.ldc2_w 104, 3) := by decide +kernel
theorem dX8_step_75 : decode cX8_step 75 = .ok (.ldc2_w 106, 3) := by decide +kernel
theorem dX8_step_78 : decode cX8_step 78 = .ok (.invokestatic 78, 3) := by decide +kernel
theorem dX8_step_81 : decode cX8_step 81 = .ok (.ifCond .eq 45, 3) := by decide +kernel
theorem dX8_step_84 : decode cX8_step 84 = .ok (.aload_n 0, 1) := by decide +kernel
theorem dX8_step_85 : decode cX8_step 85 = .ok (.aload_n 0, 1) := by decide +kernel
theorem dX8_step_86 : decode cX8_step 86 = .ok (.getfield 94, 3) := by decide +kernel
theorem dX8_step_89 : decode cX8_step 89 = .ok (.invokevirtual 97, 3) := by decide +kernel
theorem dX8_step_92 : decode cX8_step 92 = .ok (.i2l, 1) := by decide +kernel
theorem dX8_step_93 : decode cX8_step 93 = .ok (.ldc2_w 104, 3) := by decide +kernel
theorem dX8_step_96 : decode cX8_step 96 = .ok (.ldc2_w 106, 3) := by decide +kernel
theorem dX8_step_99 : decode cX8_step 99 = .ok (.invokestatic 78, 3) := by decide +kernel
theorem dX8_step_102 : decode cX8_step 102 = .ok (.ifCond .eq 16, 3) := by decide +kernel
theorem dX8_step_105 : decode cX8_step 105 = .ok (.aload_n 0, 1) := by decide +kernel
theorem dX8_step_106 : decode cX8_step 106 = .ok (.dup, 1) := by decide +kernel
theorem dX8_step_107 : decode cX8_step 107 = .ok (.getfield 94, 3) := by decide +kernel
theorem dX8_step_110 : decode cX8_step 110 = .ok (.iconst 1, 1) := by decide +kernel
theorem dX8_step_111 : decode cX8_step 111 = .ok (.iadd, 1) := by decide +kernel
theorem dX8_step_112 : decode cX8_step 112 = .ok (.putfield 94, 3) := by decide +kernel
theorem dX8_step_115 : decode cX8_step 115 = .ok (.goto (-31), 3) := by decide +kernel
theorem dX8_step_118 : decode cX8_step 118 = .ok (.aload_n 0, 1) := by decide +kernel
theorem dX8_step_119 : decode cX8_step 119 = .ok (.iconst 1, 1) := by decide +kernel
theorem dX8_step_120 : decode cX8_step 120 = .ok (.putfield 91, 3) := by decide +kernel
theorem dX8_step_123 : decode cX8_step 123 = .ok (.goto 146, 3) := by decide +kernel
theorem dX8_step_126 : decode cX8_step 126 = .ok (.iload_n 1, 1) := by decide +kernel
theorem dX8_step_127 : decode cX8_step 127 = .ok (.i2l, 1) := by decide +kernel
theorem dX8_step_128 : decode cX8_step 128 = .ok (.ldc2_w 108, 3) := by decide +kernel
theorem dX8_step_131 : decode cX8_step 131 = .ok (.ldc2_w 110, 3) := by decide +kernel
theorem dX8_step_134 : decode cX8_step 134 = .ok (.invokestatic 78, 3) := by decide +kernel
theorem dX8_step_137 : decode cX8_step 137 = .ok (.ifCond .eq 106, 3) := by decide +kernel
theorem dX8_step_140 : decode cX8_step 140 = .ok (.aload_n 0, 1) := by decide +kernel
theorem dX8_step_141 : decode cX8_step 141 = .ok (.aload_n 0, 1) := by decide +kernel
theorem dX8_step_142 : decode cX8_step 142 = .ok (.getfield 94, 3) := by decide +kernel
theorem dX8_step_145 : decode cX8_step 145 = .ok (.invokevirtual 97, 3) := by decide +kernel
theorem dX8_step_148 : decode cX8_step 148 = .ok (.i2l, 1) := by decide +kernel
theorem dX8_step_149 : decode cX8_step 149 = .ok (.ldc2_w 108, 3) := by decide +kernel
theorem dX8_step_152 : decode cX8_step 152 = .ok (.ldc2_w 110, 3) := by decide +kernel
theorem dX8_step_155 : decode cX8_step 155 = .ok (.invokestatic 78, 3) := by decide +kernel
theorem dX8_step_158 : decode cX8_step 158 = .ok (.ifCond .eq 59, 3) := by decide +kernel
theorem dX8_step_161 : decode cX8_step 161 = .ok (.aload_n 0, 1) := by decide +kernel
theorem dX8_step_162 : decode cX8_step 162 = .ok (.aload_n 0, 1) := by decide +kernel
theorem dX8_step_163 : decode cX8_step 163 = .ok (.getfield 94, 3) := by decide +kernel
theorem dX8_step_166 : decode cX8_step 166 = .ok (.aload_n 0, 1) := by decide +kernel
theorem dX8_step_167 : decode cX8_step 167 = .ok (.getfield 85, 3) := by decide +kernel
theorem dX8_step_170 : decode cX8_step 170 = .ok (.isub, 1) := by decide +kernel
theorem dX8_step_171 : decode cX8_step 171 = .ok (.iconst 3, 1) := by decide +kernel
theorem dX8_step_172 : decode cX8_step 172 = .ok (.if_icmp .ge 25, 3) := by decide +kernel
theorem dX8_step_175 : decode cX8_step 175 = .ok (.bipush 10, 2) := by decide +kernel
theorem dX8_step_177 : decode cX8_step 177 = .ok (.aload_n 0, 1) := by decide +kernel
theorem dX8_step_178 : decode cX8_step 178 = .ok (.getfield 101, 3) := by decide +kernel
theorem dX8_step_181 : decode cX8_step 181 = .ok (.imul, 1) := by decide +kernel
theorem dX8_step_182 : decode cX8_step 182 = .ok (.aload_n 0, 1) := by decide +kernel
theorem dX8_step_183 : decode cX8_step 183 = .ok (.aload_n 0, 1) := by decide +kernel
theorem dX8_step_184 : decode cX8_step 184 = .ok (.getfield 94, 3) := by decide +kernel
theorem dX8_step_187 : decode cX8_step 187 = .ok (.invokevirtual 97, 3) := by decide +kernel
theorem dX8_step_190 : decode cX8_step 190 = .ok (.iadd, 1) := by decide +kernel
theorem dX8_step_191 : decode cX8_step 191 = .ok (.bipush 48, 2) := by decide +kernel
theorem dX8_step_193 : decode cX8_step 193 = .ok (.isub, 1) := by decide +kernel
theorem dX8_step_194 : decode cX8_step 194 = .ok (.goto 7, 3) := by decide +kernel
theorem dX8_step_197 : decode cX8_step 197 = .ok (.aload_n 0, 1) := by decide +kernel
theorem dX8_step_198 : decode cX8_step 198 = .ok (.getfield 101, 3) := by decide +kernel
theorem dX8_step_201 : decode cX8_step 201 = .ok (.putfield 101, 3) := by decide +kernel
theorem dX8_step_204 : decode cX8_step 204 = .ok (.aload_n 0, 1) := by decide +kernel
theorem dX8_step_205 : decode cX8_step 205 = .ok (.dup, 1) := by decide +kernel
theorem dX8_step_206 : decode cX8_step 206 = .ok (.getfield 94, 3) := by decide +kernel
theorem dX8_step_209 : decode cX8_step 209 = .ok (.iconst 1, 1) := by decide +kernel
theorem dX8_step_210 : decode cX8_step 210 = .ok (.iadd, 1) := by decide +kernel
theorem dX8_step_211 : decode cX8_step 211 = .ok (.putfield 94, 3) := by decide +kernel
theorem dX8_step_214 : decode cX8_step 214 = .ok (.goto (-74), 3) := by decide +kernel
theorem dX8_step_217 : decode cX8_step 217 = .ok (.aload_n 0, 1) := by decide +kernel
theorem dX8_step_218 : decode cX8_step 218 = .ok (.iconst 2, 1) := by decide +kernel
theorem dX8_step_219 : decode cX8_step 219 = .ok (.putfield 91, 3) := by decide +kernel
theorem dX8_step_222 : decode cX8_step 222 = .ok (.aload_n 0, 1) := by decide +kernel
theorem dX8_step_223 : decode cX8_step 223 = .ok (.getfield 94, 3) := by decide +kernel
theorem dX8_step_226 : decode cX8_step 226 = .ok (.aload_n 0, 1) := by decide +kernel
theorem dX8_step_227 : decode cX8_step 227 = .ok (.getfield 85, 3) := by decide +kernel
theorem dX8_step_230 : decode cX8_step 230 = .ok (.isub, 1) := by decide +kernel
theorem dX8_step_231 : decode cX8_step 231 = .ok (.iconst 3, 1) := by decide +kernel
theorem dX8_step_232 : decode cX8_step 232 = .ok (.if_icmp .le 37, 3) := by decide +kernel
theorem dX8_step_235 : decode cX8_step 235 = .ok (.aload_n 0, 1) := by decide +kernel
theorem dX8_step_236 : decode cX8_step 236 = .ok (.iconst 1, 1) := by decide +kernel
theorem dX8_step_237 : decode cX8_step 237 = .ok (.invokevirtual 112, 3) := by decide +kernel
theorem dX8_step_240 : decode cX8_step 240 = .ok (.goto 29, 3) := by decide +kernel
theorem dX8_step_243 : decode cX8_step 243 = .ok (.aload_n 0, 1) := by decide +kernel
theorem dX8_step_244 : decode cX8_step 244 = .ok (.iconst 3, 1) := by decide +kernel
theorem dX8_step_245 : decode cX8_step 245 = .ok (.putfield 91, 3) := by decide +kernel
theorem dX8_step_248 : decode cX8_step 248 = .ok (.aload_n 0, 1) := by decide +kernel
theorem dX8_step_249 : decode cX8_step 249 = .ok (.dup, 1) := by decide +kernel
theorem dX8_step_250 : decode cX8_step 250 = .ok (.getfield 94, 3) := by decide +kernel
theorem dX8_step_253 : decode cX8_step 253 = .ok (.iconst 1, 1) := by decide +kernel
theorem dX8_step_254 : decode cX8_step 254 = .ok (.iadd, 1) := by decide +kernel
theorem dX8_step_255 : decode cX8_step 255 = .ok (.putfield 94, 3) := by decide +kernel
theorem dX8_step_258 : decode cX8_step 258 = .ok (.iload_n 1, 1) := by decide +kernel
theorem dX8_step_259 : decode cX8_step 259 = .ok (.bipush 59, 2) := by decide +kernel
theorem dX8_step_261 : decode cX8_step 261 = .ok (.if_icmp .eq 8, 3) := by decide +kernel
theorem dX8_step_264 : decode cX8_step 264 = .ok (.aload_n 0, 1) := by decide +kernel
theorem dX8_step_265 : decode cX8_step 265 = .ok (.iconst 1, 1) := by decide +kernel
theorem dX8_step_266 : decode cX8_step 266 = .ok (.invokevirtual 112, 3) := by decide +kernel
theorem dX8_step_269 : decode cX8_step 269 = .ok (.return_, 1) := by decide +kernel
theorem dX8_number_0 : decode cX8_number 0 = .ok (.aload_n 0, 1) := by decide +kernel
theorem dX8_number_1 : decode cX8_number 1 = .ok (.getfield 82, 3) := by decide +kernel
theorem dX8_number_4 : decode cX8_number 4 = .ok (.ifCond .ne 16, 3) := by decide +kernel
theorem dX8_number_7 : decode cX8_number 7 = .ok (.aload_n 0, 1) := by decide +kernel
theorem dX8_number_8 : decode cX8_number 8 = .ok (.getfield 91, 3) := by decide +kernel
theorem dX8_number_11 : decode cX8_number 11 = .ok (.iconst 2, 1) := by decide +kernel
theorem dX8_number_12 : decode cX8_number 12 = .ok (.if_icmp .eq 8, 3) := by decide +kernel
theorem dX8_number_15 : decode cX8_number 15 = .ok (.aload_n 0, 1) := by decide +kernel
theorem dX8_number_16 : decode cX8_number 16 = .ok (.iconst 2, 1) := by decide +kernel
theorem dX8_number_17 : decode cX8_number 17 = .ok (.invokevirtual 112, 3) := by decide +kernel
theorem dX8_number_20 : decode cX8_number 20 = .ok (.aload_n 0, 1) := by decide +kernel
theorem dX8_number_21 : decode cX8_number 21 = .ok (.getfield 82, 3) := by decide +kernel
theorem dX8_number_24 : decode cX8_number 24 = .ok (.ifCond .ne 23, 3) := by decide +kernel
theorem dX8_number_27 : decode cX8_number 27 = .ok (.aload_n 0, 1) := by decide +kernel
theorem dX8_number_28 : decode cX8_number 28 = .ok (.getfield 101, 3) := by decide +kernel
theorem dX8_number_31 : decode cX8_number 31 = .ok (.i2l, 1) := by decide +kernel
theorem dX8_number_32 : decode cX8_number 32 = .ok (.iload_n 1, 1) := by decide +kernel
theorem dX8_number_33 : decode cX8_number 33 = .ok (.i2l, 1) := by decide +kernel
theorem dX8_number_34 : decode cX8_number 34 = .ok (.iload_n 2, 1) := by decide +kernel
theorem dX8_number_35 : decode cX8_number 35 = .ok (.i2l, 1) := by decide +kernel
theorem dX8_number_36 : decode cX8_number 36 = .ok (.invokestatic 78, 3) := by decide +kernel
theorem dX8_number_39 : decode cX8_number 39 = .ok (.ifCond .ne 8, 3) := by decide +kernel
theorem dX8_number_42 : decode cX8_number 42 = .ok (.aload_n 0, 1) := by decide +kernel
theorem dX8_number_43 : decode cX8_number 43 = .ok (.iconst 3, 1) := by decide +kernel
theorem dX8_number_44 : decode cX8_number 44 = .ok (.invokevirtual 112, 3) := by decide +kernel
theorem dX8_number_47 : decode cX8_number 47 = .ok (.aload_n 0, 1) := by decide +kernel
theorem dX8_number_48 : decode cX8_number 48 = .ok (.getfield 82, 3) := by decide +kernel
theorem dX8_number_51 : decode cX8_number 51 = .ok (.ifCond .ne 10, 3) := by decide +kernel
theorem dX8_number_54 : decode cX8_number 54 = .ok (.aload_n 0, 1) := by decide +kernel
theorem dX8_number_55 : decode cX8_number 55 = .ok (.getfield 101, 3) := by decide +kernel
theorem dX8_number_58 : decode cX8_number 58 = .ok (.goto 4, 3) := by decide +kernel
theorem dX8_number_61 : decode cX8_number 61 = .ok (.iload_n 1, 1) := by decide +kernel
theorem dX8_number_62 : decode cX8_number 62 = .ok (.istore_n 3, 1) := by decide +kernel
theorem dX8_number_63 : decode cX8_number 63 = .ok (.aload_n 0, 1) := by decide +kernel
theorem dX8_number_64 : decode cX8_number 64 = .ok (.invokevirtual 116, 3) := by decide +kernel
theorem dX8_number_67 : decode cX8_number 67 = .ok (.iload_n 3, 1) := by decide +kernel
theorem dX8_number_68 : decode cX8_number 68 = .ok (.ireturn, 1) := by decide +kernel
theorem dX8_readLine_0 : decode cX8_readLine 0 = .ok (.aload_n 0, 1) := by decide +kernel
theorem dX8_readLine_1 : decode cX8_readLine 1 = .ok (.invokevirtual 119, 3) := by decide +kernel
theorem dX8_readLine_4 : decode cX8_readLine 4 = .ok (.istore_n 1, 1) := by decide +kernel
theorem dX8_readLine_5 : decode cX8_readLine 5 = .ok (.iload_n 1, 1) := by decide +kernel
theorem dX8_readLine_6 : decode cX8_readLine 6 = .ok (.bipush (-4), 2) := by decide +kernel
theorem dX8_readLine_8 : decode cX8_readLine 8 = .ok (.if_icmp .ne 9, 3) := by decide +kernel
theorem dX8_readLine_11 : decode cX8_readLine 11 = .ok (.aload_n 0, 1) := by decide +kernel
theorem dX8_readLine_12 : decode cX8_readLine 12 = .ok (.iconst 2, 1) := by decide +kernel
theorem dX8_readLine_13 : decode cX8_readLine 13 = .ok (.invokevirtual 112, 3) := by decide +kernel
theorem dX8_readLine_16 : decode cX8_readLine 16 = .ok (.return_, 1) := by decide +kernel
theorem dX8_readLine_17 : decode cX8_readLine 17 = .ok (.iload_n 1, 1) := by decide +kernel
theorem dX8_readLine_18 : decode cX8_readLine 18 = .ok (.bipush 7, 2) := by decide +kernel
theorem dX8_readLine_20 : decode cX8_readLine 20 = .ok (.if_icmp .ne 73, 3) := by decide +kernel
theorem dX8_readLine_23 : decode cX8_readLine 23 = .ok (.aload_n 0, 1) := by decide +kernel
theorem dX8_readLine_24 : decode cX8_readLine 24 = .ok (.getfield 123, 3) := by decide +kernel
theorem dX8_readLine_27 : decode cX8_readLine 27 = .ok (.bipush 8, 2) := by decide +kernel
theorem dX8_readLine_29 : decode cX8_readLine 29 = .ok (.if_icmp .ne 9, 3) := by decide +kernel
theorem dX8_readLine_32 : decode cX8_readLine 32 = .ok (.aload_n 0, 1) := by decide +kernel
theorem dX8_readLine_33 : decode cX8_readLine 33 = .ok (.iconst 5, 1) := by decide +kernel
theorem dX8_readLine_34 : decode cX8_readLine 34 = .ok (.invokevirtual 112, 3) := by decide +kernel
theorem dX8_readLine_37 : decode cX8_readLine 37 = .ok (.return_, 1) := by decide +kernel
theorem dX8_readLine_38 : decode cX8_readLine 38 = .ok (.aload_n 0, 1) := by decide +kernel
theorem dX8_readLine_39 : decode cX8_readLine 39 = .ok (.invokevirtual 116, 3) := by decide +kernel
theorem dX8_readLine_42 : decode cX8_readLine 42 = .ok (.aload_n 0, 1) := by decide +kernel
theorem dX8_readLine_43 : decode cX8_readLine 43 = .ok (.getfield 43, 3) := by decide +kernel
theorem dX8_readLine_46 : decode cX8_readLine 46 = .ok (.iconst 2, 1) := by decide +kernel
theorem dX8_readLine_47 : decode cX8_readLine 47 = .ok (.aload_n 0, 1) := by decide +kernel
theorem dX8_readLine_48 : decode cX8_readLine 48 = .ok (.getfield 123, 3) := by decide +kernel
theorem dX8_readLine_51 : decode cX8_readLine 51 = .ok (.imul, 1) := by decide +kernel
theorem dX8_readLine_52 : decode cX8_readLine 52 = .ok (.aload_n 0, 1) := by decide +kernel
theorem dX8_readLine_53 : decode cX8_readLine 53 = .ok (.iconst 1, 1) := by decide +kernel
theorem dX8_readLine_54 : decode cX8_readLine 54 = .ok (.bipush 50, 2) := by decide +kernel
theorem dX8_readLine_56 : decode cX8_readLine 56 = .ok (.invokevirtual 126, 3) := by decide +kernel
theorem dX8_readLine_59 : decode cX8_readLine 59 = .ok (.iastore, 1) := by decide +kernel
theorem dX8_readLine_60 : decode cX8_readLine 60 = .ok (.aload_n 0, 1) := by decide +kernel
theorem dX8_readLine_61 : decode cX8_readLine 61 = .ok (.getfield 43, 3) := by decide +kernel
theorem dX8_readLine_64 : decode cX8_readLine 64 = .ok (.iconst 2, 1) := by decide +kernel
theorem dX8_readLine_65 : decode cX8_readLine 65 = .ok (.aload_n 0, 1) := by decide +kernel
theorem dX8_readLine_66 : decode cX8_readLine 66 = .ok (.getfield 123, 3) := by decide +kernel
theorem dX8_readLine_69 : decode cX8_readLine 69 = .ok (.imul, 1) := by decide +kernel
theorem dX8_readLine_70 : decode cX8_readLine 70 = .ok (.iconst 1, 1) := by decide +kernel
theorem dX8_readLine_71 : decode cX8_readLine 71 = .ok (.iadd, 1) := by decide +kernel
theorem dX8_readLine_72 : decode cX8_readLine 72 = .ok (.aload_n 0, 1) := by decide +kernel
theorem dX8_readLine_73 : decode cX8_readLine 73 = .ok (.iconst 0, 1) := by decide +kernel
theorem dX8_readLine_74 : decode cX8_readLine 74 = .ok (.bipush 100, 2) := by decide +kernel
theorem dX8_readLine_76 : decode cX8_readLine 76 = .ok (.invokevirtual 126, 3) := by decide +kernel
theorem dX8_readLine_79 : decode cX8_readLine 79 = .ok (.iastore, 1) := by decide +kernel
theorem dX8_readLine_80 : decode cX8_readLine 80 = .ok (.aload_n 0, 1) := by decide +kernel
theorem dX8_readLine_81 : decode cX8_readLine 81 = .ok (.dup, 1) := by decide +kernel
theorem dX8_readLine_82 : decode cX8_readLine 82 = .ok (.getfield 123, 3) := by decide +kernel
theorem dX8_readLine_85 : decode cX8_readLine 85 = .ok (.iconst 1, 1) := by decide +kernel
theorem dX8_readLine_86 : decode cX8_readLine 86 = .ok (.iadd, 1) := by decide +kernel
theorem dX8_readLine_87 : decode cX8_readLine 87 = .ok (.putfield 123, 3) := by decide +kernel
theorem dX8_readLine_90 : decode cX8_readLine 90 = .ok (.goto 97, 3) := by decide +kernel
theorem dX8_readLine_93 : decode cX8_readLine 93 = .ok (.aload_n 0, 1) := by decide +kernel
theorem dX8_readLine_94 : decode cX8_readLine 94 = .ok (.getfield 130, 3) := by decide +kernel
theorem dX8_readLine_97 : decode cX8_readLine 97 = .ok (.iload_n 1, 1) := by decide +kernel
theorem dX8_readLine_98 : decode cX8_readLine 98 = .ok (.ishr, 1) := by decide +kernel
theorem dX8_readLine_99 : decode cX8_readLine 99 = .ok (.iconst 1, 1) := by decide +kernel
theorem dX8_readLine_100 : decode cX8_readLine 100 = .ok (.iand, 1) := by decide +kernel
theorem dX8_readLine_101 : decode cX8_readLine 101 = .ok (.iconst 1, 1) := by decide +kernel
theorem dX8_readLine_102 : decode cX8_readLine 102 = .ok (.if_icmp .ne 8, 3) := by decide +kernel
theorem dX8_readLine_105 : decode cX8_readLine 105 = .ok (.aload_n 0, 1) := by decide +kernel
theorem dX8_readLine_106 : decode cX8_readLine 106 = .ok (.iconst 4, 1) := by decide +kernel
theorem dX8_readLine_107 : decode cX8_readLine 107 = .ok (.invokevirtual 112, 3) := by decide +kernel
theorem dX8_readLine_110 : decode cX8_readLine 110 = .ok (.aload_n 0, 1) := by decide +kernel
theorem dX8_readLine_111 : decode cX8_readLine 111 = .ok (.dup, 1) := by decide +kernel
theorem dX8_readLine_112 : decode cX8_readLine 112 = .ok (.getfield 130, 3) := by decide +kernel
theorem dX8_readLine_115 : decode cX8_readLine 115 = .ok (.iconst 1, 1) := by decide +kernel
theorem dX8_readLine_116 : decode cX8_readLine 116 = .ok (.iload_n 1, 1) := by decide +kernel
theorem dX8_readLine_117 : decode cX8_readLine 117 = .ok (.ishl, 1) := by decide +kernel
theorem dX8_readLine_118 : decode cX8_readLine 118 = .ok (.ior, 1) := by decide +kernel
theorem dX8_readLine_119 : decode cX8_readLine 119 = .ok (.putfield 130, 3) := by decide +kernel
theorem dX8_readLine_122 : decode cX8_readLine 122 = .ok (.aload_n 0, 1) := by decide +kernel
theorem dX8_readLine_123 : decode cX8_readLine 123 = .ok (.invokevirtual 116, 3) := by decide +kernel
theorem dX8_readLine_126 : decode cX8_readLine 126 = .ok (.aload_n 0, 1) := by decide +kernel
theorem dX8_readLine_127 : decode cX8_readLine 127 = .ok (.getfield 19, 3) := by decide +kernel
theorem dX8_readLine_130 : decode cX8_readLine 130 = .ok (.iload_n 1, 1) := by decide +kernel
theorem dX8_readLine_131 : decode cX8_readLine 131 = .ok (.iaload, 1) := by decide +kernel
theorem dX8_readLine_132 : decode cX8_readLine 132 = .ok (.istore_n 2, 1) := by decide +kernel
theorem dX8_readLine_133 : decode cX8_readLine 133 = .ok (.iload_n 2, 1) := by decide +kernel
theorem dX8_readLine_134 : decode cX8_readLine 134 = .ok (.aload_n 0, 1) := by decide +kernel
theorem dX8_readLine_135 : decode cX8_readLine 135 = .ok (.getfield 22, 3) := by decide +kernel
theorem dX8_readLine_138 : decode cX8_readLine 138 = .ok (.iload_n 1, 1) := by decide +kernel
theorem dX8_readLine_139 : decode cX8_readLine 139 = .ok (.iaload, 1) := by decide +kernel
theorem dX8_readLine_140 : decode cX8_readLine 140 = .ok (.if_icmp .gt 47, 3) := by decide +kernel
theorem dX8_readLine_143 : decode cX8_readLine 143 = .ok (.aload_n 0, 1) := by decide +kernel
theorem dX8_readLine_144 : decode cX8_readLine 144 = .ok (.getfield 40, 3) := by decide +kernel
theorem dX8_readLine_147 : decode cX8_readLine 147 = .ok (.iload_n 2, 1) := by decide +kernel
theorem dX8_readLine_148 : decode cX8_readLine 148 = .ok (.aload_n 0, 1) := by decide +kernel
theorem dX8_readLine_149 : decode cX8_readLine 149 = .ok (.iload_n 2, 1) := by decide +kernel
theorem dX8_readLine_150 : decode cX8_readLine 150 = .ok (.bipush 8, 2) := by decide +kernel
theorem dX8_readLine_152 : decode cX8_readLine 152 = .ok (.if_icmp .ne 13, 3) := by decide +kernel
theorem dX8_readLine_155 : decode cX8_readLine 155 = .ok (.aload_n 0, 1) := by decide +kernel
theorem dX8_readLine_156 : decode cX8_readLine 156 = .ok (.getfield 40, 3) := by decide +kernel
theorem dX8_readLine_159 : decode cX8_readLine 159 = .ok (.bipush 7, 2) := by decide +kernel
theorem dX8_readLine_161 : decode cX8_readLine 161 = .ok (.iaload, 1) := by decide +kernel
theorem dX8_readLine_162 : decode cX8_readLine 162 = .ok (.goto 9, 3) := by decide +kernel
theorem dX8_readLine_165 : decode cX8_readLine 165 = .ok (.aload_n 0, 1) := by decide +kernel
theorem dX8_readLine_166 : decode cX8_readLine 166 = .ok (.getfield 25, 3) := by decide +kernel
theorem dX8_readLine_169 : decode cX8_readLine 169 = .ok (.iload_n 2, 1) := by decide +kernel
theorem dX8_readLine_170 : decode cX8_readLine 170 = .ok (.iaload, 1) := by decide +kernel
theorem dX8_readLine_171 : decode cX8_readLine 171 = .ok (.aload_n 0, 1) := by decide +kernel
theorem dX8_readLine_172 : decode cX8_readLine 172 = .ok (.getfield 28, 3) := by decide +kernel
theorem dX8_readLine_175 : decode cX8_readLine 175 = .ok (.iload_n 2, 1) := by decide +kernel
theorem dX8_readLine_176 : decode cX8_readLine 176 = .ok (.iaload, 1) := by decide +kernel
theorem dX8_readLine_177 : decode cX8_readLine 177 = .ok (.invokevirtual 126, 3) := by decide +kernel
theorem dX8_readLine_180 : decode cX8_readLine 180 = .ok (.iastore, 1) := by decide +kernel
theorem dX8_readLine_181 : decode cX8_readLine 181 = .ok (.iinc 2 1, 3) := by decide +kernel
theorem dX8_readLine_184 : decode cX8_readLine 184 = .ok (.goto (-51), 3) := by decide +kernel
theorem dX8_readLine_187 : decode cX8_readLine 187 = .ok (.aload_n 0, 1) := by decide +kernel
theorem dX8_readLine_188 : decode cX8_readLine 188 = .ok (.getfield 82, 3) := by decide +kernel
theorem dX8_readLine_191 : decode cX8_readLine 191 = .ok (.ifCond .ne 16, 3) := by decide +kernel
theorem dX8_readLine_194 : decode cX8_readLine 194 = .ok (.aload_n 0, 1) := by decide +kernel
theorem dX8_readLine_195 : decode cX8_readLine 195 = .ok (.getfield 91, 3) := by decide +kernel
theorem dX8_readLine_198 : decode cX8_readLine 198 = .ok (.iconst 3, 1) := by decide +kernel
theorem dX8_readLine_199 : decode cX8_readLine 199 = .ok (.if_icmp .eq 8, 3) := by decide +kernel
theorem dX8_readLine_202 : decode cX8_readLine 202 = .ok (.aload_n 0, 1) := by decide +kernel
theorem dX8_readLine_203 : decode cX8_readLine 203 = .ok (.iconst 2, 1) := by decide +kernel
theorem dX8_readLine_204 : decode cX8_readLine 204 = .ok (.invokevirtual 112, 3) := by decide +kernel
theorem dX8_readLine_207 : decode cX8_readLine 207 = .ok (.aload_n 0, 1) := by decide +kernel
theorem dX8_readLine_208 : decode cX8_readLine 208 = .ok (.invokevirtual 116, 3) := by decide +kernel
theorem dX8_readLine_211 : decode cX8_readLine 211 = .ok (.return_, 1) := by decide +kernel
theorem dX8_dairy_0 : decode cX8_dairy 0 = .ok (.aload_n 0, 1) := by decide +kernel
theorem dX8_dairy_1 : decode cX8_dairy 1 = .ok (.iconst 0, 1) := by decide +kernel
theorem dX8_dairy_2 : decode cX8_dairy 2 = .ok (.putfield 82, 3) := by decide +kernel
theorem dX8_dairy_5 : decode cX8_dairy 5 = .ok (.aload_n 0, 1) := by decide +kernel
theorem dX8_dairy_6 : decode cX8_dairy 6 = .ok (.iconst 0, 1) := by decide +kernel
theorem dX8_dairy_7 : decode cX8_dairy 7 = .ok (.putfield 94, 3) := by decide +kernel
theorem dX8_dairy_10 : decode cX8_dairy 10 = .ok (.aload_n 0, 1) := by decide +kernel
theorem dX8_dairy_11 : decode cX8_dairy 11 = .ok (.iconst 0, 1) := by decide +kernel
theorem dX8_dairy_12 : decode cX8_dairy 12 = .ok (.putfield 130, 3) := by decide +kernel
theorem dX8_dairy_15 : decode cX8_dairy 15 = .ok (.aload_n 0, 1) := by decide +kernel
theorem dX8_dairy_16 : decode cX8_dairy 16 = .ok (.iconst 0, 1) := by decide +kernel
theorem dX8_dairy_17 : decode cX8_dairy 17 = .ok (.putfield 123, 3) := by decide +kernel
theorem dX8_dairy_20 : decode cX8_dairy 20 = .ok (.iconst 0, 1) := by decide +kernel
theorem dX8_dairy_21 : decode cX8_dairy 21 = .ok (.istore_n 1, 1) := by decide +kernel
theorem dX8_dairy_22 : decode cX8_dairy 22 = .ok (.iconst 0, 1) := by decide +kernel
theorem dX8_dairy_23 : decode cX8_dairy 23 = .ok (.istore_n 2, 1) := by decide +kernel
theorem dX8_dairy_24 : decode cX8_dairy 24 = .ok (.iload_n 2, 1) := by decide +kernel
theorem dX8_dairy_25 : decode cX8_dairy 25 = .ok (.bipush 13, 2) := by decide +kernel
theorem dX8_dairy_27 : decode cX8_dairy 27 = .ok (.if_icmp .ge 21, 3) := by decide +kernel
theorem dX8_dairy_30 : decode cX8_dairy 30 = .ok (.aload_n 0, 1) := by decide +kernel
theorem dX8_dairy_31 : decode cX8_dairy 31 = .ok (.getfield 40, 3) := by decide +kernel
theorem dX8_dairy_34 : decode cX8_dairy 34 = .ok (.iload_n 2, 1) := by decide +kernel
theorem dX8_dairy_35 : decode cX8_dairy 35 = .ok (.aload_n 0, 1) := by decide +kernel
theorem dX8_dairy_36 : decode cX8_dairy 36 = .ok (.getfield 31, 3) := by decide +kernel
theorem dX8_dairy_39 : decode cX8_dairy 39 = .ok (.iload_n 2, 1) := by decide +kernel
theorem dX8_dairy_40 : decode cX8_dairy 40 = .ok (.iaload, 1) := by decide +kernel
theorem dX8_dairy_41 : decode cX8_dairy 41 = .ok (.iastore, 1) := by decide +kernel
theorem dX8_dairy_42 : decode cX8_dairy 42 = .ok (.iinc 2 1, 3) := by decide +kernel
theorem dX8_dairy_45 : decode cX8_dairy 45 = .ok (.goto (-21), 3) := by decide +kernel
theorem dX8_dairy_48 : decode cX8_dairy 48 = .ok (.aload_n 0, 1) := by decide +kernel
theorem dX8_dairy_49 : decode cX8_dairy 49 = .ok (.invokevirtual 116, 3) := by decide +kernel
theorem dX8_dairy_52 : decode cX8_dairy 52 = .ok (.aload_n 0, 1) := by decide +kernel
theorem dX8_dairy_53 : decode cX8_dairy 53 = .ok (.getfield 82, 3) := by decide +kernel
theorem dX8_dairy_56 : decode cX8_dairy 56 = .ok (.ifCond .ne 20, 3) := by decide +kernel
theorem dX8_dairy_59 : decode cX8_dairy 59 = .ok (.aload_n 0, 1) := by decide +kernel
theorem dX8_dairy_60 : decode cX8_dairy 60 = .ok (.getfield 91, 3) := by decide +kernel
theorem dX8_dairy_63 : decode cX8_dairy 63 = .ok (.ifCond .eq 13, 3) := by decide +kernel
theorem dX8_dairy_66 : decode cX8_dairy 66 = .ok (.aload_n 0, 1) := by decide +kernel
theorem dX8_dairy_67 : decode cX8_dairy 67 = .ok (.invokevirtual 133, 3) := by decide +kernel
theorem dX8_dairy_70 : decode cX8_dairy 70 = .ok (.iinc 1 1, 3) := by decide +kernel
theorem dX8_dairy_73 : decode cX8_dairy 73 = .ok (.goto (-21), 3) := by decide +kernel
theorem dX8_dairy_76 : decode cX8_dairy 76 = .ok (.aload_n 0, 1) := by decide +kernel
theorem dX8_dairy_77 : decode cX8_dairy 77 = .ok (.iconst 0, 1) := by decide +kernel
theorem dX8_dairy_78 : decode cX8_dairy 78 = .ok (.putfield 74, 3) := by decide +kernel
theorem dX8_dairy_81 : decode cX8_dairy 81 = .ok (.aload_n 0, 1) := by decide +kernel
theorem dX8_dairy_82 : decode cX8_dairy 82 = .ok (.aload_n 0, 1) := by decide +kernel
theorem dX8_dairy_83 : decode cX8_dairy 83 = .ok (.getfield 82, 3) := by decide +kernel
theorem dX8_dairy_86 : decode cX8_dairy 86 = .ok (.putfield 136, 3) := by decide +kernel
theorem dX8_dairy_89 : decode cX8_dairy 89 = .ok (.aload_n 0, 1) := by decide +kernel
theorem dX8_dairy_90 : decode cX8_dairy 90 = .ok (.getfield 82, 3) := by decide +kernel
theorem dX8_dairy_93 : decode cX8_dairy 93 = .ok (.ifCond .le 11, 3) := by decide +kernel
theorem dX8_dairy_96 : decode cX8_dairy 96 = .ok (.bipush (-10), 2) := by decide +kernel
theorem dX8_dairy_98 : decode cX8_dairy 98 = .ok (.aload_n 0, 1) := by decide +kernel
theorem dX8_dairy_99 : decode cX8_dairy 99 = .ok (.getfield 88, 3) := by decide +kernel
theorem dX8_dairy_102 : decode cX8_dairy 102 = .ok (.isub, 1) := by decide +kernel
theorem dX8_dairy_103 : decode cX8_dairy 103 = .ok (.ireturn, 1) := by decide +kernel
theorem dX8_dairy_104 : decode cX8_dairy 104 = .ok (.iconst 0, 1) := by decide +kernel
theorem dX8_dairy_105 : decode cX8_dairy 105 = .ok (.istore_n 2, 1) := by decide +kernel
theorem dX8_dairy_106 : decode cX8_dairy 106 = .ok (.iload_n 2, 1) := by decide +kernel
theorem dX8_dairy_107 : decode cX8_dairy 107 = .ok (.bipush 16, 2) := by decide +kernel
theorem dX8_dairy_109 : decode cX8_dairy 109 = .ok (.if_icmp .ge 39, 3) := by decide +kernel
theorem dX8_dairy_112 : decode cX8_dairy 112 = .ok (.aload_n 0, 1) := by decide +kernel
theorem dX8_dairy_113 : decode cX8_dairy 113 = .ok (.getfield 37, 3) := by decide +kernel
theorem dX8_dairy_116 : decode cX8_dairy 116 = .ok (.iload_n 2, 1) := by decide +kernel
theorem dX8_dairy_117 : decode cX8_dairy 117 = .ok (.aload_n 0, 1) := by decide +kernel
theorem dX8_dairy_118 : decode cX8_dairy 118 = .ok (.getfield 43, 3) := by decide +kernel
theorem dX8_dairy_121 : decode cX8_dairy 121 = .ok (.iload_n 2, 1) := by decide +kernel
theorem dX8_dairy_122 : decode cX8_dairy 122 = .ok (.iaload, 1) := by decide +kernel
theorem dX8_dairy_123 : decode cX8_dairy 123 = .ok (.iastore, 1) := by decide +kernel
theorem dX8_dairy_124 : decode cX8_dairy 124 = .ok (.aload_n 0, 1) := by decide +kernel
theorem dX8_dairy_125 : decode cX8_dairy 125 = .ok (.getfield 34, 3) := by decide +kernel
theorem dX8_dairy_128 : decode cX8_dairy 128 = .ok (.iload_n 2, 1) := by decide +kernel
theorem dX8_dairy_129 : decode cX8_dairy 129 = .ok (.bipush 13, 2) := by decide +kernel
theorem dX8_dairy_131 : decode cX8_dairy 131 = .ok (.irem, 1) := by decide +kernel
theorem dX8_dairy_132 : decode cX8_dairy 132 = .ok (.aload_n 0, 1) := by decide +kernel
theorem dX8_dairy_133 : decode cX8_dairy 133 = .ok (.getfield 40, 3) := by decide +kernel
theorem dX8_dairy_136 : decode cX8_dairy 136 = .ok (.iload_n 2, 1) := by decide +kernel
theorem dX8_dairy_137 : decode cX8_dairy 137 = .ok (.bipush 13, 2) := by decide +kernel
theorem dX8_dairy_139 : decode cX8_dairy 139 = .ok (.irem, 1) := by decide +kernel
theorem dX8_dairy_140 : decode cX8_dairy 140 = .ok (.iaload, 1) := by decide +kernel
theorem dX8_dairy_141 : decode cX8_dairy 141 = .ok (.iastore, 1) := by decide +kernel
theorem dX8_dairy_142 : decode cX8_dairy 142 = .ok (.iinc 2 1, 3) := by decide +kernel
theorem dX8_dairy_145 : decode cX8_dairy 145 = .ok (.goto (-39), 3) := by decide +kernel
theorem dX8_dairy_148 : decode cX8_dairy 148 = .ok (.aload_n 0, 1) := by decide +kernel
theorem dX8_dairy_149 : decode cX8_dairy 149 = .ok (.aload_n 0, 1) := by decide +kernel
theorem dX8_dairy_150 : decode cX8_dairy 150 = .ok (.getfield 123, 3) := by decide +kernel
theorem dX8_dairy_153 : decode cX8_dairy 153 = .ok (.putfield 139, 3) := by decide +kernel
theorem dX8_dairy_156 : decode cX8_dairy 156 = .ok (.aload_n 0, 1) := by decide +kernel
theorem dX8_dairy_157 : decode cX8_dairy 157 = .ok (.iconst 0, 1) := by decide +kernel
theorem dX8_dairy_158 : decode cX8_dairy 158 = .ok (.putfield 142, 3) := by decide +kernel
theorem dX8_dairy_161 : decode cX8_dairy 161 = .ok (.aload_n 0, 1) := by decide +kernel
theorem dX8_dairy_162 : decode cX8_dairy 162 = .ok (.getfield 61, 3) := by decide +kernel
theorem dX8_dairy_165 : decode cX8_dairy 165 = .ok (.iconst 0, 1) := by decide +kernel
theorem dX8_dairy_166 : decode cX8_dairy 166 = .ok (.iconst 0, 1) := by decide +kernel
theorem dX8_dairy_167 : decode cX8_dairy 167 = .ok (.bastore, 1) := by decide +kernel
theorem dX8_dairy_168 : decode cX8_dairy 168 = .ok (.aload_n 0, 1) := by decide +kernel
theorem dX8_dairy_169 : decode cX8_dairy 169 = .ok (.getfield 61, 3) := by decide +kernel
theorem dX8_dairy_172 : decode cX8_dairy 172 = .ok (.iconst 1, 1) := by decide +kernel
theorem dX8_dairy_173 : decode cX8_dairy 173 = .ok (.iconst 0, 1) := by decide +kernel
theorem dX8_dairy_174 : decode cX8_dairy 174 = .ok (.bastore, 1) := by decide +kernel
theorem dX8_dairy_175 : decode cX8_dairy 175 = .ok (.aload_n 0, 1) := by decide +kernel
theorem dX8_dairy_176 : decode cX8_dairy 176 = .ok (.iconst 0, 1) := by decide +kernel
theorem dX8_dairy_177 : decode cX8_dairy 177 = .ok (.iconst 1, 1) := by decide +kernel
theorem dX8_dairy_178 : decode cX8_dairy 178 = .ok (.aload_n 0, 1) := by decide +kernel
theorem dX8_dairy_179 : decode cX8_dairy 179 = .ok (.getfield 139, 3) := by decide +kernel
theorem dX8_dairy_182 : decode cX8_dairy 182 = .ok (.ishl, 1) := by decide +kernel
theorem dX8_dairy_183 : decode cX8_dairy 183 = .ok (.iconst 1, 1) := by decide +kernel
theorem dX8_dairy_184 : decode cX8_dairy 184 = .ok (.isub, 1) := by decide +kernel
theorem dX8_dairy_185 : decode cX8_dairy 185 = .ok (.aload_n 0, 1) := by decide +kernel
theorem dX8_dairy_186 : decode cX8_dairy 186 = .ok (.getfield 34, 3) := by decide +kernel
theorem dX8_dairy_189 : decode cX8_dairy 189 = .ok (.iconst 1, 1) := by decide +kernel
theorem dX8_dairy_190 : decode cX8_dairy 190 = .ok (.iaload, 1) := by decide +kernel
theorem dX8_dairy_191 : decode cX8_dairy 191 = .ok (.invokevirtual 145, 3) := by decide +kernel
theorem dX8_dairy_194 : decode cX8_dairy 194 = .ok (.aload_n 0, 1) := by decide +kernel
theorem dX8_dairy_195 : decode cX8_dairy 195 = .ok (.iconst 1, 1) := by decide +kernel
theorem dX8_dairy_196 : decode cX8_dairy 196 = .ok (.putfield 149, 3) := by decide +kernel
theorem dX8_dairy_199 : decode cX8_dairy 199 = .ok (.iload_n 1, 1) := by decide +kernel
theorem dX8_dairy_200 : decode cX8_dairy 200 = .ok (.ireturn, 1) := by decide +kernel
theorem dX8_fault_0 : decode cX8_fault 0 = .ok (.aload_n 0, 1) := by decide +kernel
theorem dX8_fault_1 : decode cX8_fault 1 = .ok (.getfield 136, 3) := by decide +kernel
theorem dX8_fault_4 : decode cX8_fault 4 = .ok (.ireturn, 1) := by decide +kernel
theorem dX8_rule_0 : decode cX8_rule 0 = .ok (.iload_n 1, 1) := by decide +kernel
theorem dX8_rule_1 : decode cX8_rule 1 = .ok (.i2l, 1) := by decide +kernel
theorem dX8_rule_2 : decode cX8_rule 2 = .ok (.lconst 0, 1) := by decide +kernel
theorem dX8_rule_3 : decode cX8_rule 3 = .ok (.ldc2_w 153, 3) := by decide +kernel
theorem dX8_rule_6 : decode cX8_rule 6 = .ok (.invokestatic 78, 3) := by decide +kernel
theorem dX8_rule_9 : decode cX8_rule 9 = .ok (.ifCond .eq 12, 3) := by decide +kernel
theorem dX8_rule_12 : decode cX8_rule 12 = .ok (.aload_n 0, 1) := by decide +kernel
theorem dX8_rule_13 : decode cX8_rule 13 = .ok (.getfield 34, 3) := by decide +kernel
theorem dX8_rule_16 : decode cX8_rule 16 = .ok (.iload_n 1, 1) := by decide +kernel
theorem dX8_rule_17 : decode cX8_rule 17 = .ok (.iaload, 1) := by decide +kernel
theorem dX8_rule_18 : decode cX8_rule 18 = .ok (.goto 33, 3) := by decide +kernel
theorem dX8_rule_21 : decode cX8_rule 21 = .ok (.iload_n 1, 1) := by decide +kernel
theorem dX8_rule_22 : decode cX8_rule 22 = .ok (.i2l, 1) := by decide +kernel
theorem dX8_rule_23 : decode cX8_rule 23 = .ok (.ldc2_w 155, 3) := by decide +kernel
theorem dX8_rule_26 : decode cX8_rule 26 = .ok (.ldc2_w 157, 3) := by decide +kernel
theorem dX8_rule_29 : decode cX8_rule 29 = .ok (.invokestatic 78, 3) := by decide +kernel
theorem dX8_rule_32 : decode cX8_rule 32 = .ok (.ifCond .eq 18, 3) := by decide +kernel
theorem dX8_rule_35 : decode cX8_rule 35 = .ok (.aload_n 0, 1) := by decide +kernel
theorem dX8_rule_36 : decode cX8_rule 36 = .ok (.getfield 34, 3) := by decide +kernel
theorem dX8_rule_39 : decode cX8_rule 39 = .ok (.bipush 9, 2) := by decide +kernel
theorem dX8_rule_41 : decode cX8_rule 41 = .ok (.iload_n 1, 1) := by decide +kernel
theorem dX8_rule_42 : decode cX8_rule 42 = .ok (.iadd, 1) := by decide +kernel
theorem dX8_rule_43 : decode cX8_rule 43 = .ok (.bipush 10, 2) := by decide +kernel
theorem dX8_rule_45 : decode cX8_rule 45 = .ok (.isub, 1) := by decide +kernel
theorem dX8_rule_46 : decode cX8_rule 46 = .ok (.iaload, 1) := by decide +kernel
theorem dX8_rule_47 : decode cX8_rule 47 = .ok (.goto 4, 3) := by decide +kernel
theorem dX8_rule_50 : decode cX8_rule 50 = .ok (.iconst (-1), 1) := by decide +kernel
theorem dX8_rule_51 : decode cX8_rule 51 = .ok (.ireturn, 1) := by decide +kernel
theorem dX8_isCow_0 : decode cX8_isCow 0 = .ok (.iload_n 1, 1) := by decide +kernel
theorem dX8_isCow_1 : decode cX8_isCow 1 = .ok (.i2l, 1) := by decide +kernel
theorem dX8_isCow_2 : decode cX8_isCow 2 = .ok (.lconst 0, 1) := by decide +kernel
theorem dX8_isCow_3 : decode cX8_isCow 3 = .ok (.aload_n 0, 1) := by decide +kernel
theorem dX8_isCow_4 : decode cX8_isCow 4 = .ok (.getfield 139, 3) := by decide +kernel
theorem dX8_isCow_7 : decode cX8_isCow 7 = .ok (.iconst 1, 1) := by decide +kernel
theorem dX8_isCow_8 : decode cX8_isCow 8 = .ok (.isub, 1) := by decide +kernel
theorem dX8_isCow_9 : decode cX8_isCow 9 = .ok (.i2l, 1) := by decide +kernel
theorem dX8_isCow_10 : decode cX8_isCow 10 = .ok (.invokestatic 78, 3) := by decide +kernel
theorem dX8_isCow_13 : decode cX8_isCow 13 = .ok (.ireturn, 1) := by decide +kernel
theorem dX8_cow_0 : decode cX8_cow 0 = .ok (.aload_n 0, 1) := by decide +kernel
theorem dX8_cow_1 : decode cX8_cow 1 = .ok (.iload_n 1, 1) := by decide +kernel
theorem dX8_cow_2 : decode cX8_cow 2 = .ok (.invokevirtual 159, 3) := by decide +kernel
theorem dX8_cow_5 : decode cX8_cow 5 = .ok (.ifCond .eq 26, 3) := by decide +kernel
theorem dX8_cow_8 : decode cX8_cow 8 = .ok (.iload_n 2, 1) := by decide +kernel
theorem dX8_cow_9 : decode cX8_cow 9 = .ok (.i2l, 1) := by decide +kernel
theorem dX8_cow_10 : decode cX8_cow 10 = .ok (.lconst 0, 1) := by decide +kernel
theorem dX8_cow_11 : decode cX8_cow 11 = .ok (.lconst 1, 1) := by decide +kernel
theorem dX8_cow_12 : decode cX8_cow 12 = .ok (.invokestatic 78, 3) := by decide +kernel
theorem dX8_cow_15 : decode cX8_cow 15 = .ok (.ifCond .eq 16, 3) := by decide +kernel
theorem dX8_cow_18 : decode cX8_cow 18 = .ok (.aload_n 0, 1) := by decide +kernel
theorem dX8_cow_19 : decode cX8_cow 19 = .ok (.getfield 37, 3) := by decide +kernel
theorem dX8_cow_22 : decode cX8_cow 22 = .ok (.iconst 2, 1) := by decide +kernel
theorem dX8_cow_23 : decode cX8_cow 23 = .ok (.iload_n 1, 1) := by decide +kernel
theorem dX8_cow_24 : decode cX8_cow 24 = .ok (.imul, 1) := by decide +kernel
theorem dX8_cow_25 : decode cX8_cow 25 = .ok (.iload_n 2, 1) := by decide +kernel
theorem dX8_cow_26 : decode cX8_cow 26 = .ok (.iadd, 1) := by decide +kernel
theorem dX8_cow_27 : decode cX8_cow 27 = .ok (.iaload, 1) := by decide +kernel
theorem dX8_cow_28 : decode cX8_cow 28 = .ok (.goto 4, 3) := by decide +kernel
theorem dX8_cow_31 : decode cX8_cow 31 = .ok (.iconst (-1), 1) := by decide +kernel
theorem dX8_cow_32 : decode cX8_cow 32 = .ok (.ireturn, 1) := by decide +kernel
theorem dX8_feeds_0 : decode cX8_feeds 0 = .ok (.aload_n 0, 1) := by decide +kernel
theorem dX8_feeds_1 : decode cX8_feeds 1 = .ok (.iload_n 1, 1) := by decide +kernel
theorem dX8_feeds_2 : decode cX8_feeds 2 = .ok (.invokevirtual 159, 3) := by decide +kernel
theorem dX8_feeds_5 : decode cX8_feeds 5 = .ok (.ifCond .eq 15, 3) := by decide +kernel
theorem dX8_feeds_8 : decode cX8_feeds 8 = .ok (.iload_n 2, 1) := by decide +kernel
theorem dX8_feeds_9 : decode cX8_feeds 9 = .ok (.i2l, 1) := by decide +kernel
theorem dX8_feeds_10 : decode cX8_feeds 10 = .ok (.lconst 0, 1) := by decide +kernel
theorem dX8_feeds_11 : decode cX8_feeds 11 = .ok (.ldc2_w 163, 3) := by decide +kernel
theorem dX8_feeds_14 : decode cX8_feeds 14 = .ok (.invokestatic 78, 3) := by decide +kernel
theorem dX8_feeds_17 : decode cX8_feeds 17 = .ok (.ifCond .ne 5, 3) := by decide +kernel
theorem dX8_feeds_20 : decode cX8_feeds 20 = .ok (.iconst (-1), 1) := by decide +kernel
theorem dX8_feeds_21 : decode cX8_feeds 21 = .ok (.ireturn, 1) := by decide +kernel
theorem dX8_feeds_22 : decode cX8_feeds 22 = .ok (.aload_n 0, 1) := by decide +kernel
theorem dX8_feeds_23 : decode cX8_feeds 23 = .ok (.getfield 37, 3) := by decide +kernel
theorem dX8_feeds_26 : decode cX8_feeds 26 = .ok (.iconst 2, 1) := by decide +kernel
theorem dX8_feeds_27 : decode cX8_feeds 27 = .ok (.iload_n 1, 1) := by decide +kernel
theorem dX8_feeds_28 : decode cX8_feeds 28 = .ok (.imul, 1) := by decide +kernel
theorem dX8_feeds_29 : decode cX8_feeds 29 = .ok (.iconst 1, 1) := by decide +kernel
theorem dX8_feeds_30 : decode cX8_feeds 30 = .ok (.iadd, 1) := by decide +kernel
theorem dX8_feeds_31 : decode cX8_feeds 31 = .ok (.iaload, 1) := by decide +kernel
theorem dX8_feeds_32 : decode cX8_feeds 32 = .ok (.istore_n 3, 1) := by decide +kernel
theorem dX8_feeds_33 : decode cX8_feeds 33 = .ok (.aload_n 0, 1) := by decide +kernel
theorem dX8_feeds_34 : decode cX8_feeds 34 = .ok (.getfield 37, 3) := by decide +kernel
theorem dX8_feeds_37 : decode cX8_feeds 37 = .ok (.iconst 2, 1) := by decide +kernel
theorem dX8_feeds_38 : decode cX8_feeds 38 = .ok (.iload_n 1, 1) := by decide +kernel
theorem dX8_feeds_39 : decode cX8_feeds 39 = .ok (.imul, 1) := by decide +kernel
theorem dX8_feeds_40 : decode cX8_feeds 40 = .ok (.iconst 1, 1) := by decide +kernel
theorem dX8_feeds_41 : decode cX8_feeds 41 = .ok (.iadd, 1) := by decide +kernel
theorem dX8_feeds_42 : decode cX8_feeds 42 = .ok (.iload_n 2, 1) := by decide +kernel
theorem dX8_feeds_43 : decode cX8_feeds 43 = .ok (.iastore, 1) := by decide +kernel
theorem dX8_feeds_44 : decode cX8_feeds 44 = .ok (.iload_n 3, 1) := by decide +kernel
theorem dX8_feeds_45 : decode cX8_feeds 45 = .ok (.ireturn, 1) := by decide +kernel
theorem dX8_awake_0 : decode cX8_awake 0 = .ok (.aload_n 0, 1) := by decide +kernel
theorem dX8_awake_1 : decode cX8_awake 1 = .ok (.getfield 149, 3) := by decide +kernel
theorem dX8_awake_4 : decode cX8_awake 4 = .ok (.ifCond .ne 20, 3) := by decide +kernel
theorem dX8_awake_7 : decode cX8_awake 7 = .ok (.aload_n 0, 1) := by decide +kernel
theorem dX8_awake_8 : decode cX8_awake 8 = .ok (.getfield 46, 3) := by decide +kernel
theorem dX8_awake_11 : decode cX8_awake 11 = .ok (.iconst 1, 1) := by decide +kernel
theorem dX8_awake_12 : decode cX8_awake 12 = .ok (.aload_n 0, 1) := by decide +kernel
theorem dX8_awake_13 : decode cX8_awake 13 = .ok (.getfield 34, 3) := by decide +kernel
theorem dX8_awake_16 : decode cX8_awake 16 = .ok (.iconst 1, 1) := by decide +kernel
theorem dX8_awake_17 : decode cX8_awake 17 = .ok (.iaload, 1) := by decide +kernel
theorem dX8_awake_18 : decode cX8_awake 18 = .ok (.iastore, 1) := by decide +kernel
theorem dX8_awake_19 : decode cX8_awake 19 = .ok (.aload_n 0, 1) := by decide +kernel
theorem dX8_awake_20 : decode cX8_awake 20 = .ok (.iconst 1, 1) := by decide +kernel
theorem dX8_awake_21 : decode cX8_awake 21 = .ok (.putfield 149, 3) := by decide +kernel
theorem dX8_awake_24 : decode cX8_awake 24 = .ok (.return_, 1) := by decide +kernel
theorem dX8_copies_0 : decode cX8_copies 0 = .ok (.iconst 0, 1) := by decide +kernel
theorem dX8_copies_1 : decode cX8_copies 1 = .ok (.istore_n 3, 1) := by decide +kernel
theorem dX8_copies_2 : decode cX8_copies 2 = .ok (.iload_n 3, 1) := by decide +kernel
theorem dX8_copies_3 : decode cX8_copies 3 = .ok (.bipush 16, 2) := by decide +kernel
theorem dX8_copies_5 : decode cX8_copies 5 = .ok (.if_icmp .ge 25, 3) := by decide +kernel
theorem dX8_copies_8 : decode cX8_copies 8 = .ok (.aload_n 0, 1) := by decide +kernel
theorem dX8_copies_9 : decode cX8_copies 9 = .ok (.getfield 46, 3) := by decide +kernel
theorem dX8_copies_12 : decode cX8_copies 12 = .ok (.iload_n 2, 1) := by decide +kernel
theorem dX8_copies_13 : decode cX8_copies 13 = .ok (.iload_n 3, 1) := by decide +kernel
theorem dX8_copies_14 : decode cX8_copies 14 = .ok (.iadd, 1) := by decide +kernel
theorem dX8_copies_15 : decode cX8_copies 15 = .ok (.aload_n 0, 1) := by decide +kernel
theorem dX8_copies_16 : decode cX8_copies 16 = .ok (.getfield 46, 3) := by decide +kernel
theorem dX8_copies_19 : decode cX8_copies 19 = .ok (.iload_n 1, 1) := by decide +kernel
theorem dX8_copies_20 : decode cX8_copies 20 = .ok (.iload_n 3, 1) := by decide +kernel
theorem dX8_copies_21 : decode cX8_copies 21 = .ok (.iadd, 1) := by decide +kernel
theorem dX8_copies_22 : decode cX8_copies 22 = .ok (.iaload, 1) := by decide +kernel
theorem dX8_copies_23 : decode cX8_copies 23 = .ok (.iastore, 1) := by decide +kernel
theorem dX8_copies_24 : decode cX8_copies 24 = .ok (.iinc 3 1, 3) := by decide +kernel
theorem dX8_copies_27 : decode cX8_copies 27 = .ok (.goto (-25), 3) := by decide +kernel
theorem dX8_copies_30 : decode cX8_copies 30 = .ok (.return_, 1) := by decide +kernel
theorem dX8_fills_0 : decode cX8_fills 0 = .ok (.iconst 0, 1) := by decide +kernel
theorem dX8_fills_1 : decode cX8_fills 1 = .ok (.istore 4, 2) := by decide +kernel
theorem dX8_fills_3 : decode cX8_fills 3 = .ok (.iconst 0, 1) := by decide +kernel
theorem dX8_fills_4 : decode cX8_fills 4 = .ok (.istore 5, 2) := by decide +kernel
theorem dX8_fills_6 : decode cX8_fills 6 = .ok (.iconst 0, 1) := by decide +kernel
theorem dX8_fills_7 : decode cX8_fills 7 = .ok (.istore 6, 2) := by decide +kernel
theorem dX8_fills_9 : decode cX8_fills 9 = .ok (.iload 6, 2) := by decide +kernel
theorem dX8_fills_11 : decode cX8_fills 11 = .ok (.aload_n 0, 1) := by decide +kernel
theorem dX8_fills_12 : decode cX8_fills 12 = .ok (.getfield 139, 3) := by decide +kernel
theorem dX8_fills_15 : decode cX8_fills 15 = .ok (.if_icmp .ge 59, 3) := by decide +kernel
theorem dX8_fills_18 : decode cX8_fills 18 = .ok (.iload_n 2, 1) := by decide +kernel
theorem dX8_fills_19 : decode cX8_fills 19 = .ok (.iload 6, 2) := by decide +kernel
theorem dX8_fills_21 : decode cX8_fills 21 = .ok (.ishr, 1) := by decide +kernel
theorem dX8_fills_22 : decode cX8_fills 22 = .ok (.iconst 1, 1) := by decide +kernel
theorem dX8_fills_23 : decode cX8_fills 23 = .ok (.iand, 1) := by decide +kernel
theorem dX8_fills_24 : decode cX8_fills 24 = .ok (.iconst 1, 1) := by decide +kernel
theorem dX8_fills_25 : decode cX8_fills 25 = .ok (.if_icmp .ne 43, 3) := by decide +kernel
theorem dX8_fills_28 : decode cX8_fills 28 = .ok (.iload 4, 2) := by decide +kernel
theorem dX8_fills_30 : decode cX8_fills 30 = .ok (.aload_n 0, 1) := by decide +kernel
theorem dX8_fills_31 : decode cX8_fills 31 = .ok (.getfield 37, 3) := by decide +kernel
theorem dX8_fills_34 : decode cX8_fills 34 = .ok (.iconst 2, 1) := by decide +kernel
theorem dX8_fills_35 : decode cX8_fills 35 = .ok (.iload 6, 2) := by decide +kernel
theorem dX8_fills_37 : decode cX8_fills 37 = .ok (.imul, 1) := by decide +kernel
theorem dX8_fills_38 : decode cX8_fills 38 = .ok (.iaload, 1) := by decide +kernel
theorem dX8_fills_39 : decode cX8_fills 39 = .ok (.iadd, 1) := by decide +kernel
theorem dX8_fills_40 : decode cX8_fills 40 = .ok (.istore 4, 2) := by decide +kernel
theorem dX8_fills_42 : decode cX8_fills 42 = .ok (.iload 5, 2) := by decide +kernel
theorem dX8_fills_44 : decode cX8_fills 44 = .ok (.aload_n 0, 1) := by decide +kernel
theorem dX8_fills_45 : decode cX8_fills 45 = .ok (.getfield 37, 3) := by decide +kernel
theorem dX8_fills_48 : decode cX8_fills 48 = .ok (.iconst 2, 1) := by decide +kernel
theorem dX8_fills_49 : decode cX8_fills 49 = .ok (.iload 6, 2) := by decide +kernel
theorem dX8_fills_51 : decode cX8_fills 51 = .ok (.imul, 1) := by decide +kernel
theorem dX8_fills_52 : decode cX8_fills 52 = .ok (.iaload, 1) := by decide +kernel
theorem dX8_fills_53 : decode cX8_fills 53 = .ok (.aload_n 0, 1) := by decide +kernel
theorem dX8_fills_54 : decode cX8_fills 54 = .ok (.getfield 37, 3) := by decide +kernel
theorem dX8_fills_57 : decode cX8_fills 57 = .ok (.iconst 2, 1) := by decide +kernel
theorem dX8_fills_58 : decode cX8_fills 58 = .ok (.iload 6, 2) := by decide +kernel
theorem dX8_fills_60 : decode cX8_fills 60 = .ok (.imul, 1) := by decide +kernel
theorem dX8_fills_61 : decode cX8_fills 61 = .ok (.iconst 1, 1) := by decide +kernel
theorem dX8_fills_62 : decode cX8_fills 62 = .ok (.iadd, 1) := by decide +kernel
theorem dX8_fills_63 : decode cX8_fills 63 = .ok (.iaload, 1) := by decide +kernel
theorem dX8_fills_64 : decode cX8_fills 64 = .ok (.imul, 1) := by decide +kernel
theorem dX8_fills_65 : decode cX8_fills 65 = .ok (.iadd, 1) := by decide +kernel
theorem dX8_fills_66 : decode cX8_fills 66 = .ok (.istore 5, 2) := by decide +kernel
theorem dX8_fills_68 : decode cX8_fills 68 = .ok (.iinc 6 1, 3) := by decide +kernel
theorem dX8_fills_71 : decode cX8_fills 71 = .ok (.goto (-62), 3) := by decide +kernel
theorem dX8_fills_74 : decode cX8_fills 74 = .ok (.iconst 0, 1) := by decide +kernel
theorem dX8_fills_75 : decode cX8_fills 75 = .ok (.istore 6, 2) := by decide +kernel
theorem dX8_fills_77 : decode cX8_fills 77 = .ok (.iload 6, 2) := by decide +kernel
theorem dX8_fills_79 : decode cX8_fills 79 = .ok (.bipush 16, 2) := by decide +kernel
theorem dX8_fills_81 : decode cX8_fills 81 = .ok (.if_icmp .ge 53, 3) := by decide +kernel
theorem dX8_fills_84 : decode cX8_fills 84 = .ok (.aload_n 0, 1) := by decide +kernel
theorem dX8_fills_85 : decode cX8_fills 85 = .ok (.getfield 46, 3) := by decide +kernel
theorem dX8_fills_88 : decode cX8_fills 88 = .ok (.iload_n 1, 1) := by decide +kernel
theorem dX8_fills_89 : decode cX8_fills 89 = .ok (.iload 6, 2) := by decide +kernel
theorem dX8_fills_91 : decode cX8_fills 91 = .ok (.iadd, 1) := by decide +kernel
theorem dX8_fills_92 : decode cX8_fills 92 = .ok (.iload 6, 2) := by decide +kernel
theorem dX8_fills_94 : decode cX8_fills 94 = .ok (.i2l, 1) := by decide +kernel
theorem dX8_fills_95 : decode cX8_fills 95 = .ok (.ldc2_w 165, 3) := by decide +kernel
theorem dX8_fills_98 : decode cX8_fills 98 = .ok (.ldc2_w 167, 3) := by decide +kernel
theorem dX8_fills_101 : decode cX8_fills 101 = .ok (.invokestatic 78, 3) := by decide +kernel
theorem dX8_fills_104 : decode cX8_fills 104 = .ok (.ifCond .eq 22, 3) := by decide +kernel
theorem dX8_fills_107 : decode cX8_fills 107 = .ok (.iload 4, 2) := by decide +kernel
theorem dX8_fills_109 : decode cX8_fills 109 = .ok (.aload_n 0, 1) := by decide +kernel
theorem dX8_fills_110 : decode cX8_fills 110 = .ok (.getfield 34, 3) := by decide +kernel
theorem dX8_fills_113 : decode cX8_fills 113 = .ok (.bipush 9, 2) := by decide +kernel
theorem dX8_fills_115 : decode cX8_fills 115 = .ok (.iload 6, 2) := by decide +kernel
theorem dX8_fills_117 : decode cX8_fills 117 = .ok (.iadd, 1) := by decide +kernel
theorem dX8_fills_118 : decode cX8_fills 118 = .ok (.bipush 6, 2) := by decide +kernel
theorem dX8_fills_120 : decode cX8_fills 120 = .ok (.isub, 1) := by decide +kernel
theorem dX8_fills_121 : decode cX8_fills 121 = .ok (.iaload, 1) := by decide +kernel
theorem dX8_fills_122 : decode cX8_fills 122 = .ok (.imul, 1) := by decide +kernel
theorem dX8_fills_123 : decode cX8_fills 123 = .ok (.goto 4, 3) := by decide +kernel
theorem dX8_fills_126 : decode cX8_fills 126 = .ok (.iconst 0, 1) := by decide +kernel
theorem dX8_fills_127 : decode cX8_fills 127 = .ok (.iastore, 1) := by decide +kernel
theorem dX8_fills_128 : decode cX8_fills 128 = .ok (.iinc 6 1, 3) := by decide +kernel
theorem dX8_fills_131 : decode cX8_fills 131 = .ok (.goto (-54), 3) := by decide +kernel
theorem dX8_fills_134 : decode cX8_fills 134 = .ok (.aload_n 0, 1) := by decide +kernel
theorem dX8_fills_135 : decode cX8_fills 135 = .ok (.getfield 46, 3) := by decide +kernel
theorem dX8_fills_138 : decode cX8_fills 138 = .ok (.iload_n 1, 1) := by decide +kernel
theorem dX8_fills_139 : decode cX8_fills 139 = .ok (.iload 4, 2) := by decide +kernel
theorem dX8_fills_141 : decode cX8_fills 141 = .ok (.iastore, 1) := by decide +kernel
theorem dX8_fills_142 : decode cX8_fills 142 = .ok (.aload_n 0, 1) := by decide +kernel
theorem dX8_fills_143 : decode cX8_fills 143 = .ok (.getfield 46, 3) := by decide +kernel
theorem dX8_fills_146 : decode cX8_fills 146 = .ok (.iload_n 1, 1) := by decide +kernel
theorem dX8_fills_147 : decode cX8_fills 147 = .ok (.iconst 1, 1) := by decide +kernel
theorem dX8_fills_148 : decode cX8_fills 148 = .ok (.iadd, 1) := by decide +kernel
theorem dX8_fills_149 : decode cX8_fills 149 = .ok (.iload_n 3, 1) := by decide +kernel
theorem dX8_fills_150 : decode cX8_fills 150 = .ok (.iastore, 1) := by decide +kernel
theorem dX8_fills_151 : decode cX8_fills 151 = .ok (.aload_n 0, 1) := by decide +kernel
theorem dX8_fills_152 : decode cX8_fills 152 = .ok (.getfield 46, 3) := by decide +kernel
theorem dX8_fills_155 : decode cX8_fills 155 = .ok (.iload_n 1, 1) := by decide +kernel
theorem dX8_fills_156 : decode cX8_fills 156 = .ok (.iconst 2, 1) := by decide +kernel
theorem dX8_fills_157 : decode cX8_fills 157 = .ok (.iadd, 1) := by decide +kernel
theorem dX8_fills_158 : decode cX8_fills 158 = .ok (.iload 4, 2) := by decide +kernel
theorem dX8_fills_160 : decode cX8_fills 160 = .ok (.ifCond .ne 7, 3) := by decide +kernel
theorem dX8_fills_163 : decode cX8_fills 163 = .ok (.iconst 0, 1) := by decide +kernel
theorem dX8_fills_164 : decode cX8_fills 164 = .ok (.goto 8, 3) := by decide +kernel
theorem dX8_fills_167 : decode cX8_fills 167 = .ok (.iload 5, 2) := by decide +kernel
theorem dX8_fills_169 : decode cX8_fills 169 = .ok (.iload 4, 2) := by decide +kernel
theorem dX8_fills_171 : decode cX8_fills 171 = .ok (.idiv, 1) := by decide +kernel
theorem dX8_fills_172 : decode cX8_fills 172 = .ok (.iastore, 1) := by decide +kernel
theorem dX8_fills_173 : decode cX8_fills 173 = .ok (.return_, 1) := by decide +kernel
theorem dX8_hardness_0 : decode cX8_hardness 0 = .ok (.aload_n 0, 1) := by decide +kernel
theorem dX8_hardness_1 : decode cX8_hardness 1 = .ok (.getfield 46, 3) := by decide +kernel
theorem dX8_hardness_4 : decode cX8_hardness 4 = .ok (.iload_n 1, 1) := by decide +kernel
theorem dX8_hardness_5 : decode cX8_hardness 5 = .ok (.iconst 1, 1) := by decide +kernel
theorem dX8_hardness_6 : decode cX8_hardness 6 = .ok (.iadd, 1) := by decide +kernel
theorem dX8_hardness_7 : decode cX8_hardness 7 = .ok (.iaload, 1) := by decide +kernel
theorem dX8_hardness_8 : decode cX8_hardness 8 = .ok (.aload_n 0, 1) := by decide +kernel
theorem dX8_hardness_9 : decode cX8_hardness 9 = .ok (.getfield 34, 3) := by decide +kernel
theorem dX8_hardness_12 : decode cX8_hardness 12 = .ok (.iconst 1, 1) := by decide +kernel
theorem dX8_hardness_13 : decode cX8_hardness 13 = .ok (.iaload, 1) := by decide +kernel
theorem dX8_hardness_14 : decode cX8_hardness 14 = .ok (.isub, 1) := by decide +kernel
theorem dX8_hardness_15 : decode cX8_hardness 15 = .ok (.aload_n 0, 1) := by decide +kernel
theorem dX8_hardness_16 : decode cX8_hardness 16 = .ok (.getfield 34, 3) := by decide +kernel
theorem dX8_hardness_19 : decode cX8_hardness 19 = .ok (.iconst 2, 1) := by decide +kernel
theorem dX8_hardness_20 : decode cX8_hardness 20 = .ok (.iaload, 1) := by decide +kernel
theorem dX8_hardness_21 : decode cX8_hardness 21 = .ok (.imul, 1) := by decide +kernel
theorem dX8_hardness_22 : decode cX8_hardness 22 = .ok (.istore_n 2, 1) := by decide +kernel
theorem dX8_hardness_23 : decode cX8_hardness 23 = .ok (.iload_n 2, 1) := by decide +kernel
theorem dX8_hardness_24 : decode cX8_hardness 24 = .ok (.ifCond .lt 10, 3) := by decide +kernel
theorem dX8_hardness_27 : decode cX8_hardness 27 = .ok (.iload_n 2, 1) := by decide +kernel
theorem dX8_hardness_28 : decode cX8_hardness 28 = .ok (.bipush 100, 2) := by decide +kernel
theorem dX8_hardness_30 : decode cX8_hardness 30 = .ok (.idiv, 1) := by decide +kernel
theorem dX8_hardness_31 : decode cX8_hardness 31 = .ok (.goto 11, 3) := by decide +kernel
theorem dX8_hardness_34 : decode cX8_hardness 34 = .ok (.bipush 99, 2) := by decide +kernel
theorem dX8_hardness_36 : decode cX8_hardness 36 = .ok (.iload_n 2, 1) := by decide +kernel
theorem dX8_hardness_37 : decode cX8_hardness 37 = .ok (.isub, 1) := by decide +kernel
theorem dX8_hardness_38 : decode cX8_hardness 38 = .ok (.bipush 100, 2) := by decide +kernel
theorem dX8_hardness_40 : decode cX8_hardness 40 = .ok (.idiv, 1) := by decide +kernel
theorem dX8_hardness_41 : decode cX8_hardness 41 = .ok (.ineg, 1) := by decide +kernel
theorem dX8_hardness_42 : decode cX8_hardness 42 = .ok (.istore_n 3, 1) := by decide +kernel
theorem dX8_hardness_43 : decode cX8_hardness 43 = .ok (.aload_n 0, 1) := by decide +kernel
theorem dX8_hardness_44 : decode cX8_hardness 44 = .ok (.getfield 46, 3) := by decide +kernel
theorem dX8_hardness_47 : decode cX8_hardness 47 = .ok (.iload_n 1, 1) := by decide +kernel
theorem dX8_hardness_48 : decode cX8_hardness 48 = .ok (.iconst 2, 1) := by decide +kernel
theorem dX8_hardness_49 : decode cX8_hardness 49 = .ok (.iadd, 1) := by decide +kernel
theorem dX8_hardness_50 : decode cX8_hardness 50 = .ok (.iaload, 1) := by decide +kernel
theorem dX8_hardness_51 : decode cX8_hardness 51 = .ok (.iload_n 3, 1) := by decide +kernel
theorem dX8_hardness_52 : decode cX8_hardness 52 = .ok (.isub, 1) := by decide +kernel
theorem dX8_hardness_53 : decode cX8_hardness 53 = .ok (.istore 4, 2) := by decide +kernel
theorem dX8_hardness_55 : decode cX8_hardness 55 = .ok (.iload 4, 2) := by decide +kernel
theorem dX8_hardness_57 : decode cX8_hardness 57 = .ok (.ifCond .ge 7, 3) := by decide +kernel
theorem dX8_hardness_60 : decode cX8_hardness 60 = .ok (.iconst 0, 1) := by decide +kernel
theorem dX8_hardness_61 : decode cX8_hardness 61 = .ok (.goto 17, 3) := by decide +kernel
theorem dX8_hardness_64 : decode cX8_hardness 64 = .ok (.iload 4, 2) := by decide +kernel
theorem dX8_hardness_66 : decode cX8_hardness 66 = .ok (.bipush 100, 2) := by decide +kernel
theorem dX8_hardness_68 : decode cX8_hardness 68 = .ok (.if_icmp .le 8, 3) := by decide +kernel
theorem dX8_hardness_71 : decode cX8_hardness 71 = .ok (.bipush 100, 2) := by decide +kernel
theorem dX8_hardness_73 : decode cX8_hardness 73 = .ok (.goto 5, 3) := by decide +kernel
theorem dX8_hardness_76 : decode cX8_hardness 76 = .ok (.iload 4, 2) := by decide +kernel
theorem dX8_hardness_78 : decode cX8_hardness 78 = .ok (.ireturn, 1) := by decide +kernel
theorem dX8_fatFrom_0 : decode cX8_fatFrom 0 = .ok (.iconst 0, 1) := by decide +kernel
theorem dX8_fatFrom_1 : decode cX8_fatFrom 1 = .ok (.istore_n 3, 1) := by decide +kernel
theorem dX8_fatFrom_2 : decode cX8_fatFrom 2 = .ok (.iload_n 2, 1) := by decide +kernel
theorem dX8_fatFrom_3 : decode cX8_fatFrom 3 = .ok (.istore 4, 2) := by decide +kernel
theorem dX8_fatFrom_5 : decode cX8_fatFrom 5 = .ok (.iload 4, 2) := by decide +kernel
theorem dX8_fatFrom_7 : decode cX8_fatFrom 7 = .ok (.bipush 7, 2) := by decide +kernel
theorem dX8_fatFrom_9 : decode cX8_fatFrom 9 = .ok (.if_icmp .ge 27, 3) := by decide +kernel
theorem dX8_fatFrom_12 : decode cX8_fatFrom 12 = .ok (.iload_n 3, 1) := by decide +kernel
theorem dX8_fatFrom_13 : decode cX8_fatFrom 13 = .ok (.aload_n 0, 1) := by decide +kernel
theorem dX8_fatFrom_14 : decode cX8_fatFrom 14 = .ok (.getfield 46, 3) := by decide +kernel
theorem dX8_fatFrom_17 : decode cX8_fatFrom 17 = .ok (.iload_n 1, 1) := by decide +kernel
theorem dX8_fatFrom_18 : decode cX8_fatFrom 18 = .ok (.bipush 6, 2) := by decide +kernel
theorem dX8_fatFrom_20 : decode cX8_fatFrom 20 = .ok (.iadd, 1) := by decide +kernel
theorem dX8_fatFrom_21 : decode cX8_fatFrom 21 = .ok (.iload 4, 2) := by decide +kernel
theorem dX8_fatFrom_23 : decode cX8_fatFrom 23 = .ok (.iadd, 1) := by decide +kernel
theorem dX8_fatFrom_24 : decode cX8_fatFrom 24 = .ok (.iaload, 1) := by decide +kernel
theorem dX8_fatFrom_25 : decode cX8_fatFrom 25 = .ok (.iload 4, 2) := by decide +kernel
theorem dX8_fatFrom_27 : decode cX8_fatFrom 27 = .ok (.ishl, 1) := by decide +kernel
theorem dX8_fatFrom_28 : decode cX8_fatFrom 28 = .ok (.iadd, 1) := by decide +kernel
theorem dX8_fatFrom_29 : decode cX8_fatFrom 29 = .ok (.istore_n 3, 1) := by decide +kernel
theorem dX8_fatFrom_30 : decode cX8_fatFrom 30 = .ok (.iinc 4 1, 3) := by decide +kernel
theorem dX8_fatFrom_33 : decode cX8_fatFrom 33 = .ok (.goto (-28), 3) := by decide +kernel
theorem dX8_fatFrom_36 : decode cX8_fatFrom 36 = .ok (.iload_n 3, 1) := by decide +kernel
theorem dX8_fatFrom_37 : decode cX8_fatFrom 37 = .ok (.ireturn, 1) := by decide +kernel
theorem dX8_isSwollen_0 : decode cX8_isSwollen 0 = .ok (.aload_n 0, 1) := by decide +kernel
theorem dX8_isSwollen_1 : decode cX8_isSwollen 1 = .ok (.getfield 46, 3) := by decide +kernel
theorem dX8_isSwollen_4 : decode cX8_isSwollen 4 = .ok (.iload_n 1, 1) := by decide +kernel
theorem dX8_isSwollen_5 : decode cX8_isSwollen 5 = .ok (.iconst 5, 1) := by decide +kernel
theorem dX8_isSwollen_6 : decode cX8_isSwollen 6 = .ok (.iadd, 1) := by decide +kernel
theorem dX8_isSwollen_7 : decode cX8_isSwollen 7 = .ok (.iaload, 1) := by decide +kernel
theorem dX8_isSwollen_8 : decode cX8_isSwollen 8 = .ok (.ifCond .ne 41, 3) := by decide +kernel
theorem dX8_isSwollen_11 : decode cX8_isSwollen 11 = .ok (.aload_n 0, 1) := by decide +kernel
theorem dX8_isSwollen_12 : decode cX8_isSwollen 12 = .ok (.getfield 46, 3) := by decide +kernel
theorem dX8_isSwollen_15 : decode cX8_isSwollen 15 = .ok (.iload_n 1, 1) := by decide +kernel
theorem dX8_isSwollen_16 : decode cX8_isSwollen 16 = .ok (.iaload, 1) := by decide +kernel
theorem dX8_isSwollen_17 : decode cX8_isSwollen 17 = .ok (.aload_n 0, 1) := by decide +kernel
theorem dX8_isSwollen_18 : decode cX8_isSwollen 18 = .ok (.getfield 46, 3) := by decide +kernel
theorem dX8_isSwollen_21 : decode cX8_isSwollen 21 = .ok (.iload_n 1, 1) := by decide +kernel
theorem dX8_isSwollen_22 : decode cX8_isSwollen 22 = .ok (.iconst 3, 1) := by decide +kernel
theorem dX8_isSwollen_23 : decode cX8_isSwollen 23 = .ok (.iadd, 1) := by decide +kernel
theorem dX8_isSwollen_24 : decode cX8_isSwollen 24 = .ok (.iaload, 1) := by decide +kernel
theorem dX8_isSwollen_25 : decode cX8_isSwollen 25 = .ok (.aload_n 0, 1) := by decide +kernel
theorem dX8_isSwollen_26 : decode cX8_isSwollen 26 = .ok (.getfield 34, 3) := by decide +kernel
theorem dX8_isSwollen_29 : decode cX8_isSwollen 29 = .ok (.iconst 4, 1) := by decide +kernel
theorem dX8_isSwollen_30 : decode cX8_isSwollen 30 = .ok (.iaload, 1) := by decide +kernel
theorem dX8_isSwollen_31 : decode cX8_isSwollen 31 = .ok (.imul, 1) := by decide +kernel
theorem dX8_isSwollen_32 : decode cX8_isSwollen 32 = .ok (.bipush 100, 2) := by decide +kernel
theorem dX8_isSwollen_34 : decode cX8_isSwollen 34 = .ok (.idiv, 1) := by decide +kernel
theorem dX8_isSwollen_35 : decode cX8_isSwollen 35 = .ok (.iadd, 1) := by decide +kernel
theorem dX8_isSwollen_36 : decode cX8_isSwollen 36 = .ok (.aload_n 0, 1) := by decide +kernel
theorem dX8_isSwollen_37 : decode cX8_isSwollen 37 = .ok (.getfield 34, 3) := by decide +kernel
theorem dX8_isSwollen_40 : decode cX8_isSwollen 40 = .ok (.iconst 0, 1) := by decide +kernel
theorem dX8_isSwollen_41 : decode cX8_isSwollen 41 = .ok (.iaload, 1) := by decide +kernel
theorem dX8_isSwollen_42 : decode cX8_isSwollen 42 = .ok (.if_icmp .lt 7, 3) := by decide +kernel
theorem dX8_isSwollen_45 : decode cX8_isSwollen 45 = .ok (.iconst 1, 1) := by decide +kernel
theorem dX8_isSwollen_46 : decode cX8_isSwollen 46 = .ok (.goto 4, 3) := by decide +kernel
theorem dX8_isSwollen_49 : decode cX8_isSwollen 49 = .ok (.iconst 0, 1) := by decide +kernel
theorem dX8_isSwollen_50 : decode cX8_isSwollen 50 = .ok (.ireturn, 1) := by decide +kernel
theorem dX8_joins_0 : decode cX8_joins 0 = .ok (.aload_n 0, 1) := by decide +kernel
theorem dX8_joins_1 : decode cX8_joins 1 = .ok (.iload_n 1, 1) := by decide +kernel
theorem dX8_joins_2 : decode cX8_joins 2 = .ok (.invokevirtual 169, 3) := by decide +kernel
theorem dX8_joins_5 : decode cX8_joins 5 = .ok (.istore_n 3, 1) := by decide +kernel
theorem dX8_joins_6 : decode cX8_joins 6 = .ok (.aload_n 0, 1) := by decide +kernel
theorem dX8_joins_7 : decode cX8_joins 7 = .ok (.getfield 46, 3) := by decide +kernel
theorem dX8_joins_10 : decode cX8_joins 10 = .ok (.iload_n 1, 1) := by decide +kernel
theorem dX8_joins_11 : decode cX8_joins 11 = .ok (.iconst 5, 1) := by decide +kernel
theorem dX8_joins_12 : decode cX8_joins 12 = .ok (.iadd, 1) := by decide +kernel
theorem dX8_joins_13 : decode cX8_joins 13 = .ok (.iaload, 1) := by decide +kernel
theorem dX8_joins_14 : decode cX8_joins 14 = .ok (.ifCond .le 10, 3) := by decide +kernel
theorem dX8_joins_17 : decode cX8_joins 17 = .ok (.bipush 20, 2) := by decide +kernel
theorem dX8_joins_19 : decode cX8_joins 19 = .ok (.iload_n 2, 1) := by decide +kernel
theorem dX8_joins_20 : decode cX8_joins 20 = .ok (.imul, 1) := by decide +kernel
theorem dX8_joins_21 : decode cX8_joins 21 = .ok (.goto 22, 3) := by decide +kernel
theorem dX8_joins_24 : decode cX8_joins 24 = .ok (.iload_n 3, 1) := by decide +kernel
theorem dX8_joins_25 : decode cX8_joins 25 = .ok (.bipush 100, 2) := by decide +kernel
theorem dX8_joins_27 : decode cX8_joins 27 = .ok (.iload_n 3, 1) := by decide +kernel
theorem dX8_joins_28 : decode cX8_joins 28 = .ok (.isub, 1) := by decide +kernel
theorem dX8_joins_29 : decode cX8_joins 29 = .ok (.imul, 1) := by decide +kernel
theorem dX8_joins_30 : decode cX8_joins 30 = .ok (.aload_n 0, 1) := by decide +kernel
theorem dX8_joins_31 : decode cX8_joins 31 = .ok (.getfield 46, 3) := by decide +kernel
theorem dX8_joins_34 : decode cX8_joins 34 = .ok (.iload_n 1, 1) := by decide +kernel
theorem dX8_joins_35 : decode cX8_joins 35 = .ok (.iconst 3, 1) := by decide +kernel
theorem dX8_joins_36 : decode cX8_joins 36 = .ok (.iadd, 1) := by decide +kernel
theorem dX8_joins_37 : decode cX8_joins 37 = .ok (.iaload, 1) := by decide +kernel
theorem dX8_joins_38 : decode cX8_joins 38 = .ok (.imul, 1) := by decide +kernel
theorem dX8_joins_39 : decode cX8_joins 39 = .ok (.sipush 25000, 3) := by decide +kernel
theorem dX8_joins_42 : decode cX8_joins 42 = .ok (.idiv, 1) := by decide +kernel
theorem dX8_joins_43 : decode cX8_joins 43 = .ok (.istore 4, 2) := by decide +kernel
theorem dX8_joins_45 : decode cX8_joins 45 = .ok (.iload 4, 2) := by decide +kernel
theorem dX8_joins_47 : decode cX8_joins 47 = .ok (.bipush 100, 2) := by decide +kernel
theorem dX8_joins_49 : decode cX8_joins 49 = .ok (.if_icmp .le 8, 3) := by decide +kernel
theorem dX8_joins_52 : decode cX8_joins 52 = .ok (.bipush 100, 2) := by decide +kernel
theorem dX8_joins_54 : decode cX8_joins 54 = .ok (.goto 5, 3) := by decide +kernel
theorem dX8_joins_57 : decode cX8_joins 57 = .ok (.iload 4, 2) := by decide +kernel
theorem dX8_joins_59 : decode cX8_joins 59 = .ok (.istore 4, 2) := by decide +kernel
theorem dX8_joins_61 : decode cX8_joins 61 = .ok (.iconst 0, 1) := by decide +kernel
theorem dX8_joins_62 : decode cX8_joins 62 = .ok (.istore 5, 2) := by decide +kernel
theorem dX8_joins_64 : decode cX8_joins 64 = .ok (.iload 5, 2) := by decide +kernel
theorem dX8_joins_66 : decode cX8_joins 66 = .ok (.bipush 6, 2) := by decide +kernel
theorem dX8_joins_68 : decode cX8_joins 68 = .ok (.if_icmp .ge 35, 3) := by decide +kernel
theorem dX8_joins_71 : decode cX8_joins 71 = .ok (.aload_n 0, 1) := by decide +kernel
theorem dX8_joins_72 : decode cX8_joins 72 = .ok (.getfield 49, 3) := by decide +kernel
theorem dX8_joins_75 : decode cX8_joins 75 = .ok (.iload 5, 2) := by decide +kernel
theorem dX8_joins_77 : decode cX8_joins 77 = .ok (.iload 4, 2) := by decide +kernel
theorem dX8_joins_79 : decode cX8_joins 79 = .ok (.aload_n 0, 1) := by decide +kernel
theorem dX8_joins_80 : decode cX8_joins 80 = .ok (.getfield 46, 3) := by decide +kernel
theorem dX8_joins_83 : decode cX8_joins 83 = .ok (.iload_n 1, 1) := by decide +kernel
theorem dX8_joins_84 : decode cX8_joins 84 = .ok (.bipush 6, 2) := by decide +kernel
theorem dX8_joins_86 : decode cX8_joins 86 = .ok (.iadd, 1) := by decide +kernel
theorem dX8_joins_87 : decode cX8_joins 87 = .ok (.iload 5, 2) := by decide +kernel
theorem dX8_joins_89 : decode cX8_joins 89 = .ok (.iadd, 1) := by decide +kernel
theorem dX8_joins_90 : decode cX8_joins 90 = .ok (.iaload, 1) := by decide +kernel
theorem dX8_joins_91 : decode cX8_joins 91 = .ok (.imul, 1) := by decide +kernel
theorem dX8_joins_92 : decode cX8_joins 92 = .ok (.sipush 200, 3) := by decide +kernel
theorem dX8_joins_95 : decode cX8_joins 95 = .ok (.idiv, 1) := by decide +kernel
theorem dX8_joins_96 : decode cX8_joins 96 = .ok (.iastore, 1) := by decide +kernel
theorem dX8_joins_97 : decode cX8_joins 97 = .ok (.iinc 5 1, 3) := by decide +kernel
theorem dX8_joins_100 : decode cX8_joins 100 = .ok (.goto (-36), 3) := by decide +kernel
theorem dX8_joins_103 : decode cX8_joins 103 = .ok (.iconst 0, 1) := by decide +kernel
theorem dX8_joins_104 : decode cX8_joins 104 = .ok (.istore 5, 2) := by decide +kernel
theorem dX8_joins_106 : decode cX8_joins 106 = .ok (.iload 5, 2) := by decide +kernel
theorem dX8_joins_108 : decode cX8_joins 108 = .ok (.bipush 6, 2) := by decide +kernel
theorem dX8_joins_110 : decode cX8_joins 110 = .ok (.if_icmp .ge 57, 3) := by decide +kernel
theorem dX8_joins_113 : decode cX8_joins 113 = .ok (.aload_n 0, 1) := by decide +kernel
theorem dX8_joins_114 : decode cX8_joins 114 = .ok (.getfield 46, 3) := by decide +kernel
theorem dX8_joins_117 : decode cX8_joins 117 = .ok (.iload_n 1, 1) := by decide +kernel
theorem dX8_joins_118 : decode cX8_joins 118 = .ok (.bipush 6, 2) := by decide +kernel
theorem dX8_joins_120 : decode cX8_joins 120 = .ok (.iadd, 1) := by decide +kernel
theorem dX8_joins_121 : decode cX8_joins 121 = .ok (.iload 5, 2) := by decide +kernel
theorem dX8_joins_123 : decode cX8_joins 123 = .ok (.iadd, 1) := by decide +kernel
theorem dX8_joins_124 : decode cX8_joins 124 = .ok (.dup2, 1) := by decide +kernel
theorem dX8_joins_125 : decode cX8_joins 125 = .ok (.iaload, 1) := by decide +kernel
theorem dX8_joins_126 : decode cX8_joins 126 = .ok (.iconst 2, 1) := by decide +kernel
theorem dX8_joins_127 : decode cX8_joins 127 = .ok (.aload_n 0, 1) := by decide +kernel
theorem dX8_joins_128 : decode cX8_joins 128 = .ok (.getfield 49, 3) := by decide +kernel
theorem dX8_joins_131 : decode cX8_joins 131 = .ok (.iload 5, 2) := by decide +kernel
theorem dX8_joins_133 : decode cX8_joins 133 = .ok (.iaload, 1) := by decide +kernel
theorem dX8_joins_134 : decode cX8_joins 134 = .ok (.imul, 1) := by decide +kernel
theorem dX8_joins_135 : decode cX8_joins 135 = .ok (.isub, 1) := by decide +kernel
theorem dX8_joins_136 : decode cX8_joins 136 = .ok (.iastore, 1) := by decide +kernel
theorem dX8_joins_137 : decode cX8_joins 137 = .ok (.aload_n 0, 1) := by decide +kernel
theorem dX8_joins_138 : decode cX8_joins 138 = .ok (.getfield 46, 3) := by decide +kernel
theorem dX8_joins_141 : decode cX8_joins 141 = .ok (.iload_n 1, 1) := by decide +kernel
theorem dX8_joins_142 : decode cX8_joins 142 = .ok (.bipush 6, 2) := by decide +kernel
theorem dX8_joins_144 : decode cX8_joins 144 = .ok (.iadd, 1) := by decide +kernel
theorem dX8_joins_145 : decode cX8_joins 145 = .ok (.iload 5, 2) := by decide +kernel
theorem dX8_joins_147 : decode cX8_joins 147 = .ok (.iadd, 1) := by decide +kernel
theorem dX8_joins_148 : decode cX8_joins 148 = .ok (.iconst 1, 1) := by decide +kernel
theorem dX8_joins_149 : decode cX8_joins 149 = .ok (.iadd, 1) := by decide +kernel
theorem dX8_joins_150 : decode cX8_joins 150 = .ok (.dup2, 1) := by decide +kernel
theorem dX8_joins_151 : decode cX8_joins 151 = .ok (.iaload, 1) := by decide +kernel
theorem dX8_joins_152 : decode cX8_joins 152 = .ok (.aload_n 0, 1) := by decide +kernel
theorem dX8_joins_153 : decode cX8_joins 153 = .ok (.getfield 49, 3) := by decide +kernel
theorem dX8_joins_156 : decode cX8_joins 156 = .ok (.iload 5, 2) := by decide +kernel
theorem dX8_joins_158 : decode cX8_joins 158 = .ok (.iaload, 1) := by decide +kernel
theorem dX8_joins_159 : decode cX8_joins 159 = .ok (.iadd, 1) := by decide +kernel
theorem dX8_joins_160 : decode cX8_joins 160 = .ok (.iastore, 1) := by decide +kernel
theorem dX8_joins_161 : decode cX8_joins 161 = .ok (.iinc 5 1, 3) := by decide +kernel
theorem dX8_joins_164 : decode cX8_joins 164 = .ok (.goto (-58), 3) := by decide +kernel
theorem dX8_joins_167 : decode cX8_joins 167 = .ok (.return_, 1) := by decide +kernel
theorem dX8_turns_0 : decode cX8_turns 0 = .ok (.aload_n 0, 1) := by decide +kernel
theorem dX8_turns_1 : decode cX8_turns 1 = .ok (.iload_n 1, 1) := by decide +kernel
theorem dX8_turns_2 : decode cX8_turns 2 = .ok (.invokevirtual 172, 3) := by decide +kernel
theorem dX8_turns_5 : decode cX8_turns 5 = .ok (.ifCond .ne 7, 3) := by decide +kernel
theorem dX8_turns_8 : decode cX8_turns 8 = .ok (.iconst 1, 1) := by decide +kernel
theorem dX8_turns_9 : decode cX8_turns 9 = .ok (.goto 4, 3) := by decide +kernel
theorem dX8_turns_12 : decode cX8_turns 12 = .ok (.iconst 0, 1) := by decide +kernel
theorem dX8_turns_13 : decode cX8_turns 13 = .ok (.istore_n 3, 1) := by decide +kernel
theorem dX8_turns_14 : decode cX8_turns 14 = .ok (.iload_n 3, 1) := by decide +kernel
theorem dX8_turns_15 : decode cX8_turns 15 = .ok (.ifCond .eq 132, 3) := by decide +kernel
theorem dX8_turns_18 : decode cX8_turns 18 = .ok (.aload_n 0, 1) := by decide +kernel
theorem dX8_turns_19 : decode cX8_turns 19 = .ok (.getfield 46, 3) := by decide +kernel
theorem dX8_turns_22 : decode cX8_turns 22 = .ok (.iload_n 1, 1) := by decide +kernel
theorem dX8_turns_23 : decode cX8_turns 23 = .ok (.iconst 5, 1) := by decide +kernel
theorem dX8_turns_24 : decode cX8_turns 24 = .ok (.iadd, 1) := by decide +kernel
theorem dX8_turns_25 : decode cX8_turns 25 = .ok (.iaload, 1) := by decide +kernel
theorem dX8_turns_26 : decode cX8_turns 26 = .ok (.ifCond .ne 46, 3) := by decide +kernel
theorem dX8_turns_29 : decode cX8_turns 29 = .ok (.aload_n 0, 1) := by decide +kernel
theorem dX8_turns_30 : decode cX8_turns 30 = .ok (.getfield 46, 3) := by decide +kernel
theorem dX8_turns_33 : decode cX8_turns 33 = .ok (.iload_n 1, 1) := by decide +kernel
theorem dX8_turns_34 : decode cX8_turns 34 = .ok (.iconst 3, 1) := by decide +kernel
theorem dX8_turns_35 : decode cX8_turns 35 = .ok (.iadd, 1) := by decide +kernel
theorem dX8_turns_36 : decode cX8_turns 36 = .ok (.iaload, 1) := by decide +kernel
theorem dX8_turns_37 : decode cX8_turns 37 = .ok (.aload_n 0, 1) := by decide +kernel
theorem dX8_turns_38 : decode cX8_turns 38 = .ok (.getfield 34, 3) := by decide +kernel
theorem dX8_turns_41 : decode cX8_turns 41 = .ok (.iconst 3, 1) := by decide +kernel
theorem dX8_turns_42 : decode cX8_turns 42 = .ok (.iaload, 1) := by decide +kernel
theorem dX8_turns_43 : decode cX8_turns 43 = .ok (.iload_n 2, 1) := by decide +kernel
theorem dX8_turns_44 : decode cX8_turns 44 = .ok (.imul, 1) := by decide +kernel
theorem dX8_turns_45 : decode cX8_turns 45 = .ok (.iadd, 1) := by decide +kernel
theorem dX8_turns_46 : decode cX8_turns 46 = .ok (.istore 4, 2) := by decide +kernel
theorem dX8_turns_48 : decode cX8_turns 48 = .ok (.aload_n 0, 1) := by decide +kernel
theorem dX8_turns_49 : decode cX8_turns 49 = .ok (.getfield 46, 3) := by decide +kernel
theorem dX8_turns_52 : decode cX8_turns 52 = .ok (.iload_n 1, 1) := by decide +kernel
theorem dX8_turns_53 : decode cX8_turns 53 = .ok (.iconst 3, 1) := by decide +kernel
theorem dX8_turns_54 : decode cX8_turns 54 = .ok (.iadd, 1) := by decide +kernel
theorem dX8_turns_55 : decode cX8_turns 55 = .ok (.iload 4, 2) := by decide +kernel
theorem dX8_turns_57 : decode cX8_turns 57 = .ok (.sipush 1000, 3) := by decide +kernel
theorem dX8_turns_60 : decode cX8_turns 60 = .ok (.if_icmp .le 9, 3) := by decide +kernel
theorem dX8_turns_63 : decode cX8_turns 63 = .ok (.sipush 1000, 3) := by decide +kernel
theorem dX8_turns_66 : decode cX8_turns 66 = .ok (.goto 5, 3) := by decide +kernel
theorem dX8_turns_69 : decode cX8_turns 69 = .ok (.iload 4, 2) := by decide +kernel
theorem dX8_turns_71 : decode cX8_turns 71 = .ok (.iastore, 1) := by decide +kernel
theorem dX8_turns_72 : decode cX8_turns 72 = .ok (.aload_n 0, 1) := by decide +kernel
theorem dX8_turns_73 : decode cX8_turns 73 = .ok (.iload_n 1, 1) := by decide +kernel
theorem dX8_turns_74 : decode cX8_turns 74 = .ok (.iload_n 2, 1) := by decide +kernel
theorem dX8_turns_75 : decode cX8_turns 75 = .ok (.invokevirtual 175, 3) := by decide +kernel
theorem dX8_turns_78 : decode cX8_turns 78 = .ok (.aload_n 0, 1) := by decide +kernel
theorem dX8_turns_79 : decode cX8_turns 79 = .ok (.iload_n 1, 1) := by decide +kernel
theorem dX8_turns_80 : decode cX8_turns 80 = .ok (.iconst 0, 1) := by decide +kernel
theorem dX8_turns_81 : decode cX8_turns 81 = .ok (.invokevirtual 179, 3) := by decide +kernel
theorem dX8_turns_84 : decode cX8_turns 84 = .ok (.istore 4, 2) := by decide +kernel
theorem dX8_turns_86 : decode cX8_turns 86 = .ok (.aload_n 0, 1) := by decide +kernel
theorem dX8_turns_87 : decode cX8_turns 87 = .ok (.getfield 46, 3) := by decide +kernel
theorem dX8_turns_90 : decode cX8_turns 90 = .ok (.iload_n 1, 1) := by decide +kernel
theorem dX8_turns_91 : decode cX8_turns 91 = .ok (.iconst 5, 1) := by decide +kernel
theorem dX8_turns_92 : decode cX8_turns 92 = .ok (.iadd, 1) := by decide +kernel
theorem dX8_turns_93 : decode cX8_turns 93 = .ok (.iaload, 1) := by decide +kernel
theorem dX8_turns_94 : decode cX8_turns 94 = .ok (.ifCond .ne 53, 3) := by decide +kernel
theorem dX8_turns_97 : decode cX8_turns 97 = .ok (.iload 4, 2) := by decide +kernel
theorem dX8_turns_99 : decode cX8_turns 99 = .ok (.ifCond .le 48, 3) := by decide +kernel
theorem dX8_turns_102 : decode cX8_turns 102 = .ok (.iconst 2, 1) := by decide +kernel
theorem dX8_turns_103 : decode cX8_turns 103 = .ok (.aload_n 0, 1) := by decide +kernel
theorem dX8_turns_104 : decode cX8_turns 104 = .ok (.iload_n 1, 1) := by decide +kernel
theorem dX8_turns_105 : decode cX8_turns 105 = .ok (.aload_n 0, 1) := by decide +kernel
theorem dX8_turns_106 : decode cX8_turns 106 = .ok (.getfield 34, 3) := by decide +kernel
theorem dX8_turns_109 : decode cX8_turns 109 = .ok (.iconst 5, 1) := by decide +kernel
theorem dX8_turns_110 : decode cX8_turns 110 = .ok (.iaload, 1) := by decide +kernel
theorem dX8_turns_111 : decode cX8_turns 111 = .ok (.invokevirtual 179, 3) := by decide +kernel
theorem dX8_turns_114 : decode cX8_turns 114 = .ok (.imul, 1) := by decide +kernel
theorem dX8_turns_115 : decode cX8_turns 115 = .ok (.iload 4, 2) := by decide +kernel
theorem dX8_turns_117 : decode cX8_turns 117 = .ok (.if_icmp .lt 30, 3) := by decide +kernel
theorem dX8_turns_120 : decode cX8_turns 120 = .ok (.aload_n 0, 1) := by decide +kernel
theorem dX8_turns_121 : decode cX8_turns 121 = .ok (.getfield 46, 3) := by decide +kernel
theorem dX8_turns_124 : decode cX8_turns 124 = .ok (.iload_n 1, 1) := by decide +kernel
theorem dX8_turns_125 : decode cX8_turns 125 = .ok (.iconst 5, 1) := by decide +kernel
theorem dX8_turns_126 : decode cX8_turns 126 = .ok (.iadd, 1) := by decide +kernel
theorem dX8_turns_127 : decode cX8_turns 127 = .ok (.aload_n 0, 1) := by decide +kernel
theorem dX8_turns_128 : decode cX8_turns 128 = .ok (.getfield 46, 3) := by decide +kernel
theorem dX8_turns_131 : decode cX8_turns 131 = .ok (.iload_n 1, 1) := by decide +kernel
theorem dX8_turns_132 : decode cX8_turns 132 = .ok (.iconst 4, 1) := by decide +kernel
theorem dX8_turns_133 : decode cX8_turns 133 = .ok (.iadd, 1) := by decide +kernel
theorem dX8_turns_134 : decode cX8_turns 134 = .ok (.iaload, 1) := by decide +kernel
theorem dX8_turns_135 : decode cX8_turns 135 = .ok (.iconst 1, 1) := by decide +kernel
theorem dX8_turns_136 : decode cX8_turns 136 = .ok (.iadd, 1) := by decide +kernel
theorem dX8_turns_137 : decode cX8_turns 137 = .ok (.iastore, 1) := by decide +kernel
theorem dX8_turns_138 : decode cX8_turns 138 = .ok (.aload_n 0, 1) := by decide +kernel
theorem dX8_turns_139 : decode cX8_turns 139 = .ok (.getfield 46, 3) := by decide +kernel
theorem dX8_turns_142 : decode cX8_turns 142 = .ok (.iload_n 1, 1) := by decide +kernel
theorem dX8_turns_143 : decode cX8_turns 143 = .ok (.iconst 3, 1) := by decide +kernel
theorem dX8_turns_144 : decode cX8_turns 144 = .ok (.iadd, 1) := by decide +kernel
theorem dX8_turns_145 : decode cX8_turns 145 = .ok (.iconst 0, 1) := by decide +kernel
theorem dX8_turns_146 : decode cX8_turns 146 = .ok (.iastore, 1) := by decide +kernel
theorem dX8_turns_147 : decode cX8_turns 147 = .ok (.aload_n 0, 1) := by decide +kernel
theorem dX8_turns_148 : decode cX8_turns 148 = .ok (.getfield 46, 3) := by decide +kernel
theorem dX8_turns_151 : decode cX8_turns 151 = .ok (.iload_n 1, 1) := by decide +kernel
theorem dX8_turns_152 : decode cX8_turns 152 = .ok (.iconst 4, 1) := by decide +kernel
theorem dX8_turns_153 : decode cX8_turns 153 = .ok (.iadd, 1) := by decide +kernel
theorem dX8_turns_154 : decode cX8_turns 154 = .ok (.dup2, 1) := by decide +kernel
theorem dX8_turns_155 : decode cX8_turns 155 = .ok (.iaload, 1) := by decide +kernel
theorem dX8_turns_156 : decode cX8_turns 156 = .ok (.iconst 1, 1) := by decide +kernel
theorem dX8_turns_157 : decode cX8_turns 157 = .ok (.iadd, 1) := by decide +kernel
theorem dX8_turns_158 : decode cX8_turns 158 = .ok (.iastore, 1) := by decide +kernel
theorem dX8_turns_159 : decode cX8_turns 159 = .ok (.aload_n 0, 1) := by decide +kernel
theorem dX8_turns_160 : decode cX8_turns 160 = .ok (.getfield 46, 3) := by decide +kernel
theorem dX8_turns_163 : decode cX8_turns 163 = .ok (.iload_n 1, 1) := by decide +kernel
theorem dX8_turns_164 : decode cX8_turns 164 = .ok (.iconst 4, 1) := by decide +kernel
theorem dX8_turns_165 : decode cX8_turns 165 = .ok (.iadd, 1) := by decide +kernel
theorem dX8_turns_166 : decode cX8_turns 166 = .ok (.iaload, 1) := by decide +kernel
theorem dX8_turns_167 : decode cX8_turns 167 = .ok (.aload_n 0, 1) := by decide +kernel
theorem dX8_turns_168 : decode cX8_turns 168 = .ok (.getfield 34, 3) := by decide +kernel
theorem dX8_turns_171 : decode cX8_turns 171 = .ok (.bipush 6, 2) := by decide +kernel
theorem dX8_turns_173 : decode cX8_turns 173 = .ok (.iaload, 1) := by decide +kernel
theorem dX8_turns_174 : decode cX8_turns 174 = .ok (.irem, 1) := by decide +kernel
theorem dX8_turns_175 : decode cX8_turns 175 = .ok (.ifCond .ne 39, 3) := by decide +kernel
theorem dX8_turns_178 : decode cX8_turns 178 = .ok (.aload_n 0, 1) := by decide +kernel
theorem dX8_turns_179 : decode cX8_turns 179 = .ok (.getfield 46, 3) := by decide +kernel
theorem dX8_turns_182 : decode cX8_turns 182 = .ok (.iload_n 1, 1) := by decide +kernel
theorem dX8_turns_183 : decode cX8_turns 183 = .ok (.iconst 1, 1) := by decide +kernel
theorem dX8_turns_184 : decode cX8_turns 184 = .ok (.iadd, 1) := by decide +kernel
theorem dX8_turns_185 : decode cX8_turns 185 = .ok (.iaload, 1) := by decide +kernel
theorem dX8_turns_186 : decode cX8_turns 186 = .ok (.iload_n 2, 1) := by decide +kernel
theorem dX8_turns_187 : decode cX8_turns 187 = .ok (.iadd, 1) := by decide +kernel
theorem dX8_turns_188 : decode cX8_turns 188 = .ok (.istore 4, 2) := by decide +kernel
theorem dX8_turns_190 : decode cX8_turns 190 = .ok (.aload_n 0, 1) := by decide +kernel
theorem dX8_turns_191 : decode cX8_turns 191 = .ok (.getfield 46, 3) := by decide +kernel
theorem dX8_turns_194 : decode cX8_turns 194 = .ok (.iload_n 1, 1) := by decide +kernel
theorem dX8_turns_195 : decode cX8_turns 195 = .ok (.iconst 1, 1) := by decide +kernel
theorem dX8_turns_196 : decode cX8_turns 196 = .ok (.iadd, 1) := by decide +kernel
theorem dX8_turns_197 : decode cX8_turns 197 = .ok (.iload 4, 2) := by decide +kernel
theorem dX8_turns_199 : decode cX8_turns 199 = .ok (.sipush 400, 3) := by decide +kernel
theorem dX8_turns_202 : decode cX8_turns 202 = .ok (.if_icmp .le 9, 3) := by decide +kernel
theorem dX8_turns_205 : decode cX8_turns 205 = .ok (.sipush 400, 3) := by decide +kernel
theorem dX8_turns_208 : decode cX8_turns 208 = .ok (.goto 5, 3) := by decide +kernel
theorem dX8_turns_211 : decode cX8_turns 211 = .ok (.iload 4, 2) := by decide +kernel
theorem dX8_turns_213 : decode cX8_turns 213 = .ok (.iastore, 1) := by decide +kernel
theorem dX8_turns_214 : decode cX8_turns 214 = .ok (.iload_n 3, 1) := by decide +kernel
theorem dX8_turns_215 : decode cX8_turns 215 = .ok (.ireturn, 1) := by decide +kernel
theorem dX8_isWarm_0 : decode cX8_isWarm 0 = .ok (.iload_n 0, 1) := by decide +kernel
theorem dX8_isWarm_1 : decode cX8_isWarm 1 = .ok (.i2l, 1) := by decide +kernel
theorem dX8_isWarm_2 : decode cX8_isWarm 2 = .ok (.lconst 0, 1) := by decide +kernel
theorem dX8_isWarm_3 : decode cX8_isWarm 3 = .ok (.ldc2_w 182, 3) := by decide +kernel
theorem dX8_isWarm_6 : decode cX8_isWarm 6 = .ok (.invokestatic 78, 3) := by decide +kernel
theorem dX8_isWarm_9 : decode cX8_isWarm 9 = .ok (.ireturn, 1) := by decide +kernel
theorem dX8_isPace_0 : decode cX8_isPace 0 = .ok (.iload_n 0, 1) := by decide +kernel
theorem dX8_isPace_1 : decode cX8_isPace 1 = .ok (.i2l, 1) := by decide +kernel
theorem dX8_isPace_2 : decode cX8_isPace 2 = .ok (.lconst 1, 1) := by decide +kernel
theorem dX8_isPace_3 : decode cX8_isPace 3 = .ok (.ldc2_w 167, 3) := by decide +kernel
theorem dX8_isPace_6 : decode cX8_isPace 6 = .ok (.invokestatic 78, 3) := by decide +kernel
theorem dX8_isPace_9 : decode cX8_isPace 9 = .ok (.ireturn, 1) := by decide +kernel
theorem dX8_areCows_0 : decode cX8_areCows 0 = .ok (.iload_n 1, 1) := by decide +kernel
theorem dX8_areCows_1 : decode cX8_areCows 1 = .ok (.i2l, 1) := by decide +kernel
theorem dX8_areCows_2 : decode cX8_areCows 2 = .ok (.lconst 0, 1) := by decide +kernel
theorem dX8_areCows_3 : decode cX8_areCows 3 = .ok (.iconst 1, 1) := by decide +kernel
theorem dX8_areCows_4 : decode cX8_areCows 4 = .ok (.aload_n 0, 1) := by decide +kernel
theorem dX8_areCows_5 : decode cX8_areCows 5 = .ok (.getfield 139, 3) := by decide +kernel
theorem dX8_areCows_8 : decode cX8_areCows 8 = .ok (.ishl, 1) := by decide +kernel
theorem dX8_areCows_9 : decode cX8_areCows 9 = .ok (.iconst 1, 1) := by decide +kernel
theorem dX8_areCows_10 : decode cX8_areCows 10 = .ok (.isub, 1) := by decide +kernel
theorem dX8_areCows_11 : decode cX8_areCows 11 = .ok (.i2l, 1) := by decide +kernel
theorem dX8_areCows_12 : decode cX8_areCows 12 = .ok (.invokestatic 78, 3) := by decide +kernel
theorem dX8_areCows_15 : decode cX8_areCows 15 = .ok (.ireturn, 1) := by decide +kernel
theorem dX8_fill_0 : decode cX8_fill 0 = .ok (.aload_n 0, 1) := by decide +kernel
theorem dX8_fill_1 : decode cX8_fill 1 = .ok (.iload_n 1, 1) := by decide +kernel
theorem dX8_fill_2 : decode cX8_fill 2 = .ok (.invokevirtual 184, 3) := by decide +kernel
theorem dX8_fill_5 : decode cX8_fill 5 = .ok (.ifCond .eq 10, 3) := by decide +kernel
theorem dX8_fill_8 : decode cX8_fill 8 = .ok (.iload_n 2, 1) := by decide +kernel
theorem dX8_fill_9 : decode cX8_fill 9 = .ok (.invokestatic 187, 3) := by decide +kernel
theorem dX8_fill_12 : decode cX8_fill 12 = .ok (.ifCond .ne 5, 3) := by decide +kernel
theorem dX8_fill_15 : decode cX8_fill 15 = .ok (.iconst (-1), 1) := by decide +kernel
theorem dX8_fill_16 : decode cX8_fill 16 = .ok (.ireturn, 1) := by decide +kernel
theorem dX8_fill_17 : decode cX8_fill 17 = .ok (.aload_n 0, 1) := by decide +kernel
theorem dX8_fill_18 : decode cX8_fill 18 = .ok (.invokevirtual 190, 3) := by decide +kernel
theorem dX8_fill_21 : decode cX8_fill 21 = .ok (.aload_n 0, 1) := by decide +kernel
theorem dX8_fill_22 : decode cX8_fill 22 = .ok (.iconst 0, 1) := by decide +kernel
theorem dX8_fill_23 : decode cX8_fill 23 = .ok (.iload_n 1, 1) := by decide +kernel
theorem dX8_fill_24 : decode cX8_fill 24 = .ok (.iload_n 2, 1) := by decide +kernel
theorem dX8_fill_25 : decode cX8_fill 25 = .ok (.invokevirtual 145, 3) := by decide +kernel
theorem dX8_fill_28 : decode cX8_fill 28 = .ok (.aload_n 0, 1) := by decide +kernel
theorem dX8_fill_29 : decode cX8_fill 29 = .ok (.getfield 46, 3) := by decide +kernel
theorem dX8_fill_32 : decode cX8_fill 32 = .ok (.iconst 0, 1) := by decide +kernel
theorem dX8_fill_33 : decode cX8_fill 33 = .ok (.iaload, 1) := by decide +kernel
theorem dX8_fill_34 : decode cX8_fill 34 = .ok (.ireturn, 1) := by decide +kernel
theorem dX8_turn_0 : decode cX8_turn 0 = .ok (.aload_n 0, 1) := by decide +kernel
theorem dX8_turn_1 : decode cX8_turn 1 = .ok (.invokevirtual 190, 3) := by decide +kernel
theorem dX8_turn_4 : decode cX8_turn 4 = .ok (.iload_n 1, 1) := by decide +kernel
theorem dX8_turn_5 : decode cX8_turn 5 = .ok (.i2l, 1) := by decide +kernel
theorem dX8_turn_6 : decode cX8_turn 6 = .ok (.lconst 1, 1) := by decide +kernel
theorem dX8_turn_7 : decode cX8_turn 7 = .ok (.ldc2_w 182, 3) := by decide +kernel
theorem dX8_turn_10 : decode cX8_turn 10 = .ok (.invokestatic 78, 3) := by decide +kernel
theorem dX8_turn_13 : decode cX8_turn 13 = .ok (.ifCond .eq 10, 3) := by decide +kernel
theorem dX8_turn_16 : decode cX8_turn 16 = .ok (.iload_n 2, 1) := by decide +kernel
theorem dX8_turn_17 : decode cX8_turn 17 = .ok (.invokestatic 193, 3) := by decide +kernel
theorem dX8_turn_20 : decode cX8_turn 20 = .ok (.ifCond .ne 5, 3) := by decide +kernel
theorem dX8_turn_23 : decode cX8_turn 23 = .ok (.iconst (-1), 1) := by decide +kernel
theorem dX8_turn_24 : decode cX8_turn 24 = .ok (.ireturn, 1) := by decide +kernel
theorem dX8_turn_25 : decode cX8_turn 25 = .ok (.iconst 0, 1) := by decide +kernel
theorem dX8_turn_26 : decode cX8_turn 26 = .ok (.istore_n 3, 1) := by decide +kernel
theorem dX8_turn_27 : decode cX8_turn 27 = .ok (.iconst 0, 1) := by decide +kernel
theorem dX8_turn_28 : decode cX8_turn 28 = .ok (.istore 4, 2) := by decide +kernel
theorem dX8_turn_30 : decode cX8_turn 30 = .ok (.iload 4, 2) := by decide +kernel
theorem dX8_turn_32 : decode cX8_turn 32 = .ok (.iload_n 1, 1) := by decide +kernel
theorem dX8_turn_33 : decode cX8_turn 33 = .ok (.if_icmp .ge 26, 3) := by decide +kernel
theorem dX8_turn_36 : decode cX8_turn 36 = .ok (.iload_n 3, 1) := by decide +kernel
theorem dX8_turn_37 : decode cX8_turn 37 = .ok (.aload_n 0, 1) := by decide +kernel
theorem dX8_turn_38 : decode cX8_turn 38 = .ok (.iconst 0, 1) := by decide +kernel
theorem dX8_turn_39 : decode cX8_turn 39 = .ok (.iload_n 2, 1) := by decide +kernel
theorem dX8_turn_40 : decode cX8_turn 40 = .ok (.invokevirtual 196, 3) := by decide +kernel
theorem dX8_turn_43 : decode cX8_turn 43 = .ok (.ifCond .eq 7, 3) := by decide +kernel
theorem dX8_turn_46 : decode cX8_turn 46 = .ok (.iconst 1, 1) := by decide +kernel
theorem dX8_turn_47 : decode cX8_turn 47 = .ok (.goto 4, 3) := by decide +kernel
theorem dX8_turn_50 : decode cX8_turn 50 = .ok (.iconst 0, 1) := by decide +kernel
theorem dX8_turn_51 : decode cX8_turn 51 = .ok (.iadd, 1) := by decide +kernel
theorem dX8_turn_52 : decode cX8_turn 52 = .ok (.istore_n 3, 1) := by decide +kernel
theorem dX8_turn_53 : decode cX8_turn 53 = .ok (.iinc 4 1, 3) := by decide +kernel
theorem dX8_turn_56 : decode cX8_turn 56 = .ok (.goto (-26), 3) := by decide +kernel
theorem dX8_turn_59 : decode cX8_turn 59 = .ok (.iload_n 3, 1) := by decide +kernel
theorem dX8_turn_60 : decode cX8_turn 60 = .ok (.ireturn, 1) := by decide +kernel
theorem dX8_warm_0 : decode cX8_warm 0 = .ok (.aload_n 0, 1) := by decide +kernel
theorem dX8_warm_1 : decode cX8_warm 1 = .ok (.invokevirtual 190, 3) := by decide +kernel
theorem dX8_warm_4 : decode cX8_warm 4 = .ok (.iload_n 1, 1) := by decide +kernel
theorem dX8_warm_5 : decode cX8_warm 5 = .ok (.invokestatic 187, 3) := by decide +kernel
theorem dX8_warm_8 : decode cX8_warm 8 = .ok (.ifCond .ne 5, 3) := by decide +kernel
theorem dX8_warm_11 : decode cX8_warm 11 = .ok (.iconst (-1), 1) := by decide +kernel
theorem dX8_warm_12 : decode cX8_warm 12 = .ok (.ireturn, 1) := by decide +kernel
theorem dX8_warm_13 : decode cX8_warm 13 = .ok (.aload_n 0, 1) := by decide +kernel
theorem dX8_warm_14 : decode cX8_warm 14 = .ok (.getfield 46, 3) := by decide +kernel
theorem dX8_warm_17 : decode cX8_warm 17 = .ok (.iconst 1, 1) := by decide +kernel
theorem dX8_warm_18 : decode cX8_warm 18 = .ok (.iaload, 1) := by decide +kernel
theorem dX8_warm_19 : decode cX8_warm 19 = .ok (.istore_n 2, 1) := by decide +kernel
theorem dX8_warm_20 : decode cX8_warm 20 = .ok (.aload_n 0, 1) := by decide +kernel
theorem dX8_warm_21 : decode cX8_warm 21 = .ok (.getfield 46, 3) := by decide +kernel
theorem dX8_warm_24 : decode cX8_warm 24 = .ok (.iconst 1, 1) := by decide +kernel
theorem dX8_warm_25 : decode cX8_warm 25 = .ok (.iload_n 1, 1) := by decide +kernel
theorem dX8_warm_26 : decode cX8_warm 26 = .ok (.iastore, 1) := by decide +kernel
theorem dX8_warm_27 : decode cX8_warm 27 = .ok (.iload_n 2, 1) := by decide +kernel
theorem dX8_warm_28 : decode cX8_warm 28 = .ok (.ireturn, 1) := by decide +kernel
theorem dX8_halves_0 : decode cX8_halves 0 = .ok (.aload_n 0, 1) := by decide +kernel
theorem dX8_halves_1 : decode cX8_halves 1 = .ok (.getfield 46, 3) := by decide +kernel
theorem dX8_halves_4 : decode cX8_halves 4 = .ok (.iload_n 1, 1) := by decide +kernel
theorem dX8_halves_5 : decode cX8_halves 5 = .ok (.dup2, 1) := by decide +kernel
theorem dX8_halves_6 : decode cX8_halves 6 = .ok (.iaload, 1) := by decide +kernel
theorem dX8_halves_7 : decode cX8_halves 7 = .ok (.iconst 2, 1) := by decide +kernel
theorem dX8_halves_8 : decode cX8_halves 8 = .ok (.idiv, 1) := by decide +kernel
theorem dX8_halves_9 : decode cX8_halves 9 = .ok (.iastore, 1) := by decide +kernel
theorem dX8_halves_10 : decode cX8_halves 10 = .ok (.aload_n 0, 1) := by decide +kernel
theorem dX8_halves_11 : decode cX8_halves 11 = .ok (.getfield 46, 3) := by decide +kernel
theorem dX8_halves_14 : decode cX8_halves 14 = .ok (.iload_n 1, 1) := by decide +kernel
theorem dX8_halves_15 : decode cX8_halves 15 = .ok (.iconst 3, 1) := by decide +kernel
theorem dX8_halves_16 : decode cX8_halves 16 = .ok (.iadd, 1) := by decide +kernel
theorem dX8_halves_17 : decode cX8_halves 17 = .ok (.dup2, 1) := by decide +kernel
theorem dX8_halves_18 : decode cX8_halves 18 = .ok (.iaload, 1) := by decide +kernel
theorem dX8_halves_19 : decode cX8_halves 19 = .ok (.iconst 2, 1) := by decide +kernel
theorem dX8_halves_20 : decode cX8_halves 20 = .ok (.idiv, 1) := by decide +kernel
theorem dX8_halves_21 : decode cX8_halves 21 = .ok (.iastore, 1) := by decide +kernel
theorem dX8_halves_22 : decode cX8_halves 22 = .ok (.iconst 0, 1) := by decide +kernel
theorem dX8_halves_23 : decode cX8_halves 23 = .ok (.istore_n 2, 1) := by decide +kernel
theorem dX8_halves_24 : decode cX8_halves 24 = .ok (.iload_n 2, 1) := by decide +kernel
theorem dX8_halves_25 : decode cX8_halves 25 = .ok (.bipush 7, 2) := by decide +kernel
theorem dX8_halves_27 : decode cX8_halves 27 = .ok (.if_icmp .ge 24, 3) := by decide +kernel
theorem dX8_halves_30 : decode cX8_halves 30 = .ok (.aload_n 0, 1) := by decide +kernel
theorem dX8_halves_31 : decode cX8_halves 31 = .ok (.getfield 46, 3) := by decide +kernel
theorem dX8_halves_34 : decode cX8_halves 34 = .ok (.iload_n 1, 1) := by decide +kernel
theorem dX8_halves_35 : decode cX8_halves 35 = .ok (.bipush 6, 2) := by decide +kernel
theorem dX8_halves_37 : decode cX8_halves 37 = .ok (.iadd, 1) := by decide +kernel
theorem dX8_halves_38 : decode cX8_halves 38 = .ok (.iload_n 2, 1) := by decide +kernel
theorem dX8_halves_39 : decode cX8_halves 39 = .ok (.iadd, 1) := by decide +kernel
theorem dX8_halves_40 : decode cX8_halves 40 = .ok (.dup2, 1) := by decide +kernel
theorem dX8_halves_41 : decode cX8_halves 41 = .ok (.iaload, 1) := by decide +kernel
theorem dX8_halves_42 : decode cX8_halves 42 = .ok (.iconst 2, 1) := by decide +kernel
theorem dX8_halves_43 : decode cX8_halves 43 = .ok (.idiv, 1) := by decide +kernel
theorem dX8_halves_44 : decode cX8_halves 44 = .ok (.iastore, 1) := by decide +kernel
theorem dX8_halves_45 : decode cX8_halves 45 = .ok (.iinc 2 1, 3) := by decide +kernel
theorem dX8_halves_48 : decode cX8_halves 48 = .ok (.goto (-24), 3) := by decide +kernel
theorem dX8_halves_51 : decode cX8_halves 51 = .ok (.return_, 1) := by decide +kernel
theorem dX8_half_0 : decode cX8_half 0 = .ok (.aload_n 0, 1) := by decide +kernel
theorem dX8_half_1 : decode cX8_half 1 = .ok (.invokevirtual 190, 3) := by decide +kernel
theorem dX8_half_4 : decode cX8_half 4 = .ok (.aload_n 0, 1) := by decide +kernel
theorem dX8_half_5 : decode cX8_half 5 = .ok (.iconst 0, 1) := by decide +kernel
theorem dX8_half_6 : decode cX8_half 6 = .ok (.invokevirtual 200, 3) := by decide +kernel
theorem dX8_half_9 : decode cX8_half 9 = .ok (.aload_n 0, 1) := by decide +kernel
theorem dX8_half_10 : decode cX8_half 10 = .ok (.getfield 46, 3) := by decide +kernel
theorem dX8_half_13 : decode cX8_half 13 = .ok (.iconst 0, 1) := by decide +kernel
theorem dX8_half_14 : decode cX8_half 14 = .ok (.iaload, 1) := by decide +kernel
theorem dX8_half_15 : decode cX8_half 15 = .ok (.ireturn, 1) := by decide +kernel
theorem dX8_isOver_0 : decode cX8_isOver 0 = .ok (.bipush 10, 2) := by decide +kernel
theorem dX8_isOver_2 : decode cX8_isOver 2 = .ok (.aload_n 0, 1) := by decide +kernel
theorem dX8_isOver_3 : decode cX8_isOver 3 = .ok (.iload_n 1, 1) := by decide +kernel
theorem dX8_isOver_4 : decode cX8_isOver 4 = .ok (.bipush 6, 2) := by decide +kernel
theorem dX8_isOver_6 : decode cX8_isOver 6 = .ok (.invokevirtual 179, 3) := by decide +kernel
theorem dX8_isOver_9 : decode cX8_isOver 9 = .ok (.imul, 1) := by decide +kernel
theorem dX8_isOver_10 : decode cX8_isOver 10 = .ok (.bipush 9, 2) := by decide +kernel
theorem dX8_isOver_12 : decode cX8_isOver 12 = .ok (.aload_n 0, 1) := by decide +kernel
theorem dX8_isOver_13 : decode cX8_isOver 13 = .ok (.iload_n 1, 1) := by decide +kernel
theorem dX8_isOver_14 : decode cX8_isOver 14 = .ok (.iconst 0, 1) := by decide +kernel
theorem dX8_isOver_15 : decode cX8_isOver 15 = .ok (.invokevirtual 179, 3) := by decide +kernel
theorem dX8_isOver_18 : decode cX8_isOver 18 = .ok (.imul, 1) := by decide +kernel
theorem dX8_isOver_19 : decode cX8_isOver 19 = .ok (.if_icmp .lt 7, 3) := by decide +kernel
theorem dX8_isOver_22 : decode cX8_isOver 22 = .ok (.iconst 1, 1) := by decide +kernel
theorem dX8_isOver_23 : decode cX8_isOver 23 = .ok (.goto 4, 3) := by decide +kernel
theorem dX8_isOver_26 : decode cX8_isOver 26 = .ok (.iconst 0, 1) := by decide +kernel
theorem dX8_isOver_27 : decode cX8_isOver 27 = .ok (.ireturn, 1) := by decide +kernel
theorem dX8_left_0 : decode cX8_left 0 = .ok (.aload_n 0, 1) := by decide +kernel
theorem dX8_left_1 : decode cX8_left 1 = .ok (.iload_n 1, 1) := by decide +kernel
theorem dX8_left_2 : decode cX8_left 2 = .ok (.iconst 0, 1) := by decide +kernel
theorem dX8_left_3 : decode cX8_left 3 = .ok (.invokevirtual 179, 3) := by decide +kernel
theorem dX8_left_6 : decode cX8_left 6 = .ok (.aload_n 0, 1) := by decide +kernel
theorem dX8_left_7 : decode cX8_left 7 = .ok (.iload_n 1, 1) := by decide +kernel
theorem dX8_left_8 : decode cX8_left 8 = .ok (.aload_n 0, 1) := by decide +kernel
theorem dX8_left_9 : decode cX8_left 9 = .ok (.getfield 34, 3) := by decide +kernel
theorem dX8_left_12 : decode cX8_left 12 = .ok (.iconst 5, 1) := by decide +kernel
theorem dX8_left_13 : decode cX8_left 13 = .ok (.iaload, 1) := by decide +kernel
theorem dX8_left_14 : decode cX8_left 14 = .ok (.invokevirtual 179, 3) := by decide +kernel
theorem dX8_left_17 : decode cX8_left 17 = .ok (.isub, 1) := by decide +kernel
theorem dX8_left_18 : decode cX8_left 18 = .ok (.ireturn, 1) := by decide +kernel
theorem dX8_which_0 : decode cX8_which 0 = .ok (.aload_n 0, 1) := by decide +kernel
theorem dX8_which_1 : decode cX8_which 1 = .ok (.iload_n 1, 1) := by decide +kernel
theorem dX8_which_2 : decode cX8_which 2 = .ok (.invokevirtual 172, 3) := by decide +kernel
theorem dX8_which_5 : decode cX8_which 5 = .ok (.ifCond .eq 5, 3) := by decide +kernel
theorem dX8_which_8 : decode cX8_which 8 = .ok (.iconst 2, 1) := by decide +kernel
theorem dX8_which_9 : decode cX8_which 9 = .ok (.ireturn, 1) := by decide +kernel
theorem dX8_which_10 : decode cX8_which 10 = .ok (.aload_n 0, 1) := by decide +kernel
theorem dX8_which_11 : decode cX8_which 11 = .ok (.getfield 46, 3) := by decide +kernel
theorem dX8_which_14 : decode cX8_which 14 = .ok (.iload_n 1, 1) := by decide +kernel
theorem dX8_which_15 : decode cX8_which 15 = .ok (.iconst 5, 1) := by decide +kernel
theorem dX8_which_16 : decode cX8_which 16 = .ok (.iadd, 1) := by decide +kernel
theorem dX8_which_17 : decode cX8_which 17 = .ok (.iaload, 1) := by decide +kernel
theorem dX8_which_18 : decode cX8_which 18 = .ok (.ifCond .ne 5, 3) := by decide +kernel
theorem dX8_which_21 : decode cX8_which 21 = .ok (.iconst 0, 1) := by decide +kernel
theorem dX8_which_22 : decode cX8_which 22 = .ok (.ireturn, 1) := by decide +kernel
theorem dX8_which_23 : decode cX8_which 23 = .ok (.aload_n 0, 1) := by decide +kernel
theorem dX8_which_24 : decode cX8_which 24 = .ok (.iload_n 1, 1) := by decide +kernel
theorem dX8_which_25 : decode cX8_which 25 = .ok (.invokevirtual 169, 3) := by decide +kernel
theorem dX8_which_28 : decode cX8_which 28 = .ok (.aload_n 0, 1) := by decide +kernel
theorem dX8_which_29 : decode cX8_which 29 = .ok (.getfield 34, 3) := by decide +kernel
theorem dX8_which_32 : decode cX8_which 32 = .ok (.bipush 7, 2) := by decide +kernel
theorem dX8_which_34 : decode cX8_which 34 = .ok (.iaload, 1) := by decide +kernel
theorem dX8_which_35 : decode cX8_which 35 = .ok (.if_icmp .ge 7, 3) := by decide +kernel
theorem dX8_which_38 : decode cX8_which 38 = .ok (.iconst 3, 1) := by decide +kernel
theorem dX8_which_39 : decode cX8_which 39 = .ok (.goto 37, 3) := by decide +kernel
theorem dX8_which_42 : decode cX8_which 42 = .ok (.aload_n 0, 1) := by decide +kernel
theorem dX8_which_43 : decode cX8_which 43 = .ok (.iload_n 1, 1) := by decide +kernel
theorem dX8_which_44 : decode cX8_which 44 = .ok (.invokevirtual 203, 3) := by decide +kernel
theorem dX8_which_47 : decode cX8_which 47 = .ok (.ifCond .eq 7, 3) := by decide +kernel
theorem dX8_which_50 : decode cX8_which 50 = .ok (.iconst 5, 1) := by decide +kernel
theorem dX8_which_51 : decode cX8_which 51 = .ok (.goto 25, 3) := by decide +kernel
theorem dX8_which_54 : decode cX8_which 54 = .ok (.bipush 10, 2) := by decide +kernel
theorem dX8_which_56 : decode cX8_which 56 = .ok (.aload_n 0, 1) := by decide +kernel
theorem dX8_which_57 : decode cX8_which 57 = .ok (.iload_n 1, 1) := by decide +kernel
theorem dX8_which_58 : decode cX8_which 58 = .ok (.invokevirtual 206, 3) := by decide +kernel
theorem dX8_which_61 : decode cX8_which 61 = .ok (.imul, 1) := by decide +kernel
theorem dX8_which_62 : decode cX8_which 62 = .ok (.aload_n 0, 1) := by decide +kernel
theorem dX8_which_63 : decode cX8_which 63 = .ok (.iload_n 1, 1) := by decide +kernel
theorem dX8_which_64 : decode cX8_which 64 = .ok (.iconst 0, 1) := by decide +kernel
theorem dX8_which_65 : decode cX8_which 65 = .ok (.invokevirtual 179, 3) := by decide +kernel
theorem dX8_which_68 : decode cX8_which 68 = .ok (.if_icmp .le 7, 3) := by decide +kernel
theorem dX8_which_71 : decode cX8_which 71 = .ok (.iconst 4, 1) := by decide +kernel
theorem dX8_which_72 : decode cX8_which 72 = .ok (.goto 4, 3) := by decide +kernel
theorem dX8_which_75 : decode cX8_which 75 = .ok (.iconst 1, 1) := by decide +kernel
theorem dX8_which_76 : decode cX8_which 76 = .ok (.ireturn, 1) := by decide +kernel
theorem dX8_told_0 : decode cX8_told 0 = .ok (.iload_n 2, 1) := by decide +kernel
theorem dX8_told_1 : decode cX8_told 1 = .ok (.tableswitch 155 0 9 #[55, 62, 71, 77, 86, 95, 122, 128, 135, 149], 55) := by decide +kernel
theorem dX8_told_56 : decode cX8_told 56 = .ok (.aload_n 0, 1) := by decide +kernel
theorem dX8_told_57 : decode cX8_told 57 = .ok (.getfield 46, 3) := by decide +kernel
theorem dX8_told_60 : decode cX8_told 60 = .ok (.iload_n 1, 1) := by decide +kernel
theorem dX8_told_61 : decode cX8_told 61 = .ok (.iaload, 1) := by decide +kernel
theorem dX8_told_62 : decode cX8_told 62 = .ok (.ireturn, 1) := by decide +kernel
theorem dX8_told_63 : decode cX8_told 63 = .ok (.aload_n 0, 1) := by decide +kernel
theorem dX8_told_64 : decode cX8_told 64 = .ok (.getfield 46, 3) := by decide +kernel
theorem dX8_told_67 : decode cX8_told 67 = .ok (.iload_n 1, 1) := by decide +kernel
theorem dX8_told_68 : decode cX8_told 68 = .ok (.iconst 1, 1) := by decide +kernel
theorem dX8_told_69 : decode cX8_told 69 = .ok (.iadd, 1) := by decide +kernel
theorem dX8_told_70 : decode cX8_told 70 = .ok (.iaload, 1) := by decide +kernel
theorem dX8_told_71 : decode cX8_told 71 = .ok (.ireturn, 1) := by decide +kernel
theorem dX8_told_72 : decode cX8_told 72 = .ok (.aload_n 0, 1) := by decide +kernel
theorem dX8_told_73 : decode cX8_told 73 = .ok (.iload_n 1, 1) := by decide +kernel
theorem dX8_told_74 : decode cX8_told 74 = .ok (.invokevirtual 169, 3) := by decide +kernel
theorem dX8_told_77 : decode cX8_told 77 = .ok (.ireturn, 1) := by decide +kernel
theorem dX8_told_78 : decode cX8_told 78 = .ok (.aload_n 0, 1) := by decide +kernel
theorem dX8_told_79 : decode cX8_told 79 = .ok (.getfield 46, 3) := by decide +kernel
theorem dX8_told_82 : decode cX8_told 82 = .ok (.iload_n 1, 1) := by decide +kernel
theorem dX8_told_83 : decode cX8_told 83 = .ok (.iconst 3, 1) := by decide +kernel
theorem dX8_told_84 : decode cX8_told 84 = .ok (.iadd, 1) := by decide +kernel
theorem dX8_told_85 : decode cX8_told 85 = .ok (.iaload, 1) := by decide +kernel
theorem dX8_told_86 : decode cX8_told 86 = .ok (.ireturn, 1) := by decide +kernel
theorem dX8_told_87 : decode cX8_told 87 = .ok (.aload_n 0, 1) := by decide +kernel
theorem dX8_told_88 : decode cX8_told 88 = .ok (.getfield 46, 3) := by decide +kernel
theorem dX8_told_91 : decode cX8_told 91 = .ok (.iload_n 1, 1) := by decide +kernel
theorem dX8_told_92 : decode cX8_told 92 = .ok (.iconst 4, 1) := by decide +kernel
theorem dX8_told_93 : decode cX8_told 93 = .ok (.iadd, 1) := by decide +kernel
theorem dX8_told_94 : decode cX8_told 94 = .ok (.iaload, 1) := by decide +kernel
theorem dX8_told_95 : decode cX8_told 95 = .ok (.ireturn, 1) := by decide +kernel
theorem dX8_told_96 : decode cX8_told 96 = .ok (.aload_n 0, 1) := by decide +kernel
theorem dX8_told_97 : decode cX8_told 97 = .ok (.getfield 46, 3) := by decide +kernel
theorem dX8_told_100 : decode cX8_told 100 = .ok (.iload_n 1, 1) := by decide +kernel
theorem dX8_told_101 : decode cX8_told 101 = .ok (.iconst 5, 1) := by decide +kernel
theorem dX8_told_102 : decode cX8_told 102 = .ok (.iadd, 1) := by decide +kernel
theorem dX8_told_103 : decode cX8_told 103 = .ok (.iaload, 1) := by decide +kernel
theorem dX8_told_104 : decode cX8_told 104 = .ok (.ifCond .ne 8, 3) := by decide +kernel
theorem dX8_told_107 : decode cX8_told 107 = .ok (.bipush (-4), 2) := by decide +kernel
theorem dX8_told_109 : decode cX8_told 109 = .ok (.goto 13, 3) := by decide +kernel
theorem dX8_told_112 : decode cX8_told 112 = .ok (.aload_n 0, 1) := by decide +kernel
theorem dX8_told_113 : decode cX8_told 113 = .ok (.getfield 46, 3) := by decide +kernel
theorem dX8_told_116 : decode cX8_told 116 = .ok (.iload_n 1, 1) := by decide +kernel
theorem dX8_told_117 : decode cX8_told 117 = .ok (.iconst 5, 1) := by decide +kernel
theorem dX8_told_118 : decode cX8_told 118 = .ok (.iadd, 1) := by decide +kernel
theorem dX8_told_119 : decode cX8_told 119 = .ok (.iaload, 1) := by decide +kernel
theorem dX8_told_120 : decode cX8_told 120 = .ok (.iconst 1, 1) := by decide +kernel
theorem dX8_told_121 : decode cX8_told 121 = .ok (.isub, 1) := by decide +kernel
theorem dX8_told_122 : decode cX8_told 122 = .ok (.ireturn, 1) := by decide +kernel
theorem dX8_told_123 : decode cX8_told 123 = .ok (.aload_n 0, 1) := by decide +kernel
theorem dX8_told_124 : decode cX8_told 124 = .ok (.iload_n 1, 1) := by decide +kernel
theorem dX8_told_125 : decode cX8_told 125 = .ok (.invokevirtual 206, 3) := by decide +kernel
theorem dX8_told_128 : decode cX8_told 128 = .ok (.ireturn, 1) := by decide +kernel
theorem dX8_told_129 : decode cX8_told 129 = .ok (.aload_n 0, 1) := by decide +kernel
theorem dX8_told_130 : decode cX8_told 130 = .ok (.iload_n 1, 1) := by decide +kernel
theorem dX8_told_131 : decode cX8_told 131 = .ok (.iconst 0, 1) := by decide +kernel
theorem dX8_told_132 : decode cX8_told 132 = .ok (.invokevirtual 179, 3) := by decide +kernel
theorem dX8_told_135 : decode cX8_told 135 = .ok (.ireturn, 1) := by decide +kernel
theorem dX8_told_136 : decode cX8_told 136 = .ok (.aload_n 0, 1) := by decide +kernel
theorem dX8_told_137 : decode cX8_told 137 = .ok (.iload_n 1, 1) := by decide +kernel
theorem dX8_told_138 : decode cX8_told 138 = .ok (.invokevirtual 172, 3) := by decide +kernel
theorem dX8_told_141 : decode cX8_told 141 = .ok (.ifCond .eq 7, 3) := by decide +kernel
theorem dX8_told_144 : decode cX8_told 144 = .ok (.iconst 1, 1) := by decide +kernel
theorem dX8_told_145 : decode cX8_told 145 = .ok (.goto 4, 3) := by decide +kernel
theorem dX8_told_148 : decode cX8_told 148 = .ok (.iconst 0, 1) := by decide +kernel
theorem dX8_told_149 : decode cX8_told 149 = .ok (.ireturn, 1) := by decide +kernel
theorem dX8_told_150 : decode cX8_told 150 = .ok (.aload_n 0, 1) := by decide +kernel
theorem dX8_told_151 : decode cX8_told 151 = .ok (.iload_n 1, 1) := by decide +kernel
theorem dX8_told_152 : decode cX8_told 152 = .ok (.invokevirtual 209, 3) := by decide +kernel
theorem dX8_told_155 : decode cX8_told 155 = .ok (.ireturn, 1) := by decide +kernel
theorem dX8_told_156 : decode cX8_told 156 = .ok (.iload_n 2, 1) := by decide +kernel
theorem dX8_told_157 : decode cX8_told 157 = .ok (.i2l, 1) := by decide +kernel
theorem dX8_told_158 : decode cX8_told 158 = .ok (.ldc2_w 155, 3) := by decide +kernel
theorem dX8_told_161 : decode cX8_told 161 = .ok (.ldc2_w 212, 3) := by decide +kernel
theorem dX8_told_164 : decode cX8_told 164 = .ok (.invokestatic 78, 3) := by decide +kernel
theorem dX8_told_167 : decode cX8_told 167 = .ok (.ifCond .eq 20, 3) := by decide +kernel
theorem dX8_told_170 : decode cX8_told 170 = .ok (.aload_n 0, 1) := by decide +kernel
theorem dX8_told_171 : decode cX8_told 171 = .ok (.getfield 46, 3) := by decide +kernel
theorem dX8_told_174 : decode cX8_told 174 = .ok (.iload_n 1, 1) := by decide +kernel
theorem dX8_told_175 : decode cX8_told 175 = .ok (.bipush 6, 2) := by decide +kernel
theorem dX8_told_177 : decode cX8_told 177 = .ok (.iadd, 1) := by decide +kernel
theorem dX8_told_178 : decode cX8_told 178 = .ok (.iload_n 2, 1) := by decide +kernel
theorem dX8_told_179 : decode cX8_told 179 = .ok (.iadd, 1) := by decide +kernel
theorem dX8_told_180 : decode cX8_told 180 = .ok (.bipush 10, 2) := by decide +kernel
theorem dX8_told_182 : decode cX8_told 182 = .ok (.isub, 1) := by decide +kernel
theorem dX8_told_183 : decode cX8_told 183 = .ok (.iaload, 1) := by decide +kernel
theorem dX8_told_184 : decode cX8_told 184 = .ok (.goto 4, 3) := by decide +kernel
theorem dX8_told_187 : decode cX8_told 187 = .ok (.iconst (-1), 1) := by decide +kernel
theorem dX8_told_188 : decode cX8_told 188 = .ok (.ireturn, 1) := by decide +kernel
theorem dX8_now_0 : decode cX8_now 0 = .ok (.aload_n 0, 1) := by decide +kernel
theorem dX8_now_1 : decode cX8_now 1 = .ok (.invokevirtual 190, 3) := by decide +kernel
theorem dX8_now_4 : decode cX8_now 4 = .ok (.iload_n 1, 1) := by decide +kernel
theorem dX8_now_5 : decode cX8_now 5 = .ok (.i2l, 1) := by decide +kernel
theorem dX8_now_6 : decode cX8_now 6 = .ok (.lconst 0, 1) := by decide +kernel
theorem dX8_now_7 : decode cX8_now 7 = .ok (.ldc2_w 167, 3) := by decide +kernel
theorem dX8_now_10 : decode cX8_now 10 = .ok (.invokestatic 78, 3) := by decide +kernel
theorem dX8_now_13 : decode cX8_now 13 = .ok (.ifCond .eq 12, 3) := by decide +kernel
theorem dX8_now_16 : decode cX8_now 16 = .ok (.aload_n 0, 1) := by decide +kernel
theorem dX8_now_17 : decode cX8_now 17 = .ok (.iconst 0, 1) := by decide +kernel
theorem dX8_now_18 : decode cX8_now 18 = .ok (.iload_n 1, 1) := by decide +kernel
theorem dX8_now_19 : decode cX8_now 19 = .ok (.invokevirtual 214, 3) := by decide +kernel
theorem dX8_now_22 : decode cX8_now 22 = .ok (.goto 4, 3) := by decide +kernel
theorem dX8_now_25 : decode cX8_now 25 = .ok (.iconst (-1), 1) := by decide +kernel
theorem dX8_now_26 : decode cX8_now 26 = .ok (.ireturn, 1) := by decide +kernel
theorem dX8_drops_0 : decode cX8_drops 0 = .ok (.aload_n 0, 1) := by decide +kernel
theorem dX8_drops_1 : decode cX8_drops 1 = .ok (.invokevirtual 190, 3) := by decide +kernel
theorem dX8_drops_4 : decode cX8_drops 4 = .ok (.iload_n 1, 1) := by decide +kernel
theorem dX8_drops_5 : decode cX8_drops 5 = .ok (.i2l, 1) := by decide +kernel
theorem dX8_drops_6 : decode cX8_drops 6 = .ok (.lconst 0, 1) := by decide +kernel
theorem dX8_drops_7 : decode cX8_drops 7 = .ok (.ldc2_w 165, 3) := by decide +kernel
theorem dX8_drops_10 : decode cX8_drops 10 = .ok (.invokestatic 78, 3) := by decide +kernel
theorem dX8_drops_13 : decode cX8_drops 13 = .ok (.ifCond .eq 15, 3) := by decide +kernel
theorem dX8_drops_16 : decode cX8_drops 16 = .ok (.aload_n 0, 1) := by decide +kernel
theorem dX8_drops_17 : decode cX8_drops 17 = .ok (.getfield 46, 3) := by decide +kernel
theorem dX8_drops_20 : decode cX8_drops 20 = .ok (.bipush 6, 2) := by decide +kernel
theorem dX8_drops_22 : decode cX8_drops 22 = .ok (.iload_n 1, 1) := by decide +kernel
theorem dX8_drops_23 : decode cX8_drops 23 = .ok (.iadd, 1) := by decide +kernel
theorem dX8_drops_24 : decode cX8_drops 24 = .ok (.iaload, 1) := by decide +kernel
theorem dX8_drops_25 : decode cX8_drops 25 = .ok (.goto 4, 3) := by decide +kernel
theorem dX8_drops_28 : decode cX8_drops 28 = .ok (.iconst (-1), 1) := by decide +kernel
theorem dX8_drops_29 : decode cX8_drops 29 = .ok (.ireturn, 1) := by decide +kernel
theorem dX8_run_0 : decode cX8_run 0 = .ok (.aload_n 0, 1) := by decide +kernel
theorem dX8_run_1 : decode cX8_run 1 = .ok (.iload_n 1, 1) := by decide +kernel
theorem dX8_run_2 : decode cX8_run 2 = .ok (.invokevirtual 184, 3) := by decide +kernel
theorem dX8_run_5 : decode cX8_run 5 = .ok (.ifCond .eq 30, 3) := by decide +kernel
theorem dX8_run_8 : decode cX8_run 8 = .ok (.iload_n 2, 1) := by decide +kernel
theorem dX8_run_9 : decode cX8_run 9 = .ok (.invokestatic 187, 3) := by decide +kernel
theorem dX8_run_12 : decode cX8_run 12 = .ok (.ifCond .eq 23, 3) := by decide +kernel
theorem dX8_run_15 : decode cX8_run 15 = .ok (.iload_n 3, 1) := by decide +kernel
theorem dX8_run_16 : decode cX8_run 16 = .ok (.invokestatic 193, 3) := by decide +kernel
theorem dX8_run_19 : decode cX8_run 19 = .ok (.ifCond .eq 16, 3) := by decide +kernel
theorem dX8_run_22 : decode cX8_run 22 = .ok (.iload 4, 2) := by decide +kernel
theorem dX8_run_24 : decode cX8_run 24 = .ok (.i2l, 1) := by decide +kernel
theorem dX8_run_25 : decode cX8_run 25 = .ok (.lconst 0, 1) := by decide +kernel
theorem dX8_run_26 : decode cX8_run 26 = .ok (.ldc2_w 182, 3) := by decide +kernel
theorem dX8_run_29 : decode cX8_run 29 = .ok (.invokestatic 78, 3) := by decide +kernel
theorem dX8_run_32 : decode cX8_run 32 = .ok (.ifCond .ne 5, 3) := by decide +kernel
theorem dX8_run_35 : decode cX8_run 35 = .ok (.iconst (-1), 1) := by decide +kernel
theorem dX8_run_36 : decode cX8_run 36 = .ok (.ireturn, 1) := by decide +kernel
theorem dX8_run_37 : decode cX8_run 37 = .ok (.aload_n 0, 1) := by decide +kernel
theorem dX8_run_38 : decode cX8_run 38 = .ok (.bipush 16, 2) := by decide +kernel
theorem dX8_run_40 : decode cX8_run 40 = .ok (.iload_n 1, 1) := by decide +kernel
theorem dX8_run_41 : decode cX8_run 41 = .ok (.iload_n 2, 1) := by decide +kernel
theorem dX8_run_42 : decode cX8_run 42 = .ok (.invokevirtual 145, 3) := by decide +kernel
theorem dX8_run_45 : decode cX8_run 45 = .ok (.iconst 0, 1) := by decide +kernel
theorem dX8_run_46 : decode cX8_run 46 = .ok (.istore 6, 2) := by decide +kernel
theorem dX8_run_48 : decode cX8_run 48 = .ok (.iload 6, 2) := by decide +kernel
theorem dX8_run_50 : decode cX8_run 50 = .ok (.iload 4, 2) := by decide +kernel
theorem dX8_run_52 : decode cX8_run 52 = .ok (.if_icmp .ge 17, 3) := by decide +kernel
theorem dX8_run_55 : decode cX8_run 55 = .ok (.aload_n 0, 1) := by decide +kernel
theorem dX8_run_56 : decode cX8_run 56 = .ok (.bipush 16, 2) := by decide +kernel
theorem dX8_run_58 : decode cX8_run 58 = .ok (.iload_n 3, 1) := by decide +kernel
theorem dX8_run_59 : decode cX8_run 59 = .ok (.invokevirtual 196, 3) := by decide +kernel
theorem dX8_run_62 : decode cX8_run 62 = .ok (.pop, 1) := by decide +kernel
theorem dX8_run_63 : decode cX8_run 63 = .ok (.iinc 6 1, 3) := by decide +kernel
theorem dX8_run_66 : decode cX8_run 66 = .ok (.goto (-18), 3) := by decide +kernel
theorem dX8_run_69 : decode cX8_run 69 = .ok (.aload_n 0, 1) := by decide +kernel
theorem dX8_run_70 : decode cX8_run 70 = .ok (.bipush 16, 2) := by decide +kernel
theorem dX8_run_72 : decode cX8_run 72 = .ok (.iload 5, 2) := by decide +kernel
theorem dX8_run_74 : decode cX8_run 74 = .ok (.invokevirtual 214, 3) := by decide +kernel
theorem dX8_run_77 : decode cX8_run 77 = .ok (.ireturn, 1) := by decide +kernel
theorem dX8_tillCome_0 : decode cX8_tillCome 0 = .ok (.iconst 0, 1) := by decide +kernel
theorem dX8_tillCome_1 : decode cX8_tillCome 1 = .ok (.istore_n 3, 1) := by decide +kernel
theorem dX8_tillCome_2 : decode cX8_tillCome 2 = .ok (.aload_n 0, 1) := by decide +kernel
theorem dX8_tillCome_3 : decode cX8_tillCome 3 = .ok (.getfield 46, 3) := by decide +kernel
theorem dX8_tillCome_6 : decode cX8_tillCome 6 = .ok (.iload_n 1, 1) := by decide +kernel
theorem dX8_tillCome_7 : decode cX8_tillCome 7 = .ok (.iconst 5, 1) := by decide +kernel
theorem dX8_tillCome_8 : decode cX8_tillCome 8 = .ok (.iadd, 1) := by decide +kernel
theorem dX8_tillCome_9 : decode cX8_tillCome 9 = .ok (.iaload, 1) := by decide +kernel
theorem dX8_tillCome_10 : decode cX8_tillCome 10 = .ok (.ifCond .ne 23, 3) := by decide +kernel
theorem dX8_tillCome_13 : decode cX8_tillCome 13 = .ok (.iload_n 3, 1) := by decide +kernel
theorem dX8_tillCome_14 : decode cX8_tillCome 14 = .ok (.sipush 400, 3) := by decide +kernel
theorem dX8_tillCome_17 : decode cX8_tillCome 17 = .ok (.if_icmp .ge 16, 3) := by decide +kernel
theorem dX8_tillCome_20 : decode cX8_tillCome 20 = .ok (.aload_n 0, 1) := by decide +kernel
theorem dX8_tillCome_21 : decode cX8_tillCome 21 = .ok (.iload_n 1, 1) := by decide +kernel
theorem dX8_tillCome_22 : decode cX8_tillCome 22 = .ok (.iload_n 2, 1) := by decide +kernel
theorem dX8_tillCome_23 : decode cX8_tillCome 23 = .ok (.invokevirtual 196, 3) := by decide +kernel
theorem dX8_tillCome_26 : decode cX8_tillCome 26 = .ok (.pop, 1) := by decide +kernel
theorem dX8_tillCome_27 : decode cX8_tillCome 27 = .ok (.iinc 3 1, 3) := by decide +kernel
theorem dX8_tillCome_30 : decode cX8_tillCome 30 = .ok (.goto (-28), 3) := by decide +kernel
theorem dX8_tillCome_33 : decode cX8_tillCome 33 = .ok (.aload_n 0, 1) := by decide +kernel
theorem dX8_tillCome_34 : decode cX8_tillCome 34 = .ok (.getfield 46, 3) := by decide +kernel
theorem dX8_tillCome_37 : decode cX8_tillCome 37 = .ok (.iload_n 1, 1) := by decide +kernel
theorem dX8_tillCome_38 : decode cX8_tillCome 38 = .ok (.iconst 5, 1) := by decide +kernel
theorem dX8_tillCome_39 : decode cX8_tillCome 39 = .ok (.iadd, 1) := by decide +kernel
theorem dX8_tillCome_40 : decode cX8_tillCome 40 = .ok (.iaload, 1) := by decide +kernel
theorem dX8_tillCome_41 : decode cX8_tillCome 41 = .ok (.ifCond .ne 8, 3) := by decide +kernel
theorem dX8_tillCome_44 : decode cX8_tillCome 44 = .ok (.bipush (-4), 2) := by decide +kernel
theorem dX8_tillCome_46 : decode cX8_tillCome 46 = .ok (.goto 4, 3) := by decide +kernel
theorem dX8_tillCome_49 : decode cX8_tillCome 49 = .ok (.iload_n 3, 1) := by decide +kernel
theorem dX8_tillCome_50 : decode cX8_tillCome 50 = .ok (.ireturn, 1) := by decide +kernel
theorem dX8_comes_0 : decode cX8_comes 0 = .ok (.aload_n 0, 1) := by decide +kernel
theorem dX8_comes_1 : decode cX8_comes 1 = .ok (.iload_n 1, 1) := by decide +kernel
theorem dX8_comes_2 : decode cX8_comes 2 = .ok (.invokevirtual 184, 3) := by decide +kernel
theorem dX8_comes_5 : decode cX8_comes 5 = .ok (.ifCond .eq 17, 3) := by decide +kernel
theorem dX8_comes_8 : decode cX8_comes 8 = .ok (.iload_n 2, 1) := by decide +kernel
theorem dX8_comes_9 : decode cX8_comes 9 = .ok (.invokestatic 187, 3) := by decide +kernel
theorem dX8_comes_12 : decode cX8_comes 12 = .ok (.ifCond .eq 10, 3) := by decide +kernel
theorem dX8_comes_15 : decode cX8_comes 15 = .ok (.iload_n 3, 1) := by decide +kernel
theorem dX8_comes_16 : decode cX8_comes 16 = .ok (.invokestatic 193, 3) := by decide +kernel
theorem dX8_comes_19 : decode cX8_comes 19 = .ok (.ifCond .ne 5, 3) := by decide +kernel
theorem dX8_comes_22 : decode cX8_comes 22 = .ok (.iconst (-1), 1) := by decide +kernel
theorem dX8_comes_23 : decode cX8_comes 23 = .ok (.ireturn, 1) := by decide +kernel
theorem dX8_comes_24 : decode cX8_comes 24 = .ok (.aload_n 0, 1) := by decide +kernel
theorem dX8_comes_25 : decode cX8_comes 25 = .ok (.bipush 16, 2) := by decide +kernel
theorem dX8_comes_27 : decode cX8_comes 27 = .ok (.iload_n 1, 1) := by decide +kernel
theorem dX8_comes_28 : decode cX8_comes 28 = .ok (.iload_n 2, 1) := by decide +kernel
theorem dX8_comes_29 : decode cX8_comes 29 = .ok (.invokevirtual 145, 3) := by decide +kernel
theorem dX8_comes_32 : decode cX8_comes 32 = .ok (.aload_n 0, 1) := by decide +kernel
theorem dX8_comes_33 : decode cX8_comes 33 = .ok (.bipush 16, 2) := by decide +kernel
theorem dX8_comes_35 : decode cX8_comes 35 = .ok (.iload_n 3, 1) := by decide +kernel
theorem dX8_comes_36 : decode cX8_comes 36 = .ok (.invokevirtual 217, 3) := by decide +kernel
theorem dX8_comes_39 : decode cX8_comes 39 = .ok (.ireturn, 1) := by decide +kernel
theorem dX8_layPlan_0 : decode cX8_layPlan 0 = .ok (.iconst 0, 1) := by decide +kernel
theorem dX8_layPlan_1 : decode cX8_layPlan 1 = .ok (.istore_n 2, 1) := by decide +kernel
theorem dX8_layPlan_2 : decode cX8_layPlan 2 = .ok (.iconst 0, 1) := by decide +kernel
theorem dX8_layPlan_3 : decode cX8_layPlan 3 = .ok (.istore_n 3, 1) := by decide +kernel
theorem dX8_layPlan_4 : decode cX8_layPlan 4 = .ok (.iload_n 3, 1) := by decide +kernel
theorem dX8_layPlan_5 : decode cX8_layPlan 5 = .ok (.sipush 400, 3) := by decide +kernel
theorem dX8_layPlan_8 : decode cX8_layPlan 8 = .ok (.if_icmp .gt 185, 3) := by decide +kernel
theorem dX8_layPlan_11 : decode cX8_layPlan 11 = .ok (.iconst 1, 1) := by decide +kernel
theorem dX8_layPlan_12 : decode cX8_layPlan 12 = .ok (.istore 4, 2) := by decide +kernel
theorem dX8_layPlan_14 : decode cX8_layPlan 14 = .ok (.iload 4, 2) := by decide +kernel
theorem dX8_layPlan_16 : decode cX8_layPlan 16 = .ok (.bipush 10, 2) := by decide +kernel
theorem dX8_layPlan_18 : decode cX8_layPlan 18 = .ok (.if_icmp .ge 169, 3) := by decide +kernel
theorem dX8_layPlan_21 : decode cX8_layPlan 21 = .ok (.aload_n 0, 1) := by decide +kernel
theorem dX8_layPlan_22 : decode cX8_layPlan 22 = .ok (.bipush 16, 2) := by decide +kernel
theorem dX8_layPlan_24 : decode cX8_layPlan 24 = .ok (.iload_n 1, 1) := by decide +kernel
theorem dX8_layPlan_25 : decode cX8_layPlan 25 = .ok (.iload_n 3, 1) := by decide +kernel
theorem dX8_layPlan_26 : decode cX8_layPlan 26 = .ok (.invokevirtual 145, 3) := by decide +kernel
theorem dX8_layPlan_29 : decode cX8_layPlan 29 = .ok (.aload_n 0, 1) := by decide +kernel
theorem dX8_layPlan_30 : decode cX8_layPlan 30 = .ok (.bipush 16, 2) := by decide +kernel
theorem dX8_layPlan_32 : decode cX8_layPlan 32 = .ok (.iload 4, 2) := by decide +kernel
theorem dX8_layPlan_34 : decode cX8_layPlan 34 = .ok (.invokevirtual 217, 3) := by decide +kernel
theorem dX8_layPlan_37 : decode cX8_layPlan 37 = .ok (.istore 5, 2) := by decide +kernel
theorem dX8_layPlan_39 : decode cX8_layPlan 39 = .ok (.aload_n 0, 1) := by decide +kernel
theorem dX8_layPlan_40 : decode cX8_layPlan 40 = .ok (.bipush 16, 2) := by decide +kernel
theorem dX8_layPlan_42 : decode cX8_layPlan 42 = .ok (.invokevirtual 169, 3) := by decide +kernel
theorem dX8_layPlan_45 : decode cX8_layPlan 45 = .ok (.istore 6, 2) := by decide +kernel
theorem dX8_layPlan_47 : decode cX8_layPlan 47 = .ok (.aload_n 0, 1) := by decide +kernel
theorem dX8_layPlan_48 : decode cX8_layPlan 48 = .ok (.bipush 16, 2) := by decide +kernel
theorem dX8_layPlan_50 : decode cX8_layPlan 50 = .ok (.invokevirtual 206, 3) := by decide +kernel
theorem dX8_layPlan_53 : decode cX8_layPlan 53 = .ok (.istore 7, 2) := by decide +kernel
theorem dX8_layPlan_55 : decode cX8_layPlan 55 = .ok (.iload 5, 2) := by decide +kernel
theorem dX8_layPlan_57 : decode cX8_layPlan 57 = .ok (.bipush (-4), 2) := by decide +kernel
theorem dX8_layPlan_59 : decode cX8_layPlan 59 = .ok (.if_icmp .eq 32, 3) := by decide +kernel
theorem dX8_layPlan_62 : decode cX8_layPlan 62 = .ok (.iload 6, 2) := by decide +kernel
theorem dX8_layPlan_64 : decode cX8_layPlan 64 = .ok (.i2l, 1) := by decide +kernel
theorem dX8_layPlan_65 : decode cX8_layPlan 65 = .ok (.aload_n 0, 1) := by decide +kernel
theorem dX8_layPlan_66 : decode cX8_layPlan 66 = .ok (.getfield 34, 3) := by decide +kernel
theorem dX8_layPlan_69 : decode cX8_layPlan 69 = .ok (.bipush 7, 2) := by decide +kernel
theorem dX8_layPlan_71 : decode cX8_layPlan 71 = .ok (.iaload, 1) := by decide +kernel
theorem dX8_layPlan_72 : decode cX8_layPlan 72 = .ok (.i2l, 1) := by decide +kernel
theorem dX8_layPlan_73 : decode cX8_layPlan 73 = .ok (.aload_n 0, 1) := by decide +kernel
theorem dX8_layPlan_74 : decode cX8_layPlan 74 = .ok (.getfield 34, 3) := by decide +kernel
theorem dX8_layPlan_77 : decode cX8_layPlan 77 = .ok (.bipush 8, 2) := by decide +kernel
theorem dX8_layPlan_79 : decode cX8_layPlan 79 = .ok (.iaload, 1) := by decide +kernel
theorem dX8_layPlan_80 : decode cX8_layPlan 80 = .ok (.i2l, 1) := by decide +kernel
theorem dX8_layPlan_81 : decode cX8_layPlan 81 = .ok (.invokestatic 78, 3) := by decide +kernel
theorem dX8_layPlan_84 : decode cX8_layPlan 84 = .ok (.ifCond .eq 7, 3) := by decide +kernel
theorem dX8_layPlan_87 : decode cX8_layPlan 87 = .ok (.iconst 1, 1) := by decide +kernel
theorem dX8_layPlan_88 : decode cX8_layPlan 88 = .ok (.goto 4, 3) := by decide +kernel
theorem dX8_layPlan_91 : decode cX8_layPlan 91 = .ok (.iconst 0, 1) := by decide +kernel
theorem dX8_layPlan_92 : decode cX8_layPlan 92 = .ok (.istore 8, 2) := by decide +kernel
theorem dX8_layPlan_94 : decode cX8_layPlan 94 = .ok (.iload_n 2, 1) := by decide +kernel
theorem dX8_layPlan_95 : decode cX8_layPlan 95 = .ok (.ifCond .eq 36, 3) := by decide +kernel
theorem dX8_layPlan_98 : decode cX8_layPlan 98 = .ok (.iload 7, 2) := by decide +kernel
theorem dX8_layPlan_100 : decode cX8_layPlan 100 = .ok (.aload_n 0, 1) := by decide +kernel
theorem dX8_layPlan_101 : decode cX8_layPlan 101 = .ok (.getfield 52, 3) := by decide +kernel
theorem dX8_layPlan_104 : decode cX8_layPlan 104 = .ok (.iconst 3, 1) := by decide +kernel
theorem dX8_layPlan_105 : decode cX8_layPlan 105 = .ok (.iaload, 1) := by decide +kernel
theorem dX8_layPlan_106 : decode cX8_layPlan 106 = .ok (.if_icmp .lt 25, 3) := by decide +kernel
theorem dX8_layPlan_109 : decode cX8_layPlan 109 = .ok (.iload 7, 2) := by decide +kernel
theorem dX8_layPlan_111 : decode cX8_layPlan 111 = .ok (.aload_n 0, 1) := by decide +kernel
theorem dX8_layPlan_112 : decode cX8_layPlan 112 = .ok (.getfield 52, 3) := by decide +kernel
theorem dX8_layPlan_115 : decode cX8_layPlan 115 = .ok (.iconst 3, 1) := by decide +kernel
theorem dX8_layPlan_116 : decode cX8_layPlan 116 = .ok (.iaload, 1) := by decide +kernel
theorem dX8_layPlan_117 : decode cX8_layPlan 117 = .ok (.if_icmp .ne 18, 3) := by decide +kernel
theorem dX8_layPlan_120 : decode cX8_layPlan 120 = .ok (.iload 5, 2) := by decide +kernel
theorem dX8_layPlan_122 : decode cX8_layPlan 122 = .ok (.aload_n 0, 1) := by decide +kernel
theorem dX8_layPlan_123 : decode cX8_layPlan 123 = .ok (.getfield 52, 3) := by decide +kernel
theorem dX8_layPlan_126 : decode cX8_layPlan 126 = .ok (.iconst 2, 1) := by decide +kernel
theorem dX8_layPlan_127 : decode cX8_layPlan 127 = .ok (.iaload, 1) := by decide +kernel
theorem dX8_layPlan_128 : decode cX8_layPlan 128 = .ok (.if_icmp .ge 7, 3) := by decide +kernel
theorem dX8_layPlan_131 : decode cX8_layPlan 131 = .ok (.iconst 1, 1) := by decide +kernel
theorem dX8_layPlan_132 : decode cX8_layPlan 132 = .ok (.goto 4, 3) := by decide +kernel
theorem dX8_layPlan_135 : decode cX8_layPlan 135 = .ok (.iconst 0, 1) := by decide +kernel
theorem dX8_layPlan_136 : decode cX8_layPlan 136 = .ok (.istore 9, 2) := by decide +kernel
theorem dX8_layPlan_138 : decode cX8_layPlan 138 = .ok (.iload 8, 2) := by decide +kernel
theorem dX8_layPlan_140 : decode cX8_layPlan 140 = .ok (.ifCond .eq 41, 3) := by decide +kernel
theorem dX8_layPlan_143 : decode cX8_layPlan 143 = .ok (.iload 9, 2) := by decide +kernel
theorem dX8_layPlan_145 : decode cX8_layPlan 145 = .ok (.ifCond .eq 36, 3) := by decide +kernel
theorem dX8_layPlan_148 : decode cX8_layPlan 148 = .ok (.iconst 1, 1) := by decide +kernel
theorem dX8_layPlan_149 : decode cX8_layPlan 149 = .ok (.istore_n 2, 1) := by decide +kernel
theorem dX8_layPlan_150 : decode cX8_layPlan 150 = .ok (.aload_n 0, 1) := by decide +kernel
theorem dX8_layPlan_151 : decode cX8_layPlan 151 = .ok (.getfield 52, 3) := by decide +kernel
theorem dX8_layPlan_154 : decode cX8_layPlan 154 = .ok (.iconst 0, 1) := by decide +kernel
theorem dX8_layPlan_155 : decode cX8_layPlan 155 = .ok (.iload_n 3, 1) := by decide +kernel
theorem dX8_layPlan_156 : decode cX8_layPlan 156 = .ok (.iastore, 1) := by decide +kernel
theorem dX8_layPlan_157 : decode cX8_layPlan 157 = .ok (.aload_n 0, 1) := by decide +kernel
theorem dX8_layPlan_158 : decode cX8_layPlan 158 = .ok (.getfield 52, 3) := by decide +kernel
theorem dX8_layPlan_161 : decode cX8_layPlan 161 = .ok (.iconst 1, 1) := by decide +kernel
theorem dX8_layPlan_162 : decode cX8_layPlan 162 = .ok (.iload 4, 2) := by decide +kernel
theorem dX8_layPlan_164 : decode cX8_layPlan 164 = .ok (.iastore, 1) := by decide +kernel
theorem dX8_layPlan_165 : decode cX8_layPlan 165 = .ok (.aload_n 0, 1) := by decide +kernel
theorem dX8_layPlan_166 : decode cX8_layPlan 166 = .ok (.getfield 52, 3) := by decide +kernel
theorem dX8_layPlan_169 : decode cX8_layPlan 169 = .ok (.iconst 2, 1) := by decide +kernel
theorem dX8_layPlan_170 : decode cX8_layPlan 170 = .ok (.iload 5, 2) := by decide +kernel
theorem dX8_layPlan_172 : decode cX8_layPlan 172 = .ok (.iastore, 1) := by decide +kernel
theorem dX8_layPlan_173 : decode cX8_layPlan 173 = .ok (.aload_n 0, 1) := by decide +kernel
theorem dX8_layPlan_174 : decode cX8_layPlan 174 = .ok (.getfield 52, 3) := by decide +kernel
theorem dX8_layPlan_177 : decode cX8_layPlan 177 = .ok (.iconst 3, 1) := by decide +kernel
theorem dX8_layPlan_178 : decode cX8_layPlan 178 = .ok (.iload 7, 2) := by decide +kernel
theorem dX8_layPlan_180 : decode cX8_layPlan 180 = .ok (.iastore, 1) := by decide +kernel
theorem dX8_layPlan_181 : decode cX8_layPlan 181 = .ok (.iinc 4 1, 3) := by decide +kernel
theorem dX8_layPlan_184 : decode cX8_layPlan 184 = .ok (.goto (-170), 3) := by decide +kernel
theorem dX8_layPlan_187 : decode cX8_layPlan 187 = .ok (.iinc 3 20, 3) := by decide +kernel
theorem dX8_layPlan_190 : decode cX8_layPlan 190 = .ok (.goto (-186), 3) := by decide +kernel
theorem dX8_layPlan_193 : decode cX8_layPlan 193 = .ok (.iload_n 2, 1) := by decide +kernel
theorem dX8_layPlan_194 : decode cX8_layPlan 194 = .ok (.ireturn, 1) := by decide +kernel
theorem dX8_plan_0 : decode cX8_plan 0 = .ok (.aload_n 0, 1) := by decide +kernel
theorem dX8_plan_1 : decode cX8_plan 1 = .ok (.iload_n 1, 1) := by decide +kernel
theorem dX8_plan_2 : decode cX8_plan 2 = .ok (.invokevirtual 184, 3) := by decide +kernel
theorem dX8_plan_5 : decode cX8_plan 5 = .ok (.ifCond .eq 15, 3) := by decide +kernel
theorem dX8_plan_8 : decode cX8_plan 8 = .ok (.iload_n 2, 1) := by decide +kernel
theorem dX8_plan_9 : decode cX8_plan 9 = .ok (.i2l, 1) := by decide +kernel
theorem dX8_plan_10 : decode cX8_plan 10 = .ok (.lconst 0, 1) := by decide +kernel
theorem dX8_plan_11 : decode cX8_plan 11 = .ok (.ldc2_w 220, 3) := by decide +kernel
theorem dX8_plan_14 : decode cX8_plan 14 = .ok (.invokestatic 78, 3) := by decide +kernel
theorem dX8_plan_17 : decode cX8_plan 17 = .ok (.ifCond .ne 5, 3) := by decide +kernel
theorem dX8_plan_20 : decode cX8_plan 20 = .ok (.iconst (-1), 1) := by decide +kernel
theorem dX8_plan_21 : decode cX8_plan 21 = .ok (.ireturn, 1) := by decide +kernel
theorem dX8_plan_22 : decode cX8_plan 22 = .ok (.aload_n 0, 1) := by decide +kernel
theorem dX8_plan_23 : decode cX8_plan 23 = .ok (.iload_n 1, 1) := by decide +kernel
theorem dX8_plan_24 : decode cX8_plan 24 = .ok (.invokevirtual 222, 3) := by decide +kernel
theorem dX8_plan_27 : decode cX8_plan 27 = .ok (.ifCond .eq 12, 3) := by decide +kernel
theorem dX8_plan_30 : decode cX8_plan 30 = .ok (.aload_n 0, 1) := by decide +kernel
theorem dX8_plan_31 : decode cX8_plan 31 = .ok (.getfield 52, 3) := by decide +kernel
theorem dX8_plan_34 : decode cX8_plan 34 = .ok (.iload_n 2, 1) := by decide +kernel
theorem dX8_plan_35 : decode cX8_plan 35 = .ok (.iaload, 1) := by decide +kernel
theorem dX8_plan_36 : decode cX8_plan 36 = .ok (.goto 5, 3) := by decide +kernel
theorem dX8_plan_39 : decode cX8_plan 39 = .ok (.bipush (-4), 2) := by decide +kernel
theorem dX8_plan_41 : decode cX8_plan 41 = .ok (.ireturn, 1) := by decide +kernel
theorem dX8_bitsOf_0 : decode cX8_bitsOf 0 = .ok (.iconst 0, 1) := by decide +kernel
theorem dX8_bitsOf_1 : decode cX8_bitsOf 1 = .ok (.istore_n 1, 1) := by decide +kernel
theorem dX8_bitsOf_2 : decode cX8_bitsOf 2 = .ok (.iconst 0, 1) := by decide +kernel
theorem dX8_bitsOf_3 : decode cX8_bitsOf 3 = .ok (.istore_n 2, 1) := by decide +kernel
theorem dX8_bitsOf_4 : decode cX8_bitsOf 4 = .ok (.iload_n 2, 1) := by decide +kernel
theorem dX8_bitsOf_5 : decode cX8_bitsOf 5 = .ok (.bipush 8, 2) := by decide +kernel
theorem dX8_bitsOf_7 : decode cX8_bitsOf 7 = .ok (.if_icmp .ge 17, 3) := by decide +kernel
theorem dX8_bitsOf_10 : decode cX8_bitsOf 10 = .ok (.iload_n 1, 1) := by decide +kernel
theorem dX8_bitsOf_11 : decode cX8_bitsOf 11 = .ok (.iload_n 0, 1) := by decide +kernel
theorem dX8_bitsOf_12 : decode cX8_bitsOf 12 = .ok (.iload_n 2, 1) := by decide +kernel
theorem dX8_bitsOf_13 : decode cX8_bitsOf 13 = .ok (.ishr, 1) := by decide +kernel
theorem dX8_bitsOf_14 : decode cX8_bitsOf 14 = .ok (.iconst 1, 1) := by decide +kernel
theorem dX8_bitsOf_15 : decode cX8_bitsOf 15 = .ok (.iand, 1) := by decide +kernel
theorem dX8_bitsOf_16 : decode cX8_bitsOf 16 = .ok (.iadd, 1) := by decide +kernel
theorem dX8_bitsOf_17 : decode cX8_bitsOf 17 = .ok (.istore_n 1, 1) := by decide +kernel
theorem dX8_bitsOf_18 : decode cX8_bitsOf 18 = .ok (.iinc 2 1, 3) := by decide +kernel
theorem dX8_bitsOf_21 : decode cX8_bitsOf 21 = .ok (.goto (-17), 3) := by decide +kernel
theorem dX8_bitsOf_24 : decode cX8_bitsOf 24 = .ok (.iload_n 1, 1) := by decide +kernel
theorem dX8_bitsOf_25 : decode cX8_bitsOf 25 = .ok (.ireturn, 1) := by decide +kernel
theorem dX8_without_0 : decode cX8_without 0 = .ok (.iload_n 1, 1) := by decide +kernel
theorem dX8_without_1 : decode cX8_without 1 = .ok (.i2l, 1) := by decide +kernel
theorem dX8_without_2 : decode cX8_without 2 = .ok (.lconst 0, 1) := by decide +kernel
theorem dX8_without_3 : decode cX8_without 3 = .ok (.lconst 1, 1) := by decide +kernel
theorem dX8_without_4 : decode cX8_without 4 = .ok (.invokestatic 78, 3) := by decide +kernel
theorem dX8_without_7 : decode cX8_without 7 = .ok (.ifCond .ne 5, 3) := by decide +kernel
theorem dX8_without_10 : decode cX8_without 10 = .ok (.iconst (-1), 1) := by decide +kernel
theorem dX8_without_11 : decode cX8_without 11 = .ok (.ireturn, 1) := by decide +kernel
theorem dX8_without_12 : decode cX8_without 12 = .ok (.iconst 1, 1) := by decide +kernel
theorem dX8_without_13 : decode cX8_without 13 = .ok (.aload_n 0, 1) := by decide +kernel
theorem dX8_without_14 : decode cX8_without 14 = .ok (.getfield 139, 3) := by decide +kernel
theorem dX8_without_17 : decode cX8_without 17 = .ok (.ishl, 1) := by decide +kernel
theorem dX8_without_18 : decode cX8_without 18 = .ok (.iconst 1, 1) := by decide +kernel
theorem dX8_without_19 : decode cX8_without 19 = .ok (.isub, 1) := by decide +kernel
theorem dX8_without_20 : decode cX8_without 20 = .ok (.istore_n 2, 1) := by decide +kernel
theorem dX8_without_21 : decode cX8_without 21 = .ok (.bipush (-4), 2) := by decide +kernel
theorem dX8_without_23 : decode cX8_without 23 = .ok (.istore_n 3, 1) := by decide +kernel
theorem dX8_without_24 : decode cX8_without 24 = .ok (.iconst 0, 1) := by decide +kernel
theorem dX8_without_25 : decode cX8_without 25 = .ok (.istore 4, 2) := by decide +kernel
theorem dX8_without_27 : decode cX8_without 27 = .ok (.iload 4, 2) := by decide +kernel
theorem dX8_without_29 : decode cX8_without 29 = .ok (.iload_n 2, 1) := by decide +kernel
theorem dX8_without_30 : decode cX8_without 30 = .ok (.if_icmp .ge 81, 3) := by decide +kernel
theorem dX8_without_33 : decode cX8_without 33 = .ok (.aload_n 0, 1) := by decide +kernel
theorem dX8_without_34 : decode cX8_without 34 = .ok (.bipush 16, 2) := by decide +kernel
theorem dX8_without_36 : decode cX8_without 36 = .ok (.iload_n 2, 1) := by decide +kernel
theorem dX8_without_37 : decode cX8_without 37 = .ok (.iload 4, 2) := by decide +kernel
theorem dX8_without_39 : decode cX8_without 39 = .ok (.iconst (-1), 1) := by decide +kernel
theorem dX8_without_40 : decode cX8_without 40 = .ok (.ixor, 1) := by decide +kernel
theorem dX8_without_41 : decode cX8_without 41 = .ok (.iand, 1) := by decide +kernel
theorem dX8_without_42 : decode cX8_without 42 = .ok (.iconst 0, 1) := by decide +kernel
theorem dX8_without_43 : decode cX8_without 43 = .ok (.invokevirtual 145, 3) := by decide +kernel
theorem dX8_without_46 : decode cX8_without 46 = .ok (.aload_n 0, 1) := by decide +kernel
theorem dX8_without_47 : decode cX8_without 47 = .ok (.getfield 46, 3) := by decide +kernel
theorem dX8_without_50 : decode cX8_without 50 = .ok (.bipush 18, 2) := by decide +kernel
theorem dX8_without_52 : decode cX8_without 52 = .ok (.iaload, 1) := by decide +kernel
theorem dX8_without_53 : decode cX8_without 53 = .ok (.i2l, 1) := by decide +kernel
theorem dX8_without_54 : decode cX8_without 54 = .ok (.aload_n 0, 1) := by decide +kernel
theorem dX8_without_55 : decode cX8_without 55 = .ok (.getfield 34, 3) := by decide +kernel
theorem dX8_without_58 : decode cX8_without 58 = .ok (.bipush 7, 2) := by decide +kernel
theorem dX8_without_60 : decode cX8_without 60 = .ok (.iaload, 1) := by decide +kernel
theorem dX8_without_61 : decode cX8_without 61 = .ok (.i2l, 1) := by decide +kernel
theorem dX8_without_62 : decode cX8_without 62 = .ok (.aload_n 0, 1) := by decide +kernel
theorem dX8_without_63 : decode cX8_without 63 = .ok (.getfield 34, 3) := by decide +kernel
theorem dX8_without_66 : decode cX8_without 66 = .ok (.bipush 8, 2) := by decide +kernel
theorem dX8_without_68 : decode cX8_without 68 = .ok (.iaload, 1) := by decide +kernel
theorem dX8_without_69 : decode cX8_without 69 = .ok (.i2l, 1) := by decide +kernel
theorem dX8_without_70 : decode cX8_without 70 = .ok (.invokestatic 78, 3) := by decide +kernel
theorem dX8_without_73 : decode cX8_without 73 = .ok (.istore 5, 2) := by decide +kernel
theorem dX8_without_75 : decode cX8_without 75 = .ok (.iload 5, 2) := by decide +kernel
theorem dX8_without_77 : decode cX8_without 77 = .ok (.ifCond .eq 26, 3) := by decide +kernel
theorem dX8_without_80 : decode cX8_without 80 = .ok (.iload_n 3, 1) := by decide +kernel
theorem dX8_without_81 : decode cX8_without 81 = .ok (.bipush (-4), 2) := by decide +kernel
theorem dX8_without_83 : decode cX8_without 83 = .ok (.if_icmp .eq 15, 3) := by decide +kernel
theorem dX8_without_86 : decode cX8_without 86 = .ok (.iload 4, 2) := by decide +kernel
theorem dX8_without_88 : decode cX8_without 88 = .ok (.invokestatic 225, 3) := by decide +kernel
theorem dX8_without_91 : decode cX8_without 91 = .ok (.iload_n 3, 1) := by decide +kernel
theorem dX8_without_92 : decode cX8_without 92 = .ok (.invokestatic 225, 3) := by decide +kernel
theorem dX8_without_95 : decode cX8_without 95 = .ok (.if_icmp .ge 8, 3) := by decide +kernel
theorem dX8_without_98 : decode cX8_without 98 = .ok (.iload 4, 2) := by decide +kernel
theorem dX8_without_100 : decode cX8_without 100 = .ok (.goto 4, 3) := by decide +kernel
theorem dX8_without_103 : decode cX8_without 103 = .ok (.iload_n 3, 1) := by decide +kernel
theorem dX8_without_104 : decode cX8_without 104 = .ok (.istore_n 3, 1) := by decide +kernel
theorem dX8_without_105 : decode cX8_without 105 = .ok (.iinc 4 1, 3) := by decide +kernel
theorem dX8_without_108 : decode cX8_without 108 = .ok (.goto (-81), 3) := by decide +kernel
theorem dX8_without_111 : decode cX8_without 111 = .ok (.iload_n 3, 1) := by decide +kernel
theorem dX8_without_112 : decode cX8_without 112 = .ok (.bipush (-4), 2) := by decide +kernel
theorem dX8_without_114 : decode cX8_without 114 = .ok (.if_icmp .eq 8, 3) := by decide +kernel
theorem dX8_without_117 : decode cX8_without 117 = .ok (.iload_n 1, 1) := by decide +kernel
theorem dX8_without_118 : decode cX8_without 118 = .ok (.iconst 1, 1) := by decide +kernel
theorem dX8_without_119 : decode cX8_without 119 = .ok (.if_icmp .ne 7, 3) := by decide +kernel
theorem dX8_without_122 : decode cX8_without 122 = .ok (.iload_n 3, 1) := by decide +kernel
theorem dX8_without_123 : decode cX8_without 123 = .ok (.goto 7, 3) := by decide +kernel
theorem dX8_without_126 : decode cX8_without 126 = .ok (.iload_n 3, 1) := by decide +kernel
theorem dX8_without_127 : decode cX8_without 127 = .ok (.invokestatic 225, 3) := by decide +kernel
theorem dX8_without_130 : decode cX8_without 130 = .ok (.ireturn, 1) := by decide +kernel
theorem dX8_saw_0 : decode cX8_saw 0 = .ok (.aload_n 0, 1) := by decide +kernel
theorem dX8_saw_1 : decode cX8_saw 1 = .ok (.iload_n 1, 1) := by decide +kernel
theorem dX8_saw_2 : decode cX8_saw 2 = .ok (.invokevirtual 184, 3) := by decide +kernel
theorem dX8_saw_5 : decode cX8_saw 5 = .ok (.ifCond .eq 15, 3) := by decide +kernel
theorem dX8_saw_8 : decode cX8_saw 8 = .ok (.iload_n 2, 1) := by decide +kernel
theorem dX8_saw_9 : decode cX8_saw 9 = .ok (.i2l, 1) := by decide +kernel
theorem dX8_saw_10 : decode cX8_saw 10 = .ok (.lconst 0, 1) := by decide +kernel
theorem dX8_saw_11 : decode cX8_saw 11 = .ok (.ldc2_w 182, 3) := by decide +kernel
theorem dX8_saw_14 : decode cX8_saw 14 = .ok (.invokestatic 78, 3) := by decide +kernel
theorem dX8_saw_17 : decode cX8_saw 17 = .ok (.ifCond .ne 5, 3) := by decide +kernel
theorem dX8_saw_20 : decode cX8_saw 20 = .ok (.iconst (-1), 1) := by decide +kernel
theorem dX8_saw_21 : decode cX8_saw 21 = .ok (.ireturn, 1) := by decide +kernel
theorem dX8_saw_22 : decode cX8_saw 22 = .ok (.aload_n 0, 1) := by decide +kernel
theorem dX8_saw_23 : decode cX8_saw 23 = .ok (.getfield 142, 3) := by decide +kernel
theorem dX8_saw_26 : decode cX8_saw 26 = .ok (.bipush 8, 2) := by decide +kernel
theorem dX8_saw_28 : decode cX8_saw 28 = .ok (.if_icmp .ne 6, 3) := by decide +kernel
theorem dX8_saw_31 : decode cX8_saw 31 = .ok (.bipush (-3), 2) := by decide +kernel
theorem dX8_saw_33 : decode cX8_saw 33 = .ok (.ireturn, 1) := by decide +kernel
theorem dX8_saw_34 : decode cX8_saw 34 = .ok (.aload_n 0, 1) := by decide +kernel
theorem dX8_saw_35 : decode cX8_saw 35 = .ok (.getfield 55, 3) := by decide +kernel
theorem dX8_saw_38 : decode cX8_saw 38 = .ok (.iconst 2, 1) := by decide +kernel
theorem dX8_saw_39 : decode cX8_saw 39 = .ok (.aload_n 0, 1) := by decide +kernel
theorem dX8_saw_40 : decode cX8_saw 40 = .ok (.getfield 142, 3) := by decide +kernel
theorem dX8_saw_43 : decode cX8_saw 43 = .ok (.imul, 1) := by decide +kernel
theorem dX8_saw_44 : decode cX8_saw 44 = .ok (.iload_n 1, 1) := by decide +kernel
theorem dX8_saw_45 : decode cX8_saw 45 = .ok (.iastore, 1) := by decide +kernel
theorem dX8_saw_46 : decode cX8_saw 46 = .ok (.aload_n 0, 1) := by decide +kernel
theorem dX8_saw_47 : decode cX8_saw 47 = .ok (.getfield 55, 3) := by decide +kernel
theorem dX8_saw_50 : decode cX8_saw 50 = .ok (.iconst 2, 1) := by decide +kernel
theorem dX8_saw_51 : decode cX8_saw 51 = .ok (.aload_n 0, 1) := by decide +kernel
theorem dX8_saw_52 : decode cX8_saw 52 = .ok (.getfield 142, 3) := by decide +kernel
theorem dX8_saw_55 : decode cX8_saw 55 = .ok (.imul, 1) := by decide +kernel
theorem dX8_saw_56 : decode cX8_saw 56 = .ok (.iconst 1, 1) := by decide +kernel
theorem dX8_saw_57 : decode cX8_saw 57 = .ok (.iadd, 1) := by decide +kernel
theorem dX8_saw_58 : decode cX8_saw 58 = .ok (.iload_n 2, 1) := by decide +kernel
theorem dX8_saw_59 : decode cX8_saw 59 = .ok (.iastore, 1) := by decide +kernel
theorem dX8_saw_60 : decode cX8_saw 60 = .ok (.aload_n 0, 1) := by decide +kernel
theorem dX8_saw_61 : decode cX8_saw 61 = .ok (.dup, 1) := by decide +kernel
theorem dX8_saw_62 : decode cX8_saw 62 = .ok (.getfield 142, 3) := by decide +kernel
theorem dX8_saw_65 : decode cX8_saw 65 = .ok (.iconst 1, 1) := by decide +kernel
theorem dX8_saw_66 : decode cX8_saw 66 = .ok (.iadd, 1) := by decide +kernel
theorem dX8_saw_67 : decode cX8_saw 67 = .ok (.putfield 142, 3) := by decide +kernel
theorem dX8_saw_70 : decode cX8_saw 70 = .ok (.aload_n 0, 1) := by decide +kernel
theorem dX8_saw_71 : decode cX8_saw 71 = .ok (.getfield 142, 3) := by decide +kernel
theorem dX8_saw_74 : decode cX8_saw 74 = .ok (.ireturn, 1) := by decide +kernel
theorem dX8_forget_0 : decode cX8_forget 0 = .ok (.aload_n 0, 1) := by decide +kernel
theorem dX8_forget_1 : decode cX8_forget 1 = .ok (.getfield 142, 3) := by decide +kernel
theorem dX8_forget_4 : decode cX8_forget 4 = .ok (.istore_n 1, 1) := by decide +kernel
theorem dX8_forget_5 : decode cX8_forget 5 = .ok (.aload_n 0, 1) := by decide +kernel
theorem dX8_forget_6 : decode cX8_forget 6 = .ok (.iconst 0, 1) := by decide +kernel
theorem dX8_forget_7 : decode cX8_forget 7 = .ok (.putfield 142, 3) := by decide +kernel
theorem dX8_forget_10 : decode cX8_forget 10 = .ok (.iload_n 1, 1) := by decide +kernel
theorem dX8_forget_11 : decode cX8_forget 11 = .ok (.ireturn, 1) := by decide +kernel
theorem dX8_isSo_0 : decode cX8_isSo 0 = .ok (.iconst 1, 1) := by decide +kernel
theorem dX8_isSo_1 : decode cX8_isSo 1 = .ok (.istore_n 3, 1) := by decide +kernel
theorem dX8_isSo_2 : decode cX8_isSo 2 = .ok (.iconst 0, 1) := by decide +kernel
theorem dX8_isSo_3 : decode cX8_isSo 3 = .ok (.istore 4, 2) := by decide +kernel
theorem dX8_isSo_5 : decode cX8_isSo 5 = .ok (.iload 4, 2) := by decide +kernel
theorem dX8_isSo_7 : decode cX8_isSo 7 = .ok (.aload_n 0, 1) := by decide +kernel
theorem dX8_isSo_8 : decode cX8_isSo 8 = .ok (.getfield 142, 3) := by decide +kernel
theorem dX8_isSo_11 : decode cX8_isSo 11 = .ok (.if_icmp .ge 71, 3) := by decide +kernel
theorem dX8_isSo_14 : decode cX8_isSo 14 = .ok (.iload_n 3, 1) := by decide +kernel
theorem dX8_isSo_15 : decode cX8_isSo 15 = .ok (.ifCond .eq 67, 3) := by decide +kernel
theorem dX8_isSo_18 : decode cX8_isSo 18 = .ok (.aload_n 0, 1) := by decide +kernel
theorem dX8_isSo_19 : decode cX8_isSo 19 = .ok (.bipush 16, 2) := by decide +kernel
theorem dX8_isSo_21 : decode cX8_isSo 21 = .ok (.aload_n 0, 1) := by decide +kernel
theorem dX8_isSo_22 : decode cX8_isSo 22 = .ok (.getfield 55, 3) := by decide +kernel
theorem dX8_isSo_25 : decode cX8_isSo 25 = .ok (.iconst 2, 1) := by decide +kernel
theorem dX8_isSo_26 : decode cX8_isSo 26 = .ok (.iload 4, 2) := by decide +kernel
theorem dX8_isSo_28 : decode cX8_isSo 28 = .ok (.imul, 1) := by decide +kernel
theorem dX8_isSo_29 : decode cX8_isSo 29 = .ok (.iaload, 1) := by decide +kernel
theorem dX8_isSo_30 : decode cX8_isSo 30 = .ok (.iload_n 1, 1) := by decide +kernel
theorem dX8_isSo_31 : decode cX8_isSo 31 = .ok (.invokevirtual 145, 3) := by decide +kernel
theorem dX8_isSo_34 : decode cX8_isSo 34 = .ok (.aload_n 0, 1) := by decide +kernel
theorem dX8_isSo_35 : decode cX8_isSo 35 = .ok (.bipush 16, 2) := by decide +kernel
theorem dX8_isSo_37 : decode cX8_isSo 37 = .ok (.iload_n 2, 1) := by decide +kernel
theorem dX8_isSo_38 : decode cX8_isSo 38 = .ok (.invokevirtual 217, 3) := by decide +kernel
theorem dX8_isSo_41 : decode cX8_isSo 41 = .ok (.istore 5, 2) := by decide +kernel
theorem dX8_isSo_43 : decode cX8_isSo 43 = .ok (.iload 5, 2) := by decide +kernel
theorem dX8_isSo_45 : decode cX8_isSo 45 = .ok (.bipush (-4), 2) := by decide +kernel
theorem dX8_isSo_47 : decode cX8_isSo 47 = .ok (.if_icmp .ne 7, 3) := by decide +kernel
theorem dX8_isSo_50 : decode cX8_isSo 50 = .ok (.iconst 0, 1) := by decide +kernel
theorem dX8_isSo_51 : decode cX8_isSo 51 = .ok (.goto 5, 3) := by decide +kernel
theorem dX8_isSo_54 : decode cX8_isSo 54 = .ok (.iload 5, 2) := by decide +kernel
theorem dX8_isSo_56 : decode cX8_isSo 56 = .ok (.aload_n 0, 1) := by decide +kernel
theorem dX8_isSo_57 : decode cX8_isSo 57 = .ok (.getfield 55, 3) := by decide +kernel
theorem dX8_isSo_60 : decode cX8_isSo 60 = .ok (.iconst 2, 1) := by decide +kernel
theorem dX8_isSo_61 : decode cX8_isSo 61 = .ok (.iload 4, 2) := by decide +kernel
theorem dX8_isSo_63 : decode cX8_isSo 63 = .ok (.imul, 1) := by decide +kernel
theorem dX8_isSo_64 : decode cX8_isSo 64 = .ok (.iconst 1, 1) := by decide +kernel
theorem dX8_isSo_65 : decode cX8_isSo 65 = .ok (.iadd, 1) := by decide +kernel
theorem dX8_isSo_66 : decode cX8_isSo 66 = .ok (.iaload, 1) := by decide +kernel
theorem dX8_isSo_67 : decode cX8_isSo 67 = .ok (.if_icmp .ne 7, 3) := by decide +kernel
theorem dX8_isSo_70 : decode cX8_isSo 70 = .ok (.iconst 1, 1) := by decide +kernel
theorem dX8_isSo_71 : decode cX8_isSo 71 = .ok (.goto 4, 3) := by decide +kernel
theorem dX8_isSo_74 : decode cX8_isSo 74 = .ok (.iconst 0, 1) := by decide +kernel
theorem dX8_isSo_75 : decode cX8_isSo 75 = .ok (.istore_n 3, 1) := by decide +kernel
theorem dX8_isSo_76 : decode cX8_isSo 76 = .ok (.iinc 4 1, 3) := by decide +kernel
theorem dX8_isSo_79 : decode cX8_isSo 79 = .ok (.goto (-74), 3) := by decide +kernel
theorem dX8_isSo_82 : decode cX8_isSo 82 = .ok (.iload_n 3, 1) := by decide +kernel
theorem dX8_isSo_83 : decode cX8_isSo 83 = .ok (.ireturn, 1) := by decide +kernel
theorem dX8_why_0 : decode cX8_why 0 = .ok (.iload_n 1, 1) := by decide +kernel
theorem dX8_why_1 : decode cX8_why 1 = .ok (.i2l, 1) := by decide +kernel
theorem dX8_why_2 : decode cX8_why 2 = .ok (.lconst 0, 1) := by decide +kernel
theorem dX8_why_3 : decode cX8_why 3 = .ok (.ldc2_w 228, 3) := by decide +kernel
theorem dX8_why_6 : decode cX8_why 6 = .ok (.invokestatic 78, 3) := by decide +kernel
theorem dX8_why_9 : decode cX8_why 9 = .ok (.ifCond .ne 5, 3) := by decide +kernel
theorem dX8_why_12 : decode cX8_why 12 = .ok (.iconst (-1), 1) := by decide +kernel
theorem dX8_why_13 : decode cX8_why 13 = .ok (.ireturn, 1) := by decide +kernel
theorem dX8_why_14 : decode cX8_why 14 = .ok (.iconst 0, 1) := by decide +kernel
theorem dX8_why_15 : decode cX8_why 15 = .ok (.istore_n 2, 1) := by decide +kernel
theorem dX8_why_16 : decode cX8_why 16 = .ok (.bipush (-4), 2) := by decide +kernel
theorem dX8_why_18 : decode cX8_why 18 = .ok (.istore_n 3, 1) := by decide +kernel
theorem dX8_why_19 : decode cX8_why 19 = .ok (.bipush (-4), 2) := by decide +kernel
theorem dX8_why_21 : decode cX8_why 21 = .ok (.istore 4, 2) := by decide +kernel
theorem dX8_why_23 : decode cX8_why 23 = .ok (.iconst 0, 1) := by decide +kernel
theorem dX8_why_24 : decode cX8_why 24 = .ok (.istore 5, 2) := by decide +kernel
theorem dX8_why_26 : decode cX8_why 26 = .ok (.iload 5, 2) := by decide +kernel
theorem dX8_why_28 : decode cX8_why 28 = .ok (.sipush 400, 3) := by decide +kernel
theorem dX8_why_31 : decode cX8_why 31 = .ok (.if_icmp .gt 63, 3) := by decide +kernel
theorem dX8_why_34 : decode cX8_why 34 = .ok (.iconst 1, 1) := by decide +kernel
theorem dX8_why_35 : decode cX8_why 35 = .ok (.istore 6, 2) := by decide +kernel
theorem dX8_why_37 : decode cX8_why 37 = .ok (.iload 6, 2) := by decide +kernel
theorem dX8_why_39 : decode cX8_why 39 = .ok (.bipush 10, 2) := by decide +kernel
theorem dX8_why_41 : decode cX8_why 41 = .ok (.if_icmp .ge 47, 3) := by decide +kernel
theorem dX8_why_44 : decode cX8_why 44 = .ok (.aload_n 0, 1) := by decide +kernel
theorem dX8_why_45 : decode cX8_why 45 = .ok (.iload 5, 2) := by decide +kernel
theorem dX8_why_47 : decode cX8_why 47 = .ok (.iload 6, 2) := by decide +kernel
theorem dX8_why_49 : decode cX8_why 49 = .ok (.invokevirtual 230, 3) := by decide +kernel
theorem dX8_why_52 : decode cX8_why 52 = .ok (.ifCond .eq 30, 3) := by decide +kernel
theorem dX8_why_55 : decode cX8_why 55 = .ok (.iload_n 2, 1) := by decide +kernel
theorem dX8_why_56 : decode cX8_why 56 = .ok (.ifCond .ne 8, 3) := by decide +kernel
theorem dX8_why_59 : decode cX8_why 59 = .ok (.iload 6, 2) := by decide +kernel
theorem dX8_why_61 : decode cX8_why 61 = .ok (.goto 5, 3) := by decide +kernel
theorem dX8_why_64 : decode cX8_why 64 = .ok (.iload 4, 2) := by decide +kernel
theorem dX8_why_66 : decode cX8_why 66 = .ok (.istore 4, 2) := by decide +kernel
theorem dX8_why_68 : decode cX8_why 68 = .ok (.iload_n 2, 1) := by decide +kernel
theorem dX8_why_69 : decode cX8_why 69 = .ok (.ifCond .ne 8, 3) := by decide +kernel
theorem dX8_why_72 : decode cX8_why 72 = .ok (.iload 5, 2) := by decide +kernel
theorem dX8_why_74 : decode cX8_why 74 = .ok (.goto 4, 3) := by decide +kernel
theorem dX8_why_77 : decode cX8_why 77 = .ok (.iload_n 3, 1) := by decide +kernel
theorem dX8_why_78 : decode cX8_why 78 = .ok (.istore_n 3, 1) := by decide +kernel
theorem dX8_why_79 : decode cX8_why 79 = .ok (.iinc 2 1, 3) := by decide +kernel
theorem dX8_why_82 : decode cX8_why 82 = .ok (.iinc 6 1, 3) := by decide +kernel
theorem dX8_why_85 : decode cX8_why 85 = .ok (.goto (-48), 3) := by decide +kernel
theorem dX8_why_88 : decode cX8_why 88 = .ok (.iinc 5 20, 3) := by decide +kernel
theorem dX8_why_91 : decode cX8_why 91 = .ok (.goto (-65), 3) := by decide +kernel
theorem dX8_why_94 : decode cX8_why 94 = .ok (.iload_n 1, 1) := by decide +kernel
theorem dX8_why_95 : decode cX8_why 95 = .ok (.ifCond .ne 7, 3) := by decide +kernel
theorem dX8_why_98 : decode cX8_why 98 = .ok (.iload_n 2, 1) := by decide +kernel
theorem dX8_why_99 : decode cX8_why 99 = .ok (.goto 14, 3) := by decide +kernel
theorem dX8_why_102 : decode cX8_why 102 = .ok (.iload_n 1, 1) := by decide +kernel
theorem dX8_why_103 : decode cX8_why 103 = .ok (.iconst 1, 1) := by decide +kernel
theorem dX8_why_104 : decode cX8_why 104 = .ok (.if_icmp .ne 7, 3) := by decide +kernel
theorem dX8_why_107 : decode cX8_why 107 = .ok (.iload_n 3, 1) := by decide +kernel
theorem dX8_why_108 : decode cX8_why 108 = .ok (.goto 5, 3) := by decide +kernel
theorem dX8_why_111 : decode cX8_why 111 = .ok (.iload 4, 2) := by decide +kernel
theorem dX8_why_113 : decode cX8_why 113 = .ok (.ireturn, 1) := by decide +kernel
theorem dX8_next_0 : decode cX8_next 0 = .ok (.aload_n 0, 1) := by decide +kernel
theorem dX8_next_1 : decode cX8_next 1 = .ok (.invokevirtual 190, 3) := by decide +kernel
theorem dX8_next_4 : decode cX8_next 4 = .ok (.iload_n 1, 1) := by decide +kernel
theorem dX8_next_5 : decode cX8_next 5 = .ok (.invokestatic 193, 3) := by decide +kernel
theorem dX8_next_8 : decode cX8_next 8 = .ok (.ifCond .eq 13, 3) := by decide +kernel
theorem dX8_next_11 : decode cX8_next 11 = .ok (.iload_n 2, 1) := by decide +kernel
theorem dX8_next_12 : decode cX8_next 12 = .ok (.i2l, 1) := by decide +kernel
theorem dX8_next_13 : decode cX8_next 13 = .ok (.lconst 0, 1) := by decide +kernel
theorem dX8_next_14 : decode cX8_next 14 = .ok (.lconst 1, 1) := by decide +kernel
theorem dX8_next_15 : decode cX8_next 15 = .ok (.invokestatic 78, 3) := by decide +kernel
theorem dX8_next_18 : decode cX8_next 18 = .ok (.ifCond .ne 5, 3) := by decide +kernel
theorem dX8_next_21 : decode cX8_next 21 = .ok (.iconst (-1), 1) := by decide +kernel
theorem dX8_next_22 : decode cX8_next 22 = .ok (.ireturn, 1) := by decide +kernel
theorem dX8_next_23 : decode cX8_next 23 = .ok (.aload_n 0, 1) := by decide +kernel
theorem dX8_next_24 : decode cX8_next 24 = .ok (.getfield 46, 3) := by decide +kernel
theorem dX8_next_27 : decode cX8_next 27 = .ok (.iconst 5, 1) := by decide +kernel
theorem dX8_next_28 : decode cX8_next 28 = .ok (.iaload, 1) := by decide +kernel
theorem dX8_next_29 : decode cX8_next 29 = .ok (.ifCond .le 6, 3) := by decide +kernel
theorem dX8_next_32 : decode cX8_next 32 = .ok (.bipush (-2), 2) := by decide +kernel
theorem dX8_next_34 : decode cX8_next 34 = .ok (.ireturn, 1) := by decide +kernel
theorem dX8_next_35 : decode cX8_next 35 = .ok (.bipush (-4), 2) := by decide +kernel
theorem dX8_next_37 : decode cX8_next 37 = .ok (.istore_n 3, 1) := by decide +kernel
theorem dX8_next_38 : decode cX8_next 38 = .ok (.sipush 401, 3) := by decide +kernel
theorem dX8_next_41 : decode cX8_next 41 = .ok (.istore 4, 2) := by decide +kernel
theorem dX8_next_43 : decode cX8_next 43 = .ok (.iconst 0, 1) := by decide +kernel
theorem dX8_next_44 : decode cX8_next 44 = .ok (.istore 5, 2) := by decide +kernel
theorem dX8_next_46 : decode cX8_next 46 = .ok (.iload 5, 2) := by decide +kernel
theorem dX8_next_48 : decode cX8_next 48 = .ok (.iconst 4, 1) := by decide +kernel
theorem dX8_next_49 : decode cX8_next 49 = .ok (.if_icmp .ge 146, 3) := by decide +kernel
theorem dX8_next_52 : decode cX8_next 52 = .ok (.aload_n 0, 1) := by decide +kernel
theorem dX8_next_53 : decode cX8_next 53 = .ok (.iconst 0, 1) := by decide +kernel
theorem dX8_next_54 : decode cX8_next 54 = .ok (.bipush 16, 2) := by decide +kernel
theorem dX8_next_56 : decode cX8_next 56 = .ok (.invokevirtual 233, 3) := by decide +kernel
theorem dX8_next_59 : decode cX8_next 59 = .ok (.iload 5, 2) := by decide +kernel
theorem dX8_next_61 : decode cX8_next 61 = .ok (.iconst 1, 1) := by decide +kernel
theorem dX8_next_62 : decode cX8_next 62 = .ok (.if_icmp .ne 9, 3) := by decide +kernel
theorem dX8_next_65 : decode cX8_next 65 = .ok (.aload_n 0, 1) := by decide +kernel
theorem dX8_next_66 : decode cX8_next 66 = .ok (.bipush 16, 2) := by decide +kernel
theorem dX8_next_68 : decode cX8_next 68 = .ok (.invokevirtual 200, 3) := by decide +kernel
theorem dX8_next_71 : decode cX8_next 71 = .ok (.aload_n 0, 1) := by decide +kernel
theorem dX8_next_72 : decode cX8_next 72 = .ok (.getfield 46, 3) := by decide +kernel
theorem dX8_next_75 : decode cX8_next 75 = .ok (.bipush 17, 2) := by decide +kernel
theorem dX8_next_77 : decode cX8_next 77 = .ok (.iaload, 1) := by decide +kernel
theorem dX8_next_78 : decode cX8_next 78 = .ok (.iload 5, 2) := by decide +kernel
theorem dX8_next_80 : decode cX8_next 80 = .ok (.iconst 2, 1) := by decide +kernel
theorem dX8_next_81 : decode cX8_next 81 = .ok (.if_icmp .ne 8, 3) := by decide +kernel
theorem dX8_next_84 : decode cX8_next 84 = .ok (.bipush 20, 2) := by decide +kernel
theorem dX8_next_86 : decode cX8_next 86 = .ok (.goto 15, 3) := by decide +kernel
theorem dX8_next_89 : decode cX8_next 89 = .ok (.iload 5, 2) := by decide +kernel
theorem dX8_next_91 : decode cX8_next 91 = .ok (.iconst 3, 1) := by decide +kernel
theorem dX8_next_92 : decode cX8_next 92 = .ok (.if_icmp .ne 8, 3) := by decide +kernel
theorem dX8_next_95 : decode cX8_next 95 = .ok (.bipush (-20), 2) := by decide +kernel
theorem dX8_next_97 : decode cX8_next 97 = .ok (.goto 4, 3) := by decide +kernel
theorem dX8_next_100 : decode cX8_next 100 = .ok (.iconst 0, 1) := by decide +kernel
theorem dX8_next_101 : decode cX8_next 101 = .ok (.iadd, 1) := by decide +kernel
theorem dX8_next_102 : decode cX8_next 102 = .ok (.istore 6, 2) := by decide +kernel
theorem dX8_next_104 : decode cX8_next 104 = .ok (.aload_n 0, 1) := by decide +kernel
theorem dX8_next_105 : decode cX8_next 105 = .ok (.getfield 46, 3) := by decide +kernel
theorem dX8_next_108 : decode cX8_next 108 = .ok (.bipush 17, 2) := by decide +kernel
theorem dX8_next_110 : decode cX8_next 110 = .ok (.iload 6, 2) := by decide +kernel
theorem dX8_next_112 : decode cX8_next 112 = .ok (.ifCond .ge 7, 3) := by decide +kernel
theorem dX8_next_115 : decode cX8_next 115 = .ok (.iconst 0, 1) := by decide +kernel
theorem dX8_next_116 : decode cX8_next 116 = .ok (.goto 19, 3) := by decide +kernel
theorem dX8_next_119 : decode cX8_next 119 = .ok (.iload 6, 2) := by decide +kernel
theorem dX8_next_121 : decode cX8_next 121 = .ok (.sipush 400, 3) := by decide +kernel
theorem dX8_next_124 : decode cX8_next 124 = .ok (.if_icmp .le 9, 3) := by decide +kernel
theorem dX8_next_127 : decode cX8_next 127 = .ok (.sipush 400, 3) := by decide +kernel
theorem dX8_next_130 : decode cX8_next 130 = .ok (.goto 5, 3) := by decide +kernel
theorem dX8_next_133 : decode cX8_next 133 = .ok (.iload 6, 2) := by decide +kernel
theorem dX8_next_135 : decode cX8_next 135 = .ok (.iastore, 1) := by decide +kernel
theorem dX8_next_136 : decode cX8_next 136 = .ok (.aload_n 0, 1) := by decide +kernel
theorem dX8_next_137 : decode cX8_next 137 = .ok (.bipush 16, 2) := by decide +kernel
theorem dX8_next_139 : decode cX8_next 139 = .ok (.iload_n 1, 1) := by decide +kernel
theorem dX8_next_140 : decode cX8_next 140 = .ok (.invokevirtual 217, 3) := by decide +kernel
theorem dX8_next_143 : decode cX8_next 143 = .ok (.istore 7, 2) := by decide +kernel
theorem dX8_next_145 : decode cX8_next 145 = .ok (.iload 7, 2) := by decide +kernel
theorem dX8_next_147 : decode cX8_next 147 = .ok (.bipush (-4), 2) := by decide +kernel
theorem dX8_next_149 : decode cX8_next 149 = .ok (.if_icmp .eq 15, 3) := by decide +kernel
theorem dX8_next_152 : decode cX8_next 152 = .ok (.iload 7, 2) := by decide +kernel
theorem dX8_next_154 : decode cX8_next 154 = .ok (.iload 4, 2) := by decide +kernel
theorem dX8_next_156 : decode cX8_next 156 = .ok (.if_icmp .ge 8, 3) := by decide +kernel
theorem dX8_next_159 : decode cX8_next 159 = .ok (.iload 5, 2) := by decide +kernel
theorem dX8_next_161 : decode cX8_next 161 = .ok (.goto 4, 3) := by decide +kernel
theorem dX8_next_164 : decode cX8_next 164 = .ok (.iload_n 3, 1) := by decide +kernel
theorem dX8_next_165 : decode cX8_next 165 = .ok (.istore_n 3, 1) := by decide +kernel
theorem dX8_next_166 : decode cX8_next 166 = .ok (.iload 7, 2) := by decide +kernel
theorem dX8_next_168 : decode cX8_next 168 = .ok (.bipush (-4), 2) := by decide +kernel
theorem dX8_next_170 : decode cX8_next 170 = .ok (.if_icmp .eq 15, 3) := by decide +kernel
theorem dX8_next_173 : decode cX8_next 173 = .ok (.iload 7, 2) := by decide +kernel
theorem dX8_next_175 : decode cX8_next 175 = .ok (.iload 4, 2) := by decide +kernel
theorem dX8_next_177 : decode cX8_next 177 = .ok (.if_icmp .ge 8, 3) := by decide +kernel
theorem dX8_next_180 : decode cX8_next 180 = .ok (.iload 7, 2) := by decide +kernel
theorem dX8_next_182 : decode cX8_next 182 = .ok (.goto 5, 3) := by decide +kernel
theorem dX8_next_185 : decode cX8_next 185 = .ok (.iload 4, 2) := by decide +kernel
theorem dX8_next_187 : decode cX8_next 187 = .ok (.istore 4, 2) := by decide +kernel
theorem dX8_next_189 : decode cX8_next 189 = .ok (.iinc 5 1, 3) := by decide +kernel
theorem dX8_next_192 : decode cX8_next 192 = .ok (.goto (-146), 3) := by decide +kernel
theorem dX8_next_195 : decode cX8_next 195 = .ok (.iload_n 3, 1) := by decide +kernel
theorem dX8_next_196 : decode cX8_next 196 = .ok (.bipush (-4), 2) := by decide +kernel
theorem dX8_next_198 : decode cX8_next 198 = .ok (.if_icmp .eq 7, 3) := by decide +kernel
theorem dX8_next_201 : decode cX8_next 201 = .ok (.iload_n 2, 1) := by decide +kernel
theorem dX8_next_202 : decode cX8_next 202 = .ok (.ifCond .ne 7, 3) := by decide +kernel
theorem dX8_next_205 : decode cX8_next 205 = .ok (.iload_n 3, 1) := by decide +kernel
theorem dX8_next_206 : decode cX8_next 206 = .ok (.goto 5, 3) := by decide +kernel
theorem dX8_next_209 : decode cX8_next 209 = .ok (.iload 4, 2) := by decide +kernel
theorem dX8_next_211 : decode cX8_next 211 = .ok (.ireturn, 1) := by decide +kernel
theorem dX8_over_0 : decode cX8_over 0 = .ok (.aload_n 0, 1) := by decide +kernel
theorem dX8_over_1 : decode cX8_over 1 = .ok (.invokevirtual 190, 3) := by decide +kernel
theorem dX8_over_4 : decode cX8_over 4 = .ok (.iload_n 1, 1) := by decide +kernel
theorem dX8_over_5 : decode cX8_over 5 = .ok (.invokestatic 193, 3) := by decide +kernel
theorem dX8_over_8 : decode cX8_over 8 = .ok (.ifCond .ne 5, 3) := by decide +kernel
theorem dX8_over_11 : decode cX8_over 11 = .ok (.iconst (-1), 1) := by decide +kernel
theorem dX8_over_12 : decode cX8_over 12 = .ok (.ireturn, 1) := by decide +kernel
theorem dX8_over_13 : decode cX8_over 13 = .ok (.aload_n 0, 1) := by decide +kernel
theorem dX8_over_14 : decode cX8_over 14 = .ok (.getfield 46, 3) := by decide +kernel
theorem dX8_over_17 : decode cX8_over 17 = .ok (.iconst 5, 1) := by decide +kernel
theorem dX8_over_18 : decode cX8_over 18 = .ok (.iaload, 1) := by decide +kernel
theorem dX8_over_19 : decode cX8_over 19 = .ok (.ifCond .ne 6, 3) := by decide +kernel
theorem dX8_over_22 : decode cX8_over 22 = .ok (.bipush (-2), 2) := by decide +kernel
theorem dX8_over_24 : decode cX8_over 24 = .ok (.ireturn, 1) := by decide +kernel
theorem dX8_over_25 : decode cX8_over 25 = .ok (.aload_n 0, 1) := by decide +kernel
theorem dX8_over_26 : decode cX8_over 26 = .ok (.iconst 0, 1) := by decide +kernel
theorem dX8_over_27 : decode cX8_over 27 = .ok (.bipush 64, 2) := by decide +kernel
theorem dX8_over_29 : decode cX8_over 29 = .ok (.invokevirtual 233, 3) := by decide +kernel
theorem dX8_over_32 : decode cX8_over 32 = .ok (.iconst 0, 1) := by decide +kernel
theorem dX8_over_33 : decode cX8_over 33 = .ok (.istore_n 2, 1) := by decide +kernel
theorem dX8_over_34 : decode cX8_over 34 = .ok (.iload_n 2, 1) := by decide +kernel
theorem dX8_over_35 : decode cX8_over 35 = .ok (.sipush 400, 3) := by decide +kernel
theorem dX8_over_38 : decode cX8_over 38 = .ok (.if_icmp .gt 28, 3) := by decide +kernel
theorem dX8_over_41 : decode cX8_over 41 = .ok (.aload_n 0, 1) := by decide +kernel
theorem dX8_over_42 : decode cX8_over 42 = .ok (.bipush 64, 2) := by decide +kernel
theorem dX8_over_44 : decode cX8_over 44 = .ok (.invokevirtual 203, 3) := by decide +kernel
theorem dX8_over_47 : decode cX8_over 47 = .ok (.ifCond .eq 5, 3) := by decide +kernel
theorem dX8_over_50 : decode cX8_over 50 = .ok (.iload_n 2, 1) := by decide +kernel
theorem dX8_over_51 : decode cX8_over 51 = .ok (.ireturn, 1) := by decide +kernel
theorem dX8_over_52 : decode cX8_over 52 = .ok (.aload_n 0, 1) := by decide +kernel
theorem dX8_over_53 : decode cX8_over 53 = .ok (.bipush 64, 2) := by decide +kernel
theorem dX8_over_55 : decode cX8_over 55 = .ok (.iload_n 1, 1) := by decide +kernel
theorem dX8_over_56 : decode cX8_over 56 = .ok (.invokevirtual 196, 3) := by decide +kernel
theorem dX8_over_59 : decode cX8_over 59 = .ok (.pop, 1) := by decide +kernel
theorem dX8_over_60 : decode cX8_over 60 = .ok (.iinc 2 1, 3) := by decide +kernel
theorem dX8_over_63 : decode cX8_over 63 = .ok (.goto (-29), 3) := by decide +kernel
theorem dX8_over_66 : decode cX8_over 66 = .ok (.bipush (-4), 2) := by decide +kernel
theorem dX8_over_68 : decode cX8_over 68 = .ok (.ireturn, 1) := by decide +kernel
theorem dX8_lowest_0 : decode cX8_lowest 0 = .ok (.lload_n 0, 1) := by decide +kernel
theorem dX8_lowest_1 : decode cX8_lowest 1 = .ok (.lstore 5, 2) := by decide +kernel
theorem dX8_lowest_3 : decode cX8_lowest 3 = .ok (.lload_n 2, 1) := by decide +kernel
theorem dX8_lowest_4 : decode cX8_lowest 4 = .ok (.lstore 7, 2) := by decide +kernel
theorem dX8_lowest_6 : decode cX8_lowest 6 = .ok (.lload 7, 2) := by decide +kernel
theorem dX8_lowest_8 : decode cX8_lowest 8 = .ok (.lconst 0, 1) := by decide +kernel
theorem dX8_lowest_9 : decode cX8_lowest 9 = .ok (.lcmp, 1) := by decide +kernel
theorem dX8_lowest_10 : decode cX8_lowest 10 = .ok (.ifCond .eq 21, 3) := by decide +kernel
theorem dX8_lowest_13 : decode cX8_lowest 13 = .ok (.lload 5, 2) := by decide +kernel
theorem dX8_lowest_15 : decode cX8_lowest 15 = .ok (.lload 7, 2) := by decide +kernel
theorem dX8_lowest_17 : decode cX8_lowest 17 = .ok (.lrem, 1) := by decide +kernel
theorem dX8_lowest_18 : decode cX8_lowest 18 = .ok (.lstore 9, 2) := by decide +kernel
theorem dX8_lowest_20 : decode cX8_lowest 20 = .ok (.lload 7, 2) := by decide +kernel
theorem dX8_lowest_22 : decode cX8_lowest 22 = .ok (.lstore 5, 2) := by decide +kernel
theorem dX8_lowest_24 : decode cX8_lowest 24 = .ok (.lload 9, 2) := by decide +kernel
theorem dX8_lowest_26 : decode cX8_lowest 26 = .ok (.lstore 7, 2) := by decide +kernel
theorem dX8_lowest_28 : decode cX8_lowest 28 = .ok (.goto (-22), 3) := by decide +kernel
theorem dX8_lowest_31 : decode cX8_lowest 31 = .ok (.iload 4, 2) := by decide +kernel
theorem dX8_lowest_33 : decode cX8_lowest 33 = .ok (.ifCond .ne 7, 3) := by decide +kernel
theorem dX8_lowest_36 : decode cX8_lowest 36 = .ok (.lload_n 0, 1) := by decide +kernel
theorem dX8_lowest_37 : decode cX8_lowest 37 = .ok (.goto 4, 3) := by decide +kernel
theorem dX8_lowest_40 : decode cX8_lowest 40 = .ok (.lload_n 2, 1) := by decide +kernel
theorem dX8_lowest_41 : decode cX8_lowest 41 = .ok (.lload 5, 2) := by decide +kernel
theorem dX8_lowest_43 : decode cX8_lowest 43 = .ok (.ldiv, 1) := by decide +kernel
theorem dX8_lowest_44 : decode cX8_lowest 44 = .ok (.lreturn, 1) := by decide +kernel
theorem dX8_power_0 : decode cX8_power 0 = .ok (.lconst 1, 1) := by decide +kernel
theorem dX8_power_1 : decode cX8_power 1 = .ok (.lstore_n 3, 1) := by decide +kernel
theorem dX8_power_2 : decode cX8_power 2 = .ok (.iconst 0, 1) := by decide +kernel
theorem dX8_power_3 : decode cX8_power 3 = .ok (.istore 5, 2) := by decide +kernel
theorem dX8_power_5 : decode cX8_power 5 = .ok (.iload 5, 2) := by decide +kernel
theorem dX8_power_7 : decode cX8_power 7 = .ok (.iload_n 2, 1) := by decide +kernel
theorem dX8_power_8 : decode cX8_power 8 = .ok (.if_icmp .ge 13, 3) := by decide +kernel
theorem dX8_power_11 : decode cX8_power 11 = .ok (.lload_n 3, 1) := by decide +kernel
theorem dX8_power_12 : decode cX8_power 12 = .ok (.lload_n 0, 1) := by decide +kernel
theorem dX8_power_13 : decode cX8_power 13 = .ok (.lmul, 1) := by decide +kernel
theorem dX8_power_14 : decode cX8_power 14 = .ok (.lstore_n 3, 1) := by decide +kernel
theorem dX8_power_15 : decode cX8_power 15 = .ok (.iinc 5 1, 3) := by decide +kernel
theorem dX8_power_18 : decode cX8_power 18 = .ok (.goto (-13), 3) := by decide +kernel
theorem dX8_power_21 : decode cX8_power 21 = .ok (.lload_n 3, 1) := by decide +kernel
theorem dX8_power_22 : decode cX8_power 22 = .ok (.lreturn, 1) := by decide +kernel
theorem dX8_isWash_0 : decode cX8_isWash 0 = .ok (.iload_n 0, 1) := by decide +kernel
theorem dX8_isWash_1 : decode cX8_isWash 1 = .ok (.i2l, 1) := by decide +kernel
theorem dX8_isWash_2 : decode cX8_isWash 2 = .ok (.lconst 1, 1) := by decide +kernel
theorem dX8_isWash_3 : decode cX8_isWash 3 = .ok (.ldc2_w 236, 3) := by decide +kernel
theorem dX8_isWash_6 : decode cX8_isWash 6 = .ok (.invokestatic 78, 3) := by decide +kernel
theorem dX8_isWash_9 : decode cX8_isWash 9 = .ok (.ifCond .eq 19, 3) := by decide +kernel
theorem dX8_isWash_12 : decode cX8_isWash 12 = .ok (.iload_n 1, 1) := by decide +kernel
theorem dX8_isWash_13 : decode cX8_isWash 13 = .ok (.i2l, 1) := by decide +kernel
theorem dX8_isWash_14 : decode cX8_isWash 14 = .ok (.lconst 0, 1) := by decide +kernel
theorem dX8_isWash_15 : decode cX8_isWash 15 = .ok (.ldc2_w 236, 3) := by decide +kernel
theorem dX8_isWash_18 : decode cX8_isWash 18 = .ok (.invokestatic 78, 3) := by decide +kernel
theorem dX8_isWash_21 : decode cX8_isWash 21 = .ok (.ifCond .eq 7, 3) := by decide +kernel
theorem dX8_isWash_24 : decode cX8_isWash 24 = .ok (.iconst 1, 1) := by decide +kernel
theorem dX8_isWash_25 : decode cX8_isWash 25 = .ok (.goto 4, 3) := by decide +kernel
theorem dX8_isWash_28 : decode cX8_isWash 28 = .ok (.iconst 0, 1) := by decide +kernel
theorem dX8_isWash_29 : decode cX8_isWash 29 = .ok (.ireturn, 1) := by decide +kernel
theorem dX8_wash_0 : decode cX8_wash 0 = .ok (.iload_n 1, 1) := by decide +kernel
theorem dX8_wash_1 : decode cX8_wash 1 = .ok (.iload_n 2, 1) := by decide +kernel
theorem dX8_wash_2 : decode cX8_wash 2 = .ok (.invokestatic 238, 3) := by decide +kernel
theorem dX8_wash_5 : decode cX8_wash 5 = .ok (.ifCond .eq 50, 3) := by decide +kernel
theorem dX8_wash_8 : decode cX8_wash 8 = .ok (.iload_n 3, 1) := by decide +kernel
theorem dX8_wash_9 : decode cX8_wash 9 = .ok (.i2l, 1) := by decide +kernel
theorem dX8_wash_10 : decode cX8_wash 10 = .ok (.lconst 0, 1) := by decide +kernel
theorem dX8_wash_11 : decode cX8_wash 11 = .ok (.ldc2_w 241, 3) := by decide +kernel
theorem dX8_wash_14 : decode cX8_wash 14 = .ok (.invokestatic 78, 3) := by decide +kernel
theorem dX8_wash_17 : decode cX8_wash 17 = .ok (.ifCond .eq 38, 3) := by decide +kernel
theorem dX8_wash_20 : decode cX8_wash 20 = .ok (.iload 4, 2) := by decide +kernel
theorem dX8_wash_22 : decode cX8_wash 22 = .ok (.i2l, 1) := by decide +kernel
theorem dX8_wash_23 : decode cX8_wash 23 = .ok (.lconst 0, 1) := by decide +kernel
theorem dX8_wash_24 : decode cX8_wash 24 = .ok (.lconst 1, 1) := by decide +kernel
theorem dX8_wash_25 : decode cX8_wash 25 = .ok (.invokestatic 78, 3) := by decide +kernel
theorem dX8_wash_28 : decode cX8_wash 28 = .ok (.ifCond .eq 27, 3) := by decide +kernel
theorem dX8_wash_31 : decode cX8_wash 31 = .ok (.iload_n 1, 1) := by decide +kernel
theorem dX8_wash_32 : decode cX8_wash 32 = .ok (.i2l, 1) := by decide +kernel
theorem dX8_wash_33 : decode cX8_wash 33 = .ok (.iload_n 3, 1) := by decide +kernel
theorem dX8_wash_34 : decode cX8_wash 34 = .ok (.iconst 1, 1) := by decide +kernel
theorem dX8_wash_35 : decode cX8_wash 35 = .ok (.iadd, 1) := by decide +kernel
theorem dX8_wash_36 : decode cX8_wash 36 = .ok (.invokestatic 243, 3) := by decide +kernel
theorem dX8_wash_39 : decode cX8_wash 39 = .ok (.iload_n 1, 1) := by decide +kernel
theorem dX8_wash_40 : decode cX8_wash 40 = .ok (.iload_n 2, 1) := by decide +kernel
theorem dX8_wash_41 : decode cX8_wash 41 = .ok (.iadd, 1) := by decide +kernel
theorem dX8_wash_42 : decode cX8_wash 42 = .ok (.i2l, 1) := by decide +kernel
theorem dX8_wash_43 : decode cX8_wash 43 = .ok (.iload_n 3, 1) := by decide +kernel
theorem dX8_wash_44 : decode cX8_wash 44 = .ok (.invokestatic 243, 3) := by decide +kernel
theorem dX8_wash_47 : decode cX8_wash 47 = .ok (.iload 4, 2) := by decide +kernel
theorem dX8_wash_49 : decode cX8_wash 49 = .ok (.invokestatic 247, 3) := by decide +kernel
theorem dX8_wash_52 : decode cX8_wash 52 = .ok (.goto 6, 3) := by decide +kernel
theorem dX8_wash_55 : decode cX8_wash 55 = .ok (.ldc2_w 251, 3) := by decide +kernel
theorem dX8_wash_58 : decode cX8_wash 58 = .ok (.lreturn, 1) := by decide +kernel
theorem dX8_washes_0 : decode cX8_washes 0 = .ok (.iload_n 1, 1) := by decide +kernel
theorem dX8_washes_1 : decode cX8_washes 1 = .ok (.iload_n 2, 1) := by decide +kernel
theorem dX8_washes_2 : decode cX8_washes 2 = .ok (.invokestatic 238, 3) := by decide +kernel
theorem dX8_washes_5 : decode cX8_washes 5 = .ok (.ifCond .eq 28, 3) := by decide +kernel
theorem dX8_washes_8 : decode cX8_washes 8 = .ok (.iload_n 3, 1) := by decide +kernel
theorem dX8_washes_9 : decode cX8_washes 9 = .ok (.i2l, 1) := by decide +kernel
theorem dX8_washes_10 : decode cX8_washes 10 = .ok (.lconst 0, 1) := by decide +kernel
theorem dX8_washes_11 : decode cX8_washes 11 = .ok (.ldc2_w 236, 3) := by decide +kernel
theorem dX8_washes_14 : decode cX8_washes 14 = .ok (.invokestatic 78, 3) := by decide +kernel
theorem dX8_washes_17 : decode cX8_washes 17 = .ok (.ifCond .eq 16, 3) := by decide +kernel
theorem dX8_washes_20 : decode cX8_washes 20 = .ok (.iload 4, 2) := by decide +kernel
theorem dX8_washes_22 : decode cX8_washes 22 = .ok (.i2l, 1) := by decide +kernel
theorem dX8_washes_23 : decode cX8_washes 23 = .ok (.lconst 1, 1) := by decide +kernel
theorem dX8_washes_24 : decode cX8_washes 24 = .ok (.ldc2_w 236, 3) := by decide +kernel
theorem dX8_washes_27 : decode cX8_washes 27 = .ok (.invokestatic 78, 3) := by decide +kernel
theorem dX8_washes_30 : decode cX8_washes 30 = .ok (.ifCond .ne 5, 3) := by decide +kernel
theorem dX8_washes_33 : decode cX8_washes 33 = .ok (.iconst (-1), 1) := by decide +kernel
theorem dX8_washes_34 : decode cX8_washes 34 = .ok (.ireturn, 1) := by decide +kernel
theorem dX8_washes_35 : decode cX8_washes 35 = .ok (.iconst 0, 1) := by decide +kernel
theorem dX8_washes_36 : decode cX8_washes 36 = .ok (.istore 5, 2) := by decide +kernel
theorem dX8_washes_38 : decode cX8_washes 38 = .ok (.iload 5, 2) := by decide +kernel
theorem dX8_washes_40 : decode cX8_washes 40 = .ok (.iconst 5, 1) := by decide +kernel
theorem dX8_washes_41 : decode cX8_washes 41 = .ok (.if_icmp .gt 41, 3) := by decide +kernel
theorem dX8_washes_44 : decode cX8_washes 44 = .ok (.iload_n 1, 1) := by decide +kernel
theorem dX8_washes_45 : decode cX8_washes 45 = .ok (.i2l, 1) := by decide +kernel
theorem dX8_washes_46 : decode cX8_washes 46 = .ok (.iload 5, 2) := by decide +kernel
theorem dX8_washes_48 : decode cX8_washes 48 = .ok (.iconst 1, 1) := by decide +kernel
theorem dX8_washes_49 : decode cX8_washes 49 = .ok (.iadd, 1) := by decide +kernel
theorem dX8_washes_50 : decode cX8_washes 50 = .ok (.invokestatic 243, 3) := by decide +kernel
theorem dX8_washes_53 : decode cX8_washes 53 = .ok (.iload 4, 2) := by decide +kernel
theorem dX8_washes_55 : decode cX8_washes 55 = .ok (.i2l, 1) := by decide +kernel
theorem dX8_washes_56 : decode cX8_washes 56 = .ok (.lmul, 1) := by decide +kernel
theorem dX8_washes_57 : decode cX8_washes 57 = .ok (.iload_n 3, 1) := by decide +kernel
theorem dX8_washes_58 : decode cX8_washes 58 = .ok (.i2l, 1) := by decide +kernel
theorem dX8_washes_59 : decode cX8_washes 59 = .ok (.iload_n 1, 1) := by decide +kernel
theorem dX8_washes_60 : decode cX8_washes 60 = .ok (.iload_n 2, 1) := by decide +kernel
theorem dX8_washes_61 : decode cX8_washes 61 = .ok (.iadd, 1) := by decide +kernel
theorem dX8_washes_62 : decode cX8_washes 62 = .ok (.i2l, 1) := by decide +kernel
theorem dX8_washes_63 : decode cX8_washes 63 = .ok (.iload 5, 2) := by decide +kernel
theorem dX8_washes_65 : decode cX8_washes 65 = .ok (.invokestatic 243, 3) := by decide +kernel
theorem dX8_washes_68 : decode cX8_washes 68 = .ok (.lmul, 1) := by decide +kernel
theorem dX8_washes_69 : decode cX8_washes 69 = .ok (.lcmp, 1) := by decide +kernel
theorem dX8_washes_70 : decode cX8_washes 70 = .ok (.ifCond .gt 6, 3) := by decide +kernel
theorem dX8_washes_73 : decode cX8_washes 73 = .ok (.iload 5, 2) := by decide +kernel
theorem dX8_washes_75 : decode cX8_washes 75 = .ok (.ireturn, 1) := by decide +kernel
theorem dX8_washes_76 : decode cX8_washes 76 = .ok (.iinc 5 1, 3) := by decide +kernel
theorem dX8_washes_79 : decode cX8_washes 79 = .ok (.goto (-41), 3) := by decide +kernel
theorem dX8_washes_82 : decode cX8_washes 82 = .ok (.bipush (-4), 2) := by decide +kernel
theorem dX8_washes_84 : decode cX8_washes 84 = .ok (.ireturn, 1) := by decide +kernel
theorem dX8_split_0 : decode cX8_split 0 = .ok (.iload_n 1, 1) := by decide +kernel
theorem dX8_split_1 : decode cX8_split 1 = .ok (.iload_n 2, 1) := by decide +kernel
theorem dX8_split_2 : decode cX8_split 2 = .ok (.invokestatic 238, 3) := by decide +kernel
theorem dX8_split_5 : decode cX8_split 5 = .ok (.ifCond .ne 5, 3) := by decide +kernel
theorem dX8_split_8 : decode cX8_split 8 = .ok (.iconst (-1), 1) := by decide +kernel
theorem dX8_split_9 : decode cX8_split 9 = .ok (.ireturn, 1) := by decide +kernel
theorem dX8_split_10 : decode cX8_split 10 = .ok (.iconst 0, 1) := by decide +kernel
theorem dX8_split_11 : decode cX8_split 11 = .ok (.istore_n 3, 1) := by decide +kernel
theorem dX8_split_12 : decode cX8_split 12 = .ok (.iconst 1, 1) := by decide +kernel
theorem dX8_split_13 : decode cX8_split 13 = .ok (.istore 4, 2) := by decide +kernel
theorem dX8_split_15 : decode cX8_split 15 = .ok (.iload 4, 2) := by decide +kernel
theorem dX8_split_17 : decode cX8_split 17 = .ok (.iload_n 2, 1) := by decide +kernel
theorem dX8_split_18 : decode cX8_split 18 = .ok (.if_icmp .gt 39, 3) := by decide +kernel
theorem dX8_split_21 : decode cX8_split 21 = .ok (.iload_n 1, 1) := by decide +kernel
theorem dX8_split_22 : decode cX8_split 22 = .ok (.iload 4, 2) := by decide +kernel
theorem dX8_split_24 : decode cX8_split 24 = .ok (.iadd, 1) := by decide +kernel
theorem dX8_split_25 : decode cX8_split 25 = .ok (.iload_n 1, 1) := by decide +kernel
theorem dX8_split_26 : decode cX8_split 26 = .ok (.iload_n 2, 1) := by decide +kernel
theorem dX8_split_27 : decode cX8_split 27 = .ok (.iadd, 1) := by decide +kernel
theorem dX8_split_28 : decode cX8_split 28 = .ok (.iload 4, 2) := by decide +kernel
theorem dX8_split_30 : decode cX8_split 30 = .ok (.isub, 1) := by decide +kernel
theorem dX8_split_31 : decode cX8_split 31 = .ok (.imul, 1) := by decide +kernel
theorem dX8_split_32 : decode cX8_split 32 = .ok (.iload_n 1, 1) := by decide +kernel
theorem dX8_split_33 : decode cX8_split 33 = .ok (.iload_n 3, 1) := by decide +kernel
theorem dX8_split_34 : decode cX8_split 34 = .ok (.iadd, 1) := by decide +kernel
theorem dX8_split_35 : decode cX8_split 35 = .ok (.iload_n 1, 1) := by decide +kernel
theorem dX8_split_36 : decode cX8_split 36 = .ok (.iload_n 2, 1) := by decide +kernel
theorem dX8_split_37 : decode cX8_split 37 = .ok (.iadd, 1) := by decide +kernel
theorem dX8_split_38 : decode cX8_split 38 = .ok (.iload_n 3, 1) := by decide +kernel
theorem dX8_split_39 : decode cX8_split 39 = .ok (.isub, 1) := by decide +kernel
theorem dX8_split_40 : decode cX8_split 40 = .ok (.imul, 1) := by decide +kernel
theorem dX8_split_41 : decode cX8_split 41 = .ok (.if_icmp .le 8, 3) := by decide +kernel
theorem dX8_split_44 : decode cX8_split 44 = .ok (.iload 4, 2) := by decide +kernel
theorem dX8_split_46 : decode cX8_split 46 = .ok (.goto 4, 3) := by decide +kernel
theorem dX8_split_49 : decode cX8_split 49 = .ok (.iload_n 3, 1) := by decide +kernel
theorem dX8_split_50 : decode cX8_split 50 = .ok (.istore_n 3, 1) := by decide +kernel
theorem dX8_split_51 : decode cX8_split 51 = .ok (.iinc 4 1, 3) := by decide +kernel
theorem dX8_split_54 : decode cX8_split 54 = .ok (.goto (-39), 3) := by decide +kernel
theorem dX8_split_57 : decode cX8_split 57 = .ok (.iload_n 3, 1) := by decide +kernel
theorem dX8_split_58 : decode cX8_split 58 = .ok (.ireturn, 1) := by decide +kernel
theorem dX8_layWet_0 : decode cX8_layWet 0 = .ok (.iload_n 1, 1) := by decide +kernel
theorem dX8_layWet_1 : decode cX8_layWet 1 = .ok (.i2l, 1) := by decide +kernel
theorem dX8_layWet_2 : decode cX8_layWet 2 = .ok (.lconst 0, 1) := by decide +kernel
theorem dX8_layWet_3 : decode cX8_layWet 3 = .ok (.ldc2_w 253, 3) := by decide +kernel
theorem dX8_layWet_6 : decode cX8_layWet 6 = .ok (.invokestatic 78, 3) := by decide +kernel
theorem dX8_layWet_9 : decode cX8_layWet 9 = .ok (.ifCond .eq 15, 3) := by decide +kernel
theorem dX8_layWet_12 : decode cX8_layWet 12 = .ok (.iload_n 2, 1) := by decide +kernel
theorem dX8_layWet_13 : decode cX8_layWet 13 = .ok (.i2l, 1) := by decide +kernel
theorem dX8_layWet_14 : decode cX8_layWet 14 = .ok (.lconst 0, 1) := by decide +kernel
theorem dX8_layWet_15 : decode cX8_layWet 15 = .ok (.ldc2_w 165, 3) := by decide +kernel
theorem dX8_layWet_18 : decode cX8_layWet 18 = .ok (.invokestatic 78, 3) := by decide +kernel
theorem dX8_layWet_21 : decode cX8_layWet 21 = .ok (.ifCond .ne 5, 3) := by decide +kernel
theorem dX8_layWet_24 : decode cX8_layWet 24 = .ok (.iconst 0, 1) := by decide +kernel
theorem dX8_layWet_25 : decode cX8_layWet 25 = .ok (.ireturn, 1) := by decide +kernel
theorem dX8_layWet_26 : decode cX8_layWet 26 = .ok (.iload_n 1, 1) := by decide +kernel
theorem dX8_layWet_27 : decode cX8_layWet 27 = .ok (.istore_n 3, 1) := by decide +kernel
theorem dX8_layWet_28 : decode cX8_layWet 28 = .ok (.iconst 0, 1) := by decide +kernel
theorem dX8_layWet_29 : decode cX8_layWet 29 = .ok (.istore 4, 2) := by decide +kernel
theorem dX8_layWet_31 : decode cX8_layWet 31 = .ok (.iload 4, 2) := by decide +kernel
theorem dX8_layWet_33 : decode cX8_layWet 33 = .ok (.bipush 7, 2) := by decide +kernel
theorem dX8_layWet_35 : decode cX8_layWet 35 = .ok (.if_icmp .ge 25, 3) := by decide +kernel
theorem dX8_layWet_38 : decode cX8_layWet 38 = .ok (.aload_n 0, 1) := by decide +kernel
theorem dX8_layWet_39 : decode cX8_layWet 39 = .ok (.getfield 58, 3) := by decide +kernel
theorem dX8_layWet_42 : decode cX8_layWet 42 = .ok (.iload 4, 2) := by decide +kernel
theorem dX8_layWet_44 : decode cX8_layWet 44 = .ok (.iload_n 3, 1) := by decide +kernel
theorem dX8_layWet_45 : decode cX8_layWet 45 = .ok (.bipush 10, 2) := by decide +kernel
theorem dX8_layWet_47 : decode cX8_layWet 47 = .ok (.irem, 1) := by decide +kernel
theorem dX8_layWet_48 : decode cX8_layWet 48 = .ok (.iastore, 1) := by decide +kernel
theorem dX8_layWet_49 : decode cX8_layWet 49 = .ok (.iload_n 3, 1) := by decide +kernel
theorem dX8_layWet_50 : decode cX8_layWet 50 = .ok (.bipush 10, 2) := by decide +kernel
theorem dX8_layWet_52 : decode cX8_layWet 52 = .ok (.idiv, 1) := by decide +kernel
theorem dX8_layWet_53 : decode cX8_layWet 53 = .ok (.istore_n 3, 1) := by decide +kernel
theorem dX8_layWet_54 : decode cX8_layWet 54 = .ok (.iinc 4 1, 3) := by decide +kernel
theorem dX8_layWet_57 : decode cX8_layWet 57 = .ok (.goto (-26), 3) := by decide +kernel
theorem dX8_layWet_60 : decode cX8_layWet 60 = .ok (.aload_n 0, 1) := by decide +kernel
theorem dX8_layWet_61 : decode cX8_layWet 61 = .ok (.getfield 58, 3) := by decide +kernel
theorem dX8_layWet_64 : decode cX8_layWet 64 = .ok (.bipush 7, 2) := by decide +kernel
theorem dX8_layWet_66 : decode cX8_layWet 66 = .ok (.iconst 0, 1) := by decide +kernel
theorem dX8_layWet_67 : decode cX8_layWet 67 = .ok (.iastore, 1) := by decide +kernel
theorem dX8_layWet_68 : decode cX8_layWet 68 = .ok (.iconst 0, 1) := by decide +kernel
theorem dX8_layWet_69 : decode cX8_layWet 69 = .ok (.istore 4, 2) := by decide +kernel
theorem dX8_layWet_71 : decode cX8_layWet 71 = .ok (.iload 4, 2) := by decide +kernel
theorem dX8_layWet_73 : decode cX8_layWet 73 = .ok (.iload_n 2, 1) := by decide +kernel
theorem dX8_layWet_74 : decode cX8_layWet 74 = .ok (.if_icmp .ge 60, 3) := by decide +kernel
theorem dX8_layWet_77 : decode cX8_layWet 77 = .ok (.aload_n 0, 1) := by decide +kernel
theorem dX8_layWet_78 : decode cX8_layWet 78 = .ok (.getfield 58, 3) := by decide +kernel
theorem dX8_layWet_81 : decode cX8_layWet 81 = .ok (.iconst 0, 1) := by decide +kernel
theorem dX8_layWet_82 : decode cX8_layWet 82 = .ok (.dup2, 1) := by decide +kernel
theorem dX8_layWet_83 : decode cX8_layWet 83 = .ok (.iaload, 1) := by decide +kernel
theorem dX8_layWet_84 : decode cX8_layWet 84 = .ok (.iconst 2, 1) := by decide +kernel
theorem dX8_layWet_85 : decode cX8_layWet 85 = .ok (.aload_n 0, 1) := by decide +kernel
theorem dX8_layWet_86 : decode cX8_layWet 86 = .ok (.getfield 58, 3) := by decide +kernel
theorem dX8_layWet_89 : decode cX8_layWet 89 = .ok (.iconst 1, 1) := by decide +kernel
theorem dX8_layWet_90 : decode cX8_layWet 90 = .ok (.iaload, 1) := by decide +kernel
theorem dX8_layWet_91 : decode cX8_layWet 91 = .ok (.imul, 1) := by decide +kernel
theorem dX8_layWet_92 : decode cX8_layWet 92 = .ok (.iadd, 1) := by decide +kernel
theorem dX8_layWet_93 : decode cX8_layWet 93 = .ok (.iastore, 1) := by decide +kernel
theorem dX8_layWet_94 : decode cX8_layWet 94 = .ok (.iconst 1, 1) := by decide +kernel
theorem dX8_layWet_95 : decode cX8_layWet 95 = .ok (.istore 5, 2) := by decide +kernel
theorem dX8_layWet_97 : decode cX8_layWet 97 = .ok (.iload 5, 2) := by decide +kernel
theorem dX8_layWet_99 : decode cX8_layWet 99 = .ok (.bipush 7, 2) := by decide +kernel
theorem dX8_layWet_101 : decode cX8_layWet 101 = .ok (.if_icmp .ge 27, 3) := by decide +kernel
theorem dX8_layWet_104 : decode cX8_layWet 104 = .ok (.aload_n 0, 1) := by decide +kernel
theorem dX8_layWet_105 : decode cX8_layWet 105 = .ok (.getfield 58, 3) := by decide +kernel
theorem dX8_layWet_108 : decode cX8_layWet 108 = .ok (.iload 5, 2) := by decide +kernel
theorem dX8_layWet_110 : decode cX8_layWet 110 = .ok (.iconst 2, 1) := by decide +kernel
theorem dX8_layWet_111 : decode cX8_layWet 111 = .ok (.aload_n 0, 1) := by decide +kernel
theorem dX8_layWet_112 : decode cX8_layWet 112 = .ok (.getfield 58, 3) := by decide +kernel
theorem dX8_layWet_115 : decode cX8_layWet 115 = .ok (.iload 5, 2) := by decide +kernel
theorem dX8_layWet_117 : decode cX8_layWet 117 = .ok (.iconst 1, 1) := by decide +kernel
theorem dX8_layWet_118 : decode cX8_layWet 118 = .ok (.iadd, 1) := by decide +kernel
theorem dX8_layWet_119 : decode cX8_layWet 119 = .ok (.iaload, 1) := by decide +kernel
theorem dX8_layWet_120 : decode cX8_layWet 120 = .ok (.imul, 1) := by decide +kernel
theorem dX8_layWet_121 : decode cX8_layWet 121 = .ok (.iastore, 1) := by decide +kernel
theorem dX8_layWet_122 : decode cX8_layWet 122 = .ok (.iinc 5 1, 3) := by decide +kernel
theorem dX8_layWet_125 : decode cX8_layWet 125 = .ok (.goto (-28), 3) := by decide +kernel
theorem dX8_layWet_128 : decode cX8_layWet 128 = .ok (.iinc 4 1, 3) := by decide +kernel
theorem dX8_layWet_131 : decode cX8_layWet 131 = .ok (.goto (-60), 3) := by decide +kernel
theorem dX8_layWet_134 : decode cX8_layWet 134 = .ok (.iconst 1, 1) := by decide +kernel
theorem dX8_layWet_135 : decode cX8_layWet 135 = .ok (.ireturn, 1) := by decide +kernel
theorem dX8_worked_0 : decode cX8_worked 0 = .ok (.aload_n 0, 1) := by decide +kernel
theorem dX8_worked_1 : decode cX8_worked 1 = .ok (.iload_n 1, 1) := by decide +kernel
theorem dX8_worked_2 : decode cX8_worked 2 = .ok (.iload_n 2, 1) := by decide +kernel
theorem dX8_worked_3 : decode cX8_worked 3 = .ok (.invokevirtual 255, 3) := by decide +kernel
theorem dX8_worked_6 : decode cX8_worked 6 = .ok (.ifCond .eq 24, 3) := by decide +kernel
theorem dX8_worked_9 : decode cX8_worked 9 = .ok (.iload_n 3, 1) := by decide +kernel
theorem dX8_worked_10 : decode cX8_worked 10 = .ok (.i2l, 1) := by decide +kernel
theorem dX8_worked_11 : decode cX8_worked 11 = .ok (.lconst 0, 1) := by decide +kernel
theorem dX8_worked_12 : decode cX8_worked 12 = .ok (.ldc2_w 165, 3) := by decide +kernel
theorem dX8_worked_15 : decode cX8_worked 15 = .ok (.invokestatic 78, 3) := by decide +kernel
theorem dX8_worked_18 : decode cX8_worked 18 = .ok (.ifCond .eq 12, 3) := by decide +kernel
theorem dX8_worked_21 : decode cX8_worked 21 = .ok (.aload_n 0, 1) := by decide +kernel
theorem dX8_worked_22 : decode cX8_worked 22 = .ok (.getfield 58, 3) := by decide +kernel
theorem dX8_worked_25 : decode cX8_worked 25 = .ok (.iload_n 3, 1) := by decide +kernel
theorem dX8_worked_26 : decode cX8_worked 26 = .ok (.iaload, 1) := by decide +kernel
theorem dX8_worked_27 : decode cX8_worked 27 = .ok (.goto 4, 3) := by decide +kernel
theorem dX8_worked_30 : decode cX8_worked 30 = .ok (.iconst (-1), 1) := by decide +kernel
theorem dX8_worked_31 : decode cX8_worked 31 = .ok (.ireturn, 1) := by decide +kernel
theorem dX8_keeps_0 : decode cX8_keeps 0 = .ok (.aload_n 0, 1) := by decide +kernel
theorem dX8_keeps_1 : decode cX8_keeps 1 = .ok (.iload_n 1, 1) := by decide +kernel
theorem dX8_keeps_2 : decode cX8_keeps 2 = .ok (.iload_n 2, 1) := by decide +kernel
theorem dX8_keeps_3 : decode cX8_keeps 3 = .ok (.invokevirtual 255, 3) := by decide +kernel
theorem dX8_keeps_6 : decode cX8_keeps 6 = .ok (.ifCond .ne 5, 3) := by decide +kernel
theorem dX8_keeps_9 : decode cX8_keeps 9 = .ok (.iconst (-1), 1) := by decide +kernel
theorem dX8_keeps_10 : decode cX8_keeps 10 = .ok (.ireturn, 1) := by decide +kernel
theorem dX8_keeps_11 : decode cX8_keeps 11 = .ok (.iconst 0, 1) := by decide +kernel
theorem dX8_keeps_12 : decode cX8_keeps 12 = .ok (.istore_n 3, 1) := by decide +kernel
theorem dX8_keeps_13 : decode cX8_keeps 13 = .ok (.iconst 0, 1) := by decide +kernel
theorem dX8_keeps_14 : decode cX8_keeps 14 = .ok (.istore 4, 2) := by decide +kernel
theorem dX8_keeps_16 : decode cX8_keeps 16 = .ok (.iload 4, 2) := by decide +kernel
theorem dX8_keeps_18 : decode cX8_keeps 18 = .ok (.bipush 7, 2) := by decide +kernel
theorem dX8_keeps_20 : decode cX8_keeps 20 = .ok (.if_icmp .ge 26, 3) := by decide +kernel
theorem dX8_keeps_23 : decode cX8_keeps 23 = .ok (.aload_n 0, 1) := by decide +kernel
theorem dX8_keeps_24 : decode cX8_keeps 24 = .ok (.getfield 58, 3) := by decide +kernel
theorem dX8_keeps_27 : decode cX8_keeps 27 = .ok (.iload 4, 2) := by decide +kernel
theorem dX8_keeps_29 : decode cX8_keeps 29 = .ok (.iaload, 1) := by decide +kernel
theorem dX8_keeps_30 : decode cX8_keeps 30 = .ok (.ifCond .le 8, 3) := by decide +kernel
theorem dX8_keeps_33 : decode cX8_keeps 33 = .ok (.iload 4, 2) := by decide +kernel
theorem dX8_keeps_35 : decode cX8_keeps 35 = .ok (.goto 4, 3) := by decide +kernel
theorem dX8_keeps_38 : decode cX8_keeps 38 = .ok (.iload_n 3, 1) := by decide +kernel
theorem dX8_keeps_39 : decode cX8_keeps 39 = .ok (.istore_n 3, 1) := by decide +kernel
theorem dX8_keeps_40 : decode cX8_keeps 40 = .ok (.iinc 4 1, 3) := by decide +kernel
theorem dX8_keeps_43 : decode cX8_keeps 43 = .ok (.goto (-27), 3) := by decide +kernel
theorem dX8_keeps_46 : decode cX8_keeps 46 = .ok (.bipush 64, 2) := by decide +kernel
theorem dX8_keeps_48 : decode cX8_keeps 48 = .ok (.iload_n 3, 1) := by decide +kernel
theorem dX8_keeps_49 : decode cX8_keeps 49 = .ok (.ishr, 1) := by decide +kernel
theorem dX8_keeps_50 : decode cX8_keeps 50 = .ok (.ireturn, 1) := by decide +kernel
theorem dX8_isRod_0 : decode cX8_isRod 0 = .ok (.iload_n 0, 1) := by decide +kernel
theorem dX8_isRod_1 : decode cX8_isRod 1 = .ok (.i2l, 1) := by decide +kernel
theorem dX8_isRod_2 : decode cX8_isRod 2 = .ok (.lconst 0, 1) := by decide +kernel
theorem dX8_isRod_3 : decode cX8_isRod 3 = .ok (.ldc2_w 167, 3) := by decide +kernel
theorem dX8_isRod_6 : decode cX8_isRod 6 = .ok (.invokestatic 78, 3) := by decide +kernel
theorem dX8_isRod_9 : decode cX8_isRod 9 = .ok (.ifCond .eq 39, 3) := by decide +kernel
theorem dX8_isRod_12 : decode cX8_isRod 12 = .ok (.iload_n 1, 1) := by decide +kernel
theorem dX8_isRod_13 : decode cX8_isRod 13 = .ok (.i2l, 1) := by decide +kernel
theorem dX8_isRod_14 : decode cX8_isRod 14 = .ok (.lconst 0, 1) := by decide +kernel
theorem dX8_isRod_15 : decode cX8_isRod 15 = .ok (.ldc2_w 167, 3) := by decide +kernel
theorem dX8_isRod_18 : decode cX8_isRod 18 = .ok (.invokestatic 78, 3) := by decide +kernel
theorem dX8_isRod_21 : decode cX8_isRod 21 = .ok (.ifCond .eq 27, 3) := by decide +kernel
theorem dX8_isRod_24 : decode cX8_isRod 24 = .ok (.iload_n 2, 1) := by decide +kernel
theorem dX8_isRod_25 : decode cX8_isRod 25 = .ok (.i2l, 1) := by decide +kernel
theorem dX8_isRod_26 : decode cX8_isRod 26 = .ok (.lconst 0, 1) := by decide +kernel
theorem dX8_isRod_27 : decode cX8_isRod 27 = .ok (.ldc2_w 167, 3) := by decide +kernel
theorem dX8_isRod_30 : decode cX8_isRod 30 = .ok (.invokestatic 78, 3) := by decide +kernel
theorem dX8_isRod_33 : decode cX8_isRod 33 = .ok (.ifCond .eq 15, 3) := by decide +kernel
theorem dX8_isRod_36 : decode cX8_isRod 36 = .ok (.iload_n 0, 1) := by decide +kernel
theorem dX8_isRod_37 : decode cX8_isRod 37 = .ok (.iload_n 1, 1) := by decide +kernel
theorem dX8_isRod_38 : decode cX8_isRod 38 = .ok (.iadd, 1) := by decide +kernel
theorem dX8_isRod_39 : decode cX8_isRod 39 = .ok (.iload_n 2, 1) := by decide +kernel
theorem dX8_isRod_40 : decode cX8_isRod 40 = .ok (.iadd, 1) := by decide +kernel
theorem dX8_isRod_41 : decode cX8_isRod 41 = .ok (.ifCond .le 7, 3) := by decide +kernel
theorem dX8_isRod_44 : decode cX8_isRod 44 = .ok (.iconst 1, 1) := by decide +kernel
theorem dX8_isRod_45 : decode cX8_isRod 45 = .ok (.goto 4, 3) := by decide +kernel
theorem dX8_isRod_48 : decode cX8_isRod 48 = .ok (.iconst 0, 1) := by decide +kernel
theorem dX8_isRod_49 : decode cX8_isRod 49 = .ok (.ireturn, 1) := by decide +kernel
theorem dX8_above_0 : decode cX8_above 0 = .ok (.iload_n 0, 1) := by decide +kernel
theorem dX8_above_1 : decode cX8_above 1 = .ok (.iconst 1, 1) := by decide +kernel
theorem dX8_above_2 : decode cX8_above 2 = .ok (.iadd, 1) := by decide +kernel
theorem dX8_above_3 : decode cX8_above 3 = .ok (.bipush 16, 2) := by decide +kernel
theorem dX8_above_5 : decode cX8_above 5 = .ok (.if_icmp .le 7, 3) := by decide +kernel
theorem dX8_above_8 : decode cX8_above 8 = .ok (.iload_n 1, 1) := by decide +kernel
theorem dX8_above_9 : decode cX8_above 9 = .ok (.goto 4, 3) := by decide +kernel
theorem dX8_above_12 : decode cX8_above 12 = .ok (.iconst 0, 1) := by decide +kernel
theorem dX8_above_13 : decode cX8_above 13 = .ok (.iload_n 0, 1) := by decide +kernel
theorem dX8_above_14 : decode cX8_above 14 = .ok (.bipush 16, 2) := by decide +kernel
theorem dX8_above_16 : decode cX8_above 16 = .ok (.if_icmp .le 7, 3) := by decide +kernel
theorem dX8_above_19 : decode cX8_above 19 = .ok (.iload_n 2, 1) := by decide +kernel
theorem dX8_above_20 : decode cX8_above 20 = .ok (.goto 4, 3) := by decide +kernel
theorem dX8_above_23 : decode cX8_above 23 = .ok (.iconst 0, 1) := by decide +kernel
theorem dX8_above_24 : decode cX8_above 24 = .ok (.iadd, 1) := by decide +kernel
theorem dX8_above_25 : decode cX8_above 25 = .ok (.iload_n 0, 1) := by decide +kernel
theorem dX8_above_26 : decode cX8_above 26 = .ok (.iconst 1, 1) := by decide +kernel
theorem dX8_above_27 : decode cX8_above 27 = .ok (.isub, 1) := by decide +kernel
theorem dX8_above_28 : decode cX8_above 28 = .ok (.bipush 16, 2) := by decide +kernel
theorem dX8_above_30 : decode cX8_above 30 = .ok (.if_icmp .le 7, 3) := by decide +kernel
theorem dX8_above_33 : decode cX8_above 33 = .ok (.iload_n 3, 1) := by decide +kernel
theorem dX8_above_34 : decode cX8_above 34 = .ok (.goto 4, 3) := by decide +kernel
theorem dX8_above_37 : decode cX8_above 37 = .ok (.iconst 0, 1) := by decide +kernel
theorem dX8_above_38 : decode cX8_above 38 = .ok (.iadd, 1) := by decide +kernel
theorem dX8_above_39 : decode cX8_above 39 = .ok (.ireturn, 1) := by decide +kernel
theorem dX8_rod_0 : decode cX8_rod 0 = .ok (.iload_n 1, 1) := by decide +kernel
theorem dX8_rod_1 : decode cX8_rod 1 = .ok (.i2l, 1) := by decide +kernel
theorem dX8_rod_2 : decode cX8_rod 2 = .ok (.lconst 0, 1) := by decide +kernel
theorem dX8_rod_3 : decode cX8_rod 3 = .ok (.ldc2_w 258, 3) := by decide +kernel
theorem dX8_rod_6 : decode cX8_rod 6 = .ok (.invokestatic 78, 3) := by decide +kernel
theorem dX8_rod_9 : decode cX8_rod 9 = .ok (.ifCond .eq 49, 3) := by decide +kernel
theorem dX8_rod_12 : decode cX8_rod 12 = .ok (.iload_n 2, 1) := by decide +kernel
theorem dX8_rod_13 : decode cX8_rod 13 = .ok (.iload_n 3, 1) := by decide +kernel
theorem dX8_rod_14 : decode cX8_rod 14 = .ok (.iload 4, 2) := by decide +kernel
theorem dX8_rod_16 : decode cX8_rod 16 = .ok (.invokestatic 260, 3) := by decide +kernel
theorem dX8_rod_19 : decode cX8_rod 19 = .ok (.ifCond .eq 39, 3) := by decide +kernel
theorem dX8_rod_22 : decode cX8_rod 22 = .ok (.iload 5, 2) := by decide +kernel
theorem dX8_rod_24 : decode cX8_rod 24 = .ok (.i2l, 1) := by decide +kernel
theorem dX8_rod_25 : decode cX8_rod 25 = .ok (.lconst 0, 1) := by decide +kernel
theorem dX8_rod_26 : decode cX8_rod 26 = .ok (.lconst 1, 1) := by decide +kernel
theorem dX8_rod_27 : decode cX8_rod 27 = .ok (.invokestatic 78, 3) := by decide +kernel
theorem dX8_rod_30 : decode cX8_rod 30 = .ok (.ifCond .eq 28, 3) := by decide +kernel
theorem dX8_rod_33 : decode cX8_rod 33 = .ok (.iload_n 1, 1) := by decide +kernel
theorem dX8_rod_34 : decode cX8_rod 34 = .ok (.iload_n 2, 1) := by decide +kernel
theorem dX8_rod_35 : decode cX8_rod 35 = .ok (.iload_n 3, 1) := by decide +kernel
theorem dX8_rod_36 : decode cX8_rod 36 = .ok (.iload 4, 2) := by decide +kernel
theorem dX8_rod_38 : decode cX8_rod 38 = .ok (.invokestatic 264, 3) := by decide +kernel
theorem dX8_rod_41 : decode cX8_rod 41 = .ok (.i2l, 1) := by decide +kernel
theorem dX8_rod_42 : decode cX8_rod 42 = .ok (.iload_n 2, 1) := by decide +kernel
theorem dX8_rod_43 : decode cX8_rod 43 = .ok (.iload_n 3, 1) := by decide +kernel
theorem dX8_rod_44 : decode cX8_rod 44 = .ok (.iadd, 1) := by decide +kernel
theorem dX8_rod_45 : decode cX8_rod 45 = .ok (.iload 4, 2) := by decide +kernel
theorem dX8_rod_47 : decode cX8_rod 47 = .ok (.iadd, 1) := by decide +kernel
theorem dX8_rod_48 : decode cX8_rod 48 = .ok (.i2l, 1) := by decide +kernel
theorem dX8_rod_49 : decode cX8_rod 49 = .ok (.iload 5, 2) := by decide +kernel
theorem dX8_rod_51 : decode cX8_rod 51 = .ok (.invokestatic 247, 3) := by decide +kernel
theorem dX8_rod_54 : decode cX8_rod 54 = .ok (.l2i, 1) := by decide +kernel
theorem dX8_rod_55 : decode cX8_rod 55 = .ok (.goto 4, 3) := by decide +kernel
theorem dX8_rod_58 : decode cX8_rod 58 = .ok (.iconst (-1), 1) := by decide +kernel
theorem dX8_rod_59 : decode cX8_rod 59 = .ok (.ireturn, 1) := by decide +kernel
theorem dX8_near_0 : decode cX8_near 0 = .ok (.iload_n 1, 1) := by decide +kernel
theorem dX8_near_1 : decode cX8_near 1 = .ok (.iload_n 2, 1) := by decide +kernel
theorem dX8_near_2 : decode cX8_near 2 = .ok (.iload_n 3, 1) := by decide +kernel
theorem dX8_near_3 : decode cX8_near 3 = .ok (.invokestatic 260, 3) := by decide +kernel
theorem dX8_near_6 : decode cX8_near 6 = .ok (.ifCond .eq 29, 3) := by decide +kernel
theorem dX8_near_9 : decode cX8_near 9 = .ok (.iload 4, 2) := by decide +kernel
theorem dX8_near_11 : decode cX8_near 11 = .ok (.i2l, 1) := by decide +kernel
theorem dX8_near_12 : decode cX8_near 12 = .ok (.lconst 0, 1) := by decide +kernel
theorem dX8_near_13 : decode cX8_near 13 = .ok (.ldc2_w 236, 3) := by decide +kernel
theorem dX8_near_16 : decode cX8_near 16 = .ok (.invokestatic 78, 3) := by decide +kernel
theorem dX8_near_19 : decode cX8_near 19 = .ok (.ifCond .eq 16, 3) := by decide +kernel
theorem dX8_near_22 : decode cX8_near 22 = .ok (.iload 5, 2) := by decide +kernel
theorem dX8_near_24 : decode cX8_near 24 = .ok (.i2l, 1) := by decide +kernel
theorem dX8_near_25 : decode cX8_near 25 = .ok (.lconst 1, 1) := by decide +kernel
theorem dX8_near_26 : decode cX8_near 26 = .ok (.ldc2_w 236, 3) := by decide +kernel
theorem dX8_near_29 : decode cX8_near 29 = .ok (.invokestatic 78, 3) := by decide +kernel
theorem dX8_near_32 : decode cX8_near 32 = .ok (.ifCond .ne 5, 3) := by decide +kernel
theorem dX8_near_35 : decode cX8_near 35 = .ok (.iconst (-1), 1) := by decide +kernel
theorem dX8_near_36 : decode cX8_near 36 = .ok (.ireturn, 1) := by decide +kernel
theorem dX8_near_37 : decode cX8_near 37 = .ok (.iconst 0, 1) := by decide +kernel
theorem dX8_near_38 : decode cX8_near 38 = .ok (.istore 6, 2) := by decide +kernel
theorem dX8_near_40 : decode cX8_near 40 = .ok (.iconst 0, 1) := by decide +kernel
theorem dX8_near_41 : decode cX8_near 41 = .ok (.istore 7, 2) := by decide +kernel
theorem dX8_near_43 : decode cX8_near 43 = .ok (.iload 7, 2) := by decide +kernel
theorem dX8_near_45 : decode cX8_near 45 = .ok (.bipush 30, 2) := by decide +kernel
theorem dX8_near_47 : decode cX8_near 47 = .ok (.if_icmp .gt 40, 3) := by decide +kernel
theorem dX8_near_50 : decode cX8_near 50 = .ok (.iload 7, 2) := by decide +kernel
theorem dX8_near_52 : decode cX8_near 52 = .ok (.iload_n 1, 1) := by decide +kernel
theorem dX8_near_53 : decode cX8_near 53 = .ok (.iload_n 2, 1) := by decide +kernel
theorem dX8_near_54 : decode cX8_near 54 = .ok (.iload_n 3, 1) := by decide +kernel
theorem dX8_near_55 : decode cX8_near 55 = .ok (.invokestatic 264, 3) := by decide +kernel
theorem dX8_near_58 : decode cX8_near 58 = .ok (.iload 5, 2) := by decide +kernel
theorem dX8_near_60 : decode cX8_near 60 = .ok (.imul, 1) := by decide +kernel
theorem dX8_near_61 : decode cX8_near 61 = .ok (.iload 4, 2) := by decide +kernel
theorem dX8_near_63 : decode cX8_near 63 = .ok (.iload_n 1, 1) := by decide +kernel
theorem dX8_near_64 : decode cX8_near 64 = .ok (.iload_n 2, 1) := by decide +kernel
theorem dX8_near_65 : decode cX8_near 65 = .ok (.iadd, 1) := by decide +kernel
theorem dX8_near_66 : decode cX8_near 66 = .ok (.iload_n 3, 1) := by decide +kernel
theorem dX8_near_67 : decode cX8_near 67 = .ok (.iadd, 1) := by decide +kernel
theorem dX8_near_68 : decode cX8_near 68 = .ok (.imul, 1) := by decide +kernel
theorem dX8_near_69 : decode cX8_near 69 = .ok (.if_icmp .gt 8, 3) := by decide +kernel
theorem dX8_near_72 : decode cX8_near 72 = .ok (.iload 7, 2) := by decide +kernel
theorem dX8_near_74 : decode cX8_near 74 = .ok (.goto 5, 3) := by decide +kernel
theorem dX8_near_77 : decode cX8_near 77 = .ok (.iload 6, 2) := by decide +kernel
theorem dX8_near_79 : decode cX8_near 79 = .ok (.istore 6, 2) := by decide +kernel
theorem dX8_near_81 : decode cX8_near 81 = .ok (.iinc 7 1, 3) := by decide +kernel
theorem dX8_near_84 : decode cX8_near 84 = .ok (.goto (-41), 3) := by decide +kernel
theorem dX8_near_87 : decode cX8_near 87 = .ok (.iload 6, 2) := by decide +kernel
theorem dX8_near_89 : decode cX8_near 89 = .ok (.ireturn, 1) := by decide +kernel
theorem dX8_witch_0 : decode cX8_witch 0 = .ok (.iload_n 1, 1) := by decide +kernel
theorem dX8_witch_1 : decode cX8_witch 1 = .ok (.i2l, 1) := by decide +kernel
theorem dX8_witch_2 : decode cX8_witch 2 = .ok (.lconst 1, 1) := by decide +kernel
theorem dX8_witch_3 : decode cX8_witch 3 = .ok (.ldc2_w 268, 3) := by decide +kernel
theorem dX8_witch_6 : decode cX8_witch 6 = .ok (.invokestatic 78, 3) := by decide +kernel
theorem dX8_witch_9 : decode cX8_witch 9 = .ok (.ifCond .eq 50, 3) := by decide +kernel
theorem dX8_witch_12 : decode cX8_witch 12 = .ok (.iload_n 2, 1) := by decide +kernel
theorem dX8_witch_13 : decode cX8_witch 13 = .ok (.i2l, 1) := by decide +kernel
theorem dX8_witch_14 : decode cX8_witch 14 = .ok (.lconst 0, 1) := by decide +kernel
theorem dX8_witch_15 : decode cX8_witch 15 = .ok (.iload_n 1, 1) := by decide +kernel
theorem dX8_witch_16 : decode cX8_witch 16 = .ok (.i2l, 1) := by decide +kernel
theorem dX8_witch_17 : decode cX8_witch 17 = .ok (.invokestatic 78, 3) := by decide +kernel
theorem dX8_witch_20 : decode cX8_witch 20 = .ok (.ifCond .eq 39, 3) := by decide +kernel
theorem dX8_witch_23 : decode cX8_witch 23 = .ok (.iload 4, 2) := by decide +kernel
theorem dX8_witch_25 : decode cX8_witch 25 = .ok (.i2l, 1) := by decide +kernel
theorem dX8_witch_26 : decode cX8_witch 26 = .ok (.lconst 1, 1) := by decide +kernel
theorem dX8_witch_27 : decode cX8_witch 27 = .ok (.ldc2_w 167, 3) := by decide +kernel
theorem dX8_witch_30 : decode cX8_witch 30 = .ok (.invokestatic 78, 3) := by decide +kernel
theorem dX8_witch_33 : decode cX8_witch 33 = .ok (.ifCond .eq 26, 3) := by decide +kernel
theorem dX8_witch_36 : decode cX8_witch 36 = .ok (.iload_n 3, 1) := by decide +kernel
theorem dX8_witch_37 : decode cX8_witch 37 = .ok (.i2l, 1) := by decide +kernel
theorem dX8_witch_38 : decode cX8_witch 38 = .ok (.lconst 0, 1) := by decide +kernel
theorem dX8_witch_39 : decode cX8_witch 39 = .ok (.iload 4, 2) := by decide +kernel
theorem dX8_witch_41 : decode cX8_witch 41 = .ok (.i2l, 1) := by decide +kernel
theorem dX8_witch_42 : decode cX8_witch 42 = .ok (.invokestatic 78, 3) := by decide +kernel
theorem dX8_witch_45 : decode cX8_witch 45 = .ok (.ifCond .eq 14, 3) := by decide +kernel
theorem dX8_witch_48 : decode cX8_witch 48 = .ok (.iload 5, 2) := by decide +kernel
theorem dX8_witch_50 : decode cX8_witch 50 = .ok (.i2l, 1) := by decide +kernel
theorem dX8_witch_51 : decode cX8_witch 51 = .ok (.lconst 0, 1) := by decide +kernel
theorem dX8_witch_52 : decode cX8_witch 52 = .ok (.lconst 1, 1) := by decide +kernel
theorem dX8_witch_53 : decode cX8_witch 53 = .ok (.invokestatic 78, 3) := by decide +kernel
theorem dX8_witch_56 : decode cX8_witch 56 = .ok (.ifCond .ne 7, 3) := by decide +kernel
theorem dX8_witch_59 : decode cX8_witch 59 = .ok (.ldc2_w 251, 3) := by decide +kernel
theorem dX8_witch_62 : decode cX8_witch 62 = .ok (.lreturn, 1) := by decide +kernel
theorem dX8_witch_63 : decode cX8_witch 63 = .ok (.lconst 0, 1) := by decide +kernel
theorem dX8_witch_64 : decode cX8_witch 64 = .ok (.lstore 6, 2) := by decide +kernel
theorem dX8_witch_66 : decode cX8_witch 66 = .ok (.lconst 1, 1) := by decide +kernel
theorem dX8_witch_67 : decode cX8_witch 67 = .ok (.lstore 8, 2) := by decide +kernel
theorem dX8_witch_69 : decode cX8_witch 69 = .ok (.iconst 0, 1) := by decide +kernel
theorem dX8_witch_70 : decode cX8_witch 70 = .ok (.istore 10, 2) := by decide +kernel
theorem dX8_witch_72 : decode cX8_witch 72 = .ok (.iload 10, 2) := by decide +kernel
theorem dX8_witch_74 : decode cX8_witch 74 = .ok (.iload_n 1, 1) := by decide +kernel
theorem dX8_witch_75 : decode cX8_witch 75 = .ok (.if_icmp .gt 63, 3) := by decide +kernel
theorem dX8_witch_78 : decode cX8_witch 78 = .ok (.lload 6, 2) := by decide +kernel
theorem dX8_witch_80 : decode cX8_witch 80 = .ok (.iload 10, 2) := by decide +kernel
theorem dX8_witch_82 : decode cX8_witch 82 = .ok (.iload_n 2, 1) := by decide +kernel
theorem dX8_witch_83 : decode cX8_witch 83 = .ok (.if_icmp .ge 7, 3) := by decide +kernel
theorem dX8_witch_86 : decode cX8_witch 86 = .ok (.lconst 0, 1) := by decide +kernel
theorem dX8_witch_87 : decode cX8_witch 87 = .ok (.goto 26, 3) := by decide +kernel
theorem dX8_witch_90 : decode cX8_witch 90 = .ok (.lload 8, 2) := by decide +kernel
theorem dX8_witch_92 : decode cX8_witch 92 = .ok (.iload_n 3, 1) := by decide +kernel
theorem dX8_witch_93 : decode cX8_witch 93 = .ok (.i2l, 1) := by decide +kernel
theorem dX8_witch_94 : decode cX8_witch 94 = .ok (.iload 10, 2) := by decide +kernel
theorem dX8_witch_96 : decode cX8_witch 96 = .ok (.invokestatic 243, 3) := by decide +kernel
theorem dX8_witch_99 : decode cX8_witch 99 = .ok (.lmul, 1) := by decide +kernel
theorem dX8_witch_100 : decode cX8_witch 100 = .ok (.iload 4, 2) := by decide +kernel
theorem dX8_witch_102 : decode cX8_witch 102 = .ok (.iload_n 3, 1) := by decide +kernel
theorem dX8_witch_103 : decode cX8_witch 103 = .ok (.isub, 1) := by decide +kernel
theorem dX8_witch_104 : decode cX8_witch 104 = .ok (.i2l, 1) := by decide +kernel
theorem dX8_witch_105 : decode cX8_witch 105 = .ok (.iload_n 1, 1) := by decide +kernel
theorem dX8_witch_106 : decode cX8_witch 106 = .ok (.iload 10, 2) := by decide +kernel
theorem dX8_witch_108 : decode cX8_witch 108 = .ok (.isub, 1) := by decide +kernel
theorem dX8_witch_109 : decode cX8_witch 109 = .ok (.invokestatic 243, 3) := by decide +kernel
theorem dX8_witch_112 : decode cX8_witch 112 = .ok (.lmul, 1) := by decide +kernel
theorem dX8_witch_113 : decode cX8_witch 113 = .ok (.ladd, 1) := by decide +kernel
theorem dX8_witch_114 : decode cX8_witch 114 = .ok (.lstore 6, 2) := by decide +kernel
theorem dX8_witch_116 : decode cX8_witch 116 = .ok (.lload 8, 2) := by decide +kernel
theorem dX8_witch_118 : decode cX8_witch 118 = .ok (.iload_n 1, 1) := by decide +kernel
theorem dX8_witch_119 : decode cX8_witch 119 = .ok (.iload 10, 2) := by decide +kernel
theorem dX8_witch_121 : decode cX8_witch 121 = .ok (.isub, 1) := by decide +kernel
theorem dX8_witch_122 : decode cX8_witch 122 = .ok (.i2l, 1) := by decide +kernel
theorem dX8_witch_123 : decode cX8_witch 123 = .ok (.lmul, 1) := by decide +kernel
theorem dX8_witch_124 : decode cX8_witch 124 = .ok (.iload 10, 2) := by decide +kernel
theorem dX8_witch_126 : decode cX8_witch 126 = .ok (.iconst 1, 1) := by decide +kernel
theorem dX8_witch_127 : decode cX8_witch 127 = .ok (.iadd, 1) := by decide +kernel
theorem dX8_witch_128 : decode cX8_witch 128 = .ok (.i2l, 1) := by decide +kernel
theorem dX8_witch_129 : decode cX8_witch 129 = .ok (.ldiv, 1) := by decide +kernel
theorem dX8_witch_130 : decode cX8_witch 130 = .ok (.lstore 8, 2) := by decide +kernel
theorem dX8_witch_132 : decode cX8_witch 132 = .ok (.iinc 10 1, 3) := by decide +kernel
theorem dX8_witch_135 : decode cX8_witch 135 = .ok (.goto (-63), 3) := by decide +kernel
theorem dX8_witch_138 : decode cX8_witch 138 = .ok (.lload 6, 2) := by decide +kernel
theorem dX8_witch_140 : decode cX8_witch 140 = .ok (.iload 4, 2) := by decide +kernel
theorem dX8_witch_142 : decode cX8_witch 142 = .ok (.i2l, 1) := by decide +kernel
theorem dX8_witch_143 : decode cX8_witch 143 = .ok (.iload_n 1, 1) := by decide +kernel
theorem dX8_witch_144 : decode cX8_witch 144 = .ok (.invokestatic 243, 3) := by decide +kernel
theorem dX8_witch_147 : decode cX8_witch 147 = .ok (.iload 5, 2) := by decide +kernel
theorem dX8_witch_149 : decode cX8_witch 149 = .ok (.invokestatic 247, 3) := by decide +kernel
theorem dX8_witch_152 : decode cX8_witch 152 = .ok (.lreturn, 1) := by decide +kernel
theorem dX8_keep_0 : decode cX8_keep 0 = .ok (.aload_n 0, 1) := by decide +kernel
theorem dX8_keep_1 : decode cX8_keep 1 = .ok (.invokevirtual 190, 3) := by decide +kernel
theorem dX8_keep_4 : decode cX8_keep 4 = .ok (.iload_n 1, 1) := by decide +kernel
theorem dX8_keep_5 : decode cX8_keep 5 = .ok (.i2l, 1) := by decide +kernel
theorem dX8_keep_6 : decode cX8_keep 6 = .ok (.lconst 0, 1) := by decide +kernel
theorem dX8_keep_7 : decode cX8_keep 7 = .ok (.lconst 1, 1) := by decide +kernel
theorem dX8_keep_8 : decode cX8_keep 8 = .ok (.invokestatic 78, 3) := by decide +kernel
theorem dX8_keep_11 : decode cX8_keep 11 = .ok (.ifCond .ne 5, 3) := by decide +kernel
theorem dX8_keep_14 : decode cX8_keep 14 = .ok (.iconst (-1), 1) := by decide +kernel
theorem dX8_keep_15 : decode cX8_keep 15 = .ok (.ireturn, 1) := by decide +kernel
theorem dX8_keep_16 : decode cX8_keep 16 = .ok (.aload_n 0, 1) := by decide +kernel
theorem dX8_keep_17 : decode cX8_keep 17 = .ok (.iconst 0, 1) := by decide +kernel
theorem dX8_keep_18 : decode cX8_keep 18 = .ok (.bipush 32, 2) := by decide +kernel
theorem dX8_keep_20 : decode cX8_keep 20 = .ok (.bipush 16, 2) := by decide +kernel
theorem dX8_keep_22 : decode cX8_keep 22 = .ok (.iload_n 1, 1) := by decide +kernel
theorem dX8_keep_23 : decode cX8_keep 23 = .ok (.imul, 1) := by decide +kernel
theorem dX8_keep_24 : decode cX8_keep 24 = .ok (.iadd, 1) := by decide +kernel
theorem dX8_keep_25 : decode cX8_keep 25 = .ok (.invokevirtual 233, 3) := by decide +kernel
theorem dX8_keep_28 : decode cX8_keep 28 = .ok (.aload_n 0, 1) := by decide +kernel
theorem dX8_keep_29 : decode cX8_keep 29 = .ok (.getfield 61, 3) := by decide +kernel
theorem dX8_keep_32 : decode cX8_keep 32 = .ok (.iload_n 1, 1) := by decide +kernel
theorem dX8_keep_33 : decode cX8_keep 33 = .ok (.baload, 1) := by decide +kernel
theorem dX8_keep_34 : decode cX8_keep 34 = .ok (.ifCond .eq 7, 3) := by decide +kernel
theorem dX8_keep_37 : decode cX8_keep 37 = .ok (.iconst 1, 1) := by decide +kernel
theorem dX8_keep_38 : decode cX8_keep 38 = .ok (.goto 4, 3) := by decide +kernel
theorem dX8_keep_41 : decode cX8_keep 41 = .ok (.iconst 0, 1) := by decide +kernel
theorem dX8_keep_42 : decode cX8_keep 42 = .ok (.istore_n 2, 1) := by decide +kernel
theorem dX8_keep_43 : decode cX8_keep 43 = .ok (.aload_n 0, 1) := by decide +kernel
theorem dX8_keep_44 : decode cX8_keep 44 = .ok (.getfield 61, 3) := by decide +kernel
theorem dX8_keep_47 : decode cX8_keep 47 = .ok (.iload_n 1, 1) := by decide +kernel
theorem dX8_keep_48 : decode cX8_keep 48 = .ok (.iconst 1, 1) := by decide +kernel
theorem dX8_keep_49 : decode cX8_keep 49 = .ok (.bastore, 1) := by decide +kernel
theorem dX8_keep_50 : decode cX8_keep 50 = .ok (.iload_n 2, 1) := by decide +kernel
theorem dX8_keep_51 : decode cX8_keep 51 = .ok (.ireturn, 1) := by decide +kernel
theorem dX8_back_0 : decode cX8_back 0 = .ok (.iload_n 1, 1) := by decide +kernel
theorem dX8_back_1 : decode cX8_back 1 = .ok (.i2l, 1) := by decide +kernel
theorem dX8_back_2 : decode cX8_back 2 = .ok (.lconst 0, 1) := by decide +kernel
theorem dX8_back_3 : decode cX8_back 3 = .ok (.lconst 1, 1) := by decide +kernel
theorem dX8_back_4 : decode cX8_back 4 = .ok (.invokestatic 78, 3) := by decide +kernel
theorem dX8_back_7 : decode cX8_back 7 = .ok (.ifCond .ne 5, 3) := by decide +kernel
theorem dX8_back_10 : decode cX8_back 10 = .ok (.iconst (-1), 1) := by decide +kernel
theorem dX8_back_11 : decode cX8_back 11 = .ok (.ireturn, 1) := by decide +kernel
theorem dX8_back_12 : decode cX8_back 12 = .ok (.aload_n 0, 1) := by decide +kernel
theorem dX8_back_13 : decode cX8_back 13 = .ok (.getfield 61, 3) := by decide +kernel
theorem dX8_back_16 : decode cX8_back 16 = .ok (.iload_n 1, 1) := by decide +kernel
theorem dX8_back_17 : decode cX8_back 17 = .ok (.baload, 1) := by decide +kernel
theorem dX8_back_18 : decode cX8_back 18 = .ok (.ifCond .ne 6, 3) := by decide +kernel
theorem dX8_back_21 : decode cX8_back 21 = .ok (.bipush (-2), 2) := by decide +kernel
theorem dX8_back_23 : decode cX8_back 23 = .ok (.ireturn, 1) := by decide +kernel
theorem dX8_back_24 : decode cX8_back 24 = .ok (.aload_n 0, 1) := by decide +kernel
theorem dX8_back_25 : decode cX8_back 25 = .ok (.bipush 32, 2) := by decide +kernel
theorem dX8_back_27 : decode cX8_back 27 = .ok (.bipush 16, 2) := by decide +kernel
theorem dX8_back_29 : decode cX8_back 29 = .ok (.iload_n 1, 1) := by decide +kernel
theorem dX8_back_30 : decode cX8_back 30 = .ok (.imul, 1) := by decide +kernel
theorem dX8_back_31 : decode cX8_back 31 = .ok (.iadd, 1) := by decide +kernel
theorem dX8_back_32 : decode cX8_back 32 = .ok (.iconst 0, 1) := by decide +kernel
theorem dX8_back_33 : decode cX8_back 33 = .ok (.invokevirtual 233, 3) := by decide +kernel
theorem dX8_back_36 : decode cX8_back 36 = .ok (.aload_n 0, 1) := by decide +kernel
theorem dX8_back_37 : decode cX8_back 37 = .ok (.getfield 46, 3) := by decide +kernel
theorem dX8_back_40 : decode cX8_back 40 = .ok (.iconst 4, 1) := by decide +kernel
theorem dX8_back_41 : decode cX8_back 41 = .ok (.iaload, 1) := by decide +kernel
theorem dX8_back_42 : decode cX8_back 42 = .ok (.ireturn, 1) := by decide +kernel
theorem dX8_sheet_0 : decode cX8_sheet 0 = .ok (.iload_n 1, 1) := by decide +kernel
theorem dX8_sheet_1 : decode cX8_sheet 1 = .ok (.i2l, 1) := by decide +kernel
theorem dX8_sheet_2 : decode cX8_sheet 2 = .ok (.lconst 0, 1) := by decide +kernel
theorem dX8_sheet_3 : decode cX8_sheet 3 = .ok (.ldc2_w 220, 3) := by decide +kernel
theorem dX8_sheet_6 : decode cX8_sheet 6 = .ok (.invokestatic 78, 3) := by decide +kernel
theorem dX8_sheet_9 : decode cX8_sheet 9 = .ok (.ifCond .eq 21, 3) := by decide +kernel
theorem dX8_sheet_12 : decode cX8_sheet 12 = .ok (.iload_n 2, 1) := by decide +kernel
theorem dX8_sheet_13 : decode cX8_sheet 13 = .ok (.i2l, 1) := by decide +kernel
theorem dX8_sheet_14 : decode cX8_sheet 14 = .ok (.lconst 0, 1) := by decide +kernel
theorem dX8_sheet_15 : decode cX8_sheet 15 = .ok (.ldc2_w 228, 3) := by decide +kernel
theorem dX8_sheet_18 : decode cX8_sheet 18 = .ok (.invokestatic 78, 3) := by decide +kernel
theorem dX8_sheet_21 : decode cX8_sheet 21 = .ok (.ifCond .eq 9, 3) := by decide +kernel
theorem dX8_sheet_24 : decode cX8_sheet 24 = .ok (.iload_n 3, 1) := by decide +kernel
theorem dX8_sheet_25 : decode cX8_sheet 25 = .ok (.bipush 40, 2) := by decide +kernel
theorem dX8_sheet_27 : decode cX8_sheet 27 = .ok (.if_icmp .le 5, 3) := by decide +kernel
theorem dX8_sheet_30 : decode cX8_sheet 30 = .ok (.iconst (-1), 1) := by decide +kernel
theorem dX8_sheet_31 : decode cX8_sheet 31 = .ok (.ireturn, 1) := by decide +kernel
theorem dX8_sheet_32 : decode cX8_sheet 32 = .ok (.iload_n 3, 1) := by decide +kernel
theorem dX8_sheet_33 : decode cX8_sheet 33 = .ok (.ifCond .ge 6, 3) := by decide +kernel
theorem dX8_sheet_36 : decode cX8_sheet 36 = .ok (.bipush (-14), 2) := by decide +kernel
theorem dX8_sheet_38 : decode cX8_sheet 38 = .ok (.ireturn, 1) := by decide +kernel
theorem dX8_sheet_39 : decode cX8_sheet 39 = .ok (.aload_n 0, 1) := by decide +kernel
theorem dX8_sheet_40 : decode cX8_sheet 40 = .ok (.getfield 65, 3) := by decide +kernel
theorem dX8_sheet_43 : decode cX8_sheet 43 = .ok (.iload_n 1, 1) := by decide +kernel
theorem dX8_sheet_44 : decode cX8_sheet 44 = .ok (.iload_n 2, 1) := by decide +kernel
theorem dX8_sheet_45 : decode cX8_sheet 45 = .ok (.iastore, 1) := by decide +kernel
theorem dX8_sheet_46 : decode cX8_sheet 46 = .ok (.aload_n 0, 1) := by decide +kernel
theorem dX8_sheet_47 : decode cX8_sheet 47 = .ok (.getfield 68, 3) := by decide +kernel
theorem dX8_sheet_50 : decode cX8_sheet 50 = .ok (.iload_n 1, 1) := by decide +kernel
theorem dX8_sheet_51 : decode cX8_sheet 51 = .ok (.iload_n 3, 1) := by decide +kernel
theorem dX8_sheet_52 : decode cX8_sheet 52 = .ok (.iastore, 1) := by decide +kernel
theorem dX8_sheet_53 : decode cX8_sheet 53 = .ok (.iconst 0, 1) := by decide +kernel
theorem dX8_sheet_54 : decode cX8_sheet 54 = .ok (.istore 4, 2) := by decide +kernel
theorem dX8_sheet_56 : decode cX8_sheet 56 = .ok (.iload 4, 2) := by decide +kernel
theorem dX8_sheet_58 : decode cX8_sheet 58 = .ok (.bipush 40, 2) := by decide +kernel
theorem dX8_sheet_60 : decode cX8_sheet 60 = .ok (.if_icmp .ge 22, 3) := by decide +kernel
theorem dX8_sheet_63 : decode cX8_sheet 63 = .ok (.aload_n 0, 1) := by decide +kernel
theorem dX8_sheet_64 : decode cX8_sheet 64 = .ok (.getfield 71, 3) := by decide +kernel
theorem dX8_sheet_67 : decode cX8_sheet 67 = .ok (.bipush 40, 2) := by decide +kernel
theorem dX8_sheet_69 : decode cX8_sheet 69 = .ok (.iload_n 1, 1) := by decide +kernel
theorem dX8_sheet_70 : decode cX8_sheet 70 = .ok (.imul, 1) := by decide +kernel
theorem dX8_sheet_71 : decode cX8_sheet 71 = .ok (.iload 4, 2) := by decide +kernel
theorem dX8_sheet_73 : decode cX8_sheet 73 = .ok (.iadd, 1) := by decide +kernel
theorem dX8_sheet_74 : decode cX8_sheet 74 = .ok (.iconst 0, 1) := by decide +kernel
theorem dX8_sheet_75 : decode cX8_sheet 75 = .ok (.iastore, 1) := by decide +kernel
theorem dX8_sheet_76 : decode cX8_sheet 76 = .ok (.iinc 4 1, 3) := by decide +kernel
theorem dX8_sheet_79 : decode cX8_sheet 79 = .ok (.goto (-23), 3) := by decide +kernel
theorem dX8_sheet_82 : decode cX8_sheet 82 = .ok (.iconst 1, 1) := by decide +kernel
theorem dX8_sheet_83 : decode cX8_sheet 83 = .ok (.ireturn, 1) := by decide +kernel
theorem dX8_lay_0 : decode cX8_lay 0 = .ok (.iload_n 1, 1) := by decide +kernel
theorem dX8_lay_1 : decode cX8_lay 1 = .ok (.i2l, 1) := by decide +kernel
theorem dX8_lay_2 : decode cX8_lay 2 = .ok (.lconst 0, 1) := by decide +kernel
theorem dX8_lay_3 : decode cX8_lay 3 = .ok (.ldc2_w 220, 3) := by decide +kernel
theorem dX8_lay_6 : decode cX8_lay 6 = .ok (.invokestatic 78, 3) := by decide +kernel
theorem dX8_lay_9 : decode cX8_lay 9 = .ok (.ifCond .ne 5, 3) := by decide +kernel
theorem dX8_lay_12 : decode cX8_lay 12 = .ok (.iconst (-1), 1) := by decide +kernel
theorem dX8_lay_13 : decode cX8_lay 13 = .ok (.ireturn, 1) := by decide +kernel
theorem dX8_lay_14 : decode cX8_lay 14 = .ok (.aload_n 0, 1) := by decide +kernel
theorem dX8_lay_15 : decode cX8_lay 15 = .ok (.getfield 65, 3) := by decide +kernel
theorem dX8_lay_18 : decode cX8_lay 18 = .ok (.iload_n 1, 1) := by decide +kernel
theorem dX8_lay_19 : decode cX8_lay 19 = .ok (.iaload, 1) := by decide +kernel
theorem dX8_lay_20 : decode cX8_lay 20 = .ok (.bipush (-4), 2) := by decide +kernel
theorem dX8_lay_22 : decode cX8_lay 22 = .ok (.if_icmp .ne 6, 3) := by decide +kernel
theorem dX8_lay_25 : decode cX8_lay 25 = .ok (.bipush (-11), 2) := by decide +kernel
theorem dX8_lay_27 : decode cX8_lay 27 = .ok (.ireturn, 1) := by decide +kernel
theorem dX8_lay_28 : decode cX8_lay 28 = .ok (.iload_n 2, 1) := by decide +kernel
theorem dX8_lay_29 : decode cX8_lay 29 = .ok (.i2l, 1) := by decide +kernel
theorem dX8_lay_30 : decode cX8_lay 30 = .ok (.lconst 0, 1) := by decide +kernel
theorem dX8_lay_31 : decode cX8_lay 31 = .ok (.aload_n 0, 1) := by decide +kernel
theorem dX8_lay_32 : decode cX8_lay 32 = .ok (.getfield 68, 3) := by decide +kernel
theorem dX8_lay_35 : decode cX8_lay 35 = .ok (.iload_n 1, 1) := by decide +kernel
theorem dX8_lay_36 : decode cX8_lay 36 = .ok (.iaload, 1) := by decide +kernel
theorem dX8_lay_37 : decode cX8_lay 37 = .ok (.iconst 1, 1) := by decide +kernel
theorem dX8_lay_38 : decode cX8_lay 38 = .ok (.isub, 1) := by decide +kernel
theorem dX8_lay_39 : decode cX8_lay 39 = .ok (.i2l, 1) := by decide +kernel
theorem dX8_lay_40 : decode cX8_lay 40 = .ok (.invokestatic 78, 3) := by decide +kernel
theorem dX8_lay_43 : decode cX8_lay 43 = .ok (.ifCond .ne 6, 3) := by decide +kernel
theorem dX8_lay_46 : decode cX8_lay 46 = .ok (.bipush (-12), 2) := by decide +kernel
theorem dX8_lay_48 : decode cX8_lay 48 = .ok (.ireturn, 1) := by decide +kernel
theorem dX8_lay_49 : decode cX8_lay 49 = .ok (.aload_n 0, 1) := by decide +kernel
theorem dX8_lay_50 : decode cX8_lay 50 = .ok (.getfield 71, 3) := by decide +kernel
theorem dX8_lay_53 : decode cX8_lay 53 = .ok (.bipush 40, 2) := by decide +kernel
theorem dX8_lay_55 : decode cX8_lay 55 = .ok (.iload_n 1, 1) := by decide +kernel
theorem dX8_lay_56 : decode cX8_lay 56 = .ok (.imul, 1) := by decide +kernel
theorem dX8_lay_57 : decode cX8_lay 57 = .ok (.iload_n 2, 1) := by decide +kernel
theorem dX8_lay_58 : decode cX8_lay 58 = .ok (.iadd, 1) := by decide +kernel
theorem dX8_lay_59 : decode cX8_lay 59 = .ok (.aload_n 0, 1) := by decide +kernel
theorem dX8_lay_60 : decode cX8_lay 60 = .ok (.getfield 65, 3) := by decide +kernel
theorem dX8_lay_63 : decode cX8_lay 63 = .ok (.iload_n 1, 1) := by decide +kernel
theorem dX8_lay_64 : decode cX8_lay 64 = .ok (.iaload, 1) := by decide +kernel
theorem dX8_lay_65 : decode cX8_lay 65 = .ok (.ifCond .ne 13, 3) := by decide +kernel
theorem dX8_lay_68 : decode cX8_lay 68 = .ok (.iload_n 3, 1) := by decide +kernel
theorem dX8_lay_69 : decode cX8_lay 69 = .ok (.bipush 24, 2) := by decide +kernel
theorem dX8_lay_71 : decode cX8_lay 71 = .ok (.ishl, 1) := by decide +kernel
theorem dX8_lay_72 : decode cX8_lay 72 = .ok (.bipush 24, 2) := by decide +kernel
theorem dX8_lay_74 : decode cX8_lay 74 = .ok (.ishr, 1) := by decide +kernel
theorem dX8_lay_75 : decode cX8_lay 75 = .ok (.goto 24, 3) := by decide +kernel
theorem dX8_lay_78 : decode cX8_lay 78 = .ok (.aload_n 0, 1) := by decide +kernel
theorem dX8_lay_79 : decode cX8_lay 79 = .ok (.getfield 65, 3) := by decide +kernel
theorem dX8_lay_82 : decode cX8_lay 82 = .ok (.iload_n 1, 1) := by decide +kernel
theorem dX8_lay_83 : decode cX8_lay 83 = .ok (.iaload, 1) := by decide +kernel
theorem dX8_lay_84 : decode cX8_lay 84 = .ok (.iconst 1, 1) := by decide +kernel
theorem dX8_lay_85 : decode cX8_lay 85 = .ok (.if_icmp .ne 13, 3) := by decide +kernel
theorem dX8_lay_88 : decode cX8_lay 88 = .ok (.iload_n 3, 1) := by decide +kernel
theorem dX8_lay_89 : decode cX8_lay 89 = .ok (.bipush 16, 2) := by decide +kernel
theorem dX8_lay_91 : decode cX8_lay 91 = .ok (.ishl, 1) := by decide +kernel
theorem dX8_lay_92 : decode cX8_lay 92 = .ok (.bipush 16, 2) := by decide +kernel
theorem dX8_lay_94 : decode cX8_lay 94 = .ok (.ishr, 1) := by decide +kernel
theorem dX8_lay_95 : decode cX8_lay 95 = .ok (.goto 4, 3) := by decide +kernel
theorem dX8_lay_98 : decode cX8_lay 98 = .ok (.iload_n 3, 1) := by decide +kernel
theorem dX8_lay_99 : decode cX8_lay 99 = .ok (.iastore, 1) := by decide +kernel
theorem dX8_lay_100 : decode cX8_lay 100 = .ok (.iconst 1, 1) := by decide +kernel
theorem dX8_lay_101 : decode cX8_lay 101 = .ok (.ireturn, 1) := by decide +kernel
theorem dX8_read_0 : decode cX8_read 0 = .ok (.aload_n 0, 1) := by decide +kernel
theorem dX8_read_1 : decode cX8_read 1 = .ok (.invokevirtual 190, 3) := by decide +kernel
theorem dX8_read_4 : decode cX8_read 4 = .ok (.iload_n 1, 1) := by decide +kernel
theorem dX8_read_5 : decode cX8_read 5 = .ok (.i2l, 1) := by decide +kernel
theorem dX8_read_6 : decode cX8_read 6 = .ok (.lconst 0, 1) := by decide +kernel
theorem dX8_read_7 : decode cX8_read 7 = .ok (.ldc2_w 220, 3) := by decide +kernel
theorem dX8_read_10 : decode cX8_read 10 = .ok (.invokestatic 78, 3) := by decide +kernel
theorem dX8_read_13 : decode cX8_read 13 = .ok (.ifCond .eq 28, 3) := by decide +kernel
theorem dX8_read_16 : decode cX8_read 16 = .ok (.iload_n 2, 1) := by decide +kernel
theorem dX8_read_17 : decode cX8_read 17 = .ok (.i2l, 1) := by decide +kernel
theorem dX8_read_18 : decode cX8_read 18 = .ok (.lconst 0, 1) := by decide +kernel
theorem dX8_read_19 : decode cX8_read 19 = .ok (.ldc2_w 228, 3) := by decide +kernel
theorem dX8_read_22 : decode cX8_read 22 = .ok (.invokestatic 78, 3) := by decide +kernel
theorem dX8_read_25 : decode cX8_read 25 = .ok (.ifCond .eq 16, 3) := by decide +kernel
theorem dX8_read_28 : decode cX8_read 28 = .ok (.iload 4, 2) := by decide +kernel
theorem dX8_read_30 : decode cX8_read 30 = .ok (.i2l, 1) := by decide +kernel
theorem dX8_read_31 : decode cX8_read 31 = .ok (.lconst 0, 1) := by decide +kernel
theorem dX8_read_32 : decode cX8_read 32 = .ok (.ldc2_w 270, 3) := by decide +kernel
theorem dX8_read_35 : decode cX8_read 35 = .ok (.invokestatic 78, 3) := by decide +kernel
theorem dX8_read_38 : decode cX8_read 38 = .ok (.ifCond .ne 5, 3) := by decide +kernel
theorem dX8_read_41 : decode cX8_read 41 = .ok (.iconst (-1), 1) := by decide +kernel
theorem dX8_read_42 : decode cX8_read 42 = .ok (.ireturn, 1) := by decide +kernel
theorem dX8_read_43 : decode cX8_read 43 = .ok (.iconst 0, 1) := by decide +kernel
theorem dX8_read_44 : decode cX8_read 44 = .ok (.istore 5, 2) := by decide +kernel
theorem dX8_read_46 : decode cX8_read 46 = .ok (.iconst 0, 1) := by decide +kernel
theorem dX8_read_47 : decode cX8_read 47 = .ok (.istore 6, 2) := by decide +kernel
theorem dX8_read_49 : decode cX8_read 49 = .ok (.iconst 0, 1) := by decide +kernel
theorem dX8_read_50 : decode cX8_read 50 = .ok (.istore 7, 2) := by decide +kernel
theorem dX8_read_52 : decode cX8_read 52 = .ok (.iload 7, 2) := by decide +kernel
theorem dX8_read_54 : decode cX8_read 54 = .ok (.iconst 2, 1) := by decide +kernel
theorem dX8_read_55 : decode cX8_read 55 = .ok (.iload 4, 2) := by decide +kernel
theorem dX8_read_57 : decode cX8_read 57 = .ok (.imul, 1) := by decide +kernel
theorem dX8_read_58 : decode cX8_read 58 = .ok (.if_icmp .ge 140, 3) := by decide +kernel
theorem dX8_read_61 : decode cX8_read 61 = .ok (.iload 5, 2) := by decide +kernel
theorem dX8_read_63 : decode cX8_read 63 = .ok (.ifCond .ne 135, 3) := by decide +kernel
theorem dX8_read_66 : decode cX8_read 66 = .ok (.aload_n 0, 1) := by decide +kernel
theorem dX8_read_67 : decode cX8_read 67 = .ok (.getfield 65, 3) := by decide +kernel
theorem dX8_read_70 : decode cX8_read 70 = .ok (.iload_n 1, 1) := by decide +kernel
theorem dX8_read_71 : decode cX8_read 71 = .ok (.iaload, 1) := by decide +kernel
theorem dX8_read_72 : decode cX8_read 72 = .ok (.bipush (-4), 2) := by decide +kernel
theorem dX8_read_74 : decode cX8_read 74 = .ok (.if_icmp .ne 7, 3) := by decide +kernel
theorem dX8_read_77 : decode cX8_read 77 = .ok (.iconst 1, 1) := by decide +kernel
theorem dX8_read_78 : decode cX8_read 78 = .ok (.goto 44, 3) := by decide +kernel
theorem dX8_read_81 : decode cX8_read 81 = .ok (.aload_n 0, 1) := by decide +kernel
theorem dX8_read_82 : decode cX8_read 82 = .ok (.getfield 65, 3) := by decide +kernel
theorem dX8_read_85 : decode cX8_read 85 = .ok (.iload_n 1, 1) := by decide +kernel
theorem dX8_read_86 : decode cX8_read 86 = .ok (.iaload, 1) := by decide +kernel
theorem dX8_read_87 : decode cX8_read 87 = .ok (.iload_n 2, 1) := by decide +kernel
theorem dX8_read_88 : decode cX8_read 88 = .ok (.if_icmp .eq 7, 3) := by decide +kernel
theorem dX8_read_91 : decode cX8_read 91 = .ok (.iconst 3, 1) := by decide +kernel
theorem dX8_read_92 : decode cX8_read 92 = .ok (.goto 30, 3) := by decide +kernel
theorem dX8_read_95 : decode cX8_read 95 = .ok (.iload_n 3, 1) := by decide +kernel
theorem dX8_read_96 : decode cX8_read 96 = .ok (.i2l, 1) := by decide +kernel
theorem dX8_read_97 : decode cX8_read 97 = .ok (.iload 7, 2) := by decide +kernel
theorem dX8_read_99 : decode cX8_read 99 = .ok (.i2l, 1) := by decide +kernel
theorem dX8_read_100 : decode cX8_read 100 = .ok (.ladd, 1) := by decide +kernel
theorem dX8_read_101 : decode cX8_read 101 = .ok (.lconst 0, 1) := by decide +kernel
theorem dX8_read_102 : decode cX8_read 102 = .ok (.aload_n 0, 1) := by decide +kernel
theorem dX8_read_103 : decode cX8_read 103 = .ok (.getfield 68, 3) := by decide +kernel
theorem dX8_read_106 : decode cX8_read 106 = .ok (.iload_n 1, 1) := by decide +kernel
theorem dX8_read_107 : decode cX8_read 107 = .ok (.iaload, 1) := by decide +kernel
theorem dX8_read_108 : decode cX8_read 108 = .ok (.iconst 1, 1) := by decide +kernel
theorem dX8_read_109 : decode cX8_read 109 = .ok (.isub, 1) := by decide +kernel
theorem dX8_read_110 : decode cX8_read 110 = .ok (.i2l, 1) := by decide +kernel
theorem dX8_read_111 : decode cX8_read 111 = .ok (.invokestatic 78, 3) := by decide +kernel
theorem dX8_read_114 : decode cX8_read 114 = .ok (.ifCond .ne 7, 3) := by decide +kernel
theorem dX8_read_117 : decode cX8_read 117 = .ok (.iconst 2, 1) := by decide +kernel
theorem dX8_read_118 : decode cX8_read 118 = .ok (.goto 4, 3) := by decide +kernel
theorem dX8_read_121 : decode cX8_read 121 = .ok (.iconst 0, 1) := by decide +kernel
theorem dX8_read_122 : decode cX8_read 122 = .ok (.istore 5, 2) := by decide +kernel
theorem dX8_read_124 : decode cX8_read 124 = .ok (.iload 5, 2) := by decide +kernel
theorem dX8_read_126 : decode cX8_read 126 = .ok (.ifCond .ne 66, 3) := by decide +kernel
theorem dX8_read_129 : decode cX8_read 129 = .ok (.iload 7, 2) := by decide +kernel
theorem dX8_read_131 : decode cX8_read 131 = .ok (.iconst 2, 1) := by decide +kernel
theorem dX8_read_132 : decode cX8_read 132 = .ok (.irem, 1) := by decide +kernel
theorem dX8_read_133 : decode cX8_read 133 = .ok (.iconst 1, 1) := by decide +kernel
theorem dX8_read_134 : decode cX8_read 134 = .ok (.if_icmp .ne 58, 3) := by decide +kernel
theorem dX8_read_137 : decode cX8_read 137 = .ok (.bipush 40, 2) := by decide +kernel
theorem dX8_read_139 : decode cX8_read 139 = .ok (.iload_n 1, 1) := by decide +kernel
theorem dX8_read_140 : decode cX8_read 140 = .ok (.imul, 1) := by decide +kernel
theorem dX8_read_141 : decode cX8_read 141 = .ok (.iload_n 3, 1) := by decide +kernel
theorem dX8_read_142 : decode cX8_read 142 = .ok (.iadd, 1) := by decide +kernel
theorem dX8_read_143 : decode cX8_read 143 = .ok (.iload 7, 2) := by decide +kernel
theorem dX8_read_145 : decode cX8_read 145 = .ok (.iadd, 1) := by decide +kernel
theorem dX8_read_146 : decode cX8_read 146 = .ok (.iconst 1, 1) := by decide +kernel
theorem dX8_read_147 : decode cX8_read 147 = .ok (.isub, 1) := by decide +kernel
theorem dX8_read_148 : decode cX8_read 148 = .ok (.istore 8, 2) := by decide +kernel
theorem dX8_read_150 : decode cX8_read 150 = .ok (.aload_n 0, 1) := by decide +kernel
theorem dX8_read_151 : decode cX8_read 151 = .ok (.getfield 71, 3) := by decide +kernel
theorem dX8_read_154 : decode cX8_read 154 = .ok (.iload 8, 2) := by decide +kernel
theorem dX8_read_156 : decode cX8_read 156 = .ok (.iaload, 1) := by decide +kernel
theorem dX8_read_157 : decode cX8_read 157 = .ok (.i2l, 1) := by decide +kernel
theorem dX8_read_158 : decode cX8_read 158 = .ok (.lconst 1, 1) := by decide +kernel
theorem dX8_read_159 : decode cX8_read 159 = .ok (.ldc2_w 182, 3) := by decide +kernel
theorem dX8_read_162 : decode cX8_read 162 = .ok (.invokestatic 78, 3) := by decide +kernel
theorem dX8_read_165 : decode cX8_read 165 = .ok (.ifCond .eq 18, 3) := by decide +kernel
theorem dX8_read_168 : decode cX8_read 168 = .ok (.aload_n 0, 1) := by decide +kernel
theorem dX8_read_169 : decode cX8_read 169 = .ok (.getfield 71, 3) := by decide +kernel
theorem dX8_read_172 : decode cX8_read 172 = .ok (.iload 8, 2) := by decide +kernel
theorem dX8_read_174 : decode cX8_read 174 = .ok (.iconst 1, 1) := by decide +kernel
theorem dX8_read_175 : decode cX8_read 175 = .ok (.iadd, 1) := by decide +kernel
theorem dX8_read_176 : decode cX8_read 176 = .ok (.iaload, 1) := by decide +kernel
theorem dX8_read_177 : decode cX8_read 177 = .ok (.invokestatic 193, 3) := by decide +kernel
theorem dX8_read_180 : decode cX8_read 180 = .ok (.ifCond .ne 9, 3) := by decide +kernel
theorem dX8_read_183 : decode cX8_read 183 = .ok (.bipush (-20), 2) := by decide +kernel
theorem dX8_read_185 : decode cX8_read 185 = .ok (.iload 6, 2) := by decide +kernel
theorem dX8_read_187 : decode cX8_read 187 = .ok (.isub, 1) := by decide +kernel
theorem dX8_read_188 : decode cX8_read 188 = .ok (.ireturn, 1) := by decide +kernel
theorem dX8_read_189 : decode cX8_read 189 = .ok (.iinc 6 1, 3) := by decide +kernel
theorem dX8_read_192 : decode cX8_read 192 = .ok (.iinc 7 1, 3) := by decide +kernel
theorem dX8_read_195 : decode cX8_read 195 = .ok (.goto (-143), 3) := by decide +kernel
theorem dX8_read_198 : decode cX8_read 198 = .ok (.iconst 0, 1) := by decide +kernel
theorem dX8_read_199 : decode cX8_read 199 = .ok (.istore 7, 2) := by decide +kernel
theorem dX8_read_201 : decode cX8_read 201 = .ok (.iload 7, 2) := by decide +kernel
theorem dX8_read_203 : decode cX8_read 203 = .ok (.iload 6, 2) := by decide +kernel
theorem dX8_read_205 : decode cX8_read 205 = .ok (.if_icmp .ge 58, 3) := by decide +kernel
theorem dX8_read_208 : decode cX8_read 208 = .ok (.bipush 40, 2) := by decide +kernel
theorem dX8_read_210 : decode cX8_read 210 = .ok (.iload_n 1, 1) := by decide +kernel
theorem dX8_read_211 : decode cX8_read 211 = .ok (.imul, 1) := by decide +kernel
theorem dX8_read_212 : decode cX8_read 212 = .ok (.iload_n 3, 1) := by decide +kernel
theorem dX8_read_213 : decode cX8_read 213 = .ok (.iadd, 1) := by decide +kernel
theorem dX8_read_214 : decode cX8_read 214 = .ok (.iconst 2, 1) := by decide +kernel
theorem dX8_read_215 : decode cX8_read 215 = .ok (.iload 7, 2) := by decide +kernel
theorem dX8_read_217 : decode cX8_read 217 = .ok (.imul, 1) := by decide +kernel
theorem dX8_read_218 : decode cX8_read 218 = .ok (.iadd, 1) := by decide +kernel
theorem dX8_read_219 : decode cX8_read 219 = .ok (.istore 8, 2) := by decide +kernel
theorem dX8_read_221 : decode cX8_read 221 = .ok (.iconst 0, 1) := by decide +kernel
theorem dX8_read_222 : decode cX8_read 222 = .ok (.istore 9, 2) := by decide +kernel
theorem dX8_read_224 : decode cX8_read 224 = .ok (.iload 9, 2) := by decide +kernel
theorem dX8_read_226 : decode cX8_read 226 = .ok (.aload_n 0, 1) := by decide +kernel
theorem dX8_read_227 : decode cX8_read 227 = .ok (.getfield 71, 3) := by decide +kernel
theorem dX8_read_230 : decode cX8_read 230 = .ok (.iload 8, 2) := by decide +kernel
theorem dX8_read_232 : decode cX8_read 232 = .ok (.iaload, 1) := by decide +kernel
theorem dX8_read_233 : decode cX8_read 233 = .ok (.if_icmp .ge 24, 3) := by decide +kernel
theorem dX8_read_236 : decode cX8_read 236 = .ok (.aload_n 0, 1) := by decide +kernel
theorem dX8_read_237 : decode cX8_read 237 = .ok (.iconst 0, 1) := by decide +kernel
theorem dX8_read_238 : decode cX8_read 238 = .ok (.aload_n 0, 1) := by decide +kernel
theorem dX8_read_239 : decode cX8_read 239 = .ok (.getfield 71, 3) := by decide +kernel
theorem dX8_read_242 : decode cX8_read 242 = .ok (.iload 8, 2) := by decide +kernel
theorem dX8_read_244 : decode cX8_read 244 = .ok (.iconst 1, 1) := by decide +kernel
theorem dX8_read_245 : decode cX8_read 245 = .ok (.iadd, 1) := by decide +kernel
theorem dX8_read_246 : decode cX8_read 246 = .ok (.iaload, 1) := by decide +kernel
theorem dX8_read_247 : decode cX8_read 247 = .ok (.invokevirtual 196, 3) := by decide +kernel
theorem dX8_read_250 : decode cX8_read 250 = .ok (.pop, 1) := by decide +kernel
theorem dX8_read_251 : decode cX8_read 251 = .ok (.iinc 9 1, 3) := by decide +kernel
theorem dX8_read_254 : decode cX8_read 254 = .ok (.goto (-30), 3) := by decide +kernel
theorem dX8_read_257 : decode cX8_read 257 = .ok (.iinc 7 1, 3) := by decide +kernel
theorem dX8_read_260 : decode cX8_read 260 = .ok (.goto (-59), 3) := by decide +kernel
theorem dX8_read_263 : decode cX8_read 263 = .ok (.aload_n 0, 1) := by decide +kernel
theorem dX8_read_264 : decode cX8_read 264 = .ok (.iload 5, 2) := by decide +kernel
theorem dX8_read_266 : decode cX8_read 266 = .ok (.putfield 272, 3) := by decide +kernel
theorem dX8_read_269 : decode cX8_read 269 = .ok (.iload 6, 2) := by decide +kernel
theorem dX8_read_271 : decode cX8_read 271 = .ok (.ireturn, 1) := by decide +kernel
theorem dX8_torn_0 : decode cX8_torn 0 = .ok (.aload_n 0, 1) := by decide +kernel
theorem dX8_torn_1 : decode cX8_torn 1 = .ok (.getfield 272, 3) := by decide +kernel
theorem dX8_torn_4 : decode cX8_torn 4 = .ok (.ireturn, 1) := by decide +kernel
theorem dX8_count_0 : decode cX8_count 0 = .ok (.iload_n 1, 1) := by decide +kernel
theorem dX8_count_1 : decode cX8_count 1 = .ok (.tableswitch 103 0 4 #[35, 40, 45, 75, 80], 35) := by decide +kernel
theorem dX8_count_36 : decode cX8_count 36 = .ok (.aload_n 0, 1) := by decide +kernel
theorem dX8_count_37 : decode cX8_count 37 = .ok (.getfield 139, 3) := by decide +kernel
theorem dX8_count_40 : decode cX8_count 40 = .ok (.ireturn, 1) := by decide +kernel
theorem dX8_count_41 : decode cX8_count 41 = .ok (.aload_n 0, 1) := by decide +kernel
theorem dX8_count_42 : decode cX8_count 42 = .ok (.getfield 142, 3) := by decide +kernel
theorem dX8_count_45 : decode cX8_count 45 = .ok (.ireturn, 1) := by decide +kernel
theorem dX8_count_46 : decode cX8_count 46 = .ok (.aload_n 0, 1) := by decide +kernel
theorem dX8_count_47 : decode cX8_count 47 = .ok (.getfield 61, 3) := by decide +kernel
theorem dX8_count_50 : decode cX8_count 50 = .ok (.iconst 0, 1) := by decide +kernel
theorem dX8_count_51 : decode cX8_count 51 = .ok (.baload, 1) := by decide +kernel
theorem dX8_count_52 : decode cX8_count 52 = .ok (.ifCond .eq 7, 3) := by decide +kernel
theorem dX8_count_55 : decode cX8_count 55 = .ok (.iconst 1, 1) := by decide +kernel
theorem dX8_count_56 : decode cX8_count 56 = .ok (.goto 4, 3) := by decide +kernel
theorem dX8_count_59 : decode cX8_count 59 = .ok (.iconst 0, 1) := by decide +kernel
theorem dX8_count_60 : decode cX8_count 60 = .ok (.aload_n 0, 1) := by decide +kernel
theorem dX8_count_61 : decode cX8_count 61 = .ok (.getfield 61, 3) := by decide +kernel
theorem dX8_count_64 : decode cX8_count 64 = .ok (.iconst 1, 1) := by decide +kernel
theorem dX8_count_65 : decode cX8_count 65 = .ok (.baload, 1) := by decide +kernel
theorem dX8_count_66 : decode cX8_count 66 = .ok (.ifCond .eq 7, 3) := by decide +kernel
theorem dX8_count_69 : decode cX8_count 69 = .ok (.iconst 1, 1) := by decide +kernel
theorem dX8_count_70 : decode cX8_count 70 = .ok (.goto 4, 3) := by decide +kernel
theorem dX8_count_73 : decode cX8_count 73 = .ok (.iconst 0, 1) := by decide +kernel
theorem dX8_count_74 : decode cX8_count 74 = .ok (.iadd, 1) := by decide +kernel
theorem dX8_count_75 : decode cX8_count 75 = .ok (.ireturn, 1) := by decide +kernel
theorem dX8_count_76 : decode cX8_count 76 = .ok (.aload_n 0, 1) := by decide +kernel
theorem dX8_count_77 : decode cX8_count 77 = .ok (.getfield 74, 3) := by decide +kernel
theorem dX8_count_80 : decode cX8_count 80 = .ok (.ireturn, 1) := by decide +kernel
theorem dX8_count_81 : decode cX8_count 81 = .ok (.aload_n 0, 1) := by decide +kernel
theorem dX8_count_82 : decode cX8_count 82 = .ok (.getfield 65, 3) := by decide +kernel
theorem dX8_count_85 : decode cX8_count 85 = .ok (.iconst 0, 1) := by decide +kernel
theorem dX8_count_86 : decode cX8_count 86 = .ok (.iaload, 1) := by decide +kernel
theorem dX8_count_87 : decode cX8_count 87 = .ok (.bipush (-4), 2) := by decide +kernel
theorem dX8_count_89 : decode cX8_count 89 = .ok (.if_icmp .ne 8, 3) := by decide +kernel
theorem dX8_count_92 : decode cX8_count 92 = .ok (.bipush (-4), 2) := by decide +kernel
theorem dX8_count_94 : decode cX8_count 94 = .ok (.goto 9, 3) := by decide +kernel
theorem dX8_count_97 : decode cX8_count 97 = .ok (.aload_n 0, 1) := by decide +kernel
theorem dX8_count_98 : decode cX8_count 98 = .ok (.getfield 68, 3) := by decide +kernel
theorem dX8_count_101 : decode cX8_count 101 = .ok (.iconst 0, 1) := by decide +kernel
theorem dX8_count_102 : decode cX8_count 102 = .ok (.iaload, 1) := by decide +kernel
theorem dX8_count_103 : decode cX8_count 103 = .ok (.ireturn, 1) := by decide +kernel
theorem dX8_count_104 : decode cX8_count 104 = .ok (.iconst (-1), 1) := by decide +kernel
theorem dX8_count_105 : decode cX8_count 105 = .ok (.ireturn, 1) := by decide +kernel
