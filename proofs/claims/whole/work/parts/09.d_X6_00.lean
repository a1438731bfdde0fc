theorem dX6_init_0 : decode cX6_init 0 = .ok (.aload_n 0, 1) := by decide +kernel
theorem dX6_init_1 : decode cX6_init 1 = .ok (.invokespecial 1, 3) := by decide +kernel
theorem dX6_init_4 : decode cX6_init 4 = .ok (.aload_n 0, 1) := by decide +kernel
theorem dX6_init_5 : decode cX6_init 5 = .ok (.bipush 56, 2) := by decide +kernel
theorem dX6_init_7 : decode cX6_init 7 = .ok (.newarray .int, 2) := by decide +kernel
theorem dX6_init_9 : decode cX6_init 9 = .ok (.dup, 1) := by decide +kernel
theorem dX6_init_10 : decode cX6_init 10 = .ok (.iconst 0, 1) := by decide +kernel
theorem dX6_init_11 : decode cX6_init 11 = .ok (.bipush 114, 2) := by decide +kernel
theorem dX6_init_13 : decode cX6_init 13 = .ok (.iastore, 1) := by decide +kernel
theorem dX6_init_14 : decode cX6_init 14 = .ok (.dup, 1) := by decide +kernel
theorem dX6_init_15 : decode cX6_init 15 = .ok (.iconst 1, 1) := by decide +kernel
theorem dX6_init_16 : decode cX6_init 16 = .ok (.bipush 97, 2) := by decide +kernel
theorem dX6_init_18 : decode cX6_init 18 = .ok (.iastore, 1) := by decide +kernel
theorem dX6_init_19 : decode cX6_init 19 = .ok (.dup, 1) := by decide +kernel
theorem dX6_init_20 : decode cX6_init 20 = .ok (.iconst 2, 1) := by decide +kernel
theorem dX6_init_21 : decode cX6_init 21 = .ok (.bipush 105, 2) := by decide +kernel
theorem dX6_init_23 : decode cX6_init 23 = .ok (.iastore, 1) := by decide +kernel
theorem dX6_init_24 : decode cX6_init 24 = .ok (.dup, 1) := by decide +kernel
theorem dX6_init_25 : decode cX6_init 25 = .ok (.iconst 3, 1) := by decide +kernel
theorem dX6_init_26 : decode cX6_init 26 = .ok (.bipush 108, 2) := by decide +kernel
theorem dX6_init_28 : decode cX6_init 28 = .ok (.iastore, 1) := by decide +kernel
theorem dX6_init_29 : decode cX6_init 29 = .ok (.dup, 1) := by decide +kernel
theorem dX6_init_30 : decode cX6_init 30 = .ok (.iconst 4, 1) := by decide +kernel
theorem dX6_init_31 : decode cX6_init 31 = .ok (.bipush 119, 2) := by decide +kernel
theorem dX6_init_33 : decode cX6_init 33 = .ok (.iastore, 1) := by decide +kernel
theorem dX6_init_34 : decode cX6_init 34 = .ok (.dup, 1) := by decide +kernel
theorem dX6_init_35 : decode cX6_init 35 = .ok (.iconst 5, 1) := by decide +kernel
theorem dX6_init_36 : decode cX6_init 36 = .ok (.bipush 97, 2) := by decide +kernel
theorem dX6_init_38 : decode cX6_init 38 = .ok (.iastore, 1) := by decide +kernel
theorem dX6_init_39 : decode cX6_init 39 = .ok (.dup, 1) := by decide +kernel
theorem dX6_init_40 : decode cX6_init 40 = .ok (.bipush 6, 2) := by decide +kernel
theorem dX6_init_42 : decode cX6_init 42 = .ok (.bipush 121, 2) := by decide +kernel
theorem dX6_init_44 : decode cX6_init 44 = .ok (.iastore, 1) := by decide +kernel
theorem dX6_init_45 : decode cX6_init 45 = .ok (.dup, 1) := by decide +kernel
theorem dX6_init_46 : decode cX6_init 46 = .ok (.bipush 7, 2) := by decide +kernel
theorem dX6_init_48 : decode cX6_init 48 = .ok (.bipush 98, 2) := by decide +kernel
theorem dX6_init_50 : decode cX6_init 50 = .ok (.iastore, 1) := by decide +kernel
theorem dX6_init_51 : decode cX6_init 51 = .ok (.dup, 1) := by decide +kernel
theorem dX6_init_52 : decode cX6_init 52 = .ok (.bipush 8, 2) := by decide +kernel
theorem dX6_init_54 : decode cX6_init 54 = .ok (.bipush 108, 2) := by decide +kernel
theorem dX6_init_56 : decode cX6_init 56 = .ok (.iastore, 1) := by decide +kernel
theorem dX6_init_57 : decode cX6_init 57 = .ok (.dup, 1) := by decide +kernel
theorem dX6_init_58 : decode cX6_init 58 = .ok (.bipush 9, 2) := by decide +kernel
theorem dX6_init_60 : decode cX6_init 60 = .ok (.bipush 111, 2) := by decide +kernel
theorem dX6_init_62 : decode cX6_init 62 = .ok (.iastore, 1) := by decide +kernel
theorem dX6_init_63 : decode cX6_init 63 = .ok (.dup, 1) := by decide +kernel
theorem dX6_init_64 : decode cX6_init 64 = .ok (.bipush 10, 2) := by decide +kernel
theorem dX6_init_66 : decode cX6_init 66 = .ok (.bipush 99, 2) := by decide +kernel
theorem dX6_init_68 : decode cX6_init 68 = .ok (.iastore, 1) := by decide +kernel
theorem dX6_init_69 : decode cX6_init 69 = .ok (.dup, 1) := by decide +kernel
theorem dX6_init_70 : decode cX6_init 70 = .ok (.bipush 11, 2) := by decide +kernel
theorem dX6_init_72 : decode cX6_init 72 = .ok (.bipush 107, 2) := by decide +kernel
theorem dX6_init_74 : decode cX6_init 74 = .ok (.iastore, 1) := by decide +kernel
theorem dX6_init_75 : decode cX6_init 75 = .ok (.dup, 1) := by decide +kernel
theorem dX6_init_76 : decode cX6_init 76 = .ok (.bipush 12, 2) := by decide +kernel
theorem dX6_init_78 : decode cX6_init 78 = .ok (.iconst 0, 1) := by decide +kernel
theorem dX6_init_79 : decode cX6_init 79 = .ok (.iastore, 1) := by decide +kernel
theorem dX6_init_80 : decode cX6_init 80 = .ok (.dup, 1) := by decide +kernel
theorem dX6_init_81 : decode cX6_init 81 = .ok (.bipush 13, 2) := by decide +kernel
theorem dX6_init_83 : decode cX6_init 83 = .ok (.iconst 0, 1) := by decide +kernel
theorem dX6_init_84 : decode cX6_init 84 = .ok (.iastore, 1) := by decide +kernel
theorem dX6_init_85 : decode cX6_init 85 = .ok (.dup, 1) := by decide +kernel
theorem dX6_init_86 : decode cX6_init 86 = .ok (.bipush 14, 2) := by decide +kernel
theorem dX6_init_88 : decode cX6_init 88 = .ok (.bipush 98, 2) := by decide +kernel
theorem dX6_init_90 : decode cX6_init 90 = .ok (.iastore, 1) := by decide +kernel
theorem dX6_init_91 : decode cX6_init 91 = .ok (.dup, 1) := by decide +kernel
theorem dX6_init_92 : decode cX6_init 92 = .ok (.bipush 15, 2) := by decide +kernel
theorem dX6_init_94 : decode cX6_init 94 = .ok (.bipush 101, 2) := by decide +kernel
theorem dX6_init_96 : decode cX6_init 96 = .ok (.iastore, 1) := by decide +kernel
theorem dX6_init_97 : decode cX6_init 97 = .ok (.dup, 1) := by decide +kernel
theorem dX6_init_98 : decode cX6_init 98 = .ok (.bipush 16, 2) := by decide +kernel
theorem dX6_init_100 : decode cX6_init 100 = .ok (.bipush 110, 2) := by decide +kernel
theorem dX6_init_102 : decode cX6_init 102 = .ok (.iastore, 1) := by decide +kernel
theorem dX6_init_103 : decode cX6_init 103 = .ok (.dup, 1) := by decide +kernel
theorem dX6_init_104 : decode cX6_init 104 = .ok (.bipush 17, 2) := by decide +kernel
theorem dX6_init_106 : decode cX6_init 106 = .ok (.bipush 100, 2) := by decide +kernel
theorem dX6_init_108 : decode cX6_init 108 = .ok (.iastore, 1) := by decide +kernel
theorem dX6_init_109 : decode cX6_init 109 = .ok (.dup, 1) := by decide +kernel
theorem dX6_init_110 : decode cX6_init 110 = .ok (.bipush 18, 2) := by decide +kernel
theorem dX6_init_112 : decode cX6_init 112 = .ok (.iconst 0, 1) := by decide +kernel
theorem dX6_init_113 : decode cX6_init 113 = .ok (.iastore, 1) := by decide +kernel
theorem dX6_init_114 : decode cX6_init 114 = .ok (.dup, 1) := by decide +kernel
theorem dX6_init_115 : decode cX6_init 115 = .ok (.bipush 19, 2) := by decide +kernel
theorem dX6_init_117 : decode cX6_init 117 = .ok (.iconst 0, 1) := by decide +kernel
theorem dX6_init_118 : decode cX6_init 118 = .ok (.iastore, 1) := by decide +kernel
theorem dX6_init_119 : decode cX6_init 119 = .ok (.dup, 1) := by decide +kernel
theorem dX6_init_120 : decode cX6_init 120 = .ok (.bipush 20, 2) := by decide +kernel
theorem dX6_init_122 : decode cX6_init 122 = .ok (.iconst 0, 1) := by decide +kernel
theorem dX6_init_123 : decode cX6_init 123 = .ok (.iastore, 1) := by decide +kernel
theorem dX6_init_124 : decode cX6_init 124 = .ok (.dup, 1) := by decide +kernel
theorem dX6_init_125 : decode cX6_init 125 = .ok (.bipush 21, 2) := by decide +kernel
theorem dX6_init_127 : decode cX6_init 127 = .ok (.bipush 116, 2) := by decide +kernel
theorem dX6_init_129 : decode cX6_init 129 = .ok (.iastore, 1) := by decide +kernel
theorem dX6_init_130 : decode cX6_init 130 = .ok (.dup, 1) := by decide +kernel
theorem dX6_init_131 : decode cX6_init 131 = .ok (.bipush 22, 2) := by decide +kernel
theorem dX6_init_133 : decode cX6_init 133 = .ok (.bipush 114, 2) := by decide +kernel
theorem dX6_init_135 : decode cX6_init 135 = .ok (.iastore, 1) := by decide +kernel
theorem dX6_init_136 : decode cX6_init 136 = .ok (.dup, 1) := by decide +kernel
theorem dX6_init_137 : decode cX6_init 137 = .ok (.bipush 23, 2) := by decide +kernel
theorem dX6_init_139 : decode cX6_init 139 = .ok (.bipush 97, 2) := by decide +kernel
theorem dX6_init_141 : decode cX6_init 141 = .ok (.iastore, 1) := by decide +kernel
theorem dX6_init_142 : decode cX6_init 142 = .ok (.dup, 1) := by decide +kernel
theorem dX6_init_143 : decode cX6_init 143 = .ok (.bipush 24, 2) := by decide +kernel
theorem dX6_init_145 : decode cX6_init 145 = .ok (.bipush 105, 2) := by decide +kernel
theorem dX6_init_147 : decode cX6_init 147 = .ok (.iastore, 1) := by decide +kernel
theorem dX6_init_148 : decode cX6_init 148 = .ok (.dup, 1) := by decide +kernel
theorem dX6_init_149 : decode cX6_init 149 = .ok (.bipush 25, 2) := by decide +kernel
theorem dX6_init_151 : decode cX6_init 151 = .ok (.bipush 110, 2) := by decide +kernel
theorem dX6_init_153 : decode cX6_init 153 = .ok (.iastore, 1) := by decide +kernel
theorem dX6_init_154 : decode cX6_init 154 = .ok (.dup, 1) := by decide +kernel
theorem dX6_init_155 : decode cX6_init 155 = .ok (.bipush 26, 2) := by decide +kernel
theorem dX6_init_157 : decode cX6_init 157 = .ok (.iconst 0, 1) := by decide +kernel
theorem dX6_init_158 : decode cX6_init 158 = .ok (.iastore, 1) := by decide +kernel
theorem dX6_init_159 : decode cX6_init 159 = .ok (.dup, 1) := by decide +kernel
theorem dX6_init_160 : decode cX6_init 160 = .ok (.bipush 27, 2) := by decide +kernel
theorem dX6_init_162 : decode cX6_init 162 = .ok (.iconst 0, 1) := by decide +kernel
theorem dX6_init_163 : decode cX6_init 163 = .ok (.iastore, 1) := by decide +kernel
theorem dX6_init_164 : decode cX6_init 164 = .ok (.dup, 1) := by decide +kernel
theorem dX6_init_165 : decode cX6_init 165 = .ok (.bipush 28, 2) := by decide +kernel
theorem dX6_init_167 : decode cX6_init 167 = .ok (.bipush 112, 2) := by decide +kernel
theorem dX6_init_169 : decode cX6_init 169 = .ok (.iastore, 1) := by decide +kernel
theorem dX6_init_170 : decode cX6_init 170 = .ok (.dup, 1) := by decide +kernel
theorem dX6_init_171 : decode cX6_init 171 = .ok (.bipush 29, 2) := by decide +kernel
theorem dX6_init_173 : decode cX6_init 173 = .ok (.bipush 117, 2) := by decide +kernel
theorem dX6_init_175 : decode cX6_init 175 = .ok (.iastore, 1) := by decide +kernel
theorem dX6_init_176 : decode cX6_init 176 = .ok (.dup, 1) := by decide +kernel
theorem dX6_init_177 : decode cX6_init 177 = .ok (.bipush 30, 2) := by decide +kernel
theorem dX6_init_179 : decode cX6_init 179 = .ok (.bipush 108, 2) := by decide +kernel
theorem dX6_init_181 : decode cX6_init 181 = .ok (.iastore, 1) := by decide +kernel
theorem dX6_init_182 : decode cX6_init 182 = .ok (.dup, 1) := by decide +kernel
theorem dX6_init_183 : decode cX6_init 183 = .ok (.bipush 31, 2) := by decide +kernel
theorem dX6_init_185 : decode cX6_init 185 = .ok (.bipush 108, 2) := by decide +kernel
theorem dX6_init_187 : decode cX6_init 187 = .ok (.iastore, 1) := by decide +kernel
theorem dX6_init_188 : decode cX6_init 188 = .ok (.dup, 1) := by decide +kernel
theorem dX6_init_189 : decode cX6_init 189 = .ok (.bipush 32, 2) := by decide +kernel
theorem dX6_init_191 : decode cX6_init 191 = .ok (.iconst 0, 1) := by decide +kernel
theorem dX6_init_192 : decode cX6_init 192 = .ok (.iastore, 1) := by decide +kernel
theorem dX6_init_193 : decode cX6_init 193 = .ok (.dup, 1) := by decide +kernel
theorem dX6_init_194 : decode cX6_init 194 = .ok (.bipush 33, 2) := by decide +kernel
theorem dX6_init_196 : decode cX6_init 196 = .ok (.iconst 0, 1) := by decide +kernel
theorem dX6_init_197 : decode cX6_init 197 = .ok (.iastore, 1) := by decide +kernel
theorem dX6_init_198 : decode cX6_init 198 = .ok (.dup, 1) := by decide +kernel
theorem dX6_init_199 : decode cX6_init 199 = .ok (.bipush 34, 2) := by decide +kernel
theorem dX6_init_201 : decode cX6_init 201 = .ok (.iconst 0, 1) := by decide +kernel
theorem dX6_init_202 : decode cX6_init 202 = .ok (.iastore, 1) := by decide +kernel
theorem dX6_init_203 : decode cX6_init 203 = .ok (.dup, 1) := by decide +kernel
theorem dX6_init_204 : decode cX6_init 204 = .ok (.bipush 35, 2) := by decide +kernel
theorem dX6_init_206 : decode cX6_init 206 = .ok (.bipush 100, 2) := by decide +kernel
theorem dX6_init_208 : decode cX6_init 208 = .ok (.iastore, 1) := by decide +kernel
theorem dX6_init_209 : decode cX6_init 209 = .ok (.dup, 1) := by decide +kernel
theorem dX6_init_210 : decode cX6_init 210 = .ok (.bipush 36, 2) := by decide +kernel
theorem dX6_init_212 : decode cX6_init 212 = .ok (.bipush 97, 2) := by decide +kernel
theorem dX6_init_214 : decode cX6_init 214 = .ok (.iastore, 1) := by decide +kernel
theorem dX6_init_215 : decode cX6_init 215 = .ok (.dup, 1) := by decide +kernel
theorem dX6_init_216 : decode cX6_init 216 = .ok (.bipush 37, 2) := by decide +kernel
theorem dX6_init_218 : decode cX6_init 218 = .ok (.bipush 110, 2) := by decide +kernel
theorem dX6_init_220 : decode cX6_init 220 = .ok (.iastore, 1) := by decide +kernel
theorem dX6_init_221 : decode cX6_init 221 = .ok (.dup, 1) := by decide +kernel
theorem dX6_init_222 : decode cX6_init 222 = .ok (.bipush 38, 2) := by decide +kernel
theorem dX6_init_224 : decode cX6_init 224 = .ok (.bipush 103, 2) := by decide +kernel
theorem dX6_init_226 : decode cX6_init 226 = .ok (.iastore, 1) := by decide +kernel
theorem dX6_init_227 : decode cX6_init 227 = .ok (.dup, 1) := by decide +kernel
theorem dX6_init_228 : decode cX6_init 228 = .ok (.bipush 39, 2) := by decide +kernel
theorem dX6_init_230 : decode cX6_init 230 = .ok (.bipush 101, 2) := by decide +kernel
theorem dX6_init_232 : decode cX6_init 232 = .ok (.iastore, 1) := by decide +kernel
theorem dX6_init_233 : decode cX6_init 233 = .ok (.dup, 1) := by decide +kernel
theorem dX6_init_234 : decode cX6_init 234 = .ok (.bipush 40, 2) := by decide +kernel
theorem dX6_init_236 : decode cX6_init 236 = .ok (.bipush 114, 2) := by decide +kernel
theorem dX6_init_238 : decode cX6_init 238 = .ok (.iastore, 1) := by decide +kernel
theorem dX6_init_239 : decode cX6_init 239 = .ok (.dup, 1) := by decide +kernel
theorem dX6_init_240 : decode cX6_init 240 = .ok (.bipush 41, 2) := by decide +kernel
theorem dX6_init_242 : decode cX6_init 242 = .ok (.iconst 0, 1) := by decide +kernel
theorem dX6_init_243 : decode cX6_init 243 = .ok (.iastore, 1) := by decide +kernel
theorem dX6_init_244 : decode cX6_init 244 = .ok (.dup, 1) := by decide +kernel
theorem dX6_init_245 : decode cX6_init 245 = .ok (.bipush 42, 2) := by decide +kernel
theorem dX6_init_247 : decode cX6_init 247 = .ok (.bipush 114, 2) := by decide +kernel
theorem dX6_init_249 : decode cX6_init 249 = .ok (.iastore, 1) := by decide +kernel
theorem dX6_init_250 : decode cX6_init 250 = .ok (.dup, 1) := by decide +kernel
theorem dX6_init_251 : decode cX6_init 251 = .ok (.bipush 43, 2) := by decide +kernel
theorem dX6_init_253 : decode cX6_init 253 = .ok (.bipush 101, 2) := by decide +kernel
theorem dX6_init_255 : decode cX6_init 255 = .ok (.iastore, 1) := by decide +kernel
theorem dX6_init_256 : decode cX6_init 256 = .ok (.dup, 1) := by decide +kernel
theorem dX6_init_257 : decode cX6_init 257 = .ok (.bipush 44, 2) := by decide +kernel
theorem dX6_init_259 : decode cX6_init 259 = .ok (.bipush 112, 2) := by decide +kernel
theorem dX6_init_261 : decode cX6_init 261 = .ok (.iastore, 1) := by decide +kernel
theorem dX6_init_262 : decode cX6_init 262 = .ok (.dup, 1) := by decide +kernel
theorem dX6_init_263 : decode cX6_init 263 = .ok (.bipush 45, 2) := by decide +kernel
theorem dX6_init_265 : decode cX6_init 265 = .ok (.bipush 97, 2) := by decide +kernel
theorem dX6_init_267 : decode cX6_init 267 = .ok (.iastore, 1) := by decide +kernel
theorem dX6_init_268 : decode cX6_init 268 = .ok (.dup, 1) := by decide +kernel
theorem dX6_init_269 : decode cX6_init 269 = .ok (.bipush 46, 2) := by decide +kernel
theorem dX6_init_271 : decode cX6_init 271 = .ok (.bipush 105, 2) := by decide +kernel
theorem dX6_init_273 : decode cX6_init 273 = .ok (.iastore, 1) := by decide +kernel
theorem dX6_init_274 : decode cX6_init 274 = .ok (.dup, 1) := by decide +kernel
theorem dX6_init_275 : decode cX6_init 275 = .ok (.bipush 47, 2) := by decide +kernel
theorem dX6_init_277 : decode cX6_init 277 = .ok (.bipush 114, 2) := by decide +kernel
theorem dX6_init_279 : decode cX6_init 279 = .ok (.iastore, 1) := by decide +kernel
theorem dX6_init_280 : decode cX6_init 280 = .ok (.dup, 1) := by decide +kernel
theorem dX6_init_281 : decode cX6_init 281 = .ok (.bipush 48, 2) := by decide +kernel
theorem dX6_init_283 : decode cX6_init 283 = .ok (.iconst 0, 1) := by decide +kernel
theorem dX6_init_284 : decode cX6_init 284 = .ok (.iastore, 1) := by decide +kernel
theorem dX6_init_285 : decode cX6_init 285 = .ok (.dup, 1) := by decide +kernel
theorem dX6_init_286 : decode cX6_init 286 = .ok (.bipush 49, 2) := by decide +kernel
theorem dX6_init_288 : decode cX6_init 288 = .ok (.bipush 116, 2) := by decide +kernel
theorem dX6_init_290 : decode cX6_init 290 = .ok (.iastore, 1) := by decide +kernel
theorem dX6_init_291 : decode cX6_init 291 = .ok (.dup, 1) := by decide +kernel
theorem dX6_init_292 : decode cX6_init 292 = .ok (.bipush 50, 2) := by decide +kernel
theorem dX6_init_294 : decode cX6_init 294 = .ok (.bipush 105, 2) := by decide +kernel
theorem dX6_init_296 : decode cX6_init 296 = .ok (.iastore, 1) := by decide +kernel
theorem dX6_init_297 : decode cX6_init 297 = .ok (.dup, 1) := by decide +kernel
theorem dX6_init_298 : decode cX6_init 298 = .ok (.bipush 51, 2) := by decide +kernel
theorem dX6_init_300 : decode cX6_init 300 = .ok (.bipush 99, 2) := by decide +kernel
theorem dX6_init_302 : decode cX6_init 302 = .ok (.iastore, 1) := by decide +kernel
theorem dX6_init_303 : decode cX6_init 303 = .ok (.dup, 1) := by decide +kernel
theorem dX6_init_304 : decode cX6_init 304 = .ok (.bipush 52, 2) := by decide +kernel
theorem dX6_init_306 : decode cX6_init 306 = .ok (.bipush 107, 2) := by decide +kernel
theorem dX6_init_308 : decode cX6_init 308 = .ok (.iastore, 1) := by decide +kernel
theorem dX6_init_309 : decode cX6_init 309 = .ok (.dup, 1) := by decide +kernel
theorem dX6_init_310 : decode cX6_init 310 = .ok (.bipush 53, 2) := by decide +kernel
theorem dX6_init_312 : decode cX6_init 312 = .ok (.bipush 115, 2) := by decide +kernel
theorem dX6_init_314 : decode cX6_init 314 = .ok (.iastore, 1) := by decide +kernel
theorem dX6_init_315 : decode cX6_init 315 = .ok (.dup, 1) := by decide +kernel
theorem dX6_init_316 : decode cX6_init 316 = .ok (.bipush 54, 2) := by decide +kernel
theorem dX6_init_318 : decode cX6_init 318 = .ok (.iconst 0, 1) := by decide +kernel
theorem dX6_init_319 : decode cX6_init 319 = .ok (.iastore, 1) := by decide +kernel
theorem dX6_init_320 : decode cX6_init 320 = .ok (.dup, 1) := by decide +kernel
theorem dX6_init_321 : decode cX6_init 321 = .ok (.bipush 55, 2) := by decide +kernel
theorem dX6_init_323 : decode cX6_init 323 = .ok (.iconst 0, 1) := by decide +kernel
theorem dX6_init_324 : decode cX6_init 324 = .ok (.iastore, 1) := by decide +kernel
theorem dX6_init_325 : decode cX6_init 325 = .ok (.putfield 7, 3) := by decide +kernel
theorem dX6_init_328 : decode cX6_init 328 = .ok (.aload_n 0, 1) := by decide +kernel
theorem dX6_init_329 : decode cX6_init 329 = .ok (.sipush 140, 3) := by decide +kernel
theorem dX6_init_332 : decode cX6_init 332 = .ok (.newarray .int, 2) := by decide +kernel
theorem dX6_init_334 : decode cX6_init 334 = .ok (.putfield 13, 3) := by decide +kernel
theorem dX6_init_337 : decode cX6_init 337 = .ok (.aload_n 0, 1) := by decide +kernel
theorem dX6_init_338 : decode cX6_init 338 = .ok (.sipush 140, 3) := by decide +kernel
theorem dX6_init_341 : decode cX6_init 341 = .ok (.newarray .int, 2) := by decide +kernel
theorem dX6_init_343 : decode cX6_init 343 = .ok (.putfield 16, 3) := by decide +kernel
theorem dX6_init_346 : decode cX6_init 346 = .ok (.aload_n 0, 1) := by decide +kernel
theorem dX6_init_347 : decode cX6_init 347 = .ok (.sipush 1400, 3) := by decide +kernel
theorem dX6_init_350 : decode cX6_init 350 = .ok (.newarray .int, 2) := by decide +kernel
theorem dX6_init_352 : decode cX6_init 352 = .ok (.putfield 19, 3) := by decide +kernel
theorem dX6_init_355 : decode cX6_init 355 = .ok (.aload_n 0, 1) := by decide +kernel
theorem dX6_init_356 : decode cX6_init 356 = .ok (.sipush 280, 3) := by decide +kernel
theorem dX6_init_359 : decode cX6_init 359 = .ok (.newarray .int, 2) := by decide +kernel
theorem dX6_init_361 : decode cX6_init 361 = .ok (.putfield 22, 3) := by decide +kernel
theorem dX6_init_364 : decode cX6_init 364 = .ok (.aload_n 0, 1) := by decide +kernel
theorem dX6_init_365 : decode cX6_init 365 = .ok (.sipush 600, 3) := by decide +kernel
theorem dX6_init_368 : decode cX6_init 368 = .ok (.newarray .byte, 2) := by decide +kernel
theorem dX6_init_370 : decode cX6_init 370 = .ok (.putfield 25, 3) := by decide +kernel
theorem dX6_init_373 : decode cX6_init 373 = .ok (.aload_n 0, 1) := by decide +kernel
theorem dX6_init_374 : decode cX6_init 374 = .ok (.sipush 200, 3) := by decide +kernel
theorem dX6_init_377 : decode cX6_init 377 = .ok (.newarray .byte, 2) := by decide +kernel
theorem dX6_init_379 : decode cX6_init 379 = .ok (.putfield 29, 3) := by decide +kernel
theorem dX6_init_382 : decode cX6_init 382 = .ok (.aload_n 0, 1) := by decide +kernel
theorem dX6_init_383 : decode cX6_init 383 = .ok (.iconst (-1), 1) := by decide +kernel
theorem dX6_init_384 : decode cX6_init 384 = .ok (.putfield 32, 3) := by decide +kernel
theorem dX6_init_387 : decode cX6_init 387 = .ok (.aload_n 0, 1) := by decide +kernel
theorem dX6_init_388 : decode cX6_init 388 = .ok (.bipush 6, 2) := by decide +kernel
theorem dX6_init_390 : decode cX6_init 390 = .ok (.iconst 2, 1) := by decide +kernel
theorem dX6_init_391 : decode cX6_init 391 = .ok (.iconst 5, 1) := by decide +kernel
theorem dX6_init_392 : decode cX6_init 392 = .ok (.iconst 0, 1) := by decide +kernel
theorem dX6_init_393 : decode cX6_init 393 = .ok (.invokevirtual 36, 3) := by decide +kernel
theorem dX6_init_396 : decode cX6_init 396 = .ok (.aload_n 0, 1) := by decide +kernel
theorem dX6_init_397 : decode cX6_init 397 = .ok (.iconst 4, 1) := by decide +kernel
theorem dX6_init_398 : decode cX6_init 398 = .ok (.bipush 7, 2) := by decide +kernel
theorem dX6_init_400 : decode cX6_init 400 = .ok (.iconst 3, 1) := by decide +kernel
theorem dX6_init_401 : decode cX6_init 401 = .ok (.iconst 1, 1) := by decide +kernel
theorem dX6_init_402 : decode cX6_init 402 = .ok (.invokevirtual 36, 3) := by decide +kernel
theorem dX6_init_405 : decode cX6_init 405 = .ok (.aload_n 0, 1) := by decide +kernel
theorem dX6_init_406 : decode cX6_init 406 = .ok (.bipush 8, 2) := by decide +kernel
theorem dX6_init_408 : decode cX6_init 408 = .ok (.iconst 0, 1) := by decide +kernel
theorem dX6_init_409 : decode cX6_init 409 = .ok (.iconst 5, 1) := by decide +kernel
theorem dX6_init_410 : decode cX6_init 410 = .ok (.iconst 0, 1) := by decide +kernel
theorem dX6_init_411 : decode cX6_init 411 = .ok (.invokevirtual 36, 3) := by decide +kernel
theorem dX6_init_414 : decode cX6_init 414 = .ok (.aload_n 0, 1) := by decide +kernel
theorem dX6_init_415 : decode cX6_init 415 = .ok (.iconst 5, 1) := by decide +kernel
theorem dX6_init_416 : decode cX6_init 416 = .ok (.bipush 8, 2) := by decide +kernel
theorem dX6_init_418 : decode cX6_init 418 = .ok (.iconst 5, 1) := by decide +kernel
theorem dX6_init_419 : decode cX6_init 419 = .ok (.iconst 0, 1) := by decide +kernel
theorem dX6_init_420 : decode cX6_init 420 = .ok (.invokevirtual 36, 3) := by decide +kernel
theorem dX6_init_423 : decode cX6_init 423 = .ok (.aload_n 0, 1) := by decide +kernel
theorem dX6_init_424 : decode cX6_init 424 = .ok (.iconst 0, 1) := by decide +kernel
theorem dX6_init_425 : decode cX6_init 425 = .ok (.iconst 5, 1) := by decide +kernel
theorem dX6_init_426 : decode cX6_init 426 = .ok (.iconst 4, 1) := by decide +kernel
theorem dX6_init_427 : decode cX6_init 427 = .ok (.invokevirtual 40, 3) := by decide +kernel
theorem dX6_init_430 : decode cX6_init 430 = .ok (.aload_n 0, 1) := by decide +kernel
theorem dX6_init_431 : decode cX6_init 431 = .ok (.iconst 3, 1) := by decide +kernel
theorem dX6_init_432 : decode cX6_init 432 = .ok (.bipush 8, 2) := by decide +kernel
theorem dX6_init_434 : decode cX6_init 434 = .ok (.iconst 5, 1) := by decide +kernel
theorem dX6_init_435 : decode cX6_init 435 = .ok (.invokevirtual 40, 3) := by decide +kernel
theorem dX6_init_438 : decode cX6_init 438 = .ok (.aload_n 0, 1) := by decide +kernel
theorem dX6_init_439 : decode cX6_init 439 = .ok (.getfield 13, 3) := by decide +kernel
theorem dX6_init_442 : decode cX6_init 442 = .ok (.iconst 1, 1) := by decide +kernel
theorem dX6_init_443 : decode cX6_init 443 = .ok (.invokestatic 44, 3) := by decide +kernel
theorem dX6_init_446 : decode cX6_init 446 = .ok (.iconst 4, 1) := by decide +kernel
theorem dX6_init_447 : decode cX6_init 447 = .ok (.iadd, 1) := by decide +kernel
theorem dX6_init_448 : decode cX6_init 448 = .ok (.iconst 1, 1) := by decide +kernel
theorem dX6_init_449 : decode cX6_init 449 = .ok (.iastore, 1) := by decide +kernel
theorem dX6_init_450 : decode cX6_init 450 = .ok (.aload_n 0, 1) := by decide +kernel
theorem dX6_init_451 : decode cX6_init 451 = .ok (.iconst 3, 1) := by decide +kernel
theorem dX6_init_452 : decode cX6_init 452 = .ok (.invokevirtual 48, 3) := by decide +kernel
theorem dX6_init_455 : decode cX6_init 455 = .ok (.istore_n 1, 1) := by decide +kernel
theorem dX6_init_456 : decode cX6_init 456 = .ok (.return_, 1) := by decide +kernel
theorem dX6_thrown_0 : decode cX6_thrown 0 = .ok (.aload_n 0, 1) := by decide +kernel
theorem dX6_thrown_1 : decode cX6_thrown 1 = .ok (.getfield 51, 3) := by decide +kernel
theorem dX6_thrown_4 : decode cX6_thrown 4 = .ok (.ireturn, 1) := by decide +kernel
theorem dX6_refuse_0 : decode cX6_refuse 0 = .ok (.aload_n 0, 1) := by decide +kernel
theorem dX6_refuse_1 : decode cX6_refuse 1 = .ok (.iload_n 1, 1) := by decide +kernel
theorem dX6_refuse_2 : decode cX6_refuse 2 = .ok (.putfield 51, 3) := by decide +kernel
theorem dX6_refuse_5 : decode cX6_refuse 5 = .ok (.iconst 0, 1) := by decide +kernel
theorem dX6_refuse_6 : decode cX6_refuse 6 = .ok (.ireturn, 1) := by decide +kernel
theorem dX6_told_0 : decode cX6_told 0 = .ok (.aload_n 0, 1) := by decide +kernel
theorem dX6_told_1 : decode cX6_told 1 = .ok (.iconst 0, 1) := by decide +kernel
theorem dX6_told_2 : decode cX6_told 2 = .ok (.putfield 51, 3) := by decide +kernel
theorem dX6_told_5 : decode cX6_told 5 = .ok (.iload_n 1, 1) := by decide +kernel
theorem dX6_told_6 : decode cX6_told 6 = .ok (.ireturn, 1) := by decide +kernel
theorem dX6_says_0 : decode cX6_says 0 = .ok (.aload_n 0, 1) := by decide +kernel
theorem dX6_says_1 : decode cX6_says 1 = .ok (.iconst 0, 1) := by decide +kernel
theorem dX6_says_2 : decode cX6_says 2 = .ok (.putfield 51, 3) := by decide +kernel
theorem dX6_says_5 : decode cX6_says 5 = .ok (.iload_n 1, 1) := by decide +kernel
theorem dX6_says_6 : decode cX6_says 6 = .ok (.ireturn, 1) := by decide +kernel
theorem dX6_refuses_0 : decode cX6_refuses 0 = .ok (.aload_n 0, 1) := by decide +kernel
theorem dX6_refuses_1 : decode cX6_refuses 1 = .ok (.iconst 1, 1) := by decide +kernel
theorem dX6_refuses_2 : decode cX6_refuses 2 = .ok (.putfield 51, 3) := by decide +kernel
theorem dX6_refuses_5 : decode cX6_refuses 5 = .ok (.iconst 0, 1) := by decide +kernel
theorem dX6_refuses_6 : decode cX6_refuses 6 = .ok (.ireturn, 1) := by decide +kernel
theorem dX6_in_0 : decode cX6_in 0 = .ok (.iload_n 0, 1) := by decide +kernel
theorem dX6_in_1 : decode cX6_in 1 = .ok (.iload_n 1, 1) := by decide +kernel
theorem dX6_in_2 : decode cX6_in 2 = .ok (.if_icmp .lt 12, 3) := by decide +kernel
theorem dX6_in_5 : decode cX6_in 5 = .ok (.iload_n 0, 1) := by decide +kernel
theorem dX6_in_6 : decode cX6_in 6 = .ok (.iload_n 2, 1) := by decide +kernel
theorem dX6_in_7 : decode cX6_in 7 = .ok (.if_icmp .gt 7, 3) := by decide +kernel
theorem dX6_in_10 : decode cX6_in 10 = .ok (.iconst 1, 1) := by decide +kernel
theorem dX6_in_11 : decode cX6_in 11 = .ok (.goto 4, 3) := by decide +kernel
theorem dX6_in_14 : decode cX6_in 14 = .ok (.iconst 0, 1) := by decide +kernel
theorem dX6_in_15 : decode cX6_in 15 = .ok (.ireturn, 1) := by decide +kernel
theorem dX6_without_0 : decode cX6_without 0 = .ok (.iload_n 0, 1) := by decide +kernel
theorem dX6_without_1 : decode cX6_without 1 = .ok (.ifCond .ge 8, 3) := by decide +kernel
theorem dX6_without_4 : decode cX6_without 4 = .ok (.iload_n 0, 1) := by decide +kernel
theorem dX6_without_5 : decode cX6_without 5 = .ok (.ineg, 1) := by decide +kernel
theorem dX6_without_6 : decode cX6_without 6 = .ok (.goto 4, 3) := by decide +kernel
theorem dX6_without_9 : decode cX6_without 9 = .ok (.iload_n 0, 1) := by decide +kernel
theorem dX6_without_10 : decode cX6_without 10 = .ok (.ireturn, 1) := by decide +kernel
theorem dX6_b_0 : decode cX6_b 0 = .ok (.iconst 5, 1) := by decide +kernel
theorem dX6_b_1 : decode cX6_b 1 = .ok (.bipush 6, 2) := by decide +kernel
theorem dX6_b_3 : decode cX6_b 3 = .ok (.iload_n 0, 1) := by decide +kernel
theorem dX6_b_4 : decode cX6_b 4 = .ok (.imul, 1) := by decide +kernel
theorem dX6_b_5 : decode cX6_b 5 = .ok (.iadd, 1) := by decide +kernel
theorem dX6_b_6 : decode cX6_b 6 = .ok (.ireturn, 1) := by decide +kernel
theorem dX6_t_0 : decode cX6_t 0 = .ok (.bipush 65, 2) := by decide +kernel
theorem dX6_t_2 : decode cX6_t 2 = .ok (.iconst 5, 1) := by decide +kernel
theorem dX6_t_3 : decode cX6_t 3 = .ok (.iload_n 0, 1) := by decide +kernel
theorem dX6_t_4 : decode cX6_t 4 = .ok (.imul, 1) := by decide +kernel
theorem dX6_t_5 : decode cX6_t 5 = .ok (.iadd, 1) := by decide +kernel
theorem dX6_t_6 : decode cX6_t 6 = .ok (.ireturn, 1) := by decide +kernel
theorem dX6_passed_0 : decode cX6_passed 0 = .ok (.bipush 90, 2) := by decide +kernel
theorem dX6_passed_2 : decode cX6_passed 2 = .ok (.bipush 10, 2) := by decide +kernel
theorem dX6_passed_4 : decode cX6_passed 4 = .ok (.iload_n 0, 1) := by decide +kernel
theorem dX6_passed_5 : decode cX6_passed 5 = .ok (.imul, 1) := by decide +kernel
theorem dX6_passed_6 : decode cX6_passed 6 = .ok (.iadd, 1) := by decide +kernel
theorem dX6_passed_7 : decode cX6_passed 7 = .ok (.iload_n 1, 1) := by decide +kernel
theorem dX6_passed_8 : decode cX6_passed 8 = .ok (.iadd, 1) := by decide +kernel
theorem dX6_passed_9 : decode cX6_passed 9 = .ok (.ireturn, 1) := by decide +kernel
theorem dX6_isBlock_0 : decode cX6_isBlock 0 = .ok (.iload_n 1, 1) := by decide +kernel
theorem dX6_isBlock_1 : decode cX6_isBlock 1 = .ok (.iconst 0, 1) := by decide +kernel
theorem dX6_isBlock_2 : decode cX6_isBlock 2 = .ok (.aload_n 0, 1) := by decide +kernel
theorem dX6_isBlock_3 : decode cX6_isBlock 3 = .ok (.getfield 13, 3) := by decide +kernel
theorem dX6_isBlock_6 : decode cX6_isBlock 6 = .ok (.iconst 1, 1) := by decide +kernel
theorem dX6_isBlock_7 : decode cX6_isBlock 7 = .ok (.iaload, 1) := by decide +kernel
theorem dX6_isBlock_8 : decode cX6_isBlock 8 = .ok (.iconst 1, 1) := by decide +kernel
theorem dX6_isBlock_9 : decode cX6_isBlock 9 = .ok (.isub, 1) := by decide +kernel
theorem dX6_isBlock_10 : decode cX6_isBlock 10 = .ok (.invokestatic 54, 3) := by decide +kernel
theorem dX6_isBlock_13 : decode cX6_isBlock 13 = .ok (.ireturn, 1) := by decide +kernel
theorem dX6_isTrain_0 : decode cX6_isTrain 0 = .ok (.iload_n 1, 1) := by decide +kernel
theorem dX6_isTrain_1 : decode cX6_isTrain 1 = .ok (.iconst 0, 1) := by decide +kernel
theorem dX6_isTrain_2 : decode cX6_isTrain 2 = .ok (.aload_n 0, 1) := by decide +kernel
theorem dX6_isTrain_3 : decode cX6_isTrain 3 = .ok (.getfield 13, 3) := by decide +kernel
theorem dX6_isTrain_6 : decode cX6_isTrain 6 = .ok (.iconst 2, 1) := by decide +kernel
theorem dX6_isTrain_7 : decode cX6_isTrain 7 = .ok (.iaload, 1) := by decide +kernel
theorem dX6_isTrain_8 : decode cX6_isTrain 8 = .ok (.iconst 1, 1) := by decide +kernel
theorem dX6_isTrain_9 : decode cX6_isTrain 9 = .ok (.isub, 1) := by decide +kernel
theorem dX6_isTrain_10 : decode cX6_isTrain 10 = .ok (.invokestatic 54, 3) := by decide +kernel
theorem dX6_isTrain_13 : decode cX6_isTrain 13 = .ok (.ireturn, 1) := by decide +kernel
theorem dX6_lays_0 : decode cX6_lays 0 = .ok (.aload_n 0, 1) := by decide +kernel
theorem dX6_lays_1 : decode cX6_lays 1 = .ok (.getfield 13, 3) := by decide +kernel
theorem dX6_lays_4 : decode cX6_lays 4 = .ok (.iconst 1, 1) := by decide +kernel
theorem dX6_lays_5 : decode cX6_lays 5 = .ok (.iaload, 1) := by decide +kernel
theorem dX6_lays_6 : decode cX6_lays 6 = .ok (.invokestatic 44, 3) := by decide +kernel
theorem dX6_lays_9 : decode cX6_lays 9 = .ok (.istore 5, 2) := by decide +kernel
theorem dX6_lays_11 : decode cX6_lays 11 = .ok (.aload_n 0, 1) := by decide +kernel
theorem dX6_lays_12 : decode cX6_lays 12 = .ok (.getfield 13, 3) := by decide +kernel
theorem dX6_lays_15 : decode cX6_lays 15 = .ok (.iload 5, 2) := by decide +kernel
theorem dX6_lays_17 : decode cX6_lays 17 = .ok (.iconst 0, 1) := by decide +kernel
theorem dX6_lays_18 : decode cX6_lays 18 = .ok (.iadd, 1) := by decide +kernel
theorem dX6_lays_19 : decode cX6_lays 19 = .ok (.iload_n 1, 1) := by decide +kernel
theorem dX6_lays_20 : decode cX6_lays 20 = .ok (.iastore, 1) := by decide +kernel
theorem dX6_lays_21 : decode cX6_lays 21 = .ok (.aload_n 0, 1) := by decide +kernel
theorem dX6_lays_22 : decode cX6_lays 22 = .ok (.getfield 13, 3) := by decide +kernel
theorem dX6_lays_25 : decode cX6_lays 25 = .ok (.iload 5, 2) := by decide +kernel
theorem dX6_lays_27 : decode cX6_lays 27 = .ok (.iconst 1, 1) := by decide +kernel
theorem dX6_lays_28 : decode cX6_lays 28 = .ok (.iadd, 1) := by decide +kernel
theorem dX6_lays_29 : decode cX6_lays 29 = .ok (.iload_n 2, 1) := by decide +kernel
theorem dX6_lays_30 : decode cX6_lays 30 = .ok (.iastore, 1) := by decide +kernel
theorem dX6_lays_31 : decode cX6_lays 31 = .ok (.aload_n 0, 1) := by decide +kernel
theorem dX6_lays_32 : decode cX6_lays 32 = .ok (.getfield 13, 3) := by decide +kernel
theorem dX6_lays_35 : decode cX6_lays 35 = .ok (.iload 5, 2) := by decide +kernel
theorem dX6_lays_37 : decode cX6_lays 37 = .ok (.iconst 2, 1) := by decide +kernel
theorem dX6_lays_38 : decode cX6_lays 38 = .ok (.iadd, 1) := by decide +kernel
theorem dX6_lays_39 : decode cX6_lays 39 = .ok (.iload_n 3, 1) := by decide +kernel
theorem dX6_lays_40 : decode cX6_lays 40 = .ok (.iastore, 1) := by decide +kernel
theorem dX6_lays_41 : decode cX6_lays 41 = .ok (.aload_n 0, 1) := by decide +kernel
theorem dX6_lays_42 : decode cX6_lays 42 = .ok (.getfield 13, 3) := by decide +kernel
theorem dX6_lays_45 : decode cX6_lays 45 = .ok (.iload 5, 2) := by decide +kernel
theorem dX6_lays_47 : decode cX6_lays 47 = .ok (.iconst 3, 1) := by decide +kernel
theorem dX6_lays_48 : decode cX6_lays 48 = .ok (.iadd, 1) := by decide +kernel
theorem dX6_lays_49 : decode cX6_lays 49 = .ok (.iload 4, 2) := by decide +kernel
theorem dX6_lays_51 : decode cX6_lays 51 = .ok (.iastore, 1) := by decide +kernel
theorem dX6_lays_52 : decode cX6_lays 52 = .ok (.aload_n 0, 1) := by decide +kernel
theorem dX6_lays_53 : decode cX6_lays 53 = .ok (.getfield 13, 3) := by decide +kernel
theorem dX6_lays_56 : decode cX6_lays 56 = .ok (.iload 5, 2) := by decide +kernel
theorem dX6_lays_58 : decode cX6_lays 58 = .ok (.iconst 4, 1) := by decide +kernel
theorem dX6_lays_59 : decode cX6_lays 59 = .ok (.iadd, 1) := by decide +kernel
theorem dX6_lays_60 : decode cX6_lays 60 = .ok (.iconst 0, 1) := by decide +kernel
theorem dX6_lays_61 : decode cX6_lays 61 = .ok (.iastore, 1) := by decide +kernel
theorem dX6_lays_62 : decode cX6_lays 62 = .ok (.aload_n 0, 1) := by decide +kernel
theorem dX6_lays_63 : decode cX6_lays 63 = .ok (.getfield 13, 3) := by decide +kernel
theorem dX6_lays_66 : decode cX6_lays 66 = .ok (.iload 5, 2) := by decide +kernel
theorem dX6_lays_68 : decode cX6_lays 68 = .ok (.iconst 5, 1) := by decide +kernel
theorem dX6_lays_69 : decode cX6_lays 69 = .ok (.iadd, 1) := by decide +kernel
theorem dX6_lays_70 : decode cX6_lays 70 = .ok (.iconst 0, 1) := by decide +kernel
theorem dX6_lays_71 : decode cX6_lays 71 = .ok (.iastore, 1) := by decide +kernel
theorem dX6_lays_72 : decode cX6_lays 72 = .ok (.aload_n 0, 1) := by decide +kernel
theorem dX6_lays_73 : decode cX6_lays 73 = .ok (.getfield 13, 3) := by decide +kernel
theorem dX6_lays_76 : decode cX6_lays 76 = .ok (.iconst 1, 1) := by decide +kernel
theorem dX6_lays_77 : decode cX6_lays 77 = .ok (.dup2, 1) := by decide +kernel
theorem dX6_lays_78 : decode cX6_lays 78 = .ok (.iaload, 1) := by decide +kernel
theorem dX6_lays_79 : decode cX6_lays 79 = .ok (.iconst 1, 1) := by decide +kernel
theorem dX6_lays_80 : decode cX6_lays 80 = .ok (.iadd, 1) := by decide +kernel
theorem dX6_lays_81 : decode cX6_lays 81 = .ok (.iastore, 1) := by decide +kernel
theorem dX6_lays_82 : decode cX6_lays 82 = .ok (.return_, 1) := by decide +kernel
theorem dX6_sets_0 : decode cX6_sets 0 = .ok (.aload_n 0, 1) := by decide +kernel
theorem dX6_sets_1 : decode cX6_sets 1 = .ok (.getfield 13, 3) := by decide +kernel
theorem dX6_sets_4 : decode cX6_sets 4 = .ok (.iconst 2, 1) := by decide +kernel
theorem dX6_sets_5 : decode cX6_sets 5 = .ok (.iaload, 1) := by decide +kernel
theorem dX6_sets_6 : decode cX6_sets 6 = .ok (.invokestatic 58, 3) := by decide +kernel
theorem dX6_sets_9 : decode cX6_sets 9 = .ok (.istore 4, 2) := by decide +kernel
theorem dX6_sets_11 : decode cX6_sets 11 = .ok (.aload_n 0, 1) := by decide +kernel
theorem dX6_sets_12 : decode cX6_sets 12 = .ok (.getfield 13, 3) := by decide +kernel
theorem dX6_sets_15 : decode cX6_sets 15 = .ok (.iload 4, 2) := by decide +kernel
theorem dX6_sets_17 : decode cX6_sets 17 = .ok (.iconst 0, 1) := by decide +kernel
theorem dX6_sets_18 : decode cX6_sets 18 = .ok (.iadd, 1) := by decide +kernel
theorem dX6_sets_19 : decode cX6_sets 19 = .ok (.iload_n 2, 1) := by decide +kernel
theorem dX6_sets_20 : decode cX6_sets 20 = .ok (.iastore, 1) := by decide +kernel
theorem dX6_sets_21 : decode cX6_sets 21 = .ok (.aload_n 0, 1) := by decide +kernel
theorem dX6_sets_22 : decode cX6_sets 22 = .ok (.getfield 13, 3) := by decide +kernel
theorem dX6_sets_25 : decode cX6_sets 25 = .ok (.iload 4, 2) := by decide +kernel
theorem dX6_sets_27 : decode cX6_sets 27 = .ok (.iconst 1, 1) := by decide +kernel
theorem dX6_sets_28 : decode cX6_sets 28 = .ok (.iadd, 1) := by decide +kernel
theorem dX6_sets_29 : decode cX6_sets 29 = .ok (.iload_n 3, 1) := by decide +kernel
theorem dX6_sets_30 : decode cX6_sets 30 = .ok (.iastore, 1) := by decide +kernel
theorem dX6_sets_31 : decode cX6_sets 31 = .ok (.aload_n 0, 1) := by decide +kernel
theorem dX6_sets_32 : decode cX6_sets 32 = .ok (.getfield 13, 3) := by decide +kernel
theorem dX6_sets_35 : decode cX6_sets 35 = .ok (.iload 4, 2) := by decide +kernel
theorem dX6_sets_37 : decode cX6_sets 37 = .ok (.iconst 2, 1) := by decide +kernel
theorem dX6_sets_38 : decode cX6_sets 38 = .ok (.iadd, 1) := by decide +kernel
theorem dX6_sets_39 : decode cX6_sets 39 = .ok (.iload_n 1, 1) := by decide +kernel
theorem dX6_sets_40 : decode cX6_sets 40 = .ok (.iastore, 1) := by decide +kernel
theorem dX6_sets_41 : decode cX6_sets 41 = .ok (.aload_n 0, 1) := by decide +kernel
theorem dX6_sets_42 : decode cX6_sets 42 = .ok (.getfield 13, 3) := by decide +kernel
theorem dX6_sets_45 : decode cX6_sets 45 = .ok (.iload 4, 2) := by decide +kernel
theorem dX6_sets_47 : decode cX6_sets 47 = .ok (.iconst 3, 1) := by decide +kernel
theorem dX6_sets_48 : decode cX6_sets 48 = .ok (.iadd, 1) := by decide +kernel
theorem dX6_sets_49 : decode cX6_sets 49 = .ok (.iconst 0, 1) := by decide +kernel
theorem dX6_sets_50 : decode cX6_sets 50 = .ok (.iastore, 1) := by decide +kernel
theorem dX6_sets_51 : decode cX6_sets 51 = .ok (.aload_n 0, 1) := by decide +kernel
theorem dX6_sets_52 : decode cX6_sets 52 = .ok (.getfield 13, 3) := by decide +kernel
theorem dX6_sets_55 : decode cX6_sets 55 = .ok (.iload 4, 2) := by decide +kernel
theorem dX6_sets_57 : decode cX6_sets 57 = .ok (.iconst 4, 1) := by decide +kernel
theorem dX6_sets_58 : decode cX6_sets 58 = .ok (.iadd, 1) := by decide +kernel
theorem dX6_sets_59 : decode cX6_sets 59 = .ok (.iconst 0, 1) := by decide +kernel
theorem dX6_sets_60 : decode cX6_sets 60 = .ok (.iastore, 1) := by decide +kernel
theorem dX6_sets_61 : decode cX6_sets 61 = .ok (.aload_n 0, 1) := by decide +kernel
theorem dX6_sets_62 : decode cX6_sets 62 = .ok (.getfield 13, 3) := by decide +kernel
theorem dX6_sets_65 : decode cX6_sets 65 = .ok (.iconst 4, 1) := by decide +kernel
theorem dX6_sets_66 : decode cX6_sets 66 = .ok (.dup2, 1) := by decide +kernel
theorem dX6_sets_67 : decode cX6_sets 67 = .ok (.iaload, 1) := by decide +kernel
theorem dX6_sets_68 : decode cX6_sets 68 = .ok (.iload_n 2, 1) := by decide +kernel
theorem dX6_sets_69 : decode cX6_sets 69 = .ok (.iadd, 1) := by decide +kernel
theorem dX6_sets_70 : decode cX6_sets 70 = .ok (.iastore, 1) := by decide +kernel
theorem dX6_sets_71 : decode cX6_sets 71 = .ok (.aload_n 0, 1) := by decide +kernel
theorem dX6_sets_72 : decode cX6_sets 72 = .ok (.getfield 13, 3) := by decide +kernel
theorem dX6_sets_75 : decode cX6_sets 75 = .ok (.iconst 2, 1) := by decide +kernel
theorem dX6_sets_76 : decode cX6_sets 76 = .ok (.dup2, 1) := by decide +kernel
theorem dX6_sets_77 : decode cX6_sets 77 = .ok (.iaload, 1) := by decide +kernel
theorem dX6_sets_78 : decode cX6_sets 78 = .ok (.iconst 1, 1) := by decide +kernel
theorem dX6_sets_79 : decode cX6_sets 79 = .ok (.iadd, 1) := by decide +kernel
theorem dX6_sets_80 : decode cX6_sets 80 = .ok (.iastore, 1) := by decide +kernel
theorem dX6_sets_81 : decode cX6_sets 81 = .ok (.return_, 1) := by decide +kernel
theorem dX6_after_0 : decode cX6_after 0 = .ok (.iload_n 1, 1) := by decide +kernel
theorem dX6_after_1 : decode cX6_after 1 = .ok (.iconst 1, 1) := by decide +kernel
theorem dX6_after_2 : decode cX6_after 2 = .ok (.iadd, 1) := by decide +kernel
theorem dX6_after_3 : decode cX6_after 3 = .ok (.aload_n 0, 1) := by decide +kernel
theorem dX6_after_4 : decode cX6_after 4 = .ok (.getfield 13, 3) := by decide +kernel
theorem dX6_after_7 : decode cX6_after 7 = .ok (.iconst 1, 1) := by decide +kernel
theorem dX6_after_8 : decode cX6_after 8 = .ok (.iaload, 1) := by decide +kernel
theorem dX6_after_9 : decode cX6_after 9 = .ok (.if_icmp .ne 5, 3) := by decide +kernel
theorem dX6_after_12 : decode cX6_after 12 = .ok (.iconst 0, 1) := by decide +kernel
theorem dX6_after_13 : decode cX6_after 13 = .ok (.ireturn, 1) := by decide +kernel
theorem dX6_after_14 : decode cX6_after 14 = .ok (.iload_n 1, 1) := by decide +kernel
theorem dX6_after_15 : decode cX6_after 15 = .ok (.iconst 1, 1) := by decide +kernel
theorem dX6_after_16 : decode cX6_after 16 = .ok (.iadd, 1) := by decide +kernel
theorem dX6_after_17 : decode cX6_after 17 = .ok (.ireturn, 1) := by decide +kernel
theorem dX6_trainAt_0 : decode cX6_trainAt 0 = .ok (.iconst 0, 1) := by decide +kernel
theorem dX6_trainAt_1 : decode cX6_trainAt 1 = .ok (.istore_n 2, 1) := by decide +kernel
theorem dX6_trainAt_2 : decode cX6_trainAt 2 = .ok (.iload_n 2, 1) := by decide +kernel
theorem dX6_trainAt_3 : decode cX6_trainAt 3 = .ok (.aload_n 0, 1) := by decide +kernel
theorem dX6_trainAt_4 : decode cX6_trainAt 4 = .ok (.getfield 13, 3) := by decide +kernel
theorem dX6_trainAt_7 : decode cX6_trainAt 7 = .ok (.iconst 2, 1) := by decide +kernel
theorem dX6_trainAt_8 : decode cX6_trainAt 8 = .ok (.iaload, 1) := by decide +kernel
theorem dX6_trainAt_9 : decode cX6_trainAt 9 = .ok (.if_icmp .ge 26, 3) := by decide +kernel
theorem dX6_trainAt_12 : decode cX6_trainAt 12 = .ok (.aload_n 0, 1) := by decide +kernel
theorem dX6_trainAt_13 : decode cX6_trainAt 13 = .ok (.getfield 13, 3) := by decide +kernel
theorem dX6_trainAt_16 : decode cX6_trainAt 16 = .ok (.iload_n 2, 1) := by decide +kernel
theorem dX6_trainAt_17 : decode cX6_trainAt 17 = .ok (.invokestatic 58, 3) := by decide +kernel
theorem dX6_trainAt_20 : decode cX6_trainAt 20 = .ok (.iconst 2, 1) := by decide +kernel
theorem dX6_trainAt_21 : decode cX6_trainAt 21 = .ok (.iadd, 1) := by decide +kernel
theorem dX6_trainAt_22 : decode cX6_trainAt 22 = .ok (.iaload, 1) := by decide +kernel
theorem dX6_trainAt_23 : decode cX6_trainAt 23 = .ok (.iload_n 1, 1) := by decide +kernel
theorem dX6_trainAt_24 : decode cX6_trainAt 24 = .ok (.if_icmp .ne 5, 3) := by decide +kernel
theorem dX6_trainAt_27 : decode cX6_trainAt 27 = .ok (.iload_n 2, 1) := by decide +kernel
theorem dX6_trainAt_28 : decode cX6_trainAt 28 = .ok (.ireturn, 1) := by decide +kernel
theorem dX6_trainAt_29 : decode cX6_trainAt 29 = .ok (.iinc 2 1, 3) := by decide +kernel
theorem dX6_trainAt_32 : decode cX6_trainAt 32 = .ok (.goto (-30), 3) := by decide +kernel
theorem dX6_trainAt_35 : decode cX6_trainAt 35 = .ok (.iconst (-1), 1) := by decide +kernel
theorem dX6_trainAt_36 : decode cX6_trainAt 36 = .ok (.ireturn, 1) := by decide +kernel
theorem dX6_isOccupied_0 : decode cX6_isOccupied 0 = .ok (.aload_n 0, 1) := by decide +kernel
theorem dX6_isOccupied_1 : decode cX6_isOccupied 1 = .ok (.iload_n 1, 1) := by decide +kernel
theorem dX6_isOccupied_2 : decode cX6_isOccupied 2 = .ok (.invokevirtual 61, 3) := by decide +kernel
theorem dX6_isOccupied_5 : decode cX6_isOccupied 5 = .ok (.iconst (-1), 1) := by decide +kernel
theorem dX6_isOccupied_6 : decode cX6_isOccupied 6 = .ok (.if_icmp .ne 17, 3) := by decide +kernel
theorem dX6_isOccupied_9 : decode cX6_isOccupied 9 = .ok (.aload_n 0, 1) := by decide +kernel
theorem dX6_isOccupied_10 : decode cX6_isOccupied 10 = .ok (.getfield 13, 3) := by decide +kernel
theorem dX6_isOccupied_13 : decode cX6_isOccupied 13 = .ok (.iload_n 1, 1) := by decide +kernel
theorem dX6_isOccupied_14 : decode cX6_isOccupied 14 = .ok (.invokestatic 44, 3) := by decide +kernel
theorem dX6_isOccupied_17 : decode cX6_isOccupied 17 = .ok (.iconst 5, 1) := by decide +kernel
theorem dX6_isOccupied_18 : decode cX6_isOccupied 18 = .ok (.iadd, 1) := by decide +kernel
theorem dX6_isOccupied_19 : decode cX6_isOccupied 19 = .ok (.iaload, 1) := by decide +kernel
theorem dX6_isOccupied_20 : decode cX6_isOccupied 20 = .ok (.ifCond .le 7, 3) := by decide +kernel
theorem dX6_isOccupied_23 : decode cX6_isOccupied 23 = .ok (.iconst 1, 1) := by decide +kernel
theorem dX6_isOccupied_24 : decode cX6_isOccupied 24 = .ok (.goto 4, 3) := by decide +kernel
theorem dX6_isOccupied_27 : decode cX6_isOccupied 27 = .ok (.iconst 0, 1) := by decide +kernel
theorem dX6_isOccupied_28 : decode cX6_isOccupied 28 = .ok (.ireturn, 1) := by decide +kernel
theorem dX6_reason_0 : decode cX6_reason 0 = .ok (.aload_n 0, 1) := by decide +kernel
theorem dX6_reason_1 : decode cX6_reason 1 = .ok (.iload_n 1, 1) := by decide +kernel
theorem dX6_reason_2 : decode cX6_reason 2 = .ok (.invokevirtual 61, 3) := by decide +kernel
theorem dX6_reason_5 : decode cX6_reason 5 = .ok (.iconst (-1), 1) := by decide +kernel
theorem dX6_reason_6 : decode cX6_reason 6 = .ok (.if_icmp .eq 5, 3) := by decide +kernel
theorem dX6_reason_9 : decode cX6_reason 9 = .ok (.iconst 1, 1) := by decide +kernel
theorem dX6_reason_10 : decode cX6_reason 10 = .ok (.ireturn, 1) := by decide +kernel
theorem dX6_reason_11 : decode cX6_reason 11 = .ok (.aload_n 0, 1) := by decide +kernel
theorem dX6_reason_12 : decode cX6_reason 12 = .ok (.getfield 13, 3) := by decide +kernel
theorem dX6_reason_15 : decode cX6_reason 15 = .ok (.iload_n 1, 1) := by decide +kernel
theorem dX6_reason_16 : decode cX6_reason 16 = .ok (.invokestatic 44, 3) := by decide +kernel
theorem dX6_reason_19 : decode cX6_reason 19 = .ok (.iconst 5, 1) := by decide +kernel
theorem dX6_reason_20 : decode cX6_reason 20 = .ok (.iadd, 1) := by decide +kernel
theorem dX6_reason_21 : decode cX6_reason 21 = .ok (.iaload, 1) := by decide +kernel
theorem dX6_reason_22 : decode cX6_reason 22 = .ok (.ifCond .le 5, 3) := by decide +kernel
theorem dX6_reason_25 : decode cX6_reason 25 = .ok (.iconst 2, 1) := by decide +kernel
theorem dX6_reason_26 : decode cX6_reason 26 = .ok (.ireturn, 1) := by decide +kernel
theorem dX6_reason_27 : decode cX6_reason 27 = .ok (.aload_n 0, 1) := by decide +kernel
theorem dX6_reason_28 : decode cX6_reason 28 = .ok (.getfield 13, 3) := by decide +kernel
theorem dX6_reason_31 : decode cX6_reason 31 = .ok (.iload_n 1, 1) := by decide +kernel
theorem dX6_reason_32 : decode cX6_reason 32 = .ok (.invokestatic 44, 3) := by decide +kernel
theorem dX6_reason_35 : decode cX6_reason 35 = .ok (.iconst 4, 1) := by decide +kernel
theorem dX6_reason_36 : decode cX6_reason 36 = .ok (.iadd, 1) := by decide +kernel
theorem dX6_reason_37 : decode cX6_reason 37 = .ok (.iaload, 1) := by decide +kernel
theorem dX6_reason_38 : decode cX6_reason 38 = .ok (.iconst 1, 1) := by decide +kernel
theorem dX6_reason_39 : decode cX6_reason 39 = .ok (.if_icmp .ne 5, 3) := by decide +kernel
theorem dX6_reason_42 : decode cX6_reason 42 = .ok (.iconst 3, 1) := by decide +kernel
theorem dX6_reason_43 : decode cX6_reason 43 = .ok (.ireturn, 1) := by decide +kernel
theorem dX6_reason_44 : decode cX6_reason 44 = .ok (.aload_n 0, 1) := by decide +kernel
theorem dX6_reason_45 : decode cX6_reason 45 = .ok (.getfield 13, 3) := by decide +kernel
theorem dX6_reason_48 : decode cX6_reason 48 = .ok (.iload_n 1, 1) := by decide +kernel
theorem dX6_reason_49 : decode cX6_reason 49 = .ok (.invokestatic 44, 3) := by decide +kernel
theorem dX6_reason_52 : decode cX6_reason 52 = .ok (.iconst 3, 1) := by decide +kernel
theorem dX6_reason_53 : decode cX6_reason 53 = .ok (.iadd, 1) := by decide +kernel
theorem dX6_reason_54 : decode cX6_reason 54 = .ok (.iaload, 1) := by decide +kernel
theorem dX6_reason_55 : decode cX6_reason 55 = .ok (.iconst 1, 1) := by decide +kernel
theorem dX6_reason_56 : decode cX6_reason 56 = .ok (.if_icmp .ne 17, 3) := by decide +kernel
theorem dX6_reason_59 : decode cX6_reason 59 = .ok (.aload_n 0, 1) := by decide +kernel
theorem dX6_reason_60 : decode cX6_reason 60 = .ok (.aload_n 0, 1) := by decide +kernel
theorem dX6_reason_61 : decode cX6_reason 61 = .ok (.iload_n 1, 1) := by decide +kernel
theorem dX6_reason_62 : decode cX6_reason 62 = .ok (.invokevirtual 64, 3) := by decide +kernel
theorem dX6_reason_65 : decode cX6_reason 65 = .ok (.invokevirtual 67, 3) := by decide +kernel
theorem dX6_reason_68 : decode cX6_reason 68 = .ok (.ifCond .eq 5, 3) := by decide +kernel
theorem dX6_reason_71 : decode cX6_reason 71 = .ok (.iconst 4, 1) := by decide +kernel
theorem dX6_reason_72 : decode cX6_reason 72 = .ok (.ireturn, 1) := by decide +kernel
theorem dX6_reason_73 : decode cX6_reason 73 = .ok (.iconst 0, 1) := by decide +kernel
theorem dX6_reason_74 : decode cX6_reason 74 = .ok (.ireturn, 1) := by decide +kernel
theorem dX6_clearSignals_0 : decode cX6_clearSignals 0 = .ok (.iconst 0, 1) := by decide +kernel
theorem dX6_clearSignals_1 : decode cX6_clearSignals 1 = .ok (.istore_n 1, 1) := by decide +kernel
theorem dX6_clearSignals_2 : decode cX6_clearSignals 2 = .ok (.iconst 0, 1) := by decide +kernel
theorem dX6_clearSignals_3 : decode cX6_clearSignals 3 = .ok (.istore_n 2, 1) := by decide +kernel
theorem dX6_clearSignals_4 : decode cX6_clearSignals 4 = .ok (.iload_n 2, 1) := by decide +kernel
theorem dX6_clearSignals_5 : decode cX6_clearSignals 5 = .ok (.aload_n 0, 1) := by decide +kernel
theorem dX6_clearSignals_6 : decode cX6_clearSignals 6 = .ok (.getfield 13, 3) := by decide +kernel
theorem dX6_clearSignals_9 : decode cX6_clearSignals 9 = .ok (.iconst 1, 1) := by decide +kernel
theorem dX6_clearSignals_10 : decode cX6_clearSignals 10 = .ok (.iaload, 1) := by decide +kernel
theorem dX6_clearSignals_11 : decode cX6_clearSignals 11 = .ok (.if_icmp .ge 23, 3) := by decide +kernel
theorem dX6_clearSignals_14 : decode cX6_clearSignals 14 = .ok (.iload_n 1, 1) := by decide +kernel
theorem dX6_clearSignals_15 : decode cX6_clearSignals 15 = .ok (.aload_n 0, 1) := by decide +kernel
theorem dX6_clearSignals_16 : decode cX6_clearSignals 16 = .ok (.getfield 13, 3) := by decide +kernel
theorem dX6_clearSignals_19 : decode cX6_clearSignals 19 = .ok (.iload_n 2, 1) := by decide +kernel
theorem dX6_clearSignals_20 : decode cX6_clearSignals 20 = .ok (.invokestatic 44, 3) := by decide +kernel
theorem dX6_clearSignals_23 : decode cX6_clearSignals 23 = .ok (.iconst 4, 1) := by decide +kernel
theorem dX6_clearSignals_24 : decode cX6_clearSignals 24 = .ok (.iadd, 1) := by decide +kernel
theorem dX6_clearSignals_25 : decode cX6_clearSignals 25 = .ok (.iaload, 1) := by decide +kernel
theorem dX6_clearSignals_26 : decode cX6_clearSignals 26 = .ok (.iadd, 1) := by decide +kernel
theorem dX6_clearSignals_27 : decode cX6_clearSignals 27 = .ok (.istore_n 1, 1) := by decide +kernel
theorem dX6_clearSignals_28 : decode cX6_clearSignals 28 = .ok (.iinc 2 1, 3) := by decide +kernel
theorem dX6_clearSignals_31 : decode cX6_clearSignals 31 = .ok (.goto (-27), 3) := by decide +kernel
theorem dX6_clearSignals_34 : decode cX6_clearSignals 34 = .ok (.iload_n 1, 1) := by decide +kernel
theorem dX6_clearSignals_35 : decode cX6_clearSignals 35 = .ok (.ireturn, 1) := by decide +kernel
theorem dX6_speed_0 : decode cX6_speed 0 = .ok (.aload_n 0, 1) := by decide +kernel
theorem dX6_speed_1 : decode cX6_speed 1 = .ok (.getfield 13, 3) := by decide +kernel
theorem dX6_speed_4 : decode cX6_speed 4 = .ok (.aload_n 0, 1) := by decide +kernel
theorem dX6_speed_5 : decode cX6_speed 5 = .ok (.getfield 13, 3) := by decide +kernel
theorem dX6_speed_8 : decode cX6_speed 8 = .ok (.iload_n 1, 1) := by decide +kernel
theorem dX6_speed_9 : decode cX6_speed 9 = .ok (.invokestatic 58, 3) := by decide +kernel
theorem dX6_speed_12 : decode cX6_speed 12 = .ok (.iconst 2, 1) := by decide +kernel
theorem dX6_speed_13 : decode cX6_speed 13 = .ok (.iadd, 1) := by decide +kernel
theorem dX6_speed_14 : decode cX6_speed 14 = .ok (.iaload, 1) := by decide +kernel
theorem dX6_speed_15 : decode cX6_speed 15 = .ok (.invokestatic 44, 3) := by decide +kernel
theorem dX6_speed_18 : decode cX6_speed 18 = .ok (.iconst 2, 1) := by decide +kernel
theorem dX6_speed_19 : decode cX6_speed 19 = .ok (.iadd, 1) := by decide +kernel
theorem dX6_speed_20 : decode cX6_speed 20 = .ok (.iaload, 1) := by decide +kernel
theorem dX6_speed_21 : decode cX6_speed 21 = .ok (.istore_n 2, 1) := by decide +kernel
theorem dX6_speed_22 : decode cX6_speed 22 = .ok (.aload_n 0, 1) := by decide +kernel
theorem dX6_speed_23 : decode cX6_speed 23 = .ok (.getfield 13, 3) := by decide +kernel
theorem dX6_speed_26 : decode cX6_speed 26 = .ok (.iload_n 1, 1) := by decide +kernel
theorem dX6_speed_27 : decode cX6_speed 27 = .ok (.invokestatic 58, 3) := by decide +kernel
theorem dX6_speed_30 : decode cX6_speed 30 = .ok (.iconst 1, 1) := by decide +kernel
theorem dX6_speed_31 : decode cX6_speed 31 = .ok (.iadd, 1) := by decide +kernel
theorem dX6_speed_32 : decode cX6_speed 32 = .ok (.iaload, 1) := by decide +kernel
theorem dX6_speed_33 : decode cX6_speed 33 = .ok (.iload_n 2, 1) := by decide +kernel
theorem dX6_speed_34 : decode cX6_speed 34 = .ok (.if_icmp .ge 15, 3) := by decide +kernel
theorem dX6_speed_37 : decode cX6_speed 37 = .ok (.aload_n 0, 1) := by decide +kernel
theorem dX6_speed_38 : decode cX6_speed 38 = .ok (.getfield 13, 3) := by decide +kernel
theorem dX6_speed_41 : decode cX6_speed 41 = .ok (.iload_n 1, 1) := by decide +kernel
theorem dX6_speed_42 : decode cX6_speed 42 = .ok (.invokestatic 58, 3) := by decide +kernel
theorem dX6_speed_45 : decode cX6_speed 45 = .ok (.iconst 1, 1) := by decide +kernel
theorem dX6_speed_46 : decode cX6_speed 46 = .ok (.iadd, 1) := by decide +kernel
theorem dX6_speed_47 : decode cX6_speed 47 = .ok (.iaload, 1) := by decide +kernel
theorem dX6_speed_48 : decode cX6_speed 48 = .ok (.ireturn, 1) := by decide +kernel
theorem dX6_speed_49 : decode cX6_speed 49 = .ok (.iload_n 2, 1) := by decide +kernel
theorem dX6_speed_50 : decode cX6_speed 50 = .ok (.ireturn, 1) := by decide +kernel
theorem dX6_isAtEnd_0 : decode cX6_isAtEnd 0 = .ok (.aload_n 0, 1) := by decide +kernel
theorem dX6_isAtEnd_1 : decode cX6_isAtEnd 1 = .ok (.getfield 13, 3) := by decide +kernel
theorem dX6_isAtEnd_4 : decode cX6_isAtEnd 4 = .ok (.iload_n 1, 1) := by decide +kernel
theorem dX6_isAtEnd_5 : decode cX6_isAtEnd 5 = .ok (.invokestatic 58, 3) := by decide +kernel
theorem dX6_isAtEnd_8 : decode cX6_isAtEnd 8 = .ok (.iconst 3, 1) := by decide +kernel
theorem dX6_isAtEnd_9 : decode cX6_isAtEnd 9 = .ok (.iadd, 1) := by decide +kernel
theorem dX6_isAtEnd_10 : decode cX6_isAtEnd 10 = .ok (.iaload, 1) := by decide +kernel
theorem dX6_isAtEnd_11 : decode cX6_isAtEnd 11 = .ok (.aload_n 0, 1) := by decide +kernel
theorem dX6_isAtEnd_12 : decode cX6_isAtEnd 12 = .ok (.getfield 13, 3) := by decide +kernel
theorem dX6_isAtEnd_15 : decode cX6_isAtEnd 15 = .ok (.aload_n 0, 1) := by decide +kernel
theorem dX6_isAtEnd_16 : decode cX6_isAtEnd 16 = .ok (.getfield 13, 3) := by decide +kernel
theorem dX6_isAtEnd_19 : decode cX6_isAtEnd 19 = .ok (.iload_n 1, 1) := by decide +kernel
theorem dX6_isAtEnd_20 : decode cX6_isAtEnd 20 = .ok (.invokestatic 58, 3) := by decide +kernel
theorem dX6_isAtEnd_23 : decode cX6_isAtEnd 23 = .ok (.iconst 2, 1) := by decide +kernel
theorem dX6_isAtEnd_24 : decode cX6_isAtEnd 24 = .ok (.iadd, 1) := by decide +kernel
theorem dX6_isAtEnd_25 : decode cX6_isAtEnd 25 = .ok (.iaload, 1) := by decide +kernel
theorem dX6_isAtEnd_26 : decode cX6_isAtEnd 26 = .ok (.invokestatic 44, 3) := by decide +kernel
theorem dX6_isAtEnd_29 : decode cX6_isAtEnd 29 = .ok (.iconst 0, 1) := by decide +kernel
theorem dX6_isAtEnd_30 : decode cX6_isAtEnd 30 = .ok (.iadd, 1) := by decide +kernel
theorem dX6_isAtEnd_31 : decode cX6_isAtEnd 31 = .ok (.iaload, 1) := by decide +kernel
theorem dX6_isAtEnd_32 : decode cX6_isAtEnd 32 = .ok (.if_icmp .ne 7, 3) := by decide +kernel
theorem dX6_isAtEnd_35 : decode cX6_isAtEnd 35 = .ok (.iconst 1, 1) := by decide +kernel
theorem dX6_isAtEnd_36 : decode cX6_isAtEnd 36 = .ok (.goto 4, 3) := by decide +kernel
theorem dX6_isAtEnd_39 : decode cX6_isAtEnd 39 = .ok (.iconst 0, 1) := by decide +kernel
theorem dX6_isAtEnd_40 : decode cX6_isAtEnd 40 = .ok (.ireturn, 1) := by decide +kernel
theorem dX6_mayEnter_0 : decode cX6_mayEnter 0 = .ok (.aload_n 0, 1) := by decide +kernel
theorem dX6_mayEnter_1 : decode cX6_mayEnter 1 = .ok (.aload_n 0, 1) := by decide +kernel
theorem dX6_mayEnter_2 : decode cX6_mayEnter 2 = .ok (.getfield 13, 3) := by decide +kernel
theorem dX6_mayEnter_5 : decode cX6_mayEnter 5 = .ok (.iload_n 1, 1) := by decide +kernel
theorem dX6_mayEnter_6 : decode cX6_mayEnter 6 = .ok (.invokestatic 58, 3) := by decide +kernel
theorem dX6_mayEnter_9 : decode cX6_mayEnter 9 = .ok (.iconst 2, 1) := by decide +kernel
theorem dX6_mayEnter_10 : decode cX6_mayEnter 10 = .ok (.iadd, 1) := by decide +kernel
theorem dX6_mayEnter_11 : decode cX6_mayEnter 11 = .ok (.iaload, 1) := by decide +kernel
theorem dX6_mayEnter_12 : decode cX6_mayEnter 12 = .ok (.invokevirtual 64, 3) := by decide +kernel
theorem dX6_mayEnter_15 : decode cX6_mayEnter 15 = .ok (.istore_n 2, 1) := by decide +kernel
theorem dX6_mayEnter_16 : decode cX6_mayEnter 16 = .ok (.aload_n 0, 1) := by decide +kernel
theorem dX6_mayEnter_17 : decode cX6_mayEnter 17 = .ok (.getfield 13, 3) := by decide +kernel
theorem dX6_mayEnter_20 : decode cX6_mayEnter 20 = .ok (.iload_n 2, 1) := by decide +kernel
theorem dX6_mayEnter_21 : decode cX6_mayEnter 21 = .ok (.invokestatic 44, 3) := by decide +kernel
theorem dX6_mayEnter_24 : decode cX6_mayEnter 24 = .ok (.iconst 4, 1) := by decide +kernel
theorem dX6_mayEnter_25 : decode cX6_mayEnter 25 = .ok (.iadd, 1) := by decide +kernel
theorem dX6_mayEnter_26 : decode cX6_mayEnter 26 = .ok (.iaload, 1) := by decide +kernel
theorem dX6_mayEnter_27 : decode cX6_mayEnter 27 = .ok (.iconst 1, 1) := by decide +kernel
theorem dX6_mayEnter_28 : decode cX6_mayEnter 28 = .ok (.if_icmp .ne 15, 3) := by decide +kernel
theorem dX6_mayEnter_31 : decode cX6_mayEnter 31 = .ok (.aload_n 0, 1) := by decide +kernel
theorem dX6_mayEnter_32 : decode cX6_mayEnter 32 = .ok (.iload_n 2, 1) := by decide +kernel
theorem dX6_mayEnter_33 : decode cX6_mayEnter 33 = .ok (.invokevirtual 67, 3) := by decide +kernel
theorem dX6_mayEnter_36 : decode cX6_mayEnter 36 = .ok (.ifCond .ne 7, 3) := by decide +kernel
theorem dX6_mayEnter_39 : decode cX6_mayEnter 39 = .ok (.iconst 1, 1) := by decide +kernel
theorem dX6_mayEnter_40 : decode cX6_mayEnter 40 = .ok (.goto 4, 3) := by decide +kernel
theorem dX6_mayEnter_43 : decode cX6_mayEnter 43 = .ok (.iconst 0, 1) := by decide +kernel
theorem dX6_mayEnter_44 : decode cX6_mayEnter 44 = .ok (.ireturn, 1) := by decide +kernel
theorem dX6_leaves_0 : decode cX6_leaves 0 = .ok (.aload_n 0, 1) := by decide +kernel
theorem dX6_leaves_1 : decode cX6_leaves 1 = .ok (.getfield 13, 3) := by decide +kernel
theorem dX6_leaves_4 : decode cX6_leaves 4 = .ok (.iload_n 1, 1) := by decide +kernel
theorem dX6_leaves_5 : decode cX6_leaves 5 = .ok (.invokestatic 58, 3) := by decide +kernel
theorem dX6_leaves_8 : decode cX6_leaves 8 = .ok (.iconst 2, 1) := by decide +kernel
theorem dX6_leaves_9 : decode cX6_leaves 9 = .ok (.iadd, 1) := by decide +kernel
theorem dX6_leaves_10 : decode cX6_leaves 10 = .ok (.iaload, 1) := by decide +kernel
theorem dX6_leaves_11 : decode cX6_leaves 11 = .ok (.istore_n 2, 1) := by decide +kernel
theorem dX6_leaves_12 : decode cX6_leaves 12 = .ok (.aload_n 0, 1) := by decide +kernel
theorem dX6_leaves_13 : decode cX6_leaves 13 = .ok (.getfield 13, 3) := by decide +kernel
theorem dX6_leaves_16 : decode cX6_leaves 16 = .ok (.iload_n 2, 1) := by decide +kernel
theorem dX6_leaves_17 : decode cX6_leaves 17 = .ok (.invokestatic 44, 3) := by decide +kernel
theorem dX6_leaves_20 : decode cX6_leaves 20 = .ok (.iconst 1, 1) := by decide +kernel
theorem dX6_leaves_21 : decode cX6_leaves 21 = .ok (.iadd, 1) := by decide +kernel
theorem dX6_leaves_22 : decode cX6_leaves 22 = .ok (.iaload, 1) := by decide +kernel
theorem dX6_leaves_23 : decode cX6_leaves 23 = .ok (.bipush 7, 2) := by decide +kernel
theorem dX6_leaves_25 : decode cX6_leaves 25 = .ok (.if_icmp .lt 31, 3) := by decide +kernel
theorem dX6_leaves_28 : decode cX6_leaves 28 = .ok (.aload_n 0, 1) := by decide +kernel
theorem dX6_leaves_29 : decode cX6_leaves 29 = .ok (.iload_n 1, 1) := by decide +kernel
theorem dX6_leaves_30 : decode cX6_leaves 30 = .ok (.invokevirtual 71, 3) := by decide +kernel
theorem dX6_leaves_33 : decode cX6_leaves 33 = .ok (.iconst 3, 1) := by decide +kernel
theorem dX6_leaves_34 : decode cX6_leaves 34 = .ok (.if_icmp .lt 22, 3) := by decide +kernel
theorem dX6_leaves_37 : decode cX6_leaves 37 = .ok (.aload_n 0, 1) := by decide +kernel
theorem dX6_leaves_38 : decode cX6_leaves 38 = .ok (.getfield 13, 3) := by decide +kernel
theorem dX6_leaves_41 : decode cX6_leaves 41 = .ok (.iload_n 1, 1) := by decide +kernel
theorem dX6_leaves_42 : decode cX6_leaves 42 = .ok (.invokestatic 58, 3) := by decide +kernel
theorem dX6_leaves_45 : decode cX6_leaves 45 = .ok (.iconst 0, 1) := by decide +kernel
theorem dX6_leaves_46 : decode cX6_leaves 46 = .ok (.iadd, 1) := by decide +kernel
theorem dX6_leaves_47 : decode cX6_leaves 47 = .ok (.iaload, 1) := by decide +kernel
theorem dX6_leaves_48 : decode cX6_leaves 48 = .ok (.iconst 1, 1) := by decide +kernel
theorem dX6_leaves_49 : decode cX6_leaves 49 = .ok (.if_icmp .le 7, 3) := by decide +kernel
theorem dX6_leaves_52 : decode cX6_leaves 52 = .ok (.iconst 1, 1) := by decide +kernel
theorem dX6_leaves_53 : decode cX6_leaves 53 = .ok (.goto 4, 3) := by decide +kernel
theorem dX6_leaves_56 : decode cX6_leaves 56 = .ok (.iconst 0, 1) := by decide +kernel
theorem dX6_leaves_57 : decode cX6_leaves 57 = .ok (.istore_n 3, 1) := by decide +kernel
theorem dX6_leaves_58 : decode cX6_leaves 58 = .ok (.iload_n 3, 1) := by decide +kernel
theorem dX6_leaves_59 : decode cX6_leaves 59 = .ok (.ifCond .eq 33, 3) := by decide +kernel
theorem dX6_leaves_62 : decode cX6_leaves 62 = .ok (.aload_n 0, 1) := by decide +kernel
theorem dX6_leaves_63 : decode cX6_leaves 63 = .ok (.getfield 13, 3) := by decide +kernel
theorem dX6_leaves_66 : decode cX6_leaves 66 = .ok (.iload_n 1, 1) := by decide +kernel
theorem dX6_leaves_67 : decode cX6_leaves 67 = .ok (.invokestatic 58, 3) := by decide +kernel
theorem dX6_leaves_70 : decode cX6_leaves 70 = .ok (.iconst 0, 1) := by decide +kernel
theorem dX6_leaves_71 : decode cX6_leaves 71 = .ok (.iadd, 1) := by decide +kernel
theorem dX6_leaves_72 : decode cX6_leaves 72 = .ok (.dup2, 1) := by decide +kernel
theorem dX6_leaves_73 : decode cX6_leaves 73 = .ok (.iaload, 1) := by decide +kernel
theorem dX6_leaves_74 : decode cX6_leaves 74 = .ok (.iconst 1, 1) := by decide +kernel
theorem dX6_leaves_75 : decode cX6_leaves 75 = .ok (.isub, 1) := by decide +kernel
theorem dX6_leaves_76 : decode cX6_leaves 76 = .ok (.iastore, 1) := by decide +kernel
theorem dX6_leaves_77 : decode cX6_leaves 77 = .ok (.aload_n 0, 1) := by decide +kernel
theorem dX6_leaves_78 : decode cX6_leaves 78 = .ok (.getfield 13, 3) := by decide +kernel
theorem dX6_leaves_81 : decode cX6_leaves 81 = .ok (.iload_n 2, 1) := by decide +kernel
theorem dX6_leaves_82 : decode cX6_leaves 82 = .ok (.invokestatic 44, 3) := by decide +kernel
theorem dX6_leaves_85 : decode cX6_leaves 85 = .ok (.iconst 5, 1) := by decide +kernel
theorem dX6_leaves_86 : decode cX6_leaves 86 = .ok (.iadd, 1) := by decide +kernel
theorem dX6_leaves_87 : decode cX6_leaves 87 = .ok (.dup2, 1) := by decide +kernel
theorem dX6_leaves_88 : decode cX6_leaves 88 = .ok (.iaload, 1) := by decide +kernel
theorem dX6_leaves_89 : decode cX6_leaves 89 = .ok (.iconst 1, 1) := by decide +kernel
theorem dX6_leaves_90 : decode cX6_leaves 90 = .ok (.iadd, 1) := by decide +kernel
theorem dX6_leaves_91 : decode cX6_leaves 91 = .ok (.iastore, 1) := by decide +kernel
theorem dX6_leaves_92 : decode cX6_leaves 92 = .ok (.aload_n 0, 1) := by decide +kernel
theorem dX6_leaves_93 : decode cX6_leaves 93 = .ok (.getfield 13, 3) := by decide +kernel
theorem dX6_leaves_96 : decode cX6_leaves 96 = .ok (.iload_n 2, 1) := by decide +kernel
theorem dX6_leaves_97 : decode cX6_leaves 97 = .ok (.invokestatic 44, 3) := by decide +kernel
theorem dX6_leaves_100 : decode cX6_leaves 100 = .ok (.iconst 1, 1) := by decide +kernel
theorem dX6_leaves_101 : decode cX6_leaves 101 = .ok (.iadd, 1) := by decide +kernel
theorem dX6_leaves_102 : decode cX6_leaves 102 = .ok (.iaload, 1) := by decide +kernel
theorem dX6_leaves_103 : decode cX6_leaves 103 = .ok (.iconst 1, 1) := by decide +kernel
theorem dX6_leaves_104 : decode cX6_leaves 104 = .ok (.iadd, 1) := by decide +kernel
theorem dX6_leaves_105 : decode cX6_leaves 105 = .ok (.aload_n 0, 1) := by decide +kernel
theorem dX6_leaves_106 : decode cX6_leaves 106 = .ok (.getfield 13, 3) := by decide +kernel
theorem dX6_leaves_109 : decode cX6_leaves 109 = .ok (.iload_n 1, 1) := by decide +kernel
theorem dX6_leaves_110 : decode cX6_leaves 110 = .ok (.invokestatic 58, 3) := by decide +kernel
theorem dX6_leaves_113 : decode cX6_leaves 113 = .ok (.iconst 0, 1) := by decide +kernel
theorem dX6_leaves_114 : decode cX6_leaves 114 = .ok (.iadd, 1) := by decide +kernel
theorem dX6_leaves_115 : decode cX6_leaves 115 = .ok (.iaload, 1) := by decide +kernel
theorem dX6_leaves_116 : decode cX6_leaves 116 = .ok (.iconst 4, 1) := by decide +kernel
theorem dX6_leaves_117 : decode cX6_leaves 117 = .ok (.idiv, 1) := by decide +kernel
theorem dX6_leaves_118 : decode cX6_leaves 118 = .ok (.iadd, 1) := by decide +kernel
theorem dX6_leaves_119 : decode cX6_leaves 119 = .ok (.istore 4, 2) := by decide +kernel
theorem dX6_leaves_121 : decode cX6_leaves 121 = .ok (.iload 4, 2) := by decide +kernel
theorem dX6_leaves_123 : decode cX6_leaves 123 = .ok (.bipush 9, 2) := by decide +kernel
theorem dX6_leaves_125 : decode cX6_leaves 125 = .ok (.if_icmp .le 7, 3) := by decide +kernel
theorem dX6_leaves_128 : decode cX6_leaves 128 = .ok (.bipush 9, 2) := by decide +kernel
theorem dX6_leaves_130 : decode cX6_leaves 130 = .ok (.istore 4, 2) := by decide +kernel
theorem dX6_leaves_132 : decode cX6_leaves 132 = .ok (.aload_n 0, 1) := by decide +kernel
theorem dX6_leaves_133 : decode cX6_leaves 133 = .ok (.getfield 13, 3) := by decide +kernel
theorem dX6_leaves_136 : decode cX6_leaves 136 = .ok (.iload_n 2, 1) := by decide +kernel
theorem dX6_leaves_137 : decode cX6_leaves 137 = .ok (.invokestatic 44, 3) := by decide +kernel
theorem dX6_leaves_140 : decode cX6_leaves 140 = .ok (.iconst 1, 1) := by decide +kernel
theorem dX6_leaves_141 : decode cX6_leaves 141 = .ok (.iadd, 1) := by decide +kernel
theorem dX6_leaves_142 : decode cX6_leaves 142 = .ok (.iload 4, 2) := by decide +kernel
theorem dX6_leaves_144 : decode cX6_leaves 144 = .ok (.iastore, 1) := by decide +kernel
theorem dX6_leaves_145 : decode cX6_leaves 145 = .ok (.aload_n 0, 1) := by decide +kernel
theorem dX6_leaves_146 : decode cX6_leaves 146 = .ok (.getfield 13, 3) := by decide +kernel
theorem dX6_leaves_149 : decode cX6_leaves 149 = .ok (.iload_n 1, 1) := by decide +kernel
theorem dX6_leaves_150 : decode cX6_leaves 150 = .ok (.iload_n 2, 1) := by decide +kernel
theorem dX6_leaves_151 : decode cX6_leaves 151 = .ok (.invokestatic 74, 3) := by decide +kernel
theorem dX6_leaves_154 : decode cX6_leaves 154 = .ok (.dup2, 1) := by decide +kernel
theorem dX6_leaves_155 : decode cX6_leaves 155 = .ok (.iaload, 1) := by decide +kernel
theorem dX6_leaves_156 : decode cX6_leaves 156 = .ok (.iconst 1, 1) := by decide +kernel
theorem dX6_leaves_157 : decode cX6_leaves 157 = .ok (.iadd, 1) := by decide +kernel
theorem dX6_leaves_158 : decode cX6_leaves 158 = .ok (.iastore, 1) := by decide +kernel
theorem dX6_leaves_159 : decode cX6_leaves 159 = .ok (.return_, 1) := by decide +kernel
theorem dX6_moves_0 : decode cX6_moves 0 = .ok (.iload_n 1, 1) := by decide +kernel
theorem dX6_moves_1 : decode cX6_moves 1 = .ok (.invokestatic 58, 3) := by decide +kernel
theorem dX6_moves_4 : decode cX6_moves 4 = .ok (.istore_n 2, 1) := by decide +kernel
theorem dX6_moves_5 : decode cX6_moves 5 = .ok (.aload_n 0, 1) := by decide +kernel
theorem dX6_moves_6 : decode cX6_moves 6 = .ok (.getfield 13, 3) := by decide +kernel
theorem dX6_moves_9 : decode cX6_moves 9 = .ok (.aload_n 0, 1) := by decide +kernel
theorem dX6_moves_10 : decode cX6_moves 10 = .ok (.getfield 13, 3) := by decide +kernel
theorem dX6_moves_13 : decode cX6_moves 13 = .ok (.iload_n 2, 1) := by decide +kernel
theorem dX6_moves_14 : decode cX6_moves 14 = .ok (.iconst 2, 1) := by decide +kernel
theorem dX6_moves_15 : decode cX6_moves 15 = .ok (.iadd, 1) := by decide +kernel
theorem dX6_moves_16 : decode cX6_moves 16 = .ok (.iaload, 1) := by decide +kernel
theorem dX6_moves_17 : decode cX6_moves 17 = .ok (.invokestatic 44, 3) := by decide +kernel
theorem dX6_moves_20 : decode cX6_moves 20 = .ok (.iconst 0, 1) := by decide +kernel
theorem dX6_moves_21 : decode cX6_moves 21 = .ok (.iadd, 1) := by decide +kernel
theorem dX6_moves_22 : decode cX6_moves 22 = .ok (.iaload, 1) := by decide +kernel
theorem dX6_moves_23 : decode cX6_moves 23 = .ok (.istore_n 3, 1) := by decide +kernel
theorem dX6_moves_24 : decode cX6_moves 24 = .ok (.aload_n 0, 1) := by decide +kernel
theorem dX6_moves_25 : decode cX6_moves 25 = .ok (.getfield 13, 3) := by decide +kernel
theorem dX6_moves_28 : decode cX6_moves 28 = .ok (.iload_n 2, 1) := by decide +kernel
theorem dX6_moves_29 : decode cX6_moves 29 = .ok (.iconst 3, 1) := by decide +kernel
theorem dX6_moves_30 : decode cX6_moves 30 = .ok (.iadd, 1) := by decide +kernel
theorem dX6_moves_31 : decode cX6_moves 31 = .ok (.iaload, 1) := by decide +kernel
theorem dX6_moves_32 : decode cX6_moves 32 = .ok (.aload_n 0, 1) := by decide +kernel
theorem dX6_moves_33 : decode cX6_moves 33 = .ok (.iload_n 1, 1) := by decide +kernel
theorem dX6_moves_34 : decode cX6_moves 34 = .ok (.invokevirtual 71, 3) := by decide +kernel
theorem dX6_moves_37 : decode cX6_moves 37 = .ok (.iadd, 1) := by decide +kernel
theorem dX6_moves_38 : decode cX6_moves 38 = .ok (.istore 4, 2) := by decide +kernel
theorem dX6_moves_40 : decode cX6_moves 40 = .ok (.iload 4, 2) := by decide +kernel
theorem dX6_moves_42 : decode cX6_moves 42 = .ok (.iload_n 3, 1) := by decide +kernel
theorem dX6_moves_43 : decode cX6_moves 43 = .ok (.if_icmp .le 6, 3) := by decide +kernel
theorem dX6_moves_46 : decode cX6_moves 46 = .ok (.iload_n 3, 1) := by decide +kernel
theorem dX6_moves_47 : decode cX6_moves 47 = .ok (.istore 4, 2) := by decide +kernel
theorem dX6_moves_49 : decode cX6_moves 49 = .ok (.aload_n 0, 1) := by decide +kernel
theorem dX6_moves_50 : decode cX6_moves 50 = .ok (.getfield 13, 3) := by decide +kernel
theorem dX6_moves_53 : decode cX6_moves 53 = .ok (.iload_n 2, 1) := by decide +kernel
theorem dX6_moves_54 : decode cX6_moves 54 = .ok (.iconst 3, 1) := by decide +kernel
theorem dX6_moves_55 : decode cX6_moves 55 = .ok (.iadd, 1) := by decide +kernel
theorem dX6_moves_56 : decode cX6_moves 56 = .ok (.iload 4, 2) := by decide +kernel
theorem dX6_moves_58 : decode cX6_moves 58 = .ok (.iastore, 1) := by decide +kernel
theorem dX6_moves_59 : decode cX6_moves 59 = .ok (.aload_n 0, 1) := by decide +kernel
theorem dX6_moves_60 : decode cX6_moves 60 = .ok (.iload_n 1, 1) := by decide +kernel
theorem dX6_moves_61 : decode cX6_moves 61 = .ok (.invokevirtual 78, 3) := by decide +kernel
theorem dX6_moves_64 : decode cX6_moves 64 = .ok (.ifCond .ne 5, 3) := by decide +kernel
theorem dX6_moves_67 : decode cX6_moves 67 = .ok (.iconst 0, 1) := by decide +kernel
theorem dX6_moves_68 : decode cX6_moves 68 = .ok (.ireturn, 1) := by decide +kernel
theorem dX6_moves_69 : decode cX6_moves 69 = .ok (.aload_n 0, 1) := by decide +kernel
theorem dX6_moves_70 : decode cX6_moves 70 = .ok (.iload_n 1, 1) := by decide +kernel
theorem dX6_moves_71 : decode cX6_moves 71 = .ok (.invokevirtual 81, 3) := by decide +kernel
theorem dX6_moves_74 : decode cX6_moves 74 = .ok (.ifCond .ne 17, 3) := by decide +kernel
theorem dX6_moves_77 : decode cX6_moves 77 = .ok (.aload_n 0, 1) := by decide +kernel
theorem dX6_moves_78 : decode cX6_moves 78 = .ok (.getfield 13, 3) := by decide +kernel
theorem dX6_moves_81 : decode cX6_moves 81 = .ok (.iload_n 2, 1) := by decide +kernel
theorem dX6_moves_82 : decode cX6_moves 82 = .ok (.iconst 4, 1) := by decide +kernel
theorem dX6_moves_83 : decode cX6_moves 83 = .ok (.iadd, 1) := by decide +kernel
theorem dX6_moves_84 : decode cX6_moves 84 = .ok (.dup2, 1) := by decide +kernel
theorem dX6_moves_85 : decode cX6_moves 85 = .ok (.iaload, 1) := by decide +kernel
theorem dX6_moves_86 : decode cX6_moves 86 = .ok (.iconst 1, 1) := by decide +kernel
theorem dX6_moves_87 : decode cX6_moves 87 = .ok (.iadd, 1) := by decide +kernel
theorem dX6_moves_88 : decode cX6_moves 88 = .ok (.iastore, 1) := by decide +kernel
theorem dX6_moves_89 : decode cX6_moves 89 = .ok (.iconst 0, 1) := by decide +kernel
theorem dX6_moves_90 : decode cX6_moves 90 = .ok (.ireturn, 1) := by decide +kernel
theorem dX6_moves_91 : decode cX6_moves 91 = .ok (.aload_n 0, 1) := by decide +kernel
theorem dX6_moves_92 : decode cX6_moves 92 = .ok (.iload_n 1, 1) := by decide +kernel
theorem dX6_moves_93 : decode cX6_moves 93 = .ok (.invokevirtual 84, 3) := by decide +kernel
theorem dX6_moves_96 : decode cX6_moves 96 = .ok (.aload_n 0, 1) := by decide +kernel
theorem dX6_moves_97 : decode cX6_moves 97 = .ok (.getfield 13, 3) := by decide +kernel
theorem dX6_moves_100 : decode cX6_moves 100 = .ok (.iload_n 2, 1) := by decide +kernel
theorem dX6_moves_101 : decode cX6_moves 101 = .ok (.iconst 2, 1) := by decide +kernel
theorem dX6_moves_102 : decode cX6_moves 102 = .ok (.iadd, 1) := by decide +kernel
theorem dX6_moves_103 : decode cX6_moves 103 = .ok (.aload_n 0, 1) := by decide +kernel
theorem dX6_moves_104 : decode cX6_moves 104 = .ok (.aload_n 0, 1) := by decide +kernel
theorem dX6_moves_105 : decode cX6_moves 105 = .ok (.getfield 13, 3) := by decide +kernel
theorem dX6_moves_108 : decode cX6_moves 108 = .ok (.iload_n 2, 1) := by decide +kernel
theorem dX6_moves_109 : decode cX6_moves 109 = .ok (.iconst 2, 1) := by decide +kernel
theorem dX6_moves_110 : decode cX6_moves 110 = .ok (.iadd, 1) := by decide +kernel
theorem dX6_moves_111 : decode cX6_moves 111 = .ok (.iaload, 1) := by decide +kernel
theorem dX6_moves_112 : decode cX6_moves 112 = .ok (.invokevirtual 64, 3) := by decide +kernel
theorem dX6_moves_115 : decode cX6_moves 115 = .ok (.iastore, 1) := by decide +kernel
theorem dX6_moves_116 : decode cX6_moves 116 = .ok (.aload_n 0, 1) := by decide +kernel
theorem dX6_moves_117 : decode cX6_moves 117 = .ok (.getfield 13, 3) := by decide +kernel
theorem dX6_moves_120 : decode cX6_moves 120 = .ok (.iload_n 2, 1) := by decide +kernel
theorem dX6_moves_121 : decode cX6_moves 121 = .ok (.iconst 3, 1) := by decide +kernel
theorem dX6_moves_122 : decode cX6_moves 122 = .ok (.iadd, 1) := by decide +kernel
theorem dX6_moves_123 : decode cX6_moves 123 = .ok (.iconst 0, 1) := by decide +kernel
theorem dX6_moves_124 : decode cX6_moves 124 = .ok (.iastore, 1) := by decide +kernel
theorem dX6_moves_125 : decode cX6_moves 125 = .ok (.aload_n 0, 1) := by decide +kernel
theorem dX6_moves_126 : decode cX6_moves 126 = .ok (.getfield 13, 3) := by decide +kernel
theorem dX6_moves_129 : decode cX6_moves 129 = .ok (.aload_n 0, 1) := by decide +kernel
theorem dX6_moves_130 : decode cX6_moves 130 = .ok (.getfield 13, 3) := by decide +kernel
theorem dX6_moves_133 : decode cX6_moves 133 = .ok (.iload_n 2, 1) := by decide +kernel
theorem dX6_moves_134 : decode cX6_moves 134 = .ok (.iconst 2, 1) := by decide +kernel
theorem dX6_moves_135 : decode cX6_moves 135 = .ok (.iadd, 1) := by decide +kernel
theorem dX6_moves_136 : decode cX6_moves 136 = .ok (.iaload, 1) := by decide +kernel
theorem dX6_moves_137 : decode cX6_moves 137 = .ok (.invokestatic 44, 3) := by decide +kernel
theorem dX6_moves_140 : decode cX6_moves 140 = .ok (.iconst 4, 1) := by decide +kernel
theorem dX6_moves_141 : decode cX6_moves 141 = .ok (.iadd, 1) := by decide +kernel
theorem dX6_moves_142 : decode cX6_moves 142 = .ok (.iconst 0, 1) := by decide +kernel
theorem dX6_moves_143 : decode cX6_moves 143 = .ok (.iastore, 1) := by decide +kernel
theorem dX6_moves_144 : decode cX6_moves 144 = .ok (.iconst 1, 1) := by decide +kernel
theorem dX6_moves_145 : decode cX6_moves 145 = .ok (.ireturn, 1) := by decide +kernel
theorem dX6_passesTick_0 : decode cX6_passesTick 0 = .ok (.iconst 0, 1) := by decide +kernel
theorem dX6_passesTick_1 : decode cX6_passesTick 1 = .ok (.istore_n 1, 1) := by decide +kernel
theorem dX6_passesTick_2 : decode cX6_passesTick 2 = .ok (.aload_n 0, 1) := by decide +kernel
theorem dX6_passesTick_3 : decode cX6_passesTick 3 = .ok (.getfield 13, 3) := by decide +kernel
theorem dX6_passesTick_6 : decode cX6_passesTick 6 = .ok (.iconst 0, 1) := by decide +kernel
theorem dX6_passesTick_7 : decode cX6_passesTick 7 = .ok (.dup2, 1) := by decide +kernel
theorem dX6_passesTick_8 : decode cX6_passesTick 8 = .ok (.iaload, 1) := by decide +kernel
theorem dX6_passesTick_9 : decode cX6_passesTick 9 = .ok (.iconst 1, 1) := by decide +kernel
theorem dX6_passesTick_10 : decode cX6_passesTick 10 = .ok (.iadd, 1) := by decide +kernel
theorem dX6_passesTick_11 : decode cX6_passesTick 11 = .ok (.iastore, 1) := by decide +kernel
theorem dX6_passesTick_12 : decode cX6_passesTick 12 = .ok (.iconst 0, 1) := by decide +kernel
theorem dX6_passesTick_13 : decode cX6_passesTick 13 = .ok (.istore_n 2, 1) := by decide +kernel
theorem dX6_passesTick_14 : decode cX6_passesTick 14 = .ok (.iload_n 2, 1) := by decide +kernel
theorem dX6_passesTick_15 : decode cX6_passesTick 15 = .ok (.aload_n 0, 1) := by decide +kernel
theorem dX6_passesTick_16 : decode cX6_passesTick 16 = .ok (.getfield 13, 3) := by decide +kernel
theorem dX6_passesTick_19 : decode cX6_passesTick 19 = .ok (.iconst 2, 1) := by decide +kernel
theorem dX6_passesTick_20 : decode cX6_passesTick 20 = .ok (.iaload, 1) := by decide +kernel
theorem dX6_passesTick_21 : decode cX6_passesTick 21 = .ok (.if_icmp .ge 20, 3) := by decide +kernel
theorem dX6_passesTick_24 : decode cX6_passesTick 24 = .ok (.aload_n 0, 1) := by decide +kernel
theorem dX6_passesTick_25 : decode cX6_passesTick 25 = .ok (.iload_n 2, 1) := by decide +kernel
theorem dX6_passesTick_26 : decode cX6_passesTick 26 = .ok (.invokevirtual 88, 3) := by decide +kernel
theorem dX6_passesTick_29 : decode cX6_passesTick 29 = .ok (.ifCond .eq 6, 3) := by decide +kernel
theorem dX6_passesTick_32 : decode cX6_passesTick 32 = .ok (.iinc 1 1, 3) := by decide +kernel
theorem dX6_passesTick_35 : decode cX6_passesTick 35 = .ok (.iinc 2 1, 3) := by decide +kernel
theorem dX6_passesTick_38 : decode cX6_passesTick 38 = .ok (.goto (-24), 3) := by decide +kernel
theorem dX6_passesTick_41 : decode cX6_passesTick 41 = .ok (.iload_n 1, 1) := by decide +kernel
theorem dX6_passesTick_42 : decode cX6_passesTick 42 = .ok (.ireturn, 1) := by decide +kernel
theorem dX6_passes_0 : decode cX6_passes 0 = .ok (.iconst 0, 1) := by decide +kernel
theorem dX6_passes_1 : decode cX6_passes 1 = .ok (.istore_n 2, 1) := by decide +kernel
theorem dX6_passes_2 : decode cX6_passes 2 = .ok (.iconst 0, 1) := by decide +kernel
theorem dX6_passes_3 : decode cX6_passes 3 = .ok (.istore_n 3, 1) := by decide +kernel
theorem dX6_passes_4 : decode cX6_passes 4 = .ok (.iload_n 3, 1) := by decide +kernel
theorem dX6_passes_5 : decode cX6_passes 5 = .ok (.iload_n 1, 1) := by decide +kernel
theorem dX6_passes_6 : decode cX6_passes 6 = .ok (.if_icmp .ge 16, 3) := by decide +kernel
theorem dX6_passes_9 : decode cX6_passes 9 = .ok (.iload_n 2, 1) := by decide +kernel
theorem dX6_passes_10 : decode cX6_passes 10 = .ok (.aload_n 0, 1) := by decide +kernel
theorem dX6_passes_11 : decode cX6_passes 11 = .ok (.invokevirtual 91, 3) := by decide +kernel
theorem dX6_passes_14 : decode cX6_passes 14 = .ok (.iadd, 1) := by decide +kernel
theorem dX6_passes_15 : decode cX6_passes 15 = .ok (.istore_n 2, 1) := by decide +kernel
theorem dX6_passes_16 : decode cX6_passes 16 = .ok (.iinc 3 1, 3) := by decide +kernel
theorem dX6_passes_19 : decode cX6_passes 19 = .ok (.goto (-15), 3) := by decide +kernel
theorem dX6_passes_22 : decode cX6_passes 22 = .ok (.iload_n 2, 1) := by decide +kernel
theorem dX6_passes_23 : decode cX6_passes 23 = .ok (.ireturn, 1) := by decide +kernel
theorem dX6_forgetsOldest_0 : decode cX6_forgetsOldest 0 = .ok (.sipush 140, 3) := by decide +kernel
theorem dX6_forgetsOldest_3 : decode cX6_forgetsOldest 3 = .ok (.istore_n 1, 1) := by decide +kernel
theorem dX6_forgetsOldest_4 : decode cX6_forgetsOldest 4 = .ok (.iload_n 1, 1) := by decide +kernel
theorem dX6_forgetsOldest_5 : decode cX6_forgetsOldest 5 = .ok (.sipush 1400, 3) := by decide +kernel
theorem dX6_forgetsOldest_8 : decode cX6_forgetsOldest 8 = .ok (.if_icmp .ge 25, 3) := by decide +kernel
theorem dX6_forgetsOldest_11 : decode cX6_forgetsOldest 11 = .ok (.aload_n 0, 1) := by decide +kernel
theorem dX6_forgetsOldest_12 : decode cX6_forgetsOldest 12 = .ok (.getfield 19, 3) := by decide +kernel
theorem dX6_forgetsOldest_15 : decode cX6_forgetsOldest 15 = .ok (.iload_n 1, 1) := by decide +kernel
theorem dX6_forgetsOldest_16 : decode cX6_forgetsOldest 16 = .ok (.sipush 140, 3) := by decide +kernel
theorem dX6_forgetsOldest_19 : decode cX6_forgetsOldest 19 = .ok (.isub, 1) := by decide +kernel
theorem dX6_forgetsOldest_20 : decode cX6_forgetsOldest 20 = .ok (.aload_n 0, 1) := by decide +kernel
theorem dX6_forgetsOldest_21 : decode cX6_forgetsOldest 21 = .ok (.getfield 19, 3) := by decide +kernel
theorem dX6_forgetsOldest_24 : decode cX6_forgetsOldest 24 = .ok (.iload_n 1, 1) := by decide +kernel
theorem dX6_forgetsOldest_25 : decode cX6_forgetsOldest 25 = .ok (.iaload, 1) := by decide +kernel
theorem dX6_forgetsOldest_26 : decode cX6_forgetsOldest 26 = .ok (.iastore, 1) := by decide +kernel
theorem dX6_forgetsOldest_27 : decode cX6_forgetsOldest 27 = .ok (.iinc 1 1, 3) := by decide +kernel
theorem dX6_forgetsOldest_30 : decode cX6_forgetsOldest 30 = .ok (.goto (-26), 3) := by decide +kernel
theorem dX6_forgetsOldest_33 : decode cX6_forgetsOldest 33 = .ok (.aload_n 0, 1) := by decide +kernel
theorem dX6_forgetsOldest_34 : decode cX6_forgetsOldest 34 = .ok (.dup, 1) := by decide +kernel
theorem dX6_forgetsOldest_35 : decode cX6_forgetsOldest 35 = .ok (.getfield 95, 3) := by decide +kernel
theorem dX6_forgetsOldest_38 : decode cX6_forgetsOldest 38 = .ok (.iconst 1, 1) := by decide +kernel
theorem dX6_forgetsOldest_39 : decode cX6_forgetsOldest 39 = .ok (.isub, 1) := by decide +kernel
theorem dX6_forgetsOldest_40 : decode cX6_forgetsOldest 40 = .ok (.putfield 95, 3) := by decide +kernel
theorem dX6_forgetsOldest_43 : decode cX6_forgetsOldest 43 = .ok (.return_, 1) := by decide +kernel
theorem dX6_remembers_0 : decode cX6_remembers 0 = .ok (.aload_n 0, 1) := by decide +kernel
theorem dX6_remembers_1 : decode cX6_remembers 1 = .ok (.getfield 95, 3) := by decide +kernel
theorem dX6_remembers_4 : decode cX6_remembers 4 = .ok (.bipush 10, 2) := by decide +kernel
theorem dX6_remembers_6 : decode cX6_remembers 6 = .ok (.if_icmp .ne 7, 3) := by decide +kernel
theorem dX6_remembers_9 : decode cX6_remembers 9 = .ok (.aload_n 0, 1) := by decide +kernel
theorem dX6_remembers_10 : decode cX6_remembers 10 = .ok (.invokevirtual 98, 3) := by decide +kernel
theorem dX6_remembers_13 : decode cX6_remembers 13 = .ok (.iconst 0, 1) := by decide +kernel
theorem dX6_remembers_14 : decode cX6_remembers 14 = .ok (.istore_n 1, 1) := by decide +kernel
theorem dX6_remembers_15 : decode cX6_remembers 15 = .ok (.iload_n 1, 1) := by decide +kernel
theorem dX6_remembers_16 : decode cX6_remembers 16 = .ok (.sipush 140, 3) := by decide +kernel
theorem dX6_remembers_19 : decode cX6_remembers 19 = .ok (.if_icmp .ge 30, 3) := by decide +kernel
theorem dX6_remembers_22 : decode cX6_remembers 22 = .ok (.aload_n 0, 1) := by decide +kernel
theorem dX6_remembers_23 : decode cX6_remembers 23 = .ok (.getfield 19, 3) := by decide +kernel
theorem dX6_remembers_26 : decode cX6_remembers 26 = .ok (.aload_n 0, 1) := by decide +kernel
theorem dX6_remembers_27 : decode cX6_remembers 27 = .ok (.getfield 95, 3) := by decide +kernel
theorem dX6_remembers_30 : decode cX6_remembers 30 = .ok (.sipush 140, 3) := by decide +kernel
theorem dX6_remembers_33 : decode cX6_remembers 33 = .ok (.imul, 1) := by decide +kernel
theorem dX6_remembers_34 : decode cX6_remembers 34 = .ok (.iload_n 1, 1) := by decide +kernel
theorem dX6_remembers_35 : decode cX6_remembers 35 = .ok (.iadd, 1) := by decide +kernel
theorem dX6_remembers_36 : decode cX6_remembers 36 = .ok (.aload_n 0, 1) := by decide +kernel
theorem dX6_remembers_37 : decode cX6_remembers 37 = .ok (.getfield 13, 3) := by decide +kernel
theorem dX6_remembers_40 : decode cX6_remembers 40 = .ok (.iload_n 1, 1) := by decide +kernel
theorem dX6_remembers_41 : decode cX6_remembers 41 = .ok (.iaload, 1) := by decide +kernel
theorem dX6_remembers_42 : decode cX6_remembers 42 = .ok (.iastore, 1) := by decide +kernel
theorem dX6_remembers_43 : decode cX6_remembers 43 = .ok (.iinc 1 1, 3) := by decide +kernel
theorem dX6_remembers_46 : decode cX6_remembers 46 = .ok (.goto (-31), 3) := by decide +kernel
theorem dX6_remembers_49 : decode cX6_remembers 49 = .ok (.aload_n 0, 1) := by decide +kernel
theorem dX6_remembers_50 : decode cX6_remembers 50 = .ok (.dup, 1) := by decide +kernel
theorem dX6_remembers_51 : decode cX6_remembers 51 = .ok (.getfield 95, 3) := by decide +kernel
theorem dX6_remembers_54 : decode cX6_remembers 54 = .ok (.iconst 1, 1) := by decide +kernel
theorem dX6_remembers_55 : decode cX6_remembers 55 = .ok (.iadd, 1) := by decide +kernel
theorem dX6_remembers_56 : decode cX6_remembers 56 = .ok (.putfield 95, 3) := by decide +kernel
theorem dX6_remembers_59 : decode cX6_remembers 59 = .ok (.return_, 1) := by decide +kernel
theorem dX6_putsAside_0 : decode cX6_putsAside 0 = .ok (.iconst 0, 1) := by decide +kernel
theorem dX6_putsAside_1 : decode cX6_putsAside 1 = .ok (.istore_n 1, 1) := by decide +kernel
theorem dX6_putsAside_2 : decode cX6_putsAside 2 = .ok (.iload_n 1, 1) := by decide +kernel
theorem dX6_putsAside_3 : decode cX6_putsAside 3 = .ok (.sipush 140, 3) := by decide +kernel
theorem dX6_putsAside_6 : decode cX6_putsAside 6 = .ok (.if_icmp .ge 21, 3) := by decide +kernel
theorem dX6_putsAside_9 : decode cX6_putsAside 9 = .ok (.aload_n 0, 1) := by decide +kernel
theorem dX6_putsAside_10 : decode cX6_putsAside 10 = .ok (.getfield 16, 3) := by decide +kernel
theorem dX6_putsAside_13 : decode cX6_putsAside 13 = .ok (.iload_n 1, 1) := by decide +kernel
theorem dX6_putsAside_14 : decode cX6_putsAside 14 = .ok (.aload_n 0, 1) := by decide +kernel
theorem dX6_putsAside_15 : decode cX6_putsAside 15 = .ok (.getfield 13, 3) := by decide +kernel
theorem dX6_putsAside_18 : decode cX6_putsAside 18 = .ok (.iload_n 1, 1) := by decide +kernel
theorem dX6_putsAside_19 : decode cX6_putsAside 19 = .ok (.iaload, 1) := by decide +kernel
theorem dX6_putsAside_20 : decode cX6_putsAside 20 = .ok (.iastore, 1) := by decide +kernel
theorem dX6_putsAside_21 : decode cX6_putsAside 21 = .ok (.iinc 1 1, 3) := by decide +kernel
theorem dX6_putsAside_24 : decode cX6_putsAside 24 = .ok (.goto (-22), 3) := by decide +kernel
theorem dX6_putsAside_27 : decode cX6_putsAside 27 = .ok (.return_, 1) := by decide +kernel
theorem dX6_putsBack_0 : decode cX6_putsBack 0 = .ok (.iconst 0, 1) := by decide +kernel
theorem dX6_putsBack_1 : decode cX6_putsBack 1 = .ok (.istore_n 1, 1) := by decide +kernel
theorem dX6_putsBack_2 : decode cX6_putsBack 2 = .ok (.iload_n 1, 1) := by decide +kernel
theorem dX6_putsBack_3 : decode cX6_putsBack 3 = .ok (.sipush 140, 3) := by decide +kernel
theorem dX6_putsBack_6 : decode cX6_putsBack 6 = .ok (.if_icmp .ge 21, 3) := by decide +kernel
theorem dX6_putsBack_9 : decode cX6_putsBack 9 = .ok (.aload_n 0, 1) := by decide +kernel
theorem dX6_putsBack_10 : decode cX6_putsBack 10 = .ok (.getfield 13, 3) := by decide +kernel
theorem dX6_putsBack_13 : decode cX6_putsBack 13 = .ok (.iload_n 1, 1) := by decide +kernel
theorem dX6_putsBack_14 : decode cX6_putsBack 14 = .ok (.aload_n 0, 1) := by decide +kernel
theorem dX6_putsBack_15 : decode cX6_putsBack 15 = .ok (.getfield 16, 3) := by decide +kernel
theorem dX6_putsBack_18 : decode cX6_putsBack 18 = .ok (.iload_n 1, 1) := by decide +kernel
theorem dX6_putsBack_19 : decode cX6_putsBack 19 = .ok (.iaload, 1) := by decide +kernel
theorem dX6_putsBack_20 : decode cX6_putsBack 20 = .ok (.iastore, 1) := by decide +kernel
theorem dX6_putsBack_21 : decode cX6_putsBack 21 = .ok (.iinc 1 1, 3) := by decide +kernel
theorem dX6_putsBack_24 : decode cX6_putsBack 24 = .ok (.goto (-22), 3) := by decide +kernel
theorem dX6_putsBack_27 : decode cX6_putsBack 27 = .ok (.return_, 1) := by decide +kernel
theorem dX6_isLetter_0 : decode cX6_isLetter 0 = .ok (.iload_n 0, 1) := by decide +kernel
theorem dX6_isLetter_1 : decode cX6_isLetter 1 = .ok (.bipush 97, 2) := by decide +kernel
theorem dX6_isLetter_3 : decode cX6_isLetter 3 = .ok (.if_icmp .lt 13, 3) := by decide +kernel
theorem dX6_isLetter_6 : decode cX6_isLetter 6 = .ok (.iload_n 0, 1) := by decide +kernel
theorem dX6_isLetter_7 : decode cX6_isLetter 7 = .ok (.bipush 122, 2) := by decide +kernel
theorem dX6_isLetter_9 : decode cX6_isLetter 9 = .ok (.if_icmp .gt 7, 3) := by decide +kernel
theorem dX6_isLetter_12 : decode cX6_isLetter 12 = .ok (.iconst 1, 1) := by decide +kernel
theorem dX6_isLetter_13 : decode cX6_isLetter 13 = .ok (.goto 4, 3) := by decide +kernel
theorem dX6_isLetter_16 : decode cX6_isLetter 16 = .ok (.iconst 0, 1) := by decide +kernel
theorem dX6_isLetter_17 : decode cX6_isLetter 17 = .ok (.ireturn, 1) := by decide +kernel
theorem dX6_isDigit_0 : decode cX6_isDigit 0 = .ok (.iload_n 0, 1) := by decide +kernel
theorem dX6_isDigit_1 : decode cX6_isDigit 1 = .ok (.bipush 48, 2) := by decide +kernel
theorem dX6_isDigit_3 : decode cX6_isDigit 3 = .ok (.if_icmp .lt 13, 3) := by decide +kernel
theorem dX6_isDigit_6 : decode cX6_isDigit 6 = .ok (.iload_n 0, 1) := by decide +kernel
theorem dX6_isDigit_7 : decode cX6_isDigit 7 = .ok (.bipush 57, 2) := by decide +kernel
theorem dX6_isDigit_9 : decode cX6_isDigit 9 = .ok (.if_icmp .gt 7, 3) := by decide +kernel
theorem dX6_isDigit_12 : decode cX6_isDigit 12 = .ok (.iconst 1, 1) := by decide +kernel
theorem dX6_isDigit_13 : decode cX6_isDigit 13 = .ok (.goto 4, 3) := by decide +kernel
theorem dX6_isDigit_16 : decode cX6_isDigit 16 = .ok (.iconst 0, 1) := by decide +kernel
theorem dX6_isDigit_17 : decode cX6_isDigit 17 = .ok (.ireturn, 1) := by decide +kernel
theorem dX6_next_0 : decode cX6_next 0 = .ok (.aload_n 0, 1) := by decide +kernel
theorem dX6_next_1 : decode cX6_next 1 = .ok (.getfield 101, 3) := by decide +kernel
theorem dX6_next_4 : decode cX6_next 4 = .ok (.iconst 1, 1) := by decide +kernel
theorem dX6_next_5 : decode cX6_next 5 = .ok (.if_icmp .eq 11, 3) := by decide +kernel
theorem dX6_next_8 : decode cX6_next 8 = .ok (.aload_n 0, 1) := by decide +kernel
theorem dX6_next_9 : decode cX6_next 9 = .ok (.getfield 101, 3) := by decide +kernel
theorem dX6_next_12 : decode cX6_next 12 = .ok (.iconst 2, 1) := by decide +kernel
theorem dX6_next_13 : decode cX6_next 13 = .ok (.if_icmp .ne 7, 3) := by decide +kernel
theorem dX6_next_16 : decode cX6_next 16 = .ok (.iconst 1, 1) := by decide +kernel
theorem dX6_next_17 : decode cX6_next 17 = .ok (.goto 4, 3) := by decide +kernel
theorem dX6_next_20 : decode cX6_next 20 = .ok (.iconst 0, 1) := by decide +kernel
theorem dX6_next_21 : decode cX6_next 21 = .ok (.istore_n 1, 1) := by decide +kernel
theorem dX6_next_22 : decode cX6_next 22 = .ok (.aload_n 0, 1) := by decide +kernel
theorem dX6_next_23 : decode cX6_next 23 = .ok (.aload_n 0, 1) := by decide +kernel
theorem dX6_next_24 : decode cX6_next 24 = .ok (.getfield 104, 3) := by decide +kernel
theorem dX6_next_27 : decode cX6_next 27 = .ok (.putfield 107, 3) := by decide +kernel
theorem dX6_next_30 : decode cX6_next 30 = .ok (.aload_n 0, 1) := by decide +kernel
theorem dX6_next_31 : decode cX6_next 31 = .ok (.getfield 107, 3) := by decide +kernel
theorem dX6_next_34 : decode cX6_next 34 = .ok (.aload_n 0, 1) := by decide +kernel
theorem dX6_next_35 : decode cX6_next 35 = .ok (.getfield 110, 3) := by decide +kernel
theorem dX6_next_38 : decode cX6_next 38 = .ok (.if_icmp .ge 44, 3) := by decide +kernel
theorem dX6_next_41 : decode cX6_next 41 = .ok (.aload_n 0, 1) := by decide +kernel
theorem dX6_next_42 : decode cX6_next 42 = .ok (.getfield 25, 3) := by decide +kernel
theorem dX6_next_45 : decode cX6_next 45 = .ok (.aload_n 0, 1) := by decide +kernel
theorem dX6_next_46 : decode cX6_next 46 = .ok (.getfield 107, 3) := by decide +kernel
theorem dX6_next_49 : decode cX6_next 49 = .ok (.baload, 1) := by decide +kernel
theorem dX6_next_50 : decode cX6_next 50 = .ok (.bipush 32, 2) := by decide +kernel
theorem dX6_next_52 : decode cX6_next 52 = .ok (.if_icmp .eq 17, 3) := by decide +kernel
theorem dX6_next_55 : decode cX6_next 55 = .ok (.aload_n 0, 1) := by decide +kernel
theorem dX6_next_56 : decode cX6_next 56 = .ok (.getfield 25, 3) := by decide +kernel
theorem dX6_next_59 : decode cX6_next 59 = .ok (.aload_n 0, 1) := by decide +kernel
theorem dX6_next_60 : decode cX6_next 60 = .ok (.getfield 107, 3) := by decide +kernel
theorem dX6_next_63 : decode cX6_next 63 = .ok (.baload, 1) := by decide +kernel
theorem dX6_next_64 : decode cX6_next 64 = .ok (.bipush 10, 2) := by decide +kernel
theorem dX6_next_66 : decode cX6_next 66 = .ok (.if_icmp .ne 16, 3) := by decide +kernel
theorem dX6_next_69 : decode cX6_next 69 = .ok (.aload_n 0, 1) := by decide +kernel
theorem dX6_next_70 : decode cX6_next 70 = .ok (.dup, 1) := by decide +kernel
theorem dX6_next_71 : decode cX6_next 71 = .ok (.getfield 107, 3) := by decide +kernel
theorem dX6_next_74 : decode cX6_next 74 = .ok (.iconst 1, 1) := by decide +kernel
theorem dX6_next_75 : decode cX6_next 75 = .ok (.iadd, 1) := by decide +kernel
theorem dX6_next_76 : decode cX6_next 76 = .ok (.putfield 107, 3) := by decide +kernel
theorem dX6_next_79 : decode cX6_next 79 = .ok (.goto (-49), 3) := by decide +kernel
theorem dX6_next_82 : decode cX6_next 82 = .ok (.iload_n 1, 1) := by decide +kernel
theorem dX6_next_83 : decode cX6_next 83 = .ok (.ifCond .eq 18, 3) := by decide +kernel
theorem dX6_next_86 : decode cX6_next 86 = .ok (.aload_n 0, 1) := by decide +kernel
theorem dX6_next_87 : decode cX6_next 87 = .ok (.getfield 107, 3) := by decide +kernel
