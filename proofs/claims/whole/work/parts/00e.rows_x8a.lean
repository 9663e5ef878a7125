theorem dX8_init_0 : decode cX8_init 0 = .ok (.aload_n 0, 1) := by decide +kernel
theorem dX8_init_1 : decode cX8_init 1 = .ok (.invokespecial 1, 3) := by decide +kernel
theorem dX8_init_4 : decode cX8_init 4 = .ok (.aload_n 0, 1) := by decide +kernel
theorem dX8_init_5 : decode cX8_init 5 = .ok (.sipush 240, 3) := by decide +kernel
theorem dX8_init_8 : decode cX8_init 8 = .ok (.newarray .int, 2) := by decide +kernel
theorem dX8_init_10 : decode cX8_init 10 = .ok (.putfield 7, 3) := by decide +kernel
theorem dX8_init_13 : decode cX8_init 13 = .ok (.aload_n 0, 1) := by decide +kernel
theorem dX8_init_14 : decode cX8_init 14 = .ok (.bipush 40, 2) := by decide +kernel
theorem dX8_init_16 : decode cX8_init 16 = .ok (.newarray .int, 2) := by decide +kernel
theorem dX8_init_18 : decode cX8_init 18 = .ok (.putfield 13, 3) := by decide +kernel
theorem dX8_init_21 : decode cX8_init 21 = .ok (.aload_n 0, 1) := by decide +kernel
theorem dX8_init_22 : decode cX8_init 22 = .ok (.sipush 160, 3) := by decide +kernel
theorem dX8_init_25 : decode cX8_init 25 = .ok (.newarray .int, 2) := by decide +kernel
theorem dX8_init_27 : decode cX8_init 27 = .ok (.putfield 16, 3) := by decide +kernel
theorem dX8_init_30 : decode cX8_init 30 = .ok (.aload_n 0, 1) := by decide +kernel
theorem dX8_init_31 : decode cX8_init 31 = .ok (.bipush 9, 2) := by decide +kernel
theorem dX8_init_33 : decode cX8_init 33 = .ok (.newarray .int, 2) := by decide +kernel
theorem dX8_init_35 : decode cX8_init 35 = .ok (.dup, 1) := by decide +kernel
theorem dX8_init_36 : decode cX8_init 36 = .ok (.iconst 0, 1) := by decide +kernel
theorem dX8_init_37 : decode cX8_init 37 = .ok (.iconst 0, 1) := by decide +kernel
theorem dX8_init_38 : decode cX8_init 38 = .ok (.iastore, 1) := by decide +kernel
theorem dX8_init_39 : decode cX8_init 39 = .ok (.dup, 1) := by decide +kernel
theorem dX8_init_40 : decode cX8_init 40 = .ok (.iconst 1, 1) := by decide +kernel
theorem dX8_init_41 : decode cX8_init 41 = .ok (.iconst 5, 1) := by decide +kernel
theorem dX8_init_42 : decode cX8_init 42 = .ok (.iastore, 1) := by decide +kernel
theorem dX8_init_43 : decode cX8_init 43 = .ok (.dup, 1) := by decide +kernel
theorem dX8_init_44 : decode cX8_init 44 = .ok (.iconst 2, 1) := by decide +kernel
theorem dX8_init_45 : decode cX8_init 45 = .ok (.bipush 13, 2) := by decide +kernel
theorem dX8_init_47 : decode cX8_init 47 = .ok (.iastore, 1) := by decide +kernel
theorem dX8_init_48 : decode cX8_init 48 = .ok (.dup, 1) := by decide +kernel
theorem dX8_init_49 : decode cX8_init 49 = .ok (.iconst 3, 1) := by decide +kernel
theorem dX8_init_50 : decode cX8_init 50 = .ok (.bipush 18, 2) := by decide +kernel
theorem dX8_init_52 : decode cX8_init 52 = .ok (.iastore, 1) := by decide +kernel
theorem dX8_init_53 : decode cX8_init 53 = .ok (.dup, 1) := by decide +kernel
theorem dX8_init_54 : decode cX8_init 54 = .ok (.iconst 4, 1) := by decide +kernel
theorem dX8_init_55 : decode cX8_init 55 = .ok (.bipush 23, 2) := by decide +kernel
theorem dX8_init_57 : decode cX8_init 57 = .ok (.iastore, 1) := by decide +kernel
theorem dX8_init_58 : decode cX8_init 58 = .ok (.dup, 1) := by decide +kernel
theorem dX8_init_59 : decode cX8_init 59 = .ok (.iconst 5, 1) := by decide +kernel
theorem dX8_init_60 : decode cX8_init 60 = .ok (.bipush 27, 2) := by decide +kernel
theorem dX8_init_62 : decode cX8_init 62 = .ok (.iastore, 1) := by decide +kernel
theorem dX8_init_63 : decode cX8_init 63 = .ok (.dup, 1) := by decide +kernel
theorem dX8_init_64 : decode cX8_init 64 = .ok (.bipush 6, 2) := by decide +kernel
theorem dX8_init_66 : decode cX8_init 66 = .ok (.bipush 31, 2) := by decide +kernel
theorem dX8_init_68 : decode cX8_init 68 = .ok (.iastore, 1) := by decide +kernel
theorem dX8_init_69 : decode cX8_init 69 = .ok (.dup, 1) := by decide +kernel
theorem dX8_init_70 : decode cX8_init 70 = .ok (.bipush 7, 2) := by decide +kernel
theorem dX8_init_72 : decode cX8_init 72 = .ok (.bipush 37, 2) := by decide +kernel
theorem dX8_init_74 : decode cX8_init 74 = .ok (.iastore, 1) := by decide +kernel
theorem dX8_init_75 : decode cX8_init 75 = .ok (.dup, 1) := by decide +kernel
theorem dX8_init_76 : decode cX8_init 76 = .ok (.bipush 8, 2) := by decide +kernel
theorem dX8_init_78 : decode cX8_init 78 = .ok (.bipush 43, 2) := by decide +kernel
theorem dX8_init_80 : decode cX8_init 80 = .ok (.iastore, 1) := by decide +kernel
theorem dX8_init_81 : decode cX8_init 81 = .ok (.putfield 19, 3) := by decide +kernel
theorem dX8_init_84 : decode cX8_init 84 = .ok (.aload_n 0, 1) := by decide +kernel
theorem dX8_init_85 : decode cX8_init 85 = .ok (.bipush 43, 2) := by decide +kernel
theorem dX8_init_87 : decode cX8_init 87 = .ok (.newarray .int, 2) := by decide +kernel
theorem dX8_init_89 : decode cX8_init 89 = .ok (.dup, 1) := by decide +kernel
theorem dX8_init_90 : decode cX8_init 90 = .ok (.iconst 0, 1) := by decide +kernel
theorem dX8_init_91 : decode cX8_init 91 = .ok (.bipush 112, 2) := by decide +kernel
theorem dX8_init_93 : decode cX8_init 93 = .ok (.iastore, 1) := by decide +kernel
theorem dX8_init_94 : decode cX8_init 94 = .ok (.dup, 1) := by decide +kernel
theorem dX8_init_95 : decode cX8_init 95 = .ok (.iconst 1, 1) := by decide +kernel
theorem dX8_init_96 : decode cX8_init 96 = .ok (.bipush 108, 2) := by decide +kernel
theorem dX8_init_98 : decode cX8_init 98 = .ok (.iastore, 1) := by decide +kernel
theorem dX8_init_99 : decode cX8_init 99 = .ok (.dup, 1) := by decide +kernel
theorem dX8_init_100 : decode cX8_init 100 = .ok (.iconst 2, 1) := by decide +kernel
theorem dX8_init_101 : decode cX8_init 101 = .ok (.bipush 97, 2) := by decide +kernel
theorem dX8_init_103 : decode cX8_init 103 = .ok (.iastore, 1) := by decide +kernel
theorem dX8_init_104 : decode cX8_init 104 = .ok (.dup, 1) := by decide +kernel
theorem dX8_init_105 : decode cX8_init 105 = .ok (.iconst 3, 1) := by decide +kernel
theorem dX8_init_106 : decode cX8_init 106 = .ok (.bipush 105, 2) := by decide +kernel
theorem dX8_init_108 : decode cX8_init 108 = .ok (.iastore, 1) := by decide +kernel
theorem dX8_init_109 : decode cX8_init 109 = .ok (.dup, 1) := by decide +kernel
theorem dX8_init_110 : decode cX8_init 110 = .ok (.iconst 4, 1) := by decide +kernel
theorem dX8_init_111 : decode cX8_init 111 = .ok (.bipush 110, 2) := by decide +kernel
theorem dX8_init_113 : decode cX8_init 113 = .ok (.iastore, 1) := by decide +kernel
theorem dX8_init_114 : decode cX8_init 114 = .ok (.dup, 1) := by decide +kernel
theorem dX8_init_115 : decode cX8_init 115 = .ok (.iconst 5, 1) := by decide +kernel
theorem dX8_init_116 : decode cX8_init 116 = .ok (.bipush 99, 2) := by decide +kernel
theorem dX8_init_118 : decode cX8_init 118 = .ok (.iastore, 1) := by decide +kernel
theorem dX8_init_119 : decode cX8_init 119 = .ok (.dup, 1) := by decide +kernel
theorem dX8_init_120 : decode cX8_init 120 = .ok (.bipush 6, 2) := by decide +kernel
theorem dX8_init_122 : decode cX8_init 122 = .ok (.bipush 111, 2) := by decide +kernel
theorem dX8_init_124 : decode cX8_init 124 = .ok (.iastore, 1) := by decide +kernel
theorem dX8_init_125 : decode cX8_init 125 = .ok (.dup, 1) := by decide +kernel
theorem dX8_init_126 : decode cX8_init 126 = .ok (.bipush 7, 2) := by decide +kernel
theorem dX8_init_128 : decode cX8_init 128 = .ok (.bipush 110, 2) := by decide +kernel
theorem dX8_init_130 : decode cX8_init 130 = .ok (.iastore, 1) := by decide +kernel
theorem dX8_init_131 : decode cX8_init 131 = .ok (.dup, 1) := by decide +kernel
theorem dX8_init_132 : decode cX8_init 132 = .ok (.bipush 8, 2) := by decide +kernel
theorem dX8_init_134 : decode cX8_init 134 = .ok (.bipush 102, 2) := by decide +kernel
theorem dX8_init_136 : decode cX8_init 136 = .ok (.iastore, 1) := by decide +kernel
theorem dX8_init_137 : decode cX8_init 137 = .ok (.dup, 1) := by decide +kernel
theorem dX8_init_138 : decode cX8_init 138 = .ok (.bipush 9, 2) := by decide +kernel
theorem dX8_init_140 : decode cX8_init 140 = .ok (.bipush 105, 2) := by decide +kernel
theorem dX8_init_142 : decode cX8_init 142 = .ok (.iastore, 1) := by decide +kernel
theorem dX8_init_143 : decode cX8_init 143 = .ok (.dup, 1) := by decide +kernel
theorem dX8_init_144 : decode cX8_init 144 = .ok (.bipush 10, 2) := by decide +kernel
theorem dX8_init_146 : decode cX8_init 146 = .ok (.bipush 100, 2) := by decide +kernel
theorem dX8_init_148 : decode cX8_init 148 = .ok (.iastore, 1) := by decide +kernel
theorem dX8_init_149 : decode cX8_init 149 = .ok (.dup, 1) := by decide +kernel
theorem dX8_init_150 : decode cX8_init 150 = .ok (.bipush 11, 2) := by decide +kernel
theorem dX8_init_152 : decode cX8_init 152 = .ok (.bipush 101, 2) := by decide +kernel
theorem dX8_init_154 : decode cX8_init 154 = .ok (.iastore, 1) := by decide +kernel
theorem dX8_init_155 : decode cX8_init 155 = .ok (.dup, 1) := by decide +kernel
theorem dX8_init_156 : decode cX8_init 156 = .ok (.bipush 12, 2) := by decide +kernel
theorem dX8_init_158 : decode cX8_init 158 = .ok (.bipush 114, 2) := by decide +kernel
theorem dX8_init_160 : decode cX8_init 160 = .ok (.iastore, 1) := by decide +kernel
theorem dX8_init_161 : decode cX8_init 161 = .ok (.dup, 1) := by decide +kernel
theorem dX8_init_162 : decode cX8_init 162 = .ok (.bipush 13, 2) := by decide +kernel
theorem dX8_init_164 : decode cX8_init 164 = .ok (.bipush 99, 2) := by decide +kernel
theorem dX8_init_166 : decode cX8_init 166 = .ok (.iastore, 1) := by decide +kernel
theorem dX8_init_167 : decode cX8_init 167 = .ok (.dup, 1) := by decide +kernel
theorem dX8_init_168 : decode cX8_init 168 = .ok (.bipush 14, 2) := by decide +kernel
theorem dX8_init_170 : decode cX8_init 170 = .ok (.bipush 104, 2) := by decide +kernel
theorem dX8_init_172 : decode cX8_init 172 = .ok (.iastore, 1) := by decide +kernel
theorem dX8_init_173 : decode cX8_init 173 = .ok (.dup, 1) := by decide +kernel
theorem dX8_init_174 : decode cX8_init 174 = .ok (.bipush 15, 2) := by decide +kernel
theorem dX8_init_176 : decode cX8_init 176 = .ok (.bipush 105, 2) := by decide +kernel
theorem dX8_init_178 : decode cX8_init 178 = .ok (.iastore, 1) := by decide +kernel
theorem dX8_init_179 : decode cX8_init 179 = .ok (.dup, 1) := by decide +kernel
theorem dX8_init_180 : decode cX8_init 180 = .ok (.bipush 16, 2) := by decide +kernel
theorem dX8_init_182 : decode cX8_init 182 = .ok (.bipush 108, 2) := by decide +kernel
theorem dX8_init_184 : decode cX8_init 184 = .ok (.iastore, 1) := by decide +kernel
theorem dX8_init_185 : decode cX8_init 185 = .ok (.dup, 1) := by decide +kernel
theorem dX8_init_186 : decode cX8_init 186 = .ok (.bipush 17, 2) := by decide +kernel
theorem dX8_init_188 : decode cX8_init 188 = .ok (.bipush 100, 2) := by decide +kernel
theorem dX8_init_190 : decode cX8_init 190 = .ok (.iastore, 1) := by decide +kernel
theorem dX8_init_191 : decode cX8_init 191 = .ok (.dup, 1) := by decide +kernel
theorem dX8_init_192 : decode cX8_init 192 = .ok (.bipush 18, 2) := by decide +kernel
theorem dX8_init_194 : decode cX8_init 194 = .ok (.bipush 99, 2) := by decide +kernel
theorem dX8_init_196 : decode cX8_init 196 = .ok (.iastore, 1) := by decide +kernel
theorem dX8_init_197 : decode cX8_init 197 = .ok (.dup, 1) := by decide +kernel
theorem dX8_init_198 : decode cX8_init 198 = .ok (.bipush 19, 2) := by decide +kernel
theorem dX8_init_200 : decode cX8_init 200 = .ok (.bipush 108, 2) := by decide +kernel
theorem dX8_init_202 : decode cX8_init 202 = .ok (.iastore, 1) := by decide +kernel
theorem dX8_init_203 : decode cX8_init 203 = .ok (.dup, 1) := by decide +kernel
theorem dX8_init_204 : decode cX8_init 204 = .ok (.bipush 20, 2) := by decide +kernel
theorem dX8_init_206 : decode cX8_init 206 = .ok (.bipush 101, 2) := by decide +kernel
theorem dX8_init_208 : decode cX8_init 208 = .ok (.iastore, 1) := by decide +kernel
theorem dX8_init_209 : decode cX8_init 209 = .ok (.dup, 1) := by decide +kernel
theorem dX8_init_210 : decode cX8_init 210 = .ok (.bipush 21, 2) := by decide +kernel
theorem dX8_init_212 : decode cX8_init 212 = .ok (.bipush 114, 2) := by decide +kernel
theorem dX8_init_214 : decode cX8_init 214 = .ok (.iastore, 1) := by decide +kernel
theorem dX8_init_215 : decode cX8_init 215 = .ok (.dup, 1) := by decide +kernel
theorem dX8_init_216 : decode cX8_init 216 = .ok (.bipush 22, 2) := by decide +kernel
theorem dX8_init_218 : decode cX8_init 218 = .ok (.bipush 107, 2) := by decide +kernel
theorem dX8_init_220 : decode cX8_init 220 = .ok (.iastore, 1) := by decide +kernel
theorem dX8_init_221 : decode cX8_init 221 = .ok (.dup, 1) := by decide +kernel
theorem dX8_init_222 : decode cX8_init 222 = .ok (.bipush 23, 2) := by decide +kernel
theorem dX8_init_224 : decode cX8_init 224 = .ok (.bipush 114, 2) := by decide +kernel
theorem dX8_init_226 : decode cX8_init 226 = .ok (.iastore, 1) := by decide +kernel
theorem dX8_init_227 : decode cX8_init 227 = .ok (.dup, 1) := by decide +kernel
theorem dX8_init_228 : decode cX8_init 228 = .ok (.bipush 24, 2) := by decide +kernel
theorem dX8_init_230 : decode cX8_init 230 = .ok (.bipush 111, 2) := by decide +kernel
theorem dX8_init_232 : decode cX8_init 232 = .ok (.iastore, 1) := by decide +kernel
theorem dX8_init_233 : decode cX8_init 233 = .ok (.dup, 1) := by decide +kernel
theorem dX8_init_234 : decode cX8_init 234 = .ok (.bipush 25, 2) := by decide +kernel
theorem dX8_init_236 : decode cX8_init 236 = .ok (.bipush 108, 2) := by decide +kernel
theorem dX8_init_238 : decode cX8_init 238 = .ok (.iastore, 1) := by decide +kernel
theorem dX8_init_239 : decode cX8_init 239 = .ok (.dup, 1) := by decide +kernel
theorem dX8_init_240 : decode cX8_init 240 = .ok (.bipush 26, 2) := by decide +kernel
theorem dX8_init_242 : decode cX8_init 242 = .ok (.bipush 108, 2) := by decide +kernel
theorem dX8_init_244 : decode cX8_init 244 = .ok (.iastore, 1) := by decide +kernel
theorem dX8_init_245 : decode cX8_init 245 = .ok (.dup, 1) := by decide +kernel
theorem dX8_init_246 : decode cX8_init 246 = .ok (.bipush 27, 2) := by decide +kernel
theorem dX8_init_248 : decode cX8_init 248 = .ok (.bipush 119, 2) := by decide +kernel
theorem dX8_init_250 : decode cX8_init 250 = .ok (.iastore, 1) := by decide +kernel
theorem dX8_init_251 : decode cX8_init 251 = .ok (.dup, 1) := by decide +kernel
theorem dX8_init_252 : decode cX8_init 252 = .ok (.bipush 28, 2) := by decide +kernel
theorem dX8_init_254 : decode cX8_init 254 = .ok (.bipush 97, 2) := by decide +kernel
theorem dX8_init_256 : decode cX8_init 256 = .ok (.iastore, 1) := by decide +kernel
theorem dX8_init_257 : decode cX8_init 257 = .ok (.dup, 1) := by decide +kernel
theorem dX8_init_258 : decode cX8_init 258 = .ok (.bipush 29, 2) := by decide +kernel
theorem dX8_init_260 : decode cX8_init 260 = .ok (.bipush 108, 2) := by decide +kernel
theorem dX8_init_262 : decode cX8_init 262 = .ok (.iastore, 1) := by decide +kernel
theorem dX8_init_263 : decode cX8_init 263 = .ok (.dup, 1) := by decide +kernel
theorem dX8_init_264 : decode cX8_init 264 = .ok (.bipush 30, 2) := by decide +kernel
theorem dX8_init_266 : decode cX8_init 266 = .ok (.bipush 108, 2) := by decide +kernel
theorem dX8_init_268 : decode cX8_init 268 = .ok (.iastore, 1) := by decide +kernel
theorem dX8_init_269 : decode cX8_init 269 = .ok (.dup, 1) := by decide +kernel
theorem dX8_init_270 : decode cX8_init 270 = .ok (.bipush 31, 2) := by decide +kernel
theorem dX8_init_272 : decode cX8_init 272 = .ok (.bipush 119, 2) := by decide +kernel
theorem dX8_init_274 : decode cX8_init 274 = .ok (.iastore, 1) := by decide +kernel
theorem dX8_init_275 : decode cX8_init 275 = .ok (.dup, 1) := by decide +kernel
theorem dX8_init_276 : decode cX8_init 276 = .ok (.bipush 32, 2) := by decide +kernel
theorem dX8_init_278 : decode cX8_init 278 = .ok (.bipush 105, 2) := by decide +kernel
theorem dX8_init_280 : decode cX8_init 280 = .ok (.iastore, 1) := by decide +kernel
theorem dX8_init_281 : decode cX8_init 281 = .ok (.dup, 1) := by decide +kernel
theorem dX8_init_282 : decode cX8_init 282 = .ok (.bipush 33, 2) := by decide +kernel
theorem dX8_init_284 : decode cX8_init 284 = .ok (.bipush 110, 2) := by decide +kernel
theorem dX8_init_286 : decode cX8_init 286 = .ok (.iastore, 1) := by decide +kernel
theorem dX8_init_287 : decode cX8_init 287 = .ok (.dup, 1) := by decide +kernel
theorem dX8_init_288 : decode cX8_init 288 = .ok (.bipush 34, 2) := by decide +kernel
theorem dX8_init_290 : decode cX8_init 290 = .ok (.bipush 100, 2) := by decide +kernel
theorem dX8_init_292 : decode cX8_init 292 = .ok (.iastore, 1) := by decide +kernel
theorem dX8_init_293 : decode cX8_init 293 = .ok (.dup, 1) := by decide +kernel
theorem dX8_init_294 : decode cX8_init 294 = .ok (.bipush 35, 2) := by decide +kernel
theorem dX8_init_296 : decode cX8_init 296 = .ok (.bipush 111, 2) := by decide +kernel
theorem dX8_init_298 : decode cX8_init 298 = .ok (.iastore, 1) := by decide +kernel
theorem dX8_init_299 : decode cX8_init 299 = .ok (.dup, 1) := by decide +kernel
theorem dX8_init_300 : decode cX8_init 300 = .ok (.bipush 36, 2) := by decide +kernel
theorem dX8_init_302 : decode cX8_init 302 = .ok (.bipush 119, 2) := by decide +kernel
theorem dX8_init_304 : decode cX8_init 304 = .ok (.iastore, 1) := by decide +kernel
theorem dX8_init_305 : decode cX8_init 305 = .ok (.dup, 1) := by decide +kernel
theorem dX8_init_306 : decode cX8_init 306 = .ok (.bipush 37, 2) := by decide +kernel
theorem dX8_init_308 : decode cX8_init 308 = .ok (.bipush 117, 2) := by decide +kernel
theorem dX8_init_310 : decode cX8_init 310 = .ok (.iastore, 1) := by decide +kernel
theorem dX8_init_311 : decode cX8_init 311 = .ok (.dup, 1) := by decide +kernel
theorem dX8_init_312 : decode cX8_init 312 = .ok (.bipush 38, 2) := by decide +kernel
theorem dX8_init_314 : decode cX8_init 314 = .ok (.bipush 112, 2) := by decide +kernel
theorem dX8_init_316 : decode cX8_init 316 = .ok (.iastore, 1) := by decide +kernel
theorem dX8_init_317 : decode cX8_init 317 = .ok (.dup, 1) := by decide +kernel
theorem dX8_init_318 : decode cX8_init 318 = .ok (.bipush 39, 2) := by decide +kernel
theorem dX8_init_320 : decode cX8_init 320 = .ok (.bipush 115, 2) := by decide +kernel
theorem dX8_init_322 : decode cX8_init 322 = .ok (.iastore, 1) := by decide +kernel
theorem dX8_init_323 : decode cX8_init 323 = .ok (.dup, 1) := by decide +kernel
theorem dX8_init_324 : decode cX8_init 324 = .ok (.bipush 40, 2) := by decide +kernel
theorem dX8_init_326 : decode cX8_init 326 = .ok (.bipush 105, 2) := by decide +kernel
theorem dX8_init_328 : decode cX8_init 328 = .ok (.iastore, 1) := by decide +kernel
theorem dX8_init_329 : decode cX8_init 329 = .ok (.dup, 1) := by decide +kernel
theorem dX8_init_330 : decode cX8_init 330 = .ok (.bipush 41, 2) := by decide +kernel
theorem dX8_init_332 : decode cX8_init 332 = .ok (.bipush 100, 2) := by decide +kernel
theorem dX8_init_334 : decode cX8_init 334 = .ok (.iastore, 1) := by decide +kernel
theorem dX8_init_335 : decode cX8_init 335 = .ok (.dup, 1) := by decide +kernel
theorem dX8_init_336 : decode cX8_init 336 = .ok (.bipush 42, 2) := by decide +kernel
theorem dX8_init_338 : decode cX8_init 338 = .ok (.bipush 101, 2) := by decide +kernel
theorem dX8_init_340 : decode cX8_init 340 = .ok (.iastore, 1) := by decide +kernel
theorem dX8_init_341 : decode cX8_init 341 = .ok (.putfield 22, 3) := by decide +kernel
theorem dX8_init_344 : decode cX8_init 344 = .ok (.aload_n 0, 1) := by decide +kernel
theorem dX8_init_345 : decode cX8_init 345 = .ok (.bipush 70, 2) := by decide +kernel
theorem dX8_init_347 : decode cX8_init 347 = .ok (.newarray .int, 2) := by decide +kernel
theorem dX8_init_349 : decode cX8_init 349 = .ok (.putfield 25, 3) := by decide +kernel
theorem dX8_init_352 : decode cX8_init 352 = .ok (.aload_n 0, 1) := by decide +kernel
theorem dX8_init_353 : decode cX8_init 353 = .ok (.bipush 70, 2) := by decide +kernel
theorem dX8_init_355 : decode cX8_init 355 = .ok (.newarray .int, 2) := by decide +kernel
theorem dX8_init_357 : decode cX8_init 357 = .ok (.putfield 28, 3) := by decide +kernel
theorem dX8_init_360 : decode cX8_init 360 = .ok (.aload_n 0, 1) := by decide +kernel
theorem dX8_init_361 : decode cX8_init 361 = .ok (.bipush 12, 2) := by decide +kernel
theorem dX8_init_363 : decode cX8_init 363 = .ok (.newarray .int, 2) := by decide +kernel
theorem dX8_init_365 : decode cX8_init 365 = .ok (.putfield 31, 3) := by decide +kernel
theorem dX8_init_368 : decode cX8_init 368 = .ok (.aload_n 0, 1) := by decide +kernel
theorem dX8_init_369 : decode cX8_init 369 = .ok (.bipush 72, 2) := by decide +kernel
theorem dX8_init_371 : decode cX8_init 371 = .ok (.newarray .int, 2) := by decide +kernel
theorem dX8_init_373 : decode cX8_init 373 = .ok (.putfield 34, 3) := by decide +kernel
theorem dX8_init_376 : decode cX8_init 376 = .ok (.aload_n 0, 1) := by decide +kernel
theorem dX8_init_377 : decode cX8_init 377 = .ok (.iconst 2, 1) := by decide +kernel
theorem dX8_init_378 : decode cX8_init 378 = .ok (.newarray .boolean, 2) := by decide +kernel
theorem dX8_init_380 : decode cX8_init 380 = .ok (.putfield 37, 3) := by decide +kernel
theorem dX8_init_383 : decode cX8_init 383 = .ok (.aload_n 0, 1) := by decide +kernel
theorem dX8_init_384 : decode cX8_init 384 = .ok (.iconst 4, 1) := by decide +kernel
theorem dX8_init_385 : decode cX8_init 385 = .ok (.newarray .int, 2) := by decide +kernel
theorem dX8_init_387 : decode cX8_init 387 = .ok (.dup, 1) := by decide +kernel
theorem dX8_init_388 : decode cX8_init 388 = .ok (.iconst 0, 1) := by decide +kernel
theorem dX8_init_389 : decode cX8_init 389 = .ok (.bipush (-4), 2) := by decide +kernel
theorem dX8_init_391 : decode cX8_init 391 = .ok (.iastore, 1) := by decide +kernel
theorem dX8_init_392 : decode cX8_init 392 = .ok (.dup, 1) := by decide +kernel
theorem dX8_init_393 : decode cX8_init 393 = .ok (.iconst 1, 1) := by decide +kernel
theorem dX8_init_394 : decode cX8_init 394 = .ok (.bipush (-4), 2) := by decide +kernel
theorem dX8_init_396 : decode cX8_init 396 = .ok (.iastore, 1) := by decide +kernel
theorem dX8_init_397 : decode cX8_init 397 = .ok (.dup, 1) := by decide +kernel
theorem dX8_init_398 : decode cX8_init 398 = .ok (.iconst 2, 1) := by decide +kernel
theorem dX8_init_399 : decode cX8_init 399 = .ok (.bipush (-4), 2) := by decide +kernel
theorem dX8_init_401 : decode cX8_init 401 = .ok (.iastore, 1) := by decide +kernel
theorem dX8_init_402 : decode cX8_init 402 = .ok (.dup, 1) := by decide +kernel
theorem dX8_init_403 : decode cX8_init 403 = .ok (.iconst 3, 1) := by decide +kernel
theorem dX8_init_404 : decode cX8_init 404 = .ok (.bipush (-4), 2) := by decide +kernel
theorem dX8_init_406 : decode cX8_init 406 = .ok (.iastore, 1) := by decide +kernel
theorem dX8_init_407 : decode cX8_init 407 = .ok (.putfield 41, 3) := by decide +kernel
theorem dX8_init_410 : decode cX8_init 410 = .ok (.aload_n 0, 1) := by decide +kernel
theorem dX8_init_411 : decode cX8_init 411 = .ok (.iconst 4, 1) := by decide +kernel
theorem dX8_init_412 : decode cX8_init 412 = .ok (.newarray .int, 2) := by decide +kernel
theorem dX8_init_414 : decode cX8_init 414 = .ok (.putfield 44, 3) := by decide +kernel
theorem dX8_init_417 : decode cX8_init 417 = .ok (.aload_n 0, 1) := by decide +kernel
theorem dX8_init_418 : decode cX8_init 418 = .ok (.sipush 160, 3) := by decide +kernel
theorem dX8_init_421 : decode cX8_init 421 = .ok (.newarray .int, 2) := by decide +kernel
theorem dX8_init_423 : decode cX8_init 423 = .ok (.putfield 47, 3) := by decide +kernel
theorem dX8_init_426 : decode cX8_init 426 = .ok (.return_, 1) := by decide +kernel
theorem dX8_in_0 : decode cX8_in 0 = .ok (.lload_n 0, 1) := by decide +kernel
theorem dX8_in_1 : decode cX8_in 1 = .ok (.lload_n 2, 1) := by decide +kernel
theorem dX8_in_2 : decode cX8_in 2 = .ok (.lcmp, 1) := by decide +kernel
theorem dX8_in_3 : decode cX8_in 3 = .ok (.ifCond .lt 14, 3) := by decide +kernel
theorem dX8_in_6 : decode cX8_in 6 = .ok (.lload_n 0, 1) := by decide +kernel
theorem dX8_in_7 : decode cX8_in 7 = .ok (.lload 4, 2) := by decide +kernel
theorem dX8_in_9 : decode cX8_in 9 = .ok (.lcmp, 1) := by decide +kernel
theorem dX8_in_10 : decode cX8_in 10 = .ok (.ifCond .gt 7, 3) := by decide +kernel
theorem dX8_in_13 : decode cX8_in 13 = .ok (.iconst 1, 1) := by decide +kernel
theorem dX8_in_14 : decode cX8_in 14 = .ok (.goto 4, 3) := by decide +kernel
theorem dX8_in_17 : decode cX8_in 17 = .ok (.iconst 0, 1) := by decide +kernel
theorem dX8_in_18 : decode cX8_in 18 = .ok (.ireturn, 1) := by decide +kernel
set_option maxRecDepth 20000 in
theorem ggX8_feed_X8_in : GoodIn wsX8_feed wsX8_in := goodIn_r _ [7] (by decide +kernel) (by decide +kernel)
set_option maxRecDepth 20000 in
theorem gX8_feed_X8_in : GoodIn wsX8_feed (va_wsS RX8 52 yX8_in wsX8_in) := goodIn_app (goodIn_of _ (by decide +kernel)) ggX8_feed_X8_in
theorem dX8_feed_0 : decode cX8_feed 0 = .ok (.iload_n 1, 1) := by decide +kernel
theorem dX8_feed_1 : decode cX8_feed 1 = .ok (.i2l, 1) := by decide +kernel
theorem dX8_feed_2 : decode cX8_feed 2 = .ok (.lconst 0, 1) := by decide +kernel
theorem dX8_feed_3 : decode cX8_feed 3 = .ok (.ldc2_w 50, 3) := by decide +kernel
theorem dX8_feed_6 : decode cX8_feed 6 = .ok (.invokestatic 52, 3) := by decide +kernel
theorem dX8_feed_9 : decode cX8_feed 9 = .ok (.ifCond .ne 5, 3) := by decide +kernel
theorem dX8_feed_12 : decode cX8_feed 12 = .ok (.iconst (-1), 1) := by decide +kernel
theorem dX8_feed_13 : decode cX8_feed 13 = .ok (.ireturn, 1) := by decide +kernel
theorem dX8_feed_14 : decode cX8_feed 14 = .ok (.aload_n 0, 1) := by decide +kernel
theorem dX8_feed_15 : decode cX8_feed 15 = .ok (.getfield 56, 3) := by decide +kernel
theorem dX8_feed_18 : decode cX8_feed 18 = .ok (.sipush 160, 3) := by decide +kernel
theorem dX8_feed_21 : decode cX8_feed 21 = .ok (.if_icmp .ne 6, 3) := by decide +kernel
theorem dX8_feed_24 : decode cX8_feed 24 = .ok (.bipush (-3), 2) := by decide +kernel
theorem dX8_feed_26 : decode cX8_feed 26 = .ok (.ireturn, 1) := by decide +kernel
theorem dX8_feed_27 : decode cX8_feed 27 = .ok (.aload_n 0, 1) := by decide +kernel
theorem dX8_feed_28 : decode cX8_feed 28 = .ok (.getfield 16, 3) := by decide +kernel
theorem dX8_feed_31 : decode cX8_feed 31 = .ok (.aload_n 0, 1) := by decide +kernel
theorem dX8_feed_32 : decode cX8_feed 32 = .ok (.getfield 56, 3) := by decide +kernel
theorem dX8_feed_35 : decode cX8_feed 35 = .ok (.iload_n 1, 1) := by decide +kernel
theorem dX8_feed_36 : decode cX8_feed 36 = .ok (.iastore, 1) := by decide +kernel
theorem dX8_feed_37 : decode cX8_feed 37 = .ok (.aload_n 0, 1) := by decide +kernel
theorem dX8_feed_38 : decode cX8_feed 38 = .ok (.dup, 1) := by decide +kernel
theorem dX8_feed_39 : decode cX8_feed 39 = .ok (.getfield 56, 3) := by decide +kernel
theorem dX8_feed_42 : decode cX8_feed 42 = .ok (.iconst 1, 1) := by decide +kernel
theorem dX8_feed_43 : decode cX8_feed 43 = .ok (.iadd, 1) := by decide +kernel
theorem dX8_feed_44 : decode cX8_feed 44 = .ok (.putfield 56, 3) := by decide +kernel
theorem dX8_feed_47 : decode cX8_feed 47 = .ok (.aload_n 0, 1) := by decide +kernel
theorem dX8_feed_48 : decode cX8_feed 48 = .ok (.getfield 56, 3) := by decide +kernel
theorem dX8_feed_51 : decode cX8_feed 51 = .ok (.ireturn, 1) := by decide +kernel
set_option maxRecDepth 20000 in
theorem ggX8_end_X8_in : GoodIn wsX8_end wsX8_in := goodIn_r _ [5] (by decide +kernel) (by decide +kernel)
set_option maxRecDepth 20000 in
theorem gX8_end_X8_in : GoodIn wsX8_end (va_wsS RX8 52 yX8_in wsX8_in) := goodIn_app (goodIn_of _ (by decide +kernel)) ggX8_end_X8_in
theorem dX8_end_0 : decode cX8_end 0 = .ok (.iload_n 1, 1) := by decide +kernel
theorem dX8_end_1 : decode cX8_end 1 = .ok (.i2l, 1) := by decide +kernel
theorem dX8_end_2 : decode cX8_end 2 = .ok (.lconst 0, 1) := by decide +kernel
theorem dX8_end_3 : decode cX8_end 3 = .ok (.aload_n 0, 1) := by decide +kernel
theorem dX8_end_4 : decode cX8_end 4 = .ok (.getfield 56, 3) := by decide +kernel
theorem dX8_end_7 : decode cX8_end 7 = .ok (.i2l, 1) := by decide +kernel
theorem dX8_end_8 : decode cX8_end 8 = .ok (.invokestatic 52, 3) := by decide +kernel
theorem dX8_end_11 : decode cX8_end 11 = .ok (.ifCond .ne 5, 3) := by decide +kernel
theorem dX8_end_14 : decode cX8_end 14 = .ok (.iconst (-1), 1) := by decide +kernel
theorem dX8_end_15 : decode cX8_end 15 = .ok (.ireturn, 1) := by decide +kernel
theorem dX8_end_16 : decode cX8_end 16 = .ok (.aload_n 0, 1) := by decide +kernel
theorem dX8_end_17 : decode cX8_end 17 = .ok (.getfield 56, 3) := by decide +kernel
theorem dX8_end_20 : decode cX8_end 20 = .ok (.istore_n 2, 1) := by decide +kernel
theorem dX8_end_21 : decode cX8_end 21 = .ok (.aload_n 0, 1) := by decide +kernel
theorem dX8_end_22 : decode cX8_end 22 = .ok (.iload_n 1, 1) := by decide +kernel
theorem dX8_end_23 : decode cX8_end 23 = .ok (.putfield 56, 3) := by decide +kernel
theorem dX8_end_26 : decode cX8_end 26 = .ok (.iload_n 2, 1) := by decide +kernel
theorem dX8_end_27 : decode cX8_end 27 = .ok (.ireturn, 1) := by decide +kernel
theorem dX8_byteAt_0 : decode cX8_byteAt 0 = .ok (.iload_n 1, 1) := by decide +kernel
theorem dX8_byteAt_1 : decode cX8_byteAt 1 = .ok (.aload_n 0, 1) := by decide +kernel
theorem dX8_byteAt_2 : decode cX8_byteAt 2 = .ok (.getfield 56, 3) := by decide +kernel
theorem dX8_byteAt_5 : decode cX8_byteAt 5 = .ok (.if_icmp .ge 12, 3) := by decide +kernel
theorem dX8_byteAt_8 : decode cX8_byteAt 8 = .ok (.aload_n 0, 1) := by decide +kernel
theorem dX8_byteAt_9 : decode cX8_byteAt 9 = .ok (.getfield 16, 3) := by decide +kernel
theorem dX8_byteAt_12 : decode cX8_byteAt 12 = .ok (.iload_n 1, 1) := by decide +kernel
theorem dX8_byteAt_13 : decode cX8_byteAt 13 = .ok (.iaload, 1) := by decide +kernel
theorem dX8_byteAt_14 : decode cX8_byteAt 14 = .ok (.goto 5, 3) := by decide +kernel
theorem dX8_byteAt_17 : decode cX8_byteAt 17 = .ok (.bipush (-4), 2) := by decide +kernel
theorem dX8_byteAt_19 : decode cX8_byteAt 19 = .ok (.ireturn, 1) := by decide +kernel
theorem dX8_fails_0 : decode cX8_fails 0 = .ok (.aload_n 0, 1) := by decide +kernel
theorem dX8_fails_1 : decode cX8_fails 1 = .ok (.getfield 60, 3) := by decide +kernel
theorem dX8_fails_4 : decode cX8_fails 4 = .ok (.ifCond .ne 16, 3) := by decide +kernel
theorem dX8_fails_7 : decode cX8_fails 7 = .ok (.aload_n 0, 1) := by decide +kernel
theorem dX8_fails_8 : decode cX8_fails 8 = .ok (.iload_n 1, 1) := by decide +kernel
theorem dX8_fails_9 : decode cX8_fails 9 = .ok (.putfield 60, 3) := by decide +kernel
theorem dX8_fails_12 : decode cX8_fails 12 = .ok (.aload_n 0, 1) := by decide +kernel
theorem dX8_fails_13 : decode cX8_fails 13 = .ok (.aload_n 0, 1) := by decide +kernel
theorem dX8_fails_14 : decode cX8_fails 14 = .ok (.getfield 63, 3) := by decide +kernel
theorem dX8_fails_17 : decode cX8_fails 17 = .ok (.putfield 66, 3) := by decide +kernel
theorem dX8_fails_20 : decode cX8_fails 20 = .ok (.return_, 1) := by decide +kernel
set_option maxRecDepth 20000 in
theorem ggX8_nameHere_X8_byteAt : GoodIn wsX8_nameHere wsX8_byteAt := goodIn_r _ [10, 11, 12, 13, 14, 15, 16, 17, 18, 19, 20, 21, 22, 23, 24, 25, 26, 27, 28, 29, 30, 31, 32, 33, 34, 35, 36] (by decide +kernel) (by decide +kernel)
set_option maxRecDepth 20000 in
theorem gX8_nameHere_X8_byteAt : GoodIn wsX8_nameHere (wsV RX8 75 RX8 yX8_byteAt wsX8_byteAt) := goodIn_app (goodIn_of _ (by decide +kernel)) ggX8_nameHere_X8_byteAt
theorem dX8_nameHere_0 : decode cX8_nameHere 0 = .ok (.iconst 0, 1) := by decide +kernel
theorem dX8_nameHere_1 : decode cX8_nameHere 1 = .ok (.istore_n 1, 1) := by decide +kernel
theorem dX8_nameHere_2 : decode cX8_nameHere 2 = .ok (.iload_n 1, 1) := by decide +kernel
theorem dX8_nameHere_3 : decode cX8_nameHere 3 = .ok (.bipush 8, 2) := by decide +kernel
theorem dX8_nameHere_5 : decode cX8_nameHere 5 = .ok (.if_icmp .ge 113, 3) := by decide +kernel
theorem dX8_nameHere_8 : decode cX8_nameHere 8 = .ok (.aload_n 0, 1) := by decide +kernel
theorem dX8_nameHere_9 : decode cX8_nameHere 9 = .ok (.getfield 69, 3) := by decide +kernel
theorem dX8_nameHere_12 : decode cX8_nameHere 12 = .ok (.iconst 1, 1) := by decide +kernel
theorem dX8_nameHere_13 : decode cX8_nameHere 13 = .ok (.if_icmp .ne 105, 3) := by decide +kernel
theorem dX8_nameHere_16 : decode cX8_nameHere 16 = .ok (.aload_n 0, 1) := by decide +kernel
theorem dX8_nameHere_17 : decode cX8_nameHere 17 = .ok (.getfield 72, 3) := by decide +kernel
theorem dX8_nameHere_20 : decode cX8_nameHere 20 = .ok (.aload_n 0, 1) := by decide +kernel
theorem dX8_nameHere_21 : decode cX8_nameHere 21 = .ok (.getfield 63, 3) := by decide +kernel
theorem dX8_nameHere_24 : decode cX8_nameHere 24 = .ok (.isub, 1) := by decide +kernel
theorem dX8_nameHere_25 : decode cX8_nameHere 25 = .ok (.aload_n 0, 1) := by decide +kernel
theorem dX8_nameHere_26 : decode cX8_nameHere 26 = .ok (.getfield 19, 3) := by decide +kernel
theorem dX8_nameHere_29 : decode cX8_nameHere 29 = .ok (.iload_n 1, 1) := by decide +kernel
theorem dX8_nameHere_30 : decode cX8_nameHere 30 = .ok (.iconst 1, 1) := by decide +kernel
theorem dX8_nameHere_31 : decode cX8_nameHere 31 = .ok (.iadd, 1) := by decide +kernel
theorem dX8_nameHere_32 : decode cX8_nameHere 32 = .ok (.iaload, 1) := by decide +kernel
theorem dX8_nameHere_33 : decode cX8_nameHere 33 = .ok (.aload_n 0, 1) := by decide +kernel
theorem dX8_nameHere_34 : decode cX8_nameHere 34 = .ok (.getfield 19, 3) := by decide +kernel
theorem dX8_nameHere_37 : decode cX8_nameHere 37 = .ok (.iload_n 1, 1) := by decide +kernel
theorem dX8_nameHere_38 : decode cX8_nameHere 38 = .ok (.iaload, 1) := by decide +kernel
theorem dX8_nameHere_39 : decode cX8_nameHere 39 = .ok (.isub, 1) := by decide +kernel
theorem dX8_nameHere_40 : decode cX8_nameHere 40 = .ok (.if_icmp .ne 7, 3) := by decide +kernel
theorem dX8_nameHere_43 : decode cX8_nameHere 43 = .ok (.iconst 1, 1) := by decide +kernel
theorem dX8_nameHere_44 : decode cX8_nameHere 44 = .ok (.goto 4, 3) := by decide +kernel
theorem dX8_nameHere_47 : decode cX8_nameHere 47 = .ok (.iconst 0, 1) := by decide +kernel
theorem dX8_nameHere_48 : decode cX8_nameHere 48 = .ok (.istore_n 2, 1) := by decide +kernel
theorem dX8_nameHere_49 : decode cX8_nameHere 49 = .ok (.iconst 0, 1) := by decide +kernel
theorem dX8_nameHere_50 : decode cX8_nameHere 50 = .ok (.istore_n 3, 1) := by decide +kernel
theorem dX8_nameHere_51 : decode cX8_nameHere 51 = .ok (.iload_n 2, 1) := by decide +kernel
theorem dX8_nameHere_52 : decode cX8_nameHere 52 = .ok (.ifCond .eq 54, 3) := by decide +kernel
theorem dX8_nameHere_55 : decode cX8_nameHere 55 = .ok (.iload_n 3, 1) := by decide +kernel
theorem dX8_nameHere_56 : decode cX8_nameHere 56 = .ok (.aload_n 0, 1) := by decide +kernel
theorem dX8_nameHere_57 : decode cX8_nameHere 57 = .ok (.getfield 72, 3) := by decide +kernel
theorem dX8_nameHere_60 : decode cX8_nameHere 60 = .ok (.aload_n 0, 1) := by decide +kernel
theorem dX8_nameHere_61 : decode cX8_nameHere 61 = .ok (.getfield 63, 3) := by decide +kernel
theorem dX8_nameHere_64 : decode cX8_nameHere 64 = .ok (.isub, 1) := by decide +kernel
theorem dX8_nameHere_65 : decode cX8_nameHere 65 = .ok (.if_icmp .ge 41, 3) := by decide +kernel
theorem dX8_nameHere_68 : decode cX8_nameHere 68 = .ok (.aload_n 0, 1) := by decide +kernel
theorem dX8_nameHere_69 : decode cX8_nameHere 69 = .ok (.aload_n 0, 1) := by decide +kernel
theorem dX8_nameHere_70 : decode cX8_nameHere 70 = .ok (.getfield 63, 3) := by decide +kernel
theorem dX8_nameHere_73 : decode cX8_nameHere 73 = .ok (.iload_n 3, 1) := by decide +kernel
theorem dX8_nameHere_74 : decode cX8_nameHere 74 = .ok (.iadd, 1) := by decide +kernel
theorem dX8_nameHere_75 : decode cX8_nameHere 75 = .ok (.invokevirtual 75, 3) := by decide +kernel
theorem dX8_nameHere_78 : decode cX8_nameHere 78 = .ok (.aload_n 0, 1) := by decide +kernel
theorem dX8_nameHere_79 : decode cX8_nameHere 79 = .ok (.getfield 22, 3) := by decide +kernel
theorem dX8_nameHere_82 : decode cX8_nameHere 82 = .ok (.aload_n 0, 1) := by decide +kernel
theorem dX8_nameHere_83 : decode cX8_nameHere 83 = .ok (.getfield 19, 3) := by decide +kernel
theorem dX8_nameHere_86 : decode cX8_nameHere 86 = .ok (.iload_n 1, 1) := by decide +kernel
theorem dX8_nameHere_87 : decode cX8_nameHere 87 = .ok (.iaload, 1) := by decide +kernel
theorem dX8_nameHere_88 : decode cX8_nameHere 88 = .ok (.iload_n 3, 1) := by decide +kernel
theorem dX8_nameHere_89 : decode cX8_nameHere 89 = .ok (.iadd, 1) := by decide +kernel
theorem dX8_nameHere_90 : decode cX8_nameHere 90 = .ok (.iaload, 1) := by decide +kernel
theorem dX8_nameHere_91 : decode cX8_nameHere 91 = .ok (.if_icmp .ne 7, 3) := by decide +kernel
theorem dX8_nameHere_94 : decode cX8_nameHere 94 = .ok (.iconst 1, 1) := by decide +kernel
theorem dX8_nameHere_95 : decode cX8_nameHere 95 = .ok (.goto 4, 3) := by decide +kernel
theorem dX8_nameHere_98 : decode cX8_nameHere 98 = .ok (.iconst 0, 1) := by decide +kernel
theorem dX8_nameHere_99 : decode cX8_nameHere 99 = .ok (.istore_n 2, 1) := by decide +kernel
theorem dX8_nameHere_100 : decode cX8_nameHere 100 = .ok (.iinc 3 1, 3) := by decide +kernel
theorem dX8_nameHere_103 : decode cX8_nameHere 103 = .ok (.goto (-52), 3) := by decide +kernel
theorem dX8_nameHere_106 : decode cX8_nameHere 106 = .ok (.iload_n 2, 1) := by decide +kernel
theorem dX8_nameHere_107 : decode cX8_nameHere 107 = .ok (.ifCond .eq 5, 3) := by decide +kernel
theorem dX8_nameHere_110 : decode cX8_nameHere 110 = .ok (.iload_n 1, 1) := by decide +kernel
theorem dX8_nameHere_111 : decode cX8_nameHere 111 = .ok (.ireturn, 1) := by decide +kernel
theorem dX8_nameHere_112 : decode cX8_nameHere 112 = .ok (.iinc 1 1, 3) := by decide +kernel
theorem dX8_nameHere_115 : decode cX8_nameHere 115 = .ok (.goto (-113), 3) := by decide +kernel
theorem dX8_nameHere_118 : decode cX8_nameHere 118 = .ok (.bipush (-4), 2) := by decide +kernel
theorem dX8_nameHere_120 : decode cX8_nameHere 120 = .ok (.ireturn, 1) := by decide +kernel
set_option maxRecDepth 20000 in
theorem ggX8_step_X8_byteAt : GoodIn wsX8_step wsX8_byteAt := goodIn_r _ [14, 15, 16, 25, 26, 27, 28, 29, 30, 31, 32, 33, 34, 35, 36, 37, 38, 39, 40, 41, 42, 43, 44, 45, 46, 47, 48] (by decide +kernel) (by decide +kernel)
set_option maxRecDepth 20000 in
theorem gX8_step_X8_byteAt : GoodIn wsX8_step (wsV RX8 75 RX8 yX8_byteAt wsX8_byteAt) := goodIn_app (goodIn_of _ (by decide +kernel)) ggX8_step_X8_byteAt
set_option maxRecDepth 20000 in
theorem ggX8_step_X8_in : GoodIn wsX8_step wsX8_in := goodIn_r _ [19] (by decide +kernel) (by decide +kernel)
set_option maxRecDepth 20000 in
theorem gX8_step_X8_in : GoodIn wsX8_step (va_wsS RX8 52 yX8_in wsX8_in) := goodIn_app (goodIn_of _ (by decide +kernel)) ggX8_step_X8_in
set_option maxRecDepth 20000 in
theorem ggX8_step_X8_fails : GoodIn wsX8_step wsX8_fails := goodIn_r _ [23, 1, 3, 24, 25, 26, 27, 28, 29, 30, 31, 32, 33, 34, 35, 36, 37, 38, 39, 40, 41, 42, 43, 44, 45, 46, 47, 48] (by decide +kernel) (by decide +kernel)
set_option maxRecDepth 20000 in
theorem gX8_step_X8_fails : GoodIn wsX8_step (wsV RX8 90 RX8 yX8_fails wsX8_fails) := goodIn_app (goodIn_of _ (by decide +kernel)) ggX8_step_X8_fails
theorem dX8_step_0 : decode cX8_step 0 = .ok (.aload_n 0, 1) := by decide +kernel
theorem dX8_step_1 : decode cX8_step 1 = .ok (.getfield 60, 3) := by decide +kernel
theorem dX8_step_4 : decode cX8_step 4 = .ok (.ifCond .le 4, 3) := by decide +kernel
theorem dX8_step_7 : decode cX8_step 7 = .ok (.return_, 1) := by decide +kernel
theorem dX8_step_8 : decode cX8_step 8 = .ok (.aload_n 0, 1) := by decide +kernel
theorem dX8_step_9 : decode cX8_step 9 = .ok (.aload_n 0, 1) := by decide +kernel
theorem dX8_step_10 : decode cX8_step 10 = .ok (.getfield 72, 3) := by decide +kernel
theorem dX8_step_13 : decode cX8_step 13 = .ok (.invokevirtual 75, 3) := by decide +kernel
theorem dX8_step_16 : decode cX8_step 16 = .ok (.bipush 32, 2) := by decide +kernel
theorem dX8_step_18 : decode cX8_step 18 = .ok (.if_icmp .ne 16, 3) := by decide +kernel
theorem dX8_step_21 : decode cX8_step 21 = .ok (.aload_n 0, 1) := by decide +kernel
theorem dX8_step_22 : decode cX8_step 22 = .ok (.dup, 1) := by decide +kernel
theorem dX8_step_23 : decode cX8_step 23 = .ok (.getfield 72, 3) := by decide +kernel
theorem dX8_step_26 : decode cX8_step 26 = .ok (.iconst 1, 1) := by decide +kernel
theorem dX8_step_27 : decode cX8_step 27 = .ok (.iadd, 1) := by decide +kernel
theorem dX8_step_28 : decode cX8_step 28 = .ok (.putfield 72, 3) := by decide +kernel
theorem dX8_step_31 : decode cX8_step 31 = .ok (.goto (-23), 3) := by decide +kernel
theorem dX8_step_34 : decode cX8_step 34 = .ok (.aload_n 0, 1) := by decide +kernel
theorem dX8_step_35 : decode cX8_step 35 = .ok (.aload_n 0, 1) := by decide +kernel
theorem dX8_step_36 : decode cX8_step 36 = .ok (.getfield 72, 3) := by decide +kernel
theorem dX8_step_39 : decode cX8_step 39 = .ok (.putfield 63, 3) := by decide +kernel
theorem dX8_step_42 : decode cX8_step 42 = .ok (.aload_n 0, 1) := by decide +kernel
theorem dX8_step_43 : decode cX8_step 43 = .ok (.aload_n 0, 1) := by decide +kernel
theorem dX8_step_44 : decode cX8_step 44 = .ok (.getfield 72, 3) := by decide +kernel
theorem dX8_step_47 : decode cX8_step 47 = .ok (.invokevirtual 75, 3) := by decide +kernel
theorem dX8_step_50 : decode cX8_step 50 = .ok (.istore_n 1, 1) := by decide +kernel
theorem dX8_step_51 : decode cX8_step 51 = .ok (.aload_n 0, 1) := by decide +kernel
theorem dX8_step_52 : decode cX8_step 52 = .ok (.iconst 0, 1) := by decide +kernel
theorem dX8_step_53 : decode cX8_step 53 = .ok (.putfield 79, 3) := by decide +kernel
theorem dX8_step_56 : decode cX8_step 56 = .ok (.iload_n 1, 1) := by decide +kernel
theorem dX8_step_57 : decode cX8_step 57 = .ok (.bipush (-4), 2) := by decide +kernel
theorem dX8_step_59 : decode cX8_step 59 = .ok (.if_icmp .ne 11, 3) := by decide +kernel
theorem dX8_step_62 : decode cX8_step 62 = .ok (.aload_n 0, 1) := by decide +kernel
theorem dX8_step_63 : decode cX8_step 63 = .ok (.iconst 0, 1) := by decide +kernel
theorem dX8_step_64 : decode cX8_step 64 = .ok (.putfield 69, 3) := by decide +kernel
theorem dX8_step_67 : decode cX8_step 67 = .ok (.goto 202, 3) := by decide +kernel
theorem dX8_step_70 : decode cX8_step 70 = .ok (.iload_n 1, 1) := by decide +kernel
theorem dX8_step_71 : decode cX8_step 71 = .ok (.i2l, 1) := by decide +kernel
theorem dX8_step_72 : decode cX8_step 72 = .ok (.ldc2_w 82, 3) := by decide +kernel
theorem dX8_step_75 : decode cX8_step 75 = .ok (.ldc2_w 84, 3) := by decide +kernel
theorem dX8_step_78 : decode cX8_step 78 = .ok (.invokestatic 52, 3) := by decide +kernel
theorem dX8_step_81 : decode cX8_step 81 = .ok (.ifCond .eq 45, 3) := by decide +kernel
theorem dX8_step_84 : decode cX8_step 84 = .ok (.aload_n 0, 1) := by decide +kernel
theorem dX8_step_85 : decode cX8_step 85 = .ok (.aload_n 0, 1) := by decide +kernel
theorem dX8_step_86 : decode cX8_step 86 = .ok (.getfield 72, 3) := by decide +kernel
theorem dX8_step_89 : decode cX8_step 89 = .ok (.invokevirtual 75, 3) := by decide +kernel
theorem dX8_step_92 : decode cX8_step 92 = .ok (.i2l, 1) := by decide +kernel
theorem dX8_step_93 : decode cX8_step 93 = .ok (.ldc2_w 82, 3) := by decide +kernel
theorem dX8_step_96 : decode cX8_step 96 = .ok (.ldc2_w 84, 3) := by decide +kernel
theorem dX8_step_99 : decode cX8_step 99 = .ok (.invokestatic 52, 3) := by decide +kernel
theorem dX8_step_102 : decode cX8_step 102 = .ok (.ifCond .eq 16, 3) := by decide +kernel
theorem dX8_step_105 : decode cX8_step 105 = .ok (.aload_n 0, 1) := by decide +kernel
theorem dX8_step_106 : decode cX8_step 106 = .ok (.dup, 1) := by decide +kernel
theorem dX8_step_107 : decode cX8_step 107 = .ok (.getfield 72, 3) := by decide +kernel
theorem dX8_step_110 : decode cX8_step 110 = .ok (.iconst 1, 1) := by decide +kernel
theorem dX8_step_111 : decode cX8_step 111 = .ok (.iadd, 1) := by decide +kernel
theorem dX8_step_112 : decode cX8_step 112 = .ok (.putfield 72, 3) := by decide +kernel
theorem dX8_step_115 : decode cX8_step 115 = .ok (.goto (-31), 3) := by decide +kernel
theorem dX8_step_118 : decode cX8_step 118 = .ok (.aload_n 0, 1) := by decide +kernel
theorem dX8_step_119 : decode cX8_step 119 = .ok (.iconst 1, 1) := by decide +kernel
theorem dX8_step_120 : decode cX8_step 120 = .ok (.putfield 69, 3) := by decide +kernel
theorem dX8_step_123 : decode cX8_step 123 = .ok (.goto 146, 3) := by decide +kernel
theorem dX8_step_126 : decode cX8_step 126 = .ok (.iload_n 1, 1) := by decide +kernel
theorem dX8_step_127 : decode cX8_step 127 = .ok (.i2l, 1) := by decide +kernel
theorem dX8_step_128 : decode cX8_step 128 = .ok (.ldc2_w 86, 3) := by decide +kernel
theorem dX8_step_131 : decode cX8_step 131 = .ok (.ldc2_w 88, 3) := by decide +kernel
theorem dX8_step_134 : decode cX8_step 134 = .ok (.invokestatic 52, 3) := by decide +kernel
theorem dX8_step_137 : decode cX8_step 137 = .ok (.ifCond .eq 106, 3) := by decide +kernel
theorem dX8_step_140 : decode cX8_step 140 = .ok (.aload_n 0, 1) := by decide +kernel
theorem dX8_step_141 : decode cX8_step 141 = .ok (.aload_n 0, 1) := by decide +kernel
theorem dX8_step_142 : decode cX8_step 142 = .ok (.getfield 72, 3) := by decide +kernel
theorem dX8_step_145 : decode cX8_step 145 = .ok (.invokevirtual 75, 3) := by decide +kernel
theorem dX8_step_148 : decode cX8_step 148 = .ok (.i2l, 1) := by decide +kernel
theorem dX8_step_149 : decode cX8_step 149 = .ok (.ldc2_w 86, 3) := by decide +kernel
theorem dX8_step_152 : decode cX8_step 152 = .ok (.ldc2_w 88, 3) := by decide +kernel
theorem dX8_step_155 : decode cX8_step 155 = .ok (.invokestatic 52, 3) := by decide +kernel
theorem dX8_step_158 : decode cX8_step 158 = .ok (.ifCond .eq 59, 3) := by decide +kernel
theorem dX8_step_161 : decode cX8_step 161 = .ok (.aload_n 0, 1) := by decide +kernel
theorem dX8_step_162 : decode cX8_step 162 = .ok (.aload_n 0, 1) := by decide +kernel
theorem dX8_step_163 : decode cX8_step 163 = .ok (.getfield 72, 3) := by decide +kernel
theorem dX8_step_166 : decode cX8_step 166 = .ok (.aload_n 0, 1) := by decide +kernel
theorem dX8_step_167 : decode cX8_step 167 = .ok (.getfield 63, 3) := by decide +kernel
theorem dX8_step_170 : decode cX8_step 170 = .ok (.isub, 1) := by decide +kernel
theorem dX8_step_171 : decode cX8_step 171 = .ok (.iconst 2, 1) := by decide +kernel
theorem dX8_step_172 : decode cX8_step 172 = .ok (.if_icmp .ge 25, 3) := by decide +kernel
theorem dX8_step_175 : decode cX8_step 175 = .ok (.bipush 10, 2) := by decide +kernel
theorem dX8_step_177 : decode cX8_step 177 = .ok (.aload_n 0, 1) := by decide +kernel
theorem dX8_step_178 : decode cX8_step 178 = .ok (.getfield 79, 3) := by decide +kernel
theorem dX8_step_181 : decode cX8_step 181 = .ok (.imul, 1) := by decide +kernel
theorem dX8_step_182 : decode cX8_step 182 = .ok (.aload_n 0, 1) := by decide +kernel
theorem dX8_step_183 : decode cX8_step 183 = .ok (.aload_n 0, 1) := by decide +kernel
theorem dX8_step_184 : decode cX8_step 184 = .ok (.getfield 72, 3) := by decide +kernel
theorem dX8_step_187 : decode cX8_step 187 = .ok (.invokevirtual 75, 3) := by decide +kernel
theorem dX8_step_190 : decode cX8_step 190 = .ok (.iadd, 1) := by decide +kernel
theorem dX8_step_191 : decode cX8_step 191 = .ok (.bipush 48, 2) := by decide +kernel
theorem dX8_step_193 : decode cX8_step 193 = .ok (.isub, 1) := by decide +kernel
theorem dX8_step_194 : decode cX8_step 194 = .ok (.goto 7, 3) := by decide +kernel
theorem dX8_step_197 : decode cX8_step 197 = .ok (.aload_n 0, 1) := by decide +kernel
theorem dX8_step_198 : decode cX8_step 198 = .ok (.getfield 79, 3) := by decide +kernel
theorem dX8_step_201 : decode cX8_step 201 = .ok (.putfield 79, 3) := by decide +kernel
theorem dX8_step_204 : decode cX8_step 204 = .ok (.aload_n 0, 1) := by decide +kernel
theorem dX8_step_205 : decode cX8_step 205 = .ok (.dup, 1) := by decide +kernel
theorem dX8_step_206 : decode cX8_step 206 = .ok (.getfield 72, 3) := by decide +kernel
theorem dX8_step_209 : decode cX8_step 209 = .ok (.iconst 1, 1) := by decide +kernel
theorem dX8_step_210 : decode cX8_step 210 = .ok (.iadd, 1) := by decide +kernel
theorem dX8_step_211 : decode cX8_step 211 = .ok (.putfield 72, 3) := by decide +kernel
theorem dX8_step_214 : decode cX8_step 214 = .ok (.goto (-74), 3) := by decide +kernel
theorem dX8_step_217 : decode cX8_step 217 = .ok (.aload_n 0, 1) := by decide +kernel
theorem dX8_step_218 : decode cX8_step 218 = .ok (.iconst 2, 1) := by decide +kernel
theorem dX8_step_219 : decode cX8_step 219 = .ok (.putfield 69, 3) := by decide +kernel
theorem dX8_step_222 : decode cX8_step 222 = .ok (.aload_n 0, 1) := by decide +kernel
theorem dX8_step_223 : decode cX8_step 223 = .ok (.getfield 72, 3) := by decide +kernel
theorem dX8_step_226 : decode cX8_step 226 = .ok (.aload_n 0, 1) := by decide +kernel
theorem dX8_step_227 : decode cX8_step 227 = .ok (.getfield 63, 3) := by decide +kernel
theorem dX8_step_230 : decode cX8_step 230 = .ok (.isub, 1) := by decide +kernel
theorem dX8_step_231 : decode cX8_step 231 = .ok (.iconst 2, 1) := by decide +kernel
theorem dX8_step_232 : decode cX8_step 232 = .ok (.if_icmp .le 37, 3) := by decide +kernel
theorem dX8_step_235 : decode cX8_step 235 = .ok (.aload_n 0, 1) := by decide +kernel
theorem dX8_step_236 : decode cX8_step 236 = .ok (.iconst 1, 1) := by decide +kernel
theorem dX8_step_237 : decode cX8_step 237 = .ok (.invokevirtual 90, 3) := by decide +kernel
theorem dX8_step_240 : decode cX8_step 240 = .ok (.goto 29, 3) := by decide +kernel
theorem dX8_step_243 : decode cX8_step 243 = .ok (.aload_n 0, 1) := by decide +kernel
theorem dX8_step_244 : decode cX8_step 244 = .ok (.iconst 3, 1) := by decide +kernel
theorem dX8_step_245 : decode cX8_step 245 = .ok (.putfield 69, 3) := by decide +kernel
theorem dX8_step_248 : decode cX8_step 248 = .ok (.aload_n 0, 1) := by decide +kernel
theorem dX8_step_249 : decode cX8_step 249 = .ok (.dup, 1) := by decide +kernel
theorem dX8_step_250 : decode cX8_step 250 = .ok (.getfield 72, 3) := by decide +kernel
theorem dX8_step_253 : decode cX8_step 253 = .ok (.iconst 1, 1) := by decide +kernel
theorem dX8_step_254 : decode cX8_step 254 = .ok (.iadd, 1) := by decide +kernel
theorem dX8_step_255 : decode cX8_step 255 = .ok (.putfield 72, 3) := by decide +kernel
theorem dX8_step_258 : decode cX8_step 258 = .ok (.iload_n 1, 1) := by decide +kernel
theorem dX8_step_259 : decode cX8_step 259 = .ok (.bipush 59, 2) := by decide +kernel
theorem dX8_step_261 : decode cX8_step 261 = .ok (.if_icmp .eq 8, 3) := by decide +kernel
theorem dX8_step_264 : decode cX8_step 264 = .ok (.aload_n 0, 1) := by decide +kernel
theorem dX8_step_265 : decode cX8_step 265 = .ok (.iconst 1, 1) := by decide +kernel
theorem dX8_step_266 : decode cX8_step 266 = .ok (.invokevirtual 90, 3) := by decide +kernel
theorem dX8_step_269 : decode cX8_step 269 = .ok (.return_, 1) := by decide +kernel
set_option maxRecDepth 20000 in
theorem ggX8_number_X8_fails : GoodIn wsX8_number wsX8_fails := goodIn_r _ [8, 1, 9, 10, 29, 30, 31, 32, 33, 34, 35, 36, 37, 38, 39, 40, 41, 42, 43, 44, 45, 46, 47, 48, 49, 50, 51, 52] (by decide +kernel) (by decide +kernel)
set_option maxRecDepth 20000 in
theorem gX8_number_X8_fails : GoodIn wsX8_number (wsV RX8 90 RX8 yX8_fails wsX8_fails) := goodIn_app (goodIn_of _ (by decide +kernel)) ggX8_number_X8_fails
set_option maxRecDepth 20000 in
theorem ggX8_number_X8_in : GoodIn wsX8_number wsX8_in := goodIn_r _ [13] (by decide +kernel) (by decide +kernel)
set_option maxRecDepth 20000 in
theorem gX8_number_X8_in : GoodIn wsX8_number (va_wsS RX8 52 yX8_in wsX8_in) := goodIn_app (goodIn_of _ (by decide +kernel)) ggX8_number_X8_in
set_option maxRecDepth 20000 in
theorem ggX8_number_X8_step : GoodIn wsX8_number wsX8_step := goodIn_r _ [17, 1, 18, 9, 3, 2, 19, 20, 21, 22, 23, 24, 25, 7, 26, 27, 28, 11, 12, 13, 4, 5, 6, 8, 10, 29, 30, 31, 32, 33, 34, 35, 36, 37, 38, 39, 40, 41, 42, 43, 44, 45, 46, 47, 48, 49, 50, 51, 52] (by decide +kernel) (by decide +kernel)
set_option maxRecDepth 20000 in
theorem gX8_number_X8_step : GoodIn wsX8_number (wsV RX8 94 RX8 yX8_step wsX8_step) := goodIn_app (goodIn_of _ (by decide +kernel)) ggX8_number_X8_step
theorem dX8_number_0 : decode cX8_number 0 = .ok (.aload_n 0, 1) := by decide +kernel
theorem dX8_number_1 : decode cX8_number 1 = .ok (.getfield 60, 3) := by decide +kernel
theorem dX8_number_4 : decode cX8_number 4 = .ok (.ifCond .ne 16, 3) := by decide +kernel
theorem dX8_number_7 : decode cX8_number 7 = .ok (.aload_n 0, 1) := by decide +kernel
theorem dX8_number_8 : decode cX8_number 8 = .ok (.getfield 69, 3) := by decide +kernel
theorem dX8_number_11 : decode cX8_number 11 = .ok (.iconst 2, 1) := by decide +kernel
theorem dX8_number_12 : decode cX8_number 12 = .ok (.if_icmp .eq 8, 3) := by decide +kernel
theorem dX8_number_15 : decode cX8_number 15 = .ok (.aload_n 0, 1) := by decide +kernel
theorem dX8_number_16 : decode cX8_number 16 = .ok (.iconst 2, 1) := by decide +kernel
theorem dX8_number_17 : decode cX8_number 17 = .ok (.invokevirtual 90, 3) := by decide +kernel
theorem dX8_number_20 : decode cX8_number 20 = .ok (.aload_n 0, 1) := by decide +kernel
theorem dX8_number_21 : decode cX8_number 21 = .ok (.getfield 60, 3) := by decide +kernel
theorem dX8_number_24 : decode cX8_number 24 = .ok (.ifCond .ne 23, 3) := by decide +kernel
theorem dX8_number_27 : decode cX8_number 27 = .ok (.aload_n 0, 1) := by decide +kernel
theorem dX8_number_28 : decode cX8_number 28 = .ok (.getfield 79, 3) := by decide +kernel
theorem dX8_number_31 : decode cX8_number 31 = .ok (.i2l, 1) := by decide +kernel
theorem dX8_number_32 : decode cX8_number 32 = .ok (.iload_n 1, 1) := by decide +kernel
theorem dX8_number_33 : decode cX8_number 33 = .ok (.i2l, 1) := by decide +kernel
theorem dX8_number_34 : decode cX8_number 34 = .ok (.iload_n 2, 1) := by decide +kernel
theorem dX8_number_35 : decode cX8_number 35 = .ok (.i2l, 1) := by decide +kernel
theorem dX8_number_36 : decode cX8_number 36 = .ok (.invokestatic 52, 3) := by decide +kernel
theorem dX8_number_39 : decode cX8_number 39 = .ok (.ifCond .ne 8, 3) := by decide +kernel
theorem dX8_number_42 : decode cX8_number 42 = .ok (.aload_n 0, 1) := by decide +kernel
theorem dX8_number_43 : decode cX8_number 43 = .ok (.iconst 3, 1) := by decide +kernel
theorem dX8_number_44 : decode cX8_number 44 = .ok (.invokevirtual 90, 3) := by decide +kernel
theorem dX8_number_47 : decode cX8_number 47 = .ok (.aload_n 0, 1) := by decide +kernel
theorem dX8_number_48 : decode cX8_number 48 = .ok (.getfield 60, 3) := by decide +kernel
theorem dX8_number_51 : decode cX8_number 51 = .ok (.ifCond .ne 10, 3) := by decide +kernel
theorem dX8_number_54 : decode cX8_number 54 = .ok (.aload_n 0, 1) := by decide +kernel
theorem dX8_number_55 : decode cX8_number 55 = .ok (.getfield 79, 3) := by decide +kernel
theorem dX8_number_58 : decode cX8_number 58 = .ok (.goto 4, 3) := by decide +kernel
theorem dX8_number_61 : decode cX8_number 61 = .ok (.iload_n 1, 1) := by decide +kernel
theorem dX8_number_62 : decode cX8_number 62 = .ok (.istore_n 3, 1) := by decide +kernel
theorem dX8_number_63 : decode cX8_number 63 = .ok (.aload_n 0, 1) := by decide +kernel
theorem dX8_number_64 : decode cX8_number 64 = .ok (.invokevirtual 94, 3) := by decide +kernel
theorem dX8_number_67 : decode cX8_number 67 = .ok (.iload_n 3, 1) := by decide +kernel
theorem dX8_number_68 : decode cX8_number 68 = .ok (.ireturn, 1) := by decide +kernel
set_option maxRecDepth 20000 in
theorem ggX8_readMore_X8_number : GoodIn wsX8_readMore wsX8_number := goodIn_r _ [6, 7, 8, 9, 10, 11, 12, 5, 13, 14, 15, 16, 17, 18, 19, 20, 21, 22, 23, 24, 25, 26, 27, 28, 29, 30, 31, 32, 33, 34, 35, 36, 37, 38, 39, 40, 41, 42, 43, 44, 45, 46, 47, 48, 49, 50, 51, 52, 53, 54, 55, 56, 57] (by decide +kernel) (by decide +kernel)
set_option maxRecDepth 20000 in
theorem gX8_readMore_X8_number : GoodIn wsX8_readMore (wsV RX8 97 RX8 yX8_number wsX8_number) := goodIn_app (goodIn_of _ (by decide +kernel)) ggX8_readMore_X8_number
theorem dX8_readMore_0 : decode cX8_readMore 0 = .ok (.iload_n 1, 1) := by decide +kernel
theorem dX8_readMore_1 : decode cX8_readMore 1 = .ok (.iconst 3, 1) := by decide +kernel
theorem dX8_readMore_2 : decode cX8_readMore 2 = .ok (.if_icmp .gt 52, 3) := by decide +kernel
theorem dX8_readMore_5 : decode cX8_readMore 5 = .ok (.aload_n 0, 1) := by decide +kernel
theorem dX8_readMore_6 : decode cX8_readMore 6 = .ok (.getfield 13, 3) := by decide +kernel
theorem dX8_readMore_9 : decode cX8_readMore 9 = .ok (.aload_n 0, 1) := by decide +kernel
theorem dX8_readMore_10 : decode cX8_readMore 10 = .ok (.getfield 13, 3) := by decide +kernel
theorem dX8_readMore_13 : decode cX8_readMore 13 = .ok (.bipush 12, 2) := by decide +kernel
theorem dX8_readMore_15 : decode cX8_readMore 15 = .ok (.iaload, 1) := by decide +kernel
theorem dX8_readMore_16 : decode cX8_readMore 16 = .ok (.iload_n 1, 1) := by decide +kernel
theorem dX8_readMore_17 : decode cX8_readMore 17 = .ok (.iastore, 1) := by decide +kernel
theorem dX8_readMore_18 : decode cX8_readMore 18 = .ok (.aload_n 0, 1) := by decide +kernel
theorem dX8_readMore_19 : decode cX8_readMore 19 = .ok (.getfield 13, 3) := by decide +kernel
theorem dX8_readMore_22 : decode cX8_readMore 22 = .ok (.bipush 6, 2) := by decide +kernel
theorem dX8_readMore_24 : decode cX8_readMore 24 = .ok (.aload_n 0, 1) := by decide +kernel
theorem dX8_readMore_25 : decode cX8_readMore 25 = .ok (.getfield 13, 3) := by decide +kernel
theorem dX8_readMore_28 : decode cX8_readMore 28 = .ok (.bipush 12, 2) := by decide +kernel
theorem dX8_readMore_30 : decode cX8_readMore 30 = .ok (.iaload, 1) := by decide +kernel
theorem dX8_readMore_31 : decode cX8_readMore 31 = .ok (.iadd, 1) := by decide +kernel
theorem dX8_readMore_32 : decode cX8_readMore 32 = .ok (.aload_n 0, 1) := by decide +kernel
theorem dX8_readMore_33 : decode cX8_readMore 33 = .ok (.iconst 0, 1) := by decide +kernel
theorem dX8_readMore_34 : decode cX8_readMore 34 = .ok (.bipush 9, 2) := by decide +kernel
theorem dX8_readMore_36 : decode cX8_readMore 36 = .ok (.invokevirtual 97, 3) := by decide +kernel
theorem dX8_readMore_39 : decode cX8_readMore 39 = .ok (.iastore, 1) := by decide +kernel
theorem dX8_readMore_40 : decode cX8_readMore 40 = .ok (.aload_n 0, 1) := by decide +kernel
theorem dX8_readMore_41 : decode cX8_readMore 41 = .ok (.getfield 13, 3) := by decide +kernel
theorem dX8_readMore_44 : decode cX8_readMore 44 = .ok (.bipush 12, 2) := by decide +kernel
theorem dX8_readMore_46 : decode cX8_readMore 46 = .ok (.dup2, 1) := by decide +kernel
theorem dX8_readMore_47 : decode cX8_readMore 47 = .ok (.iaload, 1) := by decide +kernel
theorem dX8_readMore_48 : decode cX8_readMore 48 = .ok (.iconst 1, 1) := by decide +kernel
theorem dX8_readMore_49 : decode cX8_readMore 49 = .ok (.iadd, 1) := by decide +kernel
theorem dX8_readMore_50 : decode cX8_readMore 50 = .ok (.iastore, 1) := by decide +kernel
theorem dX8_readMore_51 : decode cX8_readMore 51 = .ok (.goto 155, 3) := by decide +kernel
theorem dX8_readMore_54 : decode cX8_readMore 54 = .ok (.iload_n 1, 1) := by decide +kernel
theorem dX8_readMore_55 : decode cX8_readMore 55 = .ok (.iconst 4, 1) := by decide +kernel
theorem dX8_readMore_56 : decode cX8_readMore 56 = .ok (.if_icmp .ne 57, 3) := by decide +kernel
theorem dX8_readMore_59 : decode cX8_readMore 59 = .ok (.aload_n 0, 1) := by decide +kernel
theorem dX8_readMore_60 : decode cX8_readMore 60 = .ok (.getfield 13, 3) := by decide +kernel
theorem dX8_readMore_63 : decode cX8_readMore 63 = .ok (.bipush 39, 2) := by decide +kernel
theorem dX8_readMore_65 : decode cX8_readMore 65 = .ok (.iaload, 1) := by decide +kernel
theorem dX8_readMore_66 : decode cX8_readMore 66 = .ok (.istore_n 2, 1) := by decide +kernel
theorem dX8_readMore_67 : decode cX8_readMore 67 = .ok (.aload_n 0, 1) := by decide +kernel
theorem dX8_readMore_68 : decode cX8_readMore 68 = .ok (.getfield 13, 3) := by decide +kernel
theorem dX8_readMore_71 : decode cX8_readMore 71 = .ok (.bipush 31, 2) := by decide +kernel
theorem dX8_readMore_73 : decode cX8_readMore 73 = .ok (.iload_n 2, 1) := by decide +kernel
theorem dX8_readMore_74 : decode cX8_readMore 74 = .ok (.iadd, 1) := by decide +kernel
theorem dX8_readMore_75 : decode cX8_readMore 75 = .ok (.aload_n 0, 1) := by decide +kernel
theorem dX8_readMore_76 : decode cX8_readMore 76 = .ok (.iconst 1, 1) := by decide +kernel
theorem dX8_readMore_77 : decode cX8_readMore 77 = .ok (.bipush 9, 2) := by decide +kernel
theorem dX8_readMore_79 : decode cX8_readMore 79 = .ok (.invokevirtual 97, 3) := by decide +kernel
theorem dX8_readMore_82 : decode cX8_readMore 82 = .ok (.iastore, 1) := by decide +kernel
theorem dX8_readMore_83 : decode cX8_readMore 83 = .ok (.aload_n 0, 1) := by decide +kernel
theorem dX8_readMore_84 : decode cX8_readMore 84 = .ok (.getfield 13, 3) := by decide +kernel
theorem dX8_readMore_87 : decode cX8_readMore 87 = .ok (.bipush 35, 2) := by decide +kernel
theorem dX8_readMore_89 : decode cX8_readMore 89 = .ok (.iload_n 2, 1) := by decide +kernel
theorem dX8_readMore_90 : decode cX8_readMore 90 = .ok (.iadd, 1) := by decide +kernel
theorem dX8_readMore_91 : decode cX8_readMore 91 = .ok (.aload_n 0, 1) := by decide +kernel
theorem dX8_readMore_92 : decode cX8_readMore 92 = .ok (.iconst 1, 1) := by decide +kernel
theorem dX8_readMore_93 : decode cX8_readMore 93 = .ok (.bipush 9, 2) := by decide +kernel
theorem dX8_readMore_95 : decode cX8_readMore 95 = .ok (.invokevirtual 97, 3) := by decide +kernel
theorem dX8_readMore_98 : decode cX8_readMore 98 = .ok (.iastore, 1) := by decide +kernel
theorem dX8_readMore_99 : decode cX8_readMore 99 = .ok (.aload_n 0, 1) := by decide +kernel
theorem dX8_readMore_100 : decode cX8_readMore 100 = .ok (.getfield 13, 3) := by decide +kernel
theorem dX8_readMore_103 : decode cX8_readMore 103 = .ok (.bipush 39, 2) := by decide +kernel
theorem dX8_readMore_105 : decode cX8_readMore 105 = .ok (.dup2, 1) := by decide +kernel
theorem dX8_readMore_106 : decode cX8_readMore 106 = .ok (.iaload, 1) := by decide +kernel
theorem dX8_readMore_107 : decode cX8_readMore 107 = .ok (.iconst 1, 1) := by decide +kernel
theorem dX8_readMore_108 : decode cX8_readMore 108 = .ok (.iadd, 1) := by decide +kernel
theorem dX8_readMore_109 : decode cX8_readMore 109 = .ok (.iastore, 1) := by decide +kernel
theorem dX8_readMore_110 : decode cX8_readMore 110 = .ok (.goto 96, 3) := by decide +kernel
theorem dX8_readMore_113 : decode cX8_readMore 113 = .ok (.iload_n 1, 1) := by decide +kernel
theorem dX8_readMore_114 : decode cX8_readMore 114 = .ok (.iconst 5, 1) := by decide +kernel
theorem dX8_readMore_115 : decode cX8_readMore 115 = .ok (.if_icmp .ne 36, 3) := by decide +kernel
theorem dX8_readMore_118 : decode cX8_readMore 118 = .ok (.aload_n 0, 1) := by decide +kernel
theorem dX8_readMore_119 : decode cX8_readMore 119 = .ok (.getfield 13, 3) := by decide +kernel
theorem dX8_readMore_122 : decode cX8_readMore 122 = .ok (.bipush 13, 2) := by decide +kernel
theorem dX8_readMore_124 : decode cX8_readMore 124 = .ok (.aload_n 0, 1) := by decide +kernel
theorem dX8_readMore_125 : decode cX8_readMore 125 = .ok (.iconst 1, 1) := by decide +kernel
theorem dX8_readMore_126 : decode cX8_readMore 126 = .ok (.bipush 12, 2) := by decide +kernel
theorem dX8_readMore_128 : decode cX8_readMore 128 = .ok (.invokevirtual 97, 3) := by decide +kernel
theorem dX8_readMore_131 : decode cX8_readMore 131 = .ok (.bipush 12, 2) := by decide +kernel
theorem dX8_readMore_133 : decode cX8_readMore 133 = .ok (.isub, 1) := by decide +kernel
theorem dX8_readMore_134 : decode cX8_readMore 134 = .ok (.iastore, 1) := by decide +kernel
theorem dX8_readMore_135 : decode cX8_readMore 135 = .ok (.aload_n 0, 1) := by decide +kernel
theorem dX8_readMore_136 : decode cX8_readMore 136 = .ok (.getfield 13, 3) := by decide +kernel
theorem dX8_readMore_139 : decode cX8_readMore 139 = .ok (.bipush 14, 2) := by decide +kernel
theorem dX8_readMore_141 : decode cX8_readMore 141 = .ok (.aload_n 0, 1) := by decide +kernel
theorem dX8_readMore_142 : decode cX8_readMore 142 = .ok (.iconst 0, 1) := by decide +kernel
theorem dX8_readMore_143 : decode cX8_readMore 143 = .ok (.iconst 5, 1) := by decide +kernel
theorem dX8_readMore_144 : decode cX8_readMore 144 = .ok (.invokevirtual 97, 3) := by decide +kernel
theorem dX8_readMore_147 : decode cX8_readMore 147 = .ok (.iastore, 1) := by decide +kernel
theorem dX8_readMore_148 : decode cX8_readMore 148 = .ok (.goto 58, 3) := by decide +kernel
theorem dX8_readMore_151 : decode cX8_readMore 151 = .ok (.iload_n 1, 1) := by decide +kernel
theorem dX8_readMore_152 : decode cX8_readMore 152 = .ok (.bipush 6, 2) := by decide +kernel
theorem dX8_readMore_154 : decode cX8_readMore 154 = .ok (.if_icmp .ne 36, 3) := by decide +kernel
theorem dX8_readMore_157 : decode cX8_readMore 157 = .ok (.aload_n 0, 1) := by decide +kernel
theorem dX8_readMore_158 : decode cX8_readMore 158 = .ok (.getfield 13, 3) := by decide +kernel
theorem dX8_readMore_161 : decode cX8_readMore 161 = .ok (.bipush 15, 2) := by decide +kernel
theorem dX8_readMore_163 : decode cX8_readMore 163 = .ok (.aload_n 0, 1) := by decide +kernel
theorem dX8_readMore_164 : decode cX8_readMore 164 = .ok (.iconst 0, 1) := by decide +kernel
theorem dX8_readMore_165 : decode cX8_readMore 165 = .ok (.bipush 11, 2) := by decide +kernel
theorem dX8_readMore_167 : decode cX8_readMore 167 = .ok (.invokevirtual 97, 3) := by decide +kernel
theorem dX8_readMore_170 : decode cX8_readMore 170 = .ok (.iastore, 1) := by decide +kernel
theorem dX8_readMore_171 : decode cX8_readMore 171 = .ok (.aload_n 0, 1) := by decide +kernel
theorem dX8_readMore_172 : decode cX8_readMore 172 = .ok (.getfield 13, 3) := by decide +kernel
theorem dX8_readMore_175 : decode cX8_readMore 175 = .ok (.bipush 16, 2) := by decide +kernel
theorem dX8_readMore_177 : decode cX8_readMore 177 = .ok (.aload_n 0, 1) := by decide +kernel
theorem dX8_readMore_178 : decode cX8_readMore 178 = .ok (.iconst 0, 1) := by decide +kernel
theorem dX8_readMore_179 : decode cX8_readMore 179 = .ok (.bipush 11, 2) := by decide +kernel
theorem dX8_readMore_181 : decode cX8_readMore 181 = .ok (.invokevirtual 97, 3) := by decide +kernel
theorem dX8_readMore_184 : decode cX8_readMore 184 = .ok (.iconst 2, 1) := by decide +kernel
theorem dX8_readMore_185 : decode cX8_readMore 185 = .ok (.isub, 1) := by decide +kernel
theorem dX8_readMore_186 : decode cX8_readMore 186 = .ok (.iastore, 1) := by decide +kernel
theorem dX8_readMore_187 : decode cX8_readMore 187 = .ok (.goto 19, 3) := by decide +kernel
theorem dX8_readMore_190 : decode cX8_readMore 190 = .ok (.aload_n 0, 1) := by decide +kernel
theorem dX8_readMore_191 : decode cX8_readMore 191 = .ok (.getfield 13, 3) := by decide +kernel
theorem dX8_readMore_194 : decode cX8_readMore 194 = .ok (.bipush 17, 2) := by decide +kernel
theorem dX8_readMore_196 : decode cX8_readMore 196 = .ok (.aload_n 0, 1) := by decide +kernel
theorem dX8_readMore_197 : decode cX8_readMore 197 = .ok (.iconst 0, 1) := by decide +kernel
theorem dX8_readMore_198 : decode cX8_readMore 198 = .ok (.bipush 11, 2) := by decide +kernel
theorem dX8_readMore_200 : decode cX8_readMore 200 = .ok (.invokevirtual 97, 3) := by decide +kernel
theorem dX8_readMore_203 : decode cX8_readMore 203 = .ok (.iconst 1, 1) := by decide +kernel
theorem dX8_readMore_204 : decode cX8_readMore 204 = .ok (.iadd, 1) := by decide +kernel
theorem dX8_readMore_205 : decode cX8_readMore 205 = .ok (.iastore, 1) := by decide +kernel
theorem dX8_readMore_206 : decode cX8_readMore 206 = .ok (.return_, 1) := by decide +kernel
set_option maxRecDepth 20000 in
theorem ggX8_readLine_X8_nameHere : GoodIn wsX8_readLine wsX8_nameHere := goodIn_r _ [10, 5, 11, 12, 13, 14, 15, 16, 17, 9, 18, 19, 20, 46, 47, 48, 49, 50, 51, 52, 53, 54, 55, 56, 57, 58, 59, 60, 61, 62, 63, 64, 65, 66, 67, 68, 69] (by decide +kernel) (by decide +kernel)
set_option maxRecDepth 20000 in
theorem gX8_readLine_X8_nameHere : GoodIn wsX8_readLine (wsV RX8 101 RX8 yX8_nameHere wsX8_nameHere) := goodIn_app (goodIn_of _ (by decide +kernel)) ggX8_readLine_X8_nameHere
set_option maxRecDepth 20000 in
theorem ggX8_readLine_X8_in : GoodIn wsX8_readLine wsX8_in := goodIn_r _ [23] (by decide +kernel) (by decide +kernel)
set_option maxRecDepth 20000 in
theorem gX8_readLine_X8_in : GoodIn wsX8_readLine (va_wsS RX8 52 yX8_in wsX8_in) := goodIn_app (goodIn_of _ (by decide +kernel)) ggX8_readLine_X8_in
set_option maxRecDepth 20000 in
theorem ggX8_readLine_X8_fails : GoodIn wsX8_readLine wsX8_fails := goodIn_r _ [27, 4, 12, 28, 46, 47, 48, 49, 50, 51, 52, 53, 54, 55, 56, 57, 58, 59, 60, 61, 62, 63, 64, 65, 66, 67, 68, 69] (by decide +kernel) (by decide +kernel)
set_option maxRecDepth 20000 in
theorem gX8_readLine_X8_fails : GoodIn wsX8_readLine (wsV RX8 90 RX8 yX8_fails wsX8_fails) := goodIn_app (goodIn_of _ (by decide +kernel)) ggX8_readLine_X8_fails
set_option maxRecDepth 20000 in
theorem ggX8_readLine_X8_step : GoodIn wsX8_readLine wsX8_step := goodIn_r _ [32, 4, 11, 12, 33, 5, 34, 35, 36, 37, 15, 16, 17, 9, 18, 19, 20, 21, 22, 23, 24, 25, 26, 27, 28, 46, 47, 48, 49, 50, 51, 52, 53, 54, 55, 56, 57, 58, 59, 60, 61, 62, 63, 64, 65, 66, 67, 68, 69] (by decide +kernel) (by decide +kernel)
set_option maxRecDepth 20000 in
theorem gX8_readLine_X8_step : GoodIn wsX8_readLine (wsV RX8 94 RX8 yX8_step wsX8_step) := goodIn_app (goodIn_of _ (by decide +kernel)) ggX8_readLine_X8_step
set_option maxRecDepth 20000 in
theorem ggX8_readLine_X8_readMore : GoodIn wsX8_readLine wsX8_readMore := goodIn_r _ [41, 2, 42, 43, 44, 9, 45, 4, 5, 33, 24, 25, 26, 27, 12, 28, 21, 22, 23, 29, 30, 31, 32, 11, 34, 35, 36, 37, 15, 16, 17, 18, 19, 20, 46, 47, 48, 49, 50, 51, 52, 53, 54, 55, 56, 57, 58, 59, 60, 61, 62, 63, 64, 65, 66, 67, 68, 69] (by decide +kernel) (by decide +kernel)
set_option maxRecDepth 20000 in
theorem gX8_readLine_X8_readMore : GoodIn wsX8_readLine (wsV RX8 110 RX8 yX8_readMore wsX8_readMore) := goodIn_app (goodIn_of _ (by decide +kernel)) ggX8_readLine_X8_readMore
theorem dX8_readLine_0 : decode cX8_readLine 0 = .ok (.aload_n 0, 1) := by decide +kernel
theorem dX8_readLine_1 : decode cX8_readLine 1 = .ok (.invokevirtual 101, 3) := by decide +kernel
theorem dX8_readLine_4 : decode cX8_readLine 4 = .ok (.istore_n 1, 1) := by decide +kernel
theorem dX8_readLine_5 : decode cX8_readLine 5 = .ok (.iload_n 1, 1) := by decide +kernel
theorem dX8_readLine_6 : decode cX8_readLine 6 = .ok (.i2l, 1) := by decide +kernel
theorem dX8_readLine_7 : decode cX8_readLine 7 = .ok (.lconst 0, 1) := by decide +kernel
theorem dX8_readLine_8 : decode cX8_readLine 8 = .ok (.ldc2_w 105, 3) := by decide +kernel
theorem dX8_readLine_11 : decode cX8_readLine 11 = .ok (.invokestatic 52, 3) := by decide +kernel
theorem dX8_readLine_14 : decode cX8_readLine 14 = .ok (.ifCond .ne 9, 3) := by decide +kernel
theorem dX8_readLine_17 : decode cX8_readLine 17 = .ok (.aload_n 0, 1) := by decide +kernel
theorem dX8_readLine_18 : decode cX8_readLine 18 = .ok (.iconst 2, 1) := by decide +kernel
theorem dX8_readLine_19 : decode cX8_readLine 19 = .ok (.invokevirtual 90, 3) := by decide +kernel
theorem dX8_readLine_22 : decode cX8_readLine 22 = .ok (.return_, 1) := by decide +kernel
theorem dX8_readLine_23 : decode cX8_readLine 23 = .ok (.iload_n 1, 1) := by decide +kernel
theorem dX8_readLine_24 : decode cX8_readLine 24 = .ok (.iconst 3, 1) := by decide +kernel
theorem dX8_readLine_25 : decode cX8_readLine 25 = .ok (.if_icmp .gt 15, 3) := by decide +kernel
theorem dX8_readLine_28 : decode cX8_readLine 28 = .ok (.aload_n 0, 1) := by decide +kernel
theorem dX8_readLine_29 : decode cX8_readLine 29 = .ok (.getfield 13, 3) := by decide +kernel
theorem dX8_readLine_32 : decode cX8_readLine 32 = .ok (.bipush 12, 2) := by decide +kernel
theorem dX8_readLine_34 : decode cX8_readLine 34 = .ok (.iaload, 1) := by decide +kernel
theorem dX8_readLine_35 : decode cX8_readLine 35 = .ok (.bipush 6, 2) := by decide +kernel
theorem dX8_readLine_37 : decode cX8_readLine 37 = .ok (.if_icmp .eq 19, 3) := by decide +kernel
theorem dX8_readLine_40 : decode cX8_readLine 40 = .ok (.iload_n 1, 1) := by decide +kernel
theorem dX8_readLine_41 : decode cX8_readLine 41 = .ok (.iconst 4, 1) := by decide +kernel
theorem dX8_readLine_42 : decode cX8_readLine 42 = .ok (.if_icmp .ne 19, 3) := by decide +kernel
theorem dX8_readLine_45 : decode cX8_readLine 45 = .ok (.aload_n 0, 1) := by decide +kernel
theorem dX8_readLine_46 : decode cX8_readLine 46 = .ok (.getfield 13, 3) := by decide +kernel
theorem dX8_readLine_49 : decode cX8_readLine 49 = .ok (.bipush 39, 2) := by decide +kernel
theorem dX8_readLine_51 : decode cX8_readLine 51 = .ok (.iaload, 1) := by decide +kernel
theorem dX8_readLine_52 : decode cX8_readLine 52 = .ok (.iconst 4, 1) := by decide +kernel
theorem dX8_readLine_53 : decode cX8_readLine 53 = .ok (.if_icmp .ne 8, 3) := by decide +kernel
theorem dX8_readLine_56 : decode cX8_readLine 56 = .ok (.aload_n 0, 1) := by decide +kernel
theorem dX8_readLine_57 : decode cX8_readLine 57 = .ok (.iconst 5, 1) := by decide +kernel
theorem dX8_readLine_58 : decode cX8_readLine 58 = .ok (.invokevirtual 90, 3) := by decide +kernel
theorem dX8_readLine_61 : decode cX8_readLine 61 = .ok (.iload_n 1, 1) := by decide +kernel
theorem dX8_readLine_62 : decode cX8_readLine 62 = .ok (.iconst 5, 1) := by decide +kernel
theorem dX8_readLine_63 : decode cX8_readLine 63 = .ok (.if_icmp .lt 20, 3) := by decide +kernel
theorem dX8_readLine_66 : decode cX8_readLine 66 = .ok (.aload_n 0, 1) := by decide +kernel
theorem dX8_readLine_67 : decode cX8_readLine 67 = .ok (.getfield 107, 3) := by decide +kernel
theorem dX8_readLine_70 : decode cX8_readLine 70 = .ok (.iload_n 1, 1) := by decide +kernel
theorem dX8_readLine_71 : decode cX8_readLine 71 = .ok (.ishr, 1) := by decide +kernel
theorem dX8_readLine_72 : decode cX8_readLine 72 = .ok (.iconst 1, 1) := by decide +kernel
theorem dX8_readLine_73 : decode cX8_readLine 73 = .ok (.iand, 1) := by decide +kernel
theorem dX8_readLine_74 : decode cX8_readLine 74 = .ok (.iconst 1, 1) := by decide +kernel
theorem dX8_readLine_75 : decode cX8_readLine 75 = .ok (.if_icmp .ne 8, 3) := by decide +kernel
theorem dX8_readLine_78 : decode cX8_readLine 78 = .ok (.aload_n 0, 1) := by decide +kernel
theorem dX8_readLine_79 : decode cX8_readLine 79 = .ok (.iconst 4, 1) := by decide +kernel
theorem dX8_readLine_80 : decode cX8_readLine 80 = .ok (.invokevirtual 90, 3) := by decide +kernel
theorem dX8_readLine_83 : decode cX8_readLine 83 = .ok (.aload_n 0, 1) := by decide +kernel
theorem dX8_readLine_84 : decode cX8_readLine 84 = .ok (.dup, 1) := by decide +kernel
theorem dX8_readLine_85 : decode cX8_readLine 85 = .ok (.getfield 107, 3) := by decide +kernel
theorem dX8_readLine_88 : decode cX8_readLine 88 = .ok (.iconst 1, 1) := by decide +kernel
theorem dX8_readLine_89 : decode cX8_readLine 89 = .ok (.iload_n 1, 1) := by decide +kernel
theorem dX8_readLine_90 : decode cX8_readLine 90 = .ok (.ishl, 1) := by decide +kernel
theorem dX8_readLine_91 : decode cX8_readLine 91 = .ok (.ior, 1) := by decide +kernel
theorem dX8_readLine_92 : decode cX8_readLine 92 = .ok (.putfield 107, 3) := by decide +kernel
theorem dX8_readLine_95 : decode cX8_readLine 95 = .ok (.aload_n 0, 1) := by decide +kernel
theorem dX8_readLine_96 : decode cX8_readLine 96 = .ok (.invokevirtual 94, 3) := by decide +kernel
theorem dX8_readLine_99 : decode cX8_readLine 99 = .ok (.aload_n 0, 1) := by decide +kernel
theorem dX8_readLine_100 : decode cX8_readLine 100 = .ok (.getfield 60, 3) := by decide +kernel
theorem dX8_readLine_103 : decode cX8_readLine 103 = .ok (.ifCond .le 4, 3) := by decide +kernel
theorem dX8_readLine_106 : decode cX8_readLine 106 = .ok (.return_, 1) := by decide +kernel
theorem dX8_readLine_107 : decode cX8_readLine 107 = .ok (.aload_n 0, 1) := by decide +kernel
theorem dX8_readLine_108 : decode cX8_readLine 108 = .ok (.iload_n 1, 1) := by decide +kernel
theorem dX8_readLine_109 : decode cX8_readLine 109 = .ok (.invokevirtual 110, 3) := by decide +kernel
theorem dX8_readLine_112 : decode cX8_readLine 112 = .ok (.aload_n 0, 1) := by decide +kernel
theorem dX8_readLine_113 : decode cX8_readLine 113 = .ok (.getfield 60, 3) := by decide +kernel
theorem dX8_readLine_116 : decode cX8_readLine 116 = .ok (.ifCond .ne 16, 3) := by decide +kernel
theorem dX8_readLine_119 : decode cX8_readLine 119 = .ok (.aload_n 0, 1) := by decide +kernel
theorem dX8_readLine_120 : decode cX8_readLine 120 = .ok (.getfield 69, 3) := by decide +kernel
theorem dX8_readLine_123 : decode cX8_readLine 123 = .ok (.iconst 3, 1) := by decide +kernel
theorem dX8_readLine_124 : decode cX8_readLine 124 = .ok (.if_icmp .eq 8, 3) := by decide +kernel
theorem dX8_readLine_127 : decode cX8_readLine 127 = .ok (.aload_n 0, 1) := by decide +kernel
theorem dX8_readLine_128 : decode cX8_readLine 128 = .ok (.iconst 2, 1) := by decide +kernel
theorem dX8_readLine_129 : decode cX8_readLine 129 = .ok (.invokevirtual 90, 3) := by decide +kernel
theorem dX8_readLine_132 : decode cX8_readLine 132 = .ok (.aload_n 0, 1) := by decide +kernel
theorem dX8_readLine_133 : decode cX8_readLine 133 = .ok (.invokevirtual 94, 3) := by decide +kernel
theorem dX8_readLine_136 : decode cX8_readLine 136 = .ok (.return_, 1) := by decide +kernel
set_option maxRecDepth 20000 in
theorem ggX8_text_X8_step : GoodIn wsX8_text wsX8_step := goodIn_r _ [16, 1, 2, 17, 18, 5, 19, 20, 21, 22, 23, 24, 25, 15, 26, 6, 27, 28, 29, 30, 31, 32, 33, 34, 8, 54, 55, 56, 57, 58, 59, 60, 61, 62, 63, 64, 65, 66, 67, 68, 69, 70, 71, 72, 73, 74, 75, 76, 77] (by decide +kernel) (by decide +kernel)
set_option maxRecDepth 20000 in
theorem gX8_text_X8_step : GoodIn wsX8_text (wsV RX8 94 RX8 yX8_step wsX8_step) := goodIn_app (goodIn_of _ (by decide +kernel)) ggX8_text_X8_step
set_option maxRecDepth 20000 in
theorem ggX8_text_X8_readLine : GoodIn wsX8_text wsX8_readLine := goodIn_r _ [38, 39, 4, 3, 1, 5, 40, 41, 42, 15, 43, 2, 17, 44, 45, 23, 24, 25, 26, 6, 27, 28, 29, 30, 31, 32, 33, 34, 8, 12, 13, 14, 16, 18, 19, 20, 21, 22, 46, 47, 48, 49, 50, 51, 52, 53, 54, 55, 56, 57, 58, 59, 60, 61, 62, 63, 64, 65, 66, 67, 68, 69, 70, 71, 72, 73, 74, 75, 76, 77] (by decide +kernel) (by decide +kernel)
set_option maxRecDepth 20000 in
theorem gX8_text_X8_readLine : GoodIn wsX8_text (wsV RX8 113 RX8 yX8_readLine wsX8_readLine) := goodIn_app (goodIn_of _ (by decide +kernel)) ggX8_text_X8_readLine
theorem dX8_text_0 : decode cX8_text 0 = .ok (.aload_n 0, 1) := by decide +kernel
theorem dX8_text_1 : decode cX8_text 1 = .ok (.iconst 0, 1) := by decide +kernel
theorem dX8_text_2 : decode cX8_text 2 = .ok (.putfield 60, 3) := by decide +kernel
theorem dX8_text_5 : decode cX8_text 5 = .ok (.aload_n 0, 1) := by decide +kernel
theorem dX8_text_6 : decode cX8_text 6 = .ok (.iconst 0, 1) := by decide +kernel
theorem dX8_text_7 : decode cX8_text 7 = .ok (.putfield 72, 3) := by decide +kernel
theorem dX8_text_10 : decode cX8_text 10 = .ok (.aload_n 0, 1) := by decide +kernel
theorem dX8_text_11 : decode cX8_text 11 = .ok (.iconst 0, 1) := by decide +kernel
theorem dX8_text_12 : decode cX8_text 12 = .ok (.putfield 107, 3) := by decide +kernel
theorem dX8_text_15 : decode cX8_text 15 = .ok (.iconst 0, 1) := by decide +kernel
theorem dX8_text_16 : decode cX8_text 16 = .ok (.istore_n 1, 1) := by decide +kernel
theorem dX8_text_17 : decode cX8_text 17 = .ok (.iconst 0, 1) := by decide +kernel
theorem dX8_text_18 : decode cX8_text 18 = .ok (.istore_n 2, 1) := by decide +kernel
theorem dX8_text_19 : decode cX8_text 19 = .ok (.iload_n 2, 1) := by decide +kernel
theorem dX8_text_20 : decode cX8_text 20 = .ok (.bipush 40, 2) := by decide +kernel
theorem dX8_text_22 : decode cX8_text 22 = .ok (.if_icmp .ge 16, 3) := by decide +kernel
theorem dX8_text_25 : decode cX8_text 25 = .ok (.aload_n 0, 1) := by decide +kernel
theorem dX8_text_26 : decode cX8_text 26 = .ok (.getfield 13, 3) := by decide +kernel
theorem dX8_text_29 : decode cX8_text 29 = .ok (.iload_n 2, 1) := by decide +kernel
theorem dX8_text_30 : decode cX8_text 30 = .ok (.iconst 0, 1) := by decide +kernel
theorem dX8_text_31 : decode cX8_text 31 = .ok (.iastore, 1) := by decide +kernel
theorem dX8_text_32 : decode cX8_text 32 = .ok (.iinc 2 1, 3) := by decide +kernel
theorem dX8_text_35 : decode cX8_text 35 = .ok (.goto (-16), 3) := by decide +kernel
theorem dX8_text_38 : decode cX8_text 38 = .ok (.aload_n 0, 1) := by decide +kernel
theorem dX8_text_39 : decode cX8_text 39 = .ok (.invokevirtual 94, 3) := by decide +kernel
theorem dX8_text_42 : decode cX8_text 42 = .ok (.aload_n 0, 1) := by decide +kernel
theorem dX8_text_43 : decode cX8_text 43 = .ok (.getfield 60, 3) := by decide +kernel
theorem dX8_text_46 : decode cX8_text 46 = .ok (.ifCond .ne 20, 3) := by decide +kernel
theorem dX8_text_49 : decode cX8_text 49 = .ok (.aload_n 0, 1) := by decide +kernel
theorem dX8_text_50 : decode cX8_text 50 = .ok (.getfield 69, 3) := by decide +kernel
theorem dX8_text_53 : decode cX8_text 53 = .ok (.ifCond .eq 13, 3) := by decide +kernel
theorem dX8_text_56 : decode cX8_text 56 = .ok (.aload_n 0, 1) := by decide +kernel
theorem dX8_text_57 : decode cX8_text 57 = .ok (.invokevirtual 113, 3) := by decide +kernel
theorem dX8_text_60 : decode cX8_text 60 = .ok (.iinc 1 1, 3) := by decide +kernel
theorem dX8_text_63 : decode cX8_text 63 = .ok (.goto (-21), 3) := by decide +kernel
theorem dX8_text_66 : decode cX8_text 66 = .ok (.aload_n 0, 1) := by decide +kernel
theorem dX8_text_67 : decode cX8_text 67 = .ok (.iconst 0, 1) := by decide +kernel
theorem dX8_text_68 : decode cX8_text 68 = .ok (.putfield 56, 3) := by decide +kernel
theorem dX8_text_71 : decode cX8_text 71 = .ok (.aload_n 0, 1) := by decide +kernel
theorem dX8_text_72 : decode cX8_text 72 = .ok (.aload_n 0, 1) := by decide +kernel
theorem dX8_text_73 : decode cX8_text 73 = .ok (.getfield 60, 3) := by decide +kernel
theorem dX8_text_76 : decode cX8_text 76 = .ok (.putfield 116, 3) := by decide +kernel
theorem dX8_text_79 : decode cX8_text 79 = .ok (.aload_n 0, 1) := by decide +kernel
theorem dX8_text_80 : decode cX8_text 80 = .ok (.getfield 60, 3) := by decide +kernel
theorem dX8_text_83 : decode cX8_text 83 = .ok (.ifCond .le 11, 3) := by decide +kernel
theorem dX8_text_86 : decode cX8_text 86 = .ok (.bipush (-10), 2) := by decide +kernel
theorem dX8_text_88 : decode cX8_text 88 = .ok (.aload_n 0, 1) := by decide +kernel
theorem dX8_text_89 : decode cX8_text 89 = .ok (.getfield 66, 3) := by decide +kernel
theorem dX8_text_92 : decode cX8_text 92 = .ok (.isub, 1) := by decide +kernel
theorem dX8_text_93 : decode cX8_text 93 = .ok (.ireturn, 1) := by decide +kernel
theorem dX8_text_94 : decode cX8_text 94 = .ok (.iconst 0, 1) := by decide +kernel
theorem dX8_text_95 : decode cX8_text 95 = .ok (.istore_n 2, 1) := by decide +kernel
theorem dX8_text_96 : decode cX8_text 96 = .ok (.iload_n 2, 1) := by decide +kernel
theorem dX8_text_97 : decode cX8_text 97 = .ok (.bipush 40, 2) := by decide +kernel
theorem dX8_text_99 : decode cX8_text 99 = .ok (.if_icmp .ge 21, 3) := by decide +kernel
theorem dX8_text_102 : decode cX8_text 102 = .ok (.aload_n 0, 1) := by decide +kernel
theorem dX8_text_103 : decode cX8_text 103 = .ok (.getfield 7, 3) := by decide +kernel
theorem dX8_text_106 : decode cX8_text 106 = .ok (.iload_n 2, 1) := by decide +kernel
theorem dX8_text_107 : decode cX8_text 107 = .ok (.aload_n 0, 1) := by decide +kernel
theorem dX8_text_108 : decode cX8_text 108 = .ok (.getfield 13, 3) := by decide +kernel
theorem dX8_text_111 : decode cX8_text 111 = .ok (.iload_n 2, 1) := by decide +kernel
theorem dX8_text_112 : decode cX8_text 112 = .ok (.iaload, 1) := by decide +kernel
theorem dX8_text_113 : decode cX8_text 113 = .ok (.iastore, 1) := by decide +kernel
theorem dX8_text_114 : decode cX8_text 114 = .ok (.iinc 2 1, 3) := by decide +kernel
theorem dX8_text_117 : decode cX8_text 117 = .ok (.goto (-21), 3) := by decide +kernel
theorem dX8_text_120 : decode cX8_text 120 = .ok (.aload_n 0, 1) := by decide +kernel
theorem dX8_text_121 : decode cX8_text 121 = .ok (.iconst 0, 1) := by decide +kernel
theorem dX8_text_122 : decode cX8_text 122 = .ok (.putfield 119, 3) := by decide +kernel
theorem dX8_text_125 : decode cX8_text 125 = .ok (.aload_n 0, 1) := by decide +kernel
theorem dX8_text_126 : decode cX8_text 126 = .ok (.getfield 37, 3) := by decide +kernel
theorem dX8_text_129 : decode cX8_text 129 = .ok (.iconst 0, 1) := by decide +kernel
theorem dX8_text_130 : decode cX8_text 130 = .ok (.iconst 0, 1) := by decide +kernel
theorem dX8_text_131 : decode cX8_text 131 = .ok (.bastore, 1) := by decide +kernel
theorem dX8_text_132 : decode cX8_text 132 = .ok (.aload_n 0, 1) := by decide +kernel
theorem dX8_text_133 : decode cX8_text 133 = .ok (.getfield 37, 3) := by decide +kernel
theorem dX8_text_136 : decode cX8_text 136 = .ok (.iconst 1, 1) := by decide +kernel
theorem dX8_text_137 : decode cX8_text 137 = .ok (.iconst 0, 1) := by decide +kernel
theorem dX8_text_138 : decode cX8_text 138 = .ok (.bastore, 1) := by decide +kernel
theorem dX8_text_139 : decode cX8_text 139 = .ok (.iload_n 1, 1) := by decide +kernel
theorem dX8_text_140 : decode cX8_text 140 = .ok (.ireturn, 1) := by decide +kernel
theorem dX8_fault_0 : decode cX8_fault 0 = .ok (.aload_n 0, 1) := by decide +kernel
theorem dX8_fault_1 : decode cX8_fault 1 = .ok (.getfield 116, 3) := by decide +kernel
theorem dX8_fault_4 : decode cX8_fault 4 = .ok (.ireturn, 1) := by decide +kernel
theorem dX8_longOn_0 : decode cX8_longOn 0 = .ok (.aload_n 0, 1) := by decide +kernel
theorem dX8_longOn_1 : decode cX8_longOn 1 = .ok (.getfield 7, 3) := by decide +kernel
theorem dX8_longOn_4 : decode cX8_longOn 4 = .ok (.iload_n 1, 1) := by decide +kernel
theorem dX8_longOn_5 : decode cX8_longOn 5 = .ok (.bipush 13, 2) := by decide +kernel
theorem dX8_longOn_7 : decode cX8_longOn 7 = .ok (.iadd, 1) := by decide +kernel
theorem dX8_longOn_8 : decode cX8_longOn 8 = .ok (.iaload, 1) := by decide +kernel
theorem dX8_longOn_9 : decode cX8_longOn 9 = .ok (.bipush 12, 2) := by decide +kernel
theorem dX8_longOn_11 : decode cX8_longOn 11 = .ok (.iadd, 1) := by decide +kernel
theorem dX8_longOn_12 : decode cX8_longOn 12 = .ok (.ireturn, 1) := by decide +kernel
set_option maxRecDepth 20000 in
theorem ggX8_isPlace_X8_longOn : GoodIn wsX8_isPlace wsX8_longOn := goodIn_r _ [5, 6, 10, 11, 12, 13, 14, 15, 16, 17, 18, 19, 20, 21, 22, 23, 24, 25, 26, 27, 28, 29, 30, 31, 32, 33] (by decide +kernel) (by decide +kernel)
set_option maxRecDepth 20000 in
theorem gX8_isPlace_X8_longOn : GoodIn wsX8_isPlace (wsV RX8 122 RX8 yX8_longOn wsX8_longOn) := goodIn_app (goodIn_of _ (by decide +kernel)) ggX8_isPlace_X8_longOn
set_option maxRecDepth 20000 in
theorem ggX8_isPlace_X8_in : GoodIn wsX8_isPlace wsX8_in := goodIn_r _ [9] (by decide +kernel) (by decide +kernel)
set_option maxRecDepth 20000 in
theorem gX8_isPlace_X8_in : GoodIn wsX8_isPlace (va_wsS RX8 52 yX8_in wsX8_in) := goodIn_app (goodIn_of _ (by decide +kernel)) ggX8_isPlace_X8_in
theorem dX8_isPlace_0 : decode cX8_isPlace 0 = .ok (.iload_n 1, 1) := by decide +kernel
theorem dX8_isPlace_1 : decode cX8_isPlace 1 = .ok (.i2l, 1) := by decide +kernel
theorem dX8_isPlace_2 : decode cX8_isPlace 2 = .ok (.lconst 0, 1) := by decide +kernel
theorem dX8_isPlace_3 : decode cX8_isPlace 3 = .ok (.aload_n 0, 1) := by decide +kernel
theorem dX8_isPlace_4 : decode cX8_isPlace 4 = .ok (.iconst 0, 1) := by decide +kernel
theorem dX8_isPlace_5 : decode cX8_isPlace 5 = .ok (.invokevirtual 122, 3) := by decide +kernel
theorem dX8_isPlace_8 : decode cX8_isPlace 8 = .ok (.iconst 1, 1) := by decide +kernel
theorem dX8_isPlace_9 : decode cX8_isPlace 9 = .ok (.isub, 1) := by decide +kernel
theorem dX8_isPlace_10 : decode cX8_isPlace 10 = .ok (.i2l, 1) := by decide +kernel
theorem dX8_isPlace_11 : decode cX8_isPlace 11 = .ok (.invokestatic 52, 3) := by decide +kernel
theorem dX8_isPlace_14 : decode cX8_isPlace 14 = .ok (.ireturn, 1) := by decide +kernel
set_option maxRecDepth 20000 in
theorem ggX8_isBlock_X8_in : GoodIn wsX8_isBlock wsX8_in := goodIn_r _ [5] (by decide +kernel) (by decide +kernel)
set_option maxRecDepth 20000 in
theorem gX8_isBlock_X8_in : GoodIn wsX8_isBlock (va_wsS RX8 52 yX8_in wsX8_in) := goodIn_app (goodIn_of _ (by decide +kernel)) ggX8_isBlock_X8_in
theorem dX8_isBlock_0 : decode cX8_isBlock 0 = .ok (.iload_n 1, 1) := by decide +kernel
theorem dX8_isBlock_1 : decode cX8_isBlock 1 = .ok (.i2l, 1) := by decide +kernel
theorem dX8_isBlock_2 : decode cX8_isBlock 2 = .ok (.lconst 0, 1) := by decide +kernel
theorem dX8_isBlock_3 : decode cX8_isBlock 3 = .ok (.aload_n 0, 1) := by decide +kernel
theorem dX8_isBlock_4 : decode cX8_isBlock 4 = .ok (.getfield 7, 3) := by decide +kernel
theorem dX8_isBlock_7 : decode cX8_isBlock 7 = .ok (.bipush 12, 2) := by decide +kernel
theorem dX8_isBlock_9 : decode cX8_isBlock 9 = .ok (.iaload, 1) := by decide +kernel
theorem dX8_isBlock_10 : decode cX8_isBlock 10 = .ok (.iconst 1, 1) := by decide +kernel
theorem dX8_isBlock_11 : decode cX8_isBlock 11 = .ok (.isub, 1) := by decide +kernel
theorem dX8_isBlock_12 : decode cX8_isBlock 12 = .ok (.i2l, 1) := by decide +kernel
theorem dX8_isBlock_13 : decode cX8_isBlock 13 = .ok (.invokestatic 52, 3) := by decide +kernel
theorem dX8_isBlock_16 : decode cX8_isBlock 16 = .ok (.ireturn, 1) := by decide +kernel
set_option maxRecDepth 20000 in
theorem ggX8_isRoll_X8_in : GoodIn wsX8_isRoll wsX8_in := goodIn_r _ [5] (by decide +kernel) (by decide +kernel)
set_option maxRecDepth 20000 in
theorem gX8_isRoll_X8_in : GoodIn wsX8_isRoll (va_wsS RX8 52 yX8_in wsX8_in) := goodIn_app (goodIn_of _ (by decide +kernel)) ggX8_isRoll_X8_in
theorem dX8_isRoll_0 : decode cX8_isRoll 0 = .ok (.iload_n 1, 1) := by decide +kernel
theorem dX8_isRoll_1 : decode cX8_isRoll 1 = .ok (.i2l, 1) := by decide +kernel
theorem dX8_isRoll_2 : decode cX8_isRoll 2 = .ok (.lconst 0, 1) := by decide +kernel
theorem dX8_isRoll_3 : decode cX8_isRoll 3 = .ok (.aload_n 0, 1) := by decide +kernel
theorem dX8_isRoll_4 : decode cX8_isRoll 4 = .ok (.getfield 7, 3) := by decide +kernel
theorem dX8_isRoll_7 : decode cX8_isRoll 7 = .ok (.bipush 39, 2) := by decide +kernel
theorem dX8_isRoll_9 : decode cX8_isRoll 9 = .ok (.iaload, 1) := by decide +kernel
theorem dX8_isRoll_10 : decode cX8_isRoll 10 = .ok (.iconst 1, 1) := by decide +kernel
theorem dX8_isRoll_11 : decode cX8_isRoll 11 = .ok (.isub, 1) := by decide +kernel
theorem dX8_isRoll_12 : decode cX8_isRoll 12 = .ok (.i2l, 1) := by decide +kernel
theorem dX8_isRoll_13 : decode cX8_isRoll 13 = .ok (.invokestatic 52, 3) := by decide +kernel
theorem dX8_isRoll_16 : decode cX8_isRoll 16 = .ok (.ireturn, 1) := by decide +kernel
theorem dX8_whoOn_0 : decode cX8_whoOn 0 = .ok (.aload_n 0, 1) := by decide +kernel
theorem dX8_whoOn_1 : decode cX8_whoOn 1 = .ok (.getfield 7, 3) := by decide +kernel
theorem dX8_whoOn_4 : decode cX8_whoOn 4 = .ok (.iload_n 1, 1) := by decide +kernel
theorem dX8_whoOn_5 : decode cX8_whoOn 5 = .ok (.bipush 12, 2) := by decide +kernel
theorem dX8_whoOn_7 : decode cX8_whoOn 7 = .ok (.iadd, 1) := by decide +kernel
theorem dX8_whoOn_8 : decode cX8_whoOn 8 = .ok (.iaload, 1) := by decide +kernel
theorem dX8_whoOn_9 : decode cX8_whoOn 9 = .ok (.istore_n 3, 1) := by decide +kernel
theorem dX8_whoOn_10 : decode cX8_whoOn 10 = .ok (.iload_n 3, 1) := by decide +kernel
theorem dX8_whoOn_11 : decode cX8_whoOn 11 = .ok (.ifCond .ne 8, 3) := by decide +kernel
theorem dX8_whoOn_14 : decode cX8_whoOn 14 = .ok (.bipush (-4), 2) := by decide +kernel
theorem dX8_whoOn_16 : decode cX8_whoOn 16 = .ok (.goto 16, 3) := by decide +kernel
theorem dX8_whoOn_19 : decode cX8_whoOn 19 = .ok (.iload_n 2, 1) := by decide +kernel
theorem dX8_whoOn_20 : decode cX8_whoOn 20 = .ok (.aload_n 0, 1) := by decide +kernel
theorem dX8_whoOn_21 : decode cX8_whoOn 21 = .ok (.getfield 7, 3) := by decide +kernel
theorem dX8_whoOn_24 : decode cX8_whoOn 24 = .ok (.iload_n 1, 1) := by decide +kernel
theorem dX8_whoOn_25 : decode cX8_whoOn 25 = .ok (.bipush 14, 2) := by decide +kernel
theorem dX8_whoOn_27 : decode cX8_whoOn 27 = .ok (.iadd, 1) := by decide +kernel
theorem dX8_whoOn_28 : decode cX8_whoOn 28 = .ok (.iaload, 1) := by decide +kernel
theorem dX8_whoOn_29 : decode cX8_whoOn 29 = .ok (.iadd, 1) := by decide +kernel
theorem dX8_whoOn_30 : decode cX8_whoOn 30 = .ok (.iload_n 3, 1) := by decide +kernel
theorem dX8_whoOn_31 : decode cX8_whoOn 31 = .ok (.irem, 1) := by decide +kernel
theorem dX8_whoOn_32 : decode cX8_whoOn 32 = .ok (.ireturn, 1) := by decide +kernel
set_option maxRecDepth 20000 in
theorem ggX8_frankOn_X8_whoOn : GoodIn wsX8_frankOn wsX8_whoOn := goodIn_r _ [6, 1, 7, 8, 9, 10, 11, 12, 13, 14, 15, 16, 17, 18, 19, 20, 21, 22, 23, 24, 25, 26, 27, 28, 29, 30] (by decide +kernel) (by decide +kernel)
set_option maxRecDepth 20000 in
theorem gX8_frankOn_X8_whoOn : GoodIn wsX8_frankOn (wsV RX8 125 RX8 yX8_whoOn wsX8_whoOn) := goodIn_app (goodIn_of _ (by decide +kernel)) ggX8_frankOn_X8_whoOn
theorem dX8_frankOn_0 : decode cX8_frankOn 0 = .ok (.aload_n 0, 1) := by decide +kernel
theorem dX8_frankOn_1 : decode cX8_frankOn 1 = .ok (.iload_n 1, 1) := by decide +kernel
theorem dX8_frankOn_2 : decode cX8_frankOn 2 = .ok (.iload_n 2, 1) := by decide +kernel
theorem dX8_frankOn_3 : decode cX8_frankOn 3 = .ok (.invokevirtual 125, 3) := by decide +kernel
theorem dX8_frankOn_6 : decode cX8_frankOn 6 = .ok (.istore_n 3, 1) := by decide +kernel
theorem dX8_frankOn_7 : decode cX8_frankOn 7 = .ok (.iload_n 3, 1) := by decide +kernel
theorem dX8_frankOn_8 : decode cX8_frankOn 8 = .ok (.bipush (-4), 2) := by decide +kernel
theorem dX8_frankOn_10 : decode cX8_frankOn 10 = .ok (.if_icmp .eq 18, 3) := by decide +kernel
theorem dX8_frankOn_13 : decode cX8_frankOn 13 = .ok (.aload_n 0, 1) := by decide +kernel
theorem dX8_frankOn_14 : decode cX8_frankOn 14 = .ok (.getfield 7, 3) := by decide +kernel
theorem dX8_frankOn_17 : decode cX8_frankOn 17 = .ok (.iload_n 1, 1) := by decide +kernel
theorem dX8_frankOn_18 : decode cX8_frankOn 18 = .ok (.bipush 17, 2) := by decide +kernel
theorem dX8_frankOn_20 : decode cX8_frankOn 20 = .ok (.iadd, 1) := by decide +kernel
theorem dX8_frankOn_21 : decode cX8_frankOn 21 = .ok (.iaload, 1) := by decide +kernel
theorem dX8_frankOn_22 : decode cX8_frankOn 22 = .ok (.iload_n 2, 1) := by decide +kernel
theorem dX8_frankOn_23 : decode cX8_frankOn 23 = .ok (.iconst 1, 1) := by decide +kernel
theorem dX8_frankOn_24 : decode cX8_frankOn 24 = .ok (.iadd, 1) := by decide +kernel
theorem dX8_frankOn_25 : decode cX8_frankOn 25 = .ok (.if_icmp .ne 5, 3) := by decide +kernel
theorem dX8_frankOn_28 : decode cX8_frankOn 28 = .ok (.iconst 0, 1) := by decide +kernel
theorem dX8_frankOn_29 : decode cX8_frankOn 29 = .ok (.ireturn, 1) := by decide +kernel
theorem dX8_frankOn_30 : decode cX8_frankOn 30 = .ok (.aload_n 0, 1) := by decide +kernel
theorem dX8_frankOn_31 : decode cX8_frankOn 31 = .ok (.getfield 7, 3) := by decide +kernel
theorem dX8_frankOn_34 : decode cX8_frankOn 34 = .ok (.iload_n 1, 1) := by decide +kernel
theorem dX8_frankOn_35 : decode cX8_frankOn 35 = .ok (.iload_n 3, 1) := by decide +kernel
theorem dX8_frankOn_36 : decode cX8_frankOn 36 = .ok (.iadd, 1) := by decide +kernel
theorem dX8_frankOn_37 : decode cX8_frankOn 37 = .ok (.iaload, 1) := by decide +kernel
theorem dX8_frankOn_38 : decode cX8_frankOn 38 = .ok (.istore 4, 2) := by decide +kernel
theorem dX8_frankOn_40 : decode cX8_frankOn 40 = .ok (.aload_n 0, 1) := by decide +kernel
theorem dX8_frankOn_41 : decode cX8_frankOn 41 = .ok (.getfield 7, 3) := by decide +kernel
theorem dX8_frankOn_44 : decode cX8_frankOn 44 = .ok (.iload_n 1, 1) := by decide +kernel
theorem dX8_frankOn_45 : decode cX8_frankOn 45 = .ok (.bipush 6, 2) := by decide +kernel
theorem dX8_frankOn_47 : decode cX8_frankOn 47 = .ok (.iadd, 1) := by decide +kernel
theorem dX8_frankOn_48 : decode cX8_frankOn 48 = .ok (.iload_n 3, 1) := by decide +kernel
theorem dX8_frankOn_49 : decode cX8_frankOn 49 = .ok (.iadd, 1) := by decide +kernel
theorem dX8_frankOn_50 : decode cX8_frankOn 50 = .ok (.iaload, 1) := by decide +kernel
theorem dX8_frankOn_51 : decode cX8_frankOn 51 = .ok (.istore 5, 2) := by decide +kernel
theorem dX8_frankOn_53 : decode cX8_frankOn 53 = .ok (.iload_n 2, 1) := by decide +kernel
theorem dX8_frankOn_54 : decode cX8_frankOn 54 = .ok (.iconst 3, 1) := by decide +kernel
theorem dX8_frankOn_55 : decode cX8_frankOn 55 = .ok (.irem, 1) := by decide +kernel
theorem dX8_frankOn_56 : decode cX8_frankOn 56 = .ok (.iconst 2, 1) := by decide +kernel
theorem dX8_frankOn_57 : decode cX8_frankOn 57 = .ok (.if_icmp .ne 10, 3) := by decide +kernel
theorem dX8_frankOn_60 : decode cX8_frankOn 60 = .ok (.iload 5, 2) := by decide +kernel
theorem dX8_frankOn_62 : decode cX8_frankOn 62 = .ok (.iconst 3, 1) := by decide +kernel
theorem dX8_frankOn_63 : decode cX8_frankOn 63 = .ok (.iadd, 1) := by decide +kernel
theorem dX8_frankOn_64 : decode cX8_frankOn 64 = .ok (.goto 5, 3) := by decide +kernel
theorem dX8_frankOn_67 : decode cX8_frankOn 67 = .ok (.iload 5, 2) := by decide +kernel
theorem dX8_frankOn_69 : decode cX8_frankOn 69 = .ok (.istore 6, 2) := by decide +kernel
theorem dX8_frankOn_71 : decode cX8_frankOn 71 = .ok (.iload 4, 2) := by decide +kernel
theorem dX8_frankOn_73 : decode cX8_frankOn 73 = .ok (.ifCond .ne 8, 3) := by decide +kernel
theorem dX8_frankOn_76 : decode cX8_frankOn 76 = .ok (.iload 5, 2) := by decide +kernel
theorem dX8_frankOn_78 : decode cX8_frankOn 78 = .ok (.goto 31, 3) := by decide +kernel
theorem dX8_frankOn_81 : decode cX8_frankOn 81 = .ok (.iload 4, 2) := by decide +kernel
theorem dX8_frankOn_83 : decode cX8_frankOn 83 = .ok (.iconst 1, 1) := by decide +kernel
theorem dX8_frankOn_84 : decode cX8_frankOn 84 = .ok (.if_icmp .ne 8, 3) := by decide +kernel
theorem dX8_frankOn_87 : decode cX8_frankOn 87 = .ok (.iload 6, 2) := by decide +kernel
theorem dX8_frankOn_89 : decode cX8_frankOn 89 = .ok (.goto 20, 3) := by decide +kernel
theorem dX8_frankOn_92 : decode cX8_frankOn 92 = .ok (.iload 4, 2) := by decide +kernel
theorem dX8_frankOn_94 : decode cX8_frankOn 94 = .ok (.iconst 2, 1) := by decide +kernel
theorem dX8_frankOn_95 : decode cX8_frankOn 95 = .ok (.if_icmp .ne 10, 3) := by decide +kernel
theorem dX8_frankOn_98 : decode cX8_frankOn 98 = .ok (.iconst 2, 1) := by decide +kernel
theorem dX8_frankOn_99 : decode cX8_frankOn 99 = .ok (.iload 6, 2) := by decide +kernel
theorem dX8_frankOn_101 : decode cX8_frankOn 101 = .ok (.imul, 1) := by decide +kernel
theorem dX8_frankOn_102 : decode cX8_frankOn 102 = .ok (.goto 7, 3) := by decide +kernel
theorem dX8_frankOn_105 : decode cX8_frankOn 105 = .ok (.iload 5, 2) := by decide +kernel
theorem dX8_frankOn_107 : decode cX8_frankOn 107 = .ok (.iconst 2, 1) := by decide +kernel
theorem dX8_frankOn_108 : decode cX8_frankOn 108 = .ok (.idiv, 1) := by decide +kernel
theorem dX8_frankOn_109 : decode cX8_frankOn 109 = .ok (.istore 7, 2) := by decide +kernel
theorem dX8_frankOn_111 : decode cX8_frankOn 111 = .ok (.iload 7, 2) := by decide +kernel
theorem dX8_frankOn_113 : decode cX8_frankOn 113 = .ok (.aload_n 0, 1) := by decide +kernel
theorem dX8_frankOn_114 : decode cX8_frankOn 114 = .ok (.getfield 7, 3) := by decide +kernel
theorem dX8_frankOn_117 : decode cX8_frankOn 117 = .ok (.iload_n 1, 1) := by decide +kernel
theorem dX8_frankOn_118 : decode cX8_frankOn 118 = .ok (.bipush 19, 2) := by decide +kernel
theorem dX8_frankOn_120 : decode cX8_frankOn 120 = .ok (.iadd, 1) := by decide +kernel
theorem dX8_frankOn_121 : decode cX8_frankOn 121 = .ok (.iload_n 2, 1) := by decide +kernel
theorem dX8_frankOn_122 : decode cX8_frankOn 122 = .ok (.iadd, 1) := by decide +kernel
theorem dX8_frankOn_123 : decode cX8_frankOn 123 = .ok (.iaload, 1) := by decide +kernel
theorem dX8_frankOn_124 : decode cX8_frankOn 124 = .ok (.if_icmp .le 20, 3) := by decide +kernel
theorem dX8_frankOn_127 : decode cX8_frankOn 127 = .ok (.iload 7, 2) := by decide +kernel
theorem dX8_frankOn_129 : decode cX8_frankOn 129 = .ok (.aload_n 0, 1) := by decide +kernel
theorem dX8_frankOn_130 : decode cX8_frankOn 130 = .ok (.getfield 7, 3) := by decide +kernel
theorem dX8_frankOn_133 : decode cX8_frankOn 133 = .ok (.iload_n 1, 1) := by decide +kernel
theorem dX8_frankOn_134 : decode cX8_frankOn 134 = .ok (.bipush 19, 2) := by decide +kernel
theorem dX8_frankOn_136 : decode cX8_frankOn 136 = .ok (.iadd, 1) := by decide +kernel
theorem dX8_frankOn_137 : decode cX8_frankOn 137 = .ok (.iload_n 2, 1) := by decide +kernel
theorem dX8_frankOn_138 : decode cX8_frankOn 138 = .ok (.iadd, 1) := by decide +kernel
theorem dX8_frankOn_139 : decode cX8_frankOn 139 = .ok (.iaload, 1) := by decide +kernel
theorem dX8_frankOn_140 : decode cX8_frankOn 140 = .ok (.isub, 1) := by decide +kernel
theorem dX8_frankOn_141 : decode cX8_frankOn 141 = .ok (.goto 4, 3) := by decide +kernel
theorem dX8_frankOn_144 : decode cX8_frankOn 144 = .ok (.iconst 0, 1) := by decide +kernel
theorem dX8_frankOn_145 : decode cX8_frankOn 145 = .ok (.ireturn, 1) := by decide +kernel
set_option maxRecDepth 20000 in
theorem ggX8_frankOfAll_X8_longOn : GoodIn wsX8_frankOfAll wsX8_longOn := goodIn_r _ [5, 6, 15, 16, 17, 18, 19, 20, 21, 22, 23, 24, 25, 26, 27, 28, 29, 30, 31, 32, 33, 34, 35, 36, 37, 38] (by decide +kernel) (by decide +kernel)
set_option maxRecDepth 20000 in
theorem gX8_frankOfAll_X8_longOn : GoodIn wsX8_frankOfAll (wsV RX8 122 RX8 yX8_longOn wsX8_longOn) := goodIn_app (goodIn_of _ (by decide +kernel)) ggX8_frankOfAll_X8_longOn
set_option maxRecDepth 20000 in
theorem ggX8_frankOfAll_X8_frankOn : GoodIn wsX8_frankOfAll wsX8_frankOn := goodIn_r _ [10, 6, 11, 12, 13, 4, 14, 15, 16, 17, 18, 19, 20, 21, 22, 23, 24, 25, 26, 27, 28, 29, 30, 31, 32, 33, 34, 35, 36, 37, 38] (by decide +kernel) (by decide +kernel)
set_option maxRecDepth 20000 in
theorem gX8_frankOfAll_X8_frankOn : GoodIn wsX8_frankOfAll (wsV RX8 128 RX8 yX8_frankOn wsX8_frankOn) := goodIn_app (goodIn_of _ (by decide +kernel)) ggX8_frankOfAll_X8_frankOn
theorem dX8_frankOfAll_0 : decode cX8_frankOfAll 0 = .ok (.iconst 0, 1) := by decide +kernel
theorem dX8_frankOfAll_1 : decode cX8_frankOfAll 1 = .ok (.istore_n 2, 1) := by decide +kernel
theorem dX8_frankOfAll_2 : decode cX8_frankOfAll 2 = .ok (.iconst 0, 1) := by decide +kernel
theorem dX8_frankOfAll_3 : decode cX8_frankOfAll 3 = .ok (.istore_n 3, 1) := by decide +kernel
theorem dX8_frankOfAll_4 : decode cX8_frankOfAll 4 = .ok (.iload_n 3, 1) := by decide +kernel
theorem dX8_frankOfAll_5 : decode cX8_frankOfAll 5 = .ok (.aload_n 0, 1) := by decide +kernel
theorem dX8_frankOfAll_6 : decode cX8_frankOfAll 6 = .ok (.iload_n 1, 1) := by decide +kernel
theorem dX8_frankOfAll_7 : decode cX8_frankOfAll 7 = .ok (.invokevirtual 122, 3) := by decide +kernel
theorem dX8_frankOfAll_10 : decode cX8_frankOfAll 10 = .ok (.if_icmp .ge 18, 3) := by decide +kernel
theorem dX8_frankOfAll_13 : decode cX8_frankOfAll 13 = .ok (.iload_n 2, 1) := by decide +kernel
theorem dX8_frankOfAll_14 : decode cX8_frankOfAll 14 = .ok (.aload_n 0, 1) := by decide +kernel
theorem dX8_frankOfAll_15 : decode cX8_frankOfAll 15 = .ok (.iload_n 1, 1) := by decide +kernel
theorem dX8_frankOfAll_16 : decode cX8_frankOfAll 16 = .ok (.iload_n 3, 1) := by decide +kernel
theorem dX8_frankOfAll_17 : decode cX8_frankOfAll 17 = .ok (.invokevirtual 128, 3) := by decide +kernel
theorem dX8_frankOfAll_20 : decode cX8_frankOfAll 20 = .ok (.iadd, 1) := by decide +kernel
theorem dX8_frankOfAll_21 : decode cX8_frankOfAll 21 = .ok (.istore_n 2, 1) := by decide +kernel
theorem dX8_frankOfAll_22 : decode cX8_frankOfAll 22 = .ok (.iinc 3 1, 3) := by decide +kernel
theorem dX8_frankOfAll_25 : decode cX8_frankOfAll 25 = .ok (.goto (-21), 3) := by decide +kernel
theorem dX8_frankOfAll_28 : decode cX8_frankOfAll 28 = .ok (.iload_n 2, 1) := by decide +kernel
theorem dX8_frankOfAll_29 : decode cX8_frankOfAll 29 = .ok (.ireturn, 1) := by decide +kernel
set_option maxRecDepth 20000 in
theorem ggX8_yearOn_X8_longOn : GoodIn wsX8_yearOn wsX8_longOn := goodIn_r _ [6, 1, 7, 8, 9, 10, 11, 12, 13, 14, 15, 16, 17, 18, 19, 20, 21, 22, 23, 24, 25, 26, 27, 28, 29, 30] (by decide +kernel) (by decide +kernel)
set_option maxRecDepth 20000 in
theorem gX8_yearOn_X8_longOn : GoodIn wsX8_yearOn (wsV RX8 122 RX8 yX8_longOn wsX8_longOn) := goodIn_app (goodIn_of _ (by decide +kernel)) ggX8_yearOn_X8_longOn
theorem dX8_yearOn_0 : decode cX8_yearOn 0 = .ok (.iconst 0, 1) := by decide +kernel
theorem dX8_yearOn_1 : decode cX8_yearOn 1 = .ok (.istore_n 2, 1) := by decide +kernel
theorem dX8_yearOn_2 : decode cX8_yearOn 2 = .ok (.iload_n 2, 1) := by decide +kernel
theorem dX8_yearOn_3 : decode cX8_yearOn 3 = .ok (.aload_n 0, 1) := by decide +kernel
theorem dX8_yearOn_4 : decode cX8_yearOn 4 = .ok (.iload_n 1, 1) := by decide +kernel
theorem dX8_yearOn_5 : decode cX8_yearOn 5 = .ok (.invokevirtual 122, 3) := by decide +kernel
theorem dX8_yearOn_8 : decode cX8_yearOn 8 = .ok (.if_icmp .ge 82, 3) := by decide +kernel
theorem dX8_yearOn_11 : decode cX8_yearOn 11 = .ok (.iload_n 2, 1) := by decide +kernel
theorem dX8_yearOn_12 : decode cX8_yearOn 12 = .ok (.aload_n 0, 1) := by decide +kernel
theorem dX8_yearOn_13 : decode cX8_yearOn 13 = .ok (.getfield 7, 3) := by decide +kernel
theorem dX8_yearOn_16 : decode cX8_yearOn 16 = .ok (.iload_n 1, 1) := by decide +kernel
theorem dX8_yearOn_17 : decode cX8_yearOn 17 = .ok (.bipush 15, 2) := by decide +kernel
theorem dX8_yearOn_19 : decode cX8_yearOn 19 = .ok (.iadd, 1) := by decide +kernel
theorem dX8_yearOn_20 : decode cX8_yearOn 20 = .ok (.iaload, 1) := by decide +kernel
theorem dX8_yearOn_21 : decode cX8_yearOn 21 = .ok (.isub, 1) := by decide +kernel
theorem dX8_yearOn_22 : decode cX8_yearOn 22 = .ok (.istore_n 3, 1) := by decide +kernel
theorem dX8_yearOn_23 : decode cX8_yearOn 23 = .ok (.iload_n 3, 1) := by decide +kernel
theorem dX8_yearOn_24 : decode cX8_yearOn 24 = .ok (.ifCond .ge 8, 3) := by decide +kernel
theorem dX8_yearOn_27 : decode cX8_yearOn 27 = .ok (.iload_n 3, 1) := by decide +kernel
theorem dX8_yearOn_28 : decode cX8_yearOn 28 = .ok (.ineg, 1) := by decide +kernel
theorem dX8_yearOn_29 : decode cX8_yearOn 29 = .ok (.goto 4, 3) := by decide +kernel
theorem dX8_yearOn_32 : decode cX8_yearOn 32 = .ok (.iload_n 3, 1) := by decide +kernel
theorem dX8_yearOn_33 : decode cX8_yearOn 33 = .ok (.istore_n 3, 1) := by decide +kernel
theorem dX8_yearOn_34 : decode cX8_yearOn 34 = .ok (.aload_n 0, 1) := by decide +kernel
theorem dX8_yearOn_35 : decode cX8_yearOn 35 = .ok (.getfield 7, 3) := by decide +kernel
theorem dX8_yearOn_38 : decode cX8_yearOn 38 = .ok (.iload_n 1, 1) := by decide +kernel
theorem dX8_yearOn_39 : decode cX8_yearOn 39 = .ok (.bipush 19, 2) := by decide +kernel
theorem dX8_yearOn_41 : decode cX8_yearOn 41 = .ok (.iadd, 1) := by decide +kernel
theorem dX8_yearOn_42 : decode cX8_yearOn 42 = .ok (.iload_n 2, 1) := by decide +kernel
theorem dX8_yearOn_43 : decode cX8_yearOn 43 = .ok (.iadd, 1) := by decide +kernel
theorem dX8_yearOn_44 : decode cX8_yearOn 44 = .ok (.dup2, 1) := by decide +kernel
theorem dX8_yearOn_45 : decode cX8_yearOn 45 = .ok (.iaload, 1) := by decide +kernel
theorem dX8_yearOn_46 : decode cX8_yearOn 46 = .ok (.iload_n 3, 1) := by decide +kernel
theorem dX8_yearOn_47 : decode cX8_yearOn 47 = .ok (.aload_n 0, 1) := by decide +kernel
theorem dX8_yearOn_48 : decode cX8_yearOn 48 = .ok (.getfield 7, 3) := by decide +kernel
theorem dX8_yearOn_51 : decode cX8_yearOn 51 = .ok (.iload_n 1, 1) := by decide +kernel
theorem dX8_yearOn_52 : decode cX8_yearOn 52 = .ok (.bipush 16, 2) := by decide +kernel
theorem dX8_yearOn_54 : decode cX8_yearOn 54 = .ok (.iadd, 1) := by decide +kernel
theorem dX8_yearOn_55 : decode cX8_yearOn 55 = .ok (.iaload, 1) := by decide +kernel
theorem dX8_yearOn_56 : decode cX8_yearOn 56 = .ok (.iconst 2, 1) := by decide +kernel
theorem dX8_yearOn_57 : decode cX8_yearOn 57 = .ok (.iadd, 1) := by decide +kernel
theorem dX8_yearOn_58 : decode cX8_yearOn 58 = .ok (.if_icmp .gt 23, 3) := by decide +kernel
theorem dX8_yearOn_61 : decode cX8_yearOn 61 = .ok (.aload_n 0, 1) := by decide +kernel
theorem dX8_yearOn_62 : decode cX8_yearOn 62 = .ok (.getfield 7, 3) := by decide +kernel
theorem dX8_yearOn_65 : decode cX8_yearOn 65 = .ok (.iload_n 1, 1) := by decide +kernel
theorem dX8_yearOn_66 : decode cX8_yearOn 66 = .ok (.bipush 19, 2) := by decide +kernel
theorem dX8_yearOn_68 : decode cX8_yearOn 68 = .ok (.iadd, 1) := by decide +kernel
theorem dX8_yearOn_69 : decode cX8_yearOn 69 = .ok (.iload_n 2, 1) := by decide +kernel
theorem dX8_yearOn_70 : decode cX8_yearOn 70 = .ok (.iadd, 1) := by decide +kernel
theorem dX8_yearOn_71 : decode cX8_yearOn 71 = .ok (.iaload, 1) := by decide +kernel
theorem dX8_yearOn_72 : decode cX8_yearOn 72 = .ok (.bipush 99, 2) := by decide +kernel
theorem dX8_yearOn_74 : decode cX8_yearOn 74 = .ok (.if_icmp .ge 7, 3) := by decide +kernel
theorem dX8_yearOn_77 : decode cX8_yearOn 77 = .ok (.iconst 1, 1) := by decide +kernel
theorem dX8_yearOn_78 : decode cX8_yearOn 78 = .ok (.goto 4, 3) := by decide +kernel
theorem dX8_yearOn_81 : decode cX8_yearOn 81 = .ok (.iconst 0, 1) := by decide +kernel
theorem dX8_yearOn_82 : decode cX8_yearOn 82 = .ok (.iadd, 1) := by decide +kernel
theorem dX8_yearOn_83 : decode cX8_yearOn 83 = .ok (.iastore, 1) := by decide +kernel
theorem dX8_yearOn_84 : decode cX8_yearOn 84 = .ok (.iinc 2 1, 3) := by decide +kernel
theorem dX8_yearOn_87 : decode cX8_yearOn 87 = .ok (.goto (-85), 3) := by decide +kernel
theorem dX8_yearOn_90 : decode cX8_yearOn 90 = .ok (.aload_n 0, 1) := by decide +kernel
theorem dX8_yearOn_91 : decode cX8_yearOn 91 = .ok (.getfield 7, 3) := by decide +kernel
theorem dX8_yearOn_94 : decode cX8_yearOn 94 = .ok (.iload_n 1, 1) := by decide +kernel
theorem dX8_yearOn_95 : decode cX8_yearOn 95 = .ok (.bipush 18, 2) := by decide +kernel
theorem dX8_yearOn_97 : decode cX8_yearOn 97 = .ok (.iadd, 1) := by decide +kernel
theorem dX8_yearOn_98 : decode cX8_yearOn 98 = .ok (.dup2, 1) := by decide +kernel
theorem dX8_yearOn_99 : decode cX8_yearOn 99 = .ok (.iaload, 1) := by decide +kernel
theorem dX8_yearOn_100 : decode cX8_yearOn 100 = .ok (.iconst 1, 1) := by decide +kernel
theorem dX8_yearOn_101 : decode cX8_yearOn 101 = .ok (.iadd, 1) := by decide +kernel
theorem dX8_yearOn_102 : decode cX8_yearOn 102 = .ok (.iastore, 1) := by decide +kernel
theorem dX8_yearOn_103 : decode cX8_yearOn 103 = .ok (.return_, 1) := by decide +kernel
set_option maxRecDepth 20000 in
theorem ggX8_rule_X8_longOn : GoodIn wsX8_rule wsX8_longOn := goodIn_r _ [6, 1, 19, 20, 21, 22, 23, 24, 25, 26, 27, 28, 29, 30, 31, 32, 33, 34, 35, 36, 37, 38, 39, 40, 41, 42] (by decide +kernel) (by decide +kernel)
set_option maxRecDepth 20000 in
theorem gX8_rule_X8_longOn : GoodIn wsX8_rule (wsV RX8 122 RX8 yX8_longOn wsX8_longOn) := goodIn_app (goodIn_of _ (by decide +kernel)) ggX8_rule_X8_longOn
set_option maxRecDepth 20000 in
theorem ggX8_rule_X8_frankOfAll : GoodIn wsX8_rule wsX8_frankOfAll := goodIn_r _ [10, 2, 3, 4, 5, 6, 1, 11, 12, 13, 14, 15, 16, 17, 18, 19, 20, 21, 22, 23, 24, 25, 26, 27, 28, 29, 30, 31, 32, 33, 34, 35, 36, 37, 38, 39, 40, 41, 42] (by decide +kernel) (by decide +kernel)
set_option maxRecDepth 20000 in
theorem gX8_rule_X8_frankOfAll : GoodIn wsX8_rule (wsV RX8 131 RX8 yX8_frankOfAll wsX8_frankOfAll) := goodIn_app (goodIn_of _ (by decide +kernel)) ggX8_rule_X8_frankOfAll
theorem dX8_rule_0 : decode cX8_rule 0 = .ok (.iload_n 1, 1) := by decide +kernel
theorem dX8_rule_1 : decode cX8_rule 1 = .ok (.tableswitch 138 0 8 #[51, 59, 65, 73, 81, 91, 116, 124, 130], 51) := by decide +kernel
theorem dX8_rule_52 : decode cX8_rule 52 = .ok (.aload_n 0, 1) := by decide +kernel
theorem dX8_rule_53 : decode cX8_rule 53 = .ok (.getfield 7, 3) := by decide +kernel
theorem dX8_rule_56 : decode cX8_rule 56 = .ok (.bipush 12, 2) := by decide +kernel
theorem dX8_rule_58 : decode cX8_rule 58 = .ok (.iaload, 1) := by decide +kernel
theorem dX8_rule_59 : decode cX8_rule 59 = .ok (.ireturn, 1) := by decide +kernel
theorem dX8_rule_60 : decode cX8_rule 60 = .ok (.aload_n 0, 1) := by decide +kernel
theorem dX8_rule_61 : decode cX8_rule 61 = .ok (.iconst 0, 1) := by decide +kernel
theorem dX8_rule_62 : decode cX8_rule 62 = .ok (.invokevirtual 122, 3) := by decide +kernel
theorem dX8_rule_65 : decode cX8_rule 65 = .ok (.ireturn, 1) := by decide +kernel
theorem dX8_rule_66 : decode cX8_rule 66 = .ok (.aload_n 0, 1) := by decide +kernel
theorem dX8_rule_67 : decode cX8_rule 67 = .ok (.getfield 7, 3) := by decide +kernel
theorem dX8_rule_70 : decode cX8_rule 70 = .ok (.bipush 14, 2) := by decide +kernel
theorem dX8_rule_72 : decode cX8_rule 72 = .ok (.iaload, 1) := by decide +kernel
theorem dX8_rule_73 : decode cX8_rule 73 = .ok (.ireturn, 1) := by decide +kernel
theorem dX8_rule_74 : decode cX8_rule 74 = .ok (.aload_n 0, 1) := by decide +kernel
theorem dX8_rule_75 : decode cX8_rule 75 = .ok (.getfield 7, 3) := by decide +kernel
theorem dX8_rule_78 : decode cX8_rule 78 = .ok (.bipush 15, 2) := by decide +kernel
theorem dX8_rule_80 : decode cX8_rule 80 = .ok (.iaload, 1) := by decide +kernel
theorem dX8_rule_81 : decode cX8_rule 81 = .ok (.ireturn, 1) := by decide +kernel
theorem dX8_rule_82 : decode cX8_rule 82 = .ok (.aload_n 0, 1) := by decide +kernel
theorem dX8_rule_83 : decode cX8_rule 83 = .ok (.getfield 7, 3) := by decide +kernel
theorem dX8_rule_86 : decode cX8_rule 86 = .ok (.bipush 16, 2) := by decide +kernel
theorem dX8_rule_88 : decode cX8_rule 88 = .ok (.iaload, 1) := by decide +kernel
theorem dX8_rule_89 : decode cX8_rule 89 = .ok (.iconst 2, 1) := by decide +kernel
theorem dX8_rule_90 : decode cX8_rule 90 = .ok (.iadd, 1) := by decide +kernel
theorem dX8_rule_91 : decode cX8_rule 91 = .ok (.ireturn, 1) := by decide +kernel
theorem dX8_rule_92 : decode cX8_rule 92 = .ok (.aload_n 0, 1) := by decide +kernel
theorem dX8_rule_93 : decode cX8_rule 93 = .ok (.getfield 7, 3) := by decide +kernel
theorem dX8_rule_96 : decode cX8_rule 96 = .ok (.bipush 17, 2) := by decide +kernel
theorem dX8_rule_98 : decode cX8_rule 98 = .ok (.iaload, 1) := by decide +kernel
theorem dX8_rule_99 : decode cX8_rule 99 = .ok (.ifCond .ne 8, 3) := by decide +kernel
theorem dX8_rule_102 : decode cX8_rule 102 = .ok (.bipush (-4), 2) := by decide +kernel
theorem dX8_rule_104 : decode cX8_rule 104 = .ok (.goto 12, 3) := by decide +kernel
theorem dX8_rule_107 : decode cX8_rule 107 = .ok (.aload_n 0, 1) := by decide +kernel
theorem dX8_rule_108 : decode cX8_rule 108 = .ok (.getfield 7, 3) := by decide +kernel
theorem dX8_rule_111 : decode cX8_rule 111 = .ok (.bipush 17, 2) := by decide +kernel
theorem dX8_rule_113 : decode cX8_rule 113 = .ok (.iaload, 1) := by decide +kernel
theorem dX8_rule_114 : decode cX8_rule 114 = .ok (.iconst 1, 1) := by decide +kernel
theorem dX8_rule_115 : decode cX8_rule 115 = .ok (.isub, 1) := by decide +kernel
theorem dX8_rule_116 : decode cX8_rule 116 = .ok (.ireturn, 1) := by decide +kernel
theorem dX8_rule_117 : decode cX8_rule 117 = .ok (.aload_n 0, 1) := by decide +kernel
theorem dX8_rule_118 : decode cX8_rule 118 = .ok (.getfield 7, 3) := by decide +kernel
theorem dX8_rule_121 : decode cX8_rule 121 = .ok (.bipush 18, 2) := by decide +kernel
theorem dX8_rule_123 : decode cX8_rule 123 = .ok (.iaload, 1) := by decide +kernel
theorem dX8_rule_124 : decode cX8_rule 124 = .ok (.ireturn, 1) := by decide +kernel
theorem dX8_rule_125 : decode cX8_rule 125 = .ok (.aload_n 0, 1) := by decide +kernel
theorem dX8_rule_126 : decode cX8_rule 126 = .ok (.iconst 0, 1) := by decide +kernel
theorem dX8_rule_127 : decode cX8_rule 127 = .ok (.invokevirtual 131, 3) := by decide +kernel
theorem dX8_rule_130 : decode cX8_rule 130 = .ok (.ireturn, 1) := by decide +kernel
theorem dX8_rule_131 : decode cX8_rule 131 = .ok (.aload_n 0, 1) := by decide +kernel
theorem dX8_rule_132 : decode cX8_rule 132 = .ok (.getfield 7, 3) := by decide +kernel
theorem dX8_rule_135 : decode cX8_rule 135 = .ok (.bipush 39, 2) := by decide +kernel
theorem dX8_rule_137 : decode cX8_rule 137 = .ok (.iaload, 1) := by decide +kernel
theorem dX8_rule_138 : decode cX8_rule 138 = .ok (.ireturn, 1) := by decide +kernel
theorem dX8_rule_139 : decode cX8_rule 139 = .ok (.iconst (-1), 1) := by decide +kernel
theorem dX8_rule_140 : decode cX8_rule 140 = .ok (.ireturn, 1) := by decide +kernel
set_option maxRecDepth 20000 in
theorem ggX8_block_X8_isBlock : GoodIn wsX8_block wsX8_isBlock := goodIn_r _ [7, 2, 8, 9, 6, 10, 23, 24, 25, 26, 27, 28, 29, 30, 31, 32, 33, 34, 35, 36, 37, 38, 39, 40, 41, 42, 43, 44, 45, 46] (by decide +kernel) (by decide +kernel)
set_option maxRecDepth 20000 in
theorem gX8_block_X8_isBlock : GoodIn wsX8_block (wsV RX8 134 RX8 yX8_isBlock wsX8_isBlock) := goodIn_app (goodIn_of _ (by decide +kernel)) ggX8_block_X8_isBlock
set_option maxRecDepth 20000 in
theorem ggX8_block_X8_in : GoodIn wsX8_block wsX8_in := goodIn_r _ [10] (by decide +kernel) (by decide +kernel)
set_option maxRecDepth 20000 in
theorem gX8_block_X8_in : GoodIn wsX8_block (va_wsS RX8 52 yX8_in wsX8_in) := goodIn_app (goodIn_of _ (by decide +kernel)) ggX8_block_X8_in
set_option maxRecDepth 20000 in
theorem ggX8_block_X8_longOn : GoodIn wsX8_block wsX8_longOn := goodIn_r _ [14, 2, 23, 24, 25, 26, 27, 28, 29, 30, 31, 32, 33, 34, 35, 36, 37, 38, 39, 40, 41, 42, 43, 44, 45, 46] (by decide +kernel) (by decide +kernel)
set_option maxRecDepth 20000 in
theorem gX8_block_X8_longOn : GoodIn wsX8_block (wsV RX8 122 RX8 yX8_longOn wsX8_longOn) := goodIn_app (goodIn_of _ (by decide +kernel)) ggX8_block_X8_longOn
set_option maxRecDepth 20000 in
theorem ggX8_block_X8_whoOn : GoodIn wsX8_block wsX8_whoOn := goodIn_r _ [18, 2, 23, 24, 25, 26, 27, 28, 29, 30, 31, 32, 33, 34, 35, 36, 37, 38, 39, 40, 41, 42, 43, 44, 45, 46] (by decide +kernel) (by decide +kernel)
set_option maxRecDepth 20000 in
theorem gX8_block_X8_whoOn : GoodIn wsX8_block (wsV RX8 125 RX8 yX8_whoOn wsX8_whoOn) := goodIn_app (goodIn_of _ (by decide +kernel)) ggX8_block_X8_whoOn
set_option maxRecDepth 20000 in
theorem ggX8_block_X8_frankOn : GoodIn wsX8_block wsX8_frankOn := goodIn_r _ [22, 2, 15, 16, 17, 6, 18, 23, 24, 25, 26, 27, 28, 29, 30, 31, 32, 33, 34, 35, 36, 37, 38, 39, 40, 41, 42, 43, 44, 45, 46] (by decide +kernel) (by decide +kernel)
set_option maxRecDepth 20000 in
theorem gX8_block_X8_frankOn : GoodIn wsX8_block (wsV RX8 128 RX8 yX8_frankOn wsX8_frankOn) := goodIn_app (goodIn_of _ (by decide +kernel)) ggX8_block_X8_frankOn
theorem dX8_block_0 : decode cX8_block 0 = .ok (.aload_n 0, 1) := by decide +kernel
theorem dX8_block_1 : decode cX8_block 1 = .ok (.iload_n 1, 1) := by decide +kernel
theorem dX8_block_2 : decode cX8_block 2 = .ok (.invokevirtual 134, 3) := by decide +kernel
theorem dX8_block_5 : decode cX8_block 5 = .ok (.ifCond .eq 15, 3) := by decide +kernel
theorem dX8_block_8 : decode cX8_block 8 = .ok (.iload_n 2, 1) := by decide +kernel
theorem dX8_block_9 : decode cX8_block 9 = .ok (.i2l, 1) := by decide +kernel
theorem dX8_block_10 : decode cX8_block 10 = .ok (.lconst 0, 1) := by decide +kernel
theorem dX8_block_11 : decode cX8_block 11 = .ok (.ldc2_w 138, 3) := by decide +kernel
theorem dX8_block_14 : decode cX8_block 14 = .ok (.invokestatic 52, 3) := by decide +kernel
theorem dX8_block_17 : decode cX8_block 17 = .ok (.ifCond .ne 5, 3) := by decide +kernel
theorem dX8_block_20 : decode cX8_block 20 = .ok (.iconst (-1), 1) := by decide +kernel
theorem dX8_block_21 : decode cX8_block 21 = .ok (.ireturn, 1) := by decide +kernel
theorem dX8_block_22 : decode cX8_block 22 = .ok (.iconst 0, 1) := by decide +kernel
theorem dX8_block_23 : decode cX8_block 23 = .ok (.istore_n 3, 1) := by decide +kernel
theorem dX8_block_24 : decode cX8_block 24 = .ok (.iconst 0, 1) := by decide +kernel
theorem dX8_block_25 : decode cX8_block 25 = .ok (.istore 4, 2) := by decide +kernel
theorem dX8_block_27 : decode cX8_block 27 = .ok (.iconst 0, 1) := by decide +kernel
theorem dX8_block_28 : decode cX8_block 28 = .ok (.istore 5, 2) := by decide +kernel
theorem dX8_block_30 : decode cX8_block 30 = .ok (.iload 5, 2) := by decide +kernel
theorem dX8_block_32 : decode cX8_block 32 = .ok (.aload_n 0, 1) := by decide +kernel
theorem dX8_block_33 : decode cX8_block 33 = .ok (.iconst 0, 1) := by decide +kernel
theorem dX8_block_34 : decode cX8_block 34 = .ok (.invokevirtual 122, 3) := by decide +kernel
theorem dX8_block_37 : decode cX8_block 37 = .ok (.if_icmp .ge 58, 3) := by decide +kernel
theorem dX8_block_40 : decode cX8_block 40 = .ok (.iload_n 3, 1) := by decide +kernel
theorem dX8_block_41 : decode cX8_block 41 = .ok (.aload_n 0, 1) := by decide +kernel
theorem dX8_block_42 : decode cX8_block 42 = .ok (.iconst 0, 1) := by decide +kernel
theorem dX8_block_43 : decode cX8_block 43 = .ok (.iload 5, 2) := by decide +kernel
theorem dX8_block_45 : decode cX8_block 45 = .ok (.invokevirtual 125, 3) := by decide +kernel
theorem dX8_block_48 : decode cX8_block 48 = .ok (.iload_n 1, 1) := by decide +kernel
theorem dX8_block_49 : decode cX8_block 49 = .ok (.if_icmp .ne 10, 3) := by decide +kernel
theorem dX8_block_52 : decode cX8_block 52 = .ok (.iconst 1, 1) := by decide +kernel
theorem dX8_block_53 : decode cX8_block 53 = .ok (.iload 5, 2) := by decide +kernel
theorem dX8_block_55 : decode cX8_block 55 = .ok (.ishl, 1) := by decide +kernel
theorem dX8_block_56 : decode cX8_block 56 = .ok (.goto 4, 3) := by decide +kernel
theorem dX8_block_59 : decode cX8_block 59 = .ok (.iconst 0, 1) := by decide +kernel
theorem dX8_block_60 : decode cX8_block 60 = .ok (.ior, 1) := by decide +kernel
theorem dX8_block_61 : decode cX8_block 61 = .ok (.istore_n 3, 1) := by decide +kernel
theorem dX8_block_62 : decode cX8_block 62 = .ok (.iload 4, 2) := by decide +kernel
theorem dX8_block_64 : decode cX8_block 64 = .ok (.aload_n 0, 1) := by decide +kernel
theorem dX8_block_65 : decode cX8_block 65 = .ok (.iconst 0, 1) := by decide +kernel
theorem dX8_block_66 : decode cX8_block 66 = .ok (.iload 5, 2) := by decide +kernel
theorem dX8_block_68 : decode cX8_block 68 = .ok (.invokevirtual 125, 3) := by decide +kernel
theorem dX8_block_71 : decode cX8_block 71 = .ok (.iload_n 1, 1) := by decide +kernel
theorem dX8_block_72 : decode cX8_block 72 = .ok (.if_icmp .ne 13, 3) := by decide +kernel
theorem dX8_block_75 : decode cX8_block 75 = .ok (.aload_n 0, 1) := by decide +kernel
theorem dX8_block_76 : decode cX8_block 76 = .ok (.iconst 0, 1) := by decide +kernel
theorem dX8_block_77 : decode cX8_block 77 = .ok (.iload 5, 2) := by decide +kernel
theorem dX8_block_79 : decode cX8_block 79 = .ok (.invokevirtual 128, 3) := by decide +kernel
theorem dX8_block_82 : decode cX8_block 82 = .ok (.goto 4, 3) := by decide +kernel
theorem dX8_block_85 : decode cX8_block 85 = .ok (.iconst 0, 1) := by decide +kernel
theorem dX8_block_86 : decode cX8_block 86 = .ok (.iadd, 1) := by decide +kernel
theorem dX8_block_87 : decode cX8_block 87 = .ok (.istore 4, 2) := by decide +kernel
theorem dX8_block_89 : decode cX8_block 89 = .ok (.iinc 5 1, 3) := by decide +kernel
theorem dX8_block_92 : decode cX8_block 92 = .ok (.goto (-62), 3) := by decide +kernel
theorem dX8_block_95 : decode cX8_block 95 = .ok (.iload_n 2, 1) := by decide +kernel
theorem dX8_block_96 : decode cX8_block 96 = .ok (.iconst 2, 1) := by decide +kernel
theorem dX8_block_97 : decode cX8_block 97 = .ok (.if_icmp .ge 17, 3) := by decide +kernel
theorem dX8_block_100 : decode cX8_block 100 = .ok (.aload_n 0, 1) := by decide +kernel
theorem dX8_block_101 : decode cX8_block 101 = .ok (.getfield 7, 3) := by decide +kernel
theorem dX8_block_104 : decode cX8_block 104 = .ok (.bipush 6, 2) := by decide +kernel
theorem dX8_block_106 : decode cX8_block 106 = .ok (.iload_n 2, 1) := by decide +kernel
theorem dX8_block_107 : decode cX8_block 107 = .ok (.imul, 1) := by decide +kernel
theorem dX8_block_108 : decode cX8_block 108 = .ok (.iload_n 1, 1) := by decide +kernel
theorem dX8_block_109 : decode cX8_block 109 = .ok (.iadd, 1) := by decide +kernel
theorem dX8_block_110 : decode cX8_block 110 = .ok (.iaload, 1) := by decide +kernel
theorem dX8_block_111 : decode cX8_block 111 = .ok (.goto 14, 3) := by decide +kernel
theorem dX8_block_114 : decode cX8_block 114 = .ok (.iload_n 2, 1) := by decide +kernel
theorem dX8_block_115 : decode cX8_block 115 = .ok (.iconst 2, 1) := by decide +kernel
theorem dX8_block_116 : decode cX8_block 116 = .ok (.if_icmp .ne 7, 3) := by decide +kernel
theorem dX8_block_119 : decode cX8_block 119 = .ok (.iload_n 3, 1) := by decide +kernel
theorem dX8_block_120 : decode cX8_block 120 = .ok (.goto 5, 3) := by decide +kernel
theorem dX8_block_123 : decode cX8_block 123 = .ok (.iload 4, 2) := by decide +kernel
theorem dX8_block_125 : decode cX8_block 125 = .ok (.ireturn, 1) := by decide +kernel
set_option maxRecDepth 20000 in
theorem ggX8_place_X8_isPlace : GoodIn wsX8_place wsX8_isPlace := goodIn_r _ [7, 8, 9, 10, 6, 11, 2, 12, 13, 14, 23, 24, 25, 26, 27, 28, 29, 30, 31, 32, 33, 34, 35, 36, 37, 38, 39, 40, 41, 42, 43, 44, 45, 46] (by decide +kernel) (by decide +kernel)
set_option maxRecDepth 20000 in
theorem gX8_place_X8_isPlace : GoodIn wsX8_place (wsV RX8 140 RX8 yX8_isPlace wsX8_isPlace) := goodIn_app (goodIn_of _ (by decide +kernel)) ggX8_place_X8_isPlace
set_option maxRecDepth 20000 in
theorem ggX8_place_X8_in : GoodIn wsX8_place wsX8_in := goodIn_r _ [14] (by decide +kernel) (by decide +kernel)
set_option maxRecDepth 20000 in
theorem gX8_place_X8_in : GoodIn wsX8_place (va_wsS RX8 52 yX8_in wsX8_in) := goodIn_app (goodIn_of _ (by decide +kernel)) ggX8_place_X8_in
set_option maxRecDepth 20000 in
theorem ggX8_place_X8_whoOn : GoodIn wsX8_place wsX8_whoOn := goodIn_r _ [18, 2, 23, 24, 25, 26, 27, 28, 29, 30, 31, 32, 33, 34, 35, 36, 37, 38, 39, 40, 41, 42, 43, 44, 45, 46] (by decide +kernel) (by decide +kernel)
set_option maxRecDepth 20000 in
theorem gX8_place_X8_whoOn : GoodIn wsX8_place (wsV RX8 125 RX8 yX8_whoOn wsX8_whoOn) := goodIn_app (goodIn_of _ (by decide +kernel)) ggX8_place_X8_whoOn
set_option maxRecDepth 20000 in
theorem ggX8_place_X8_frankOn : GoodIn wsX8_place wsX8_frankOn := goodIn_r _ [22, 2, 15, 16, 17, 6, 18, 23, 24, 25, 26, 27, 28, 29, 30, 31, 32, 33, 34, 35, 36, 37, 38, 39, 40, 41, 42, 43, 44, 45, 46] (by decide +kernel) (by decide +kernel)
set_option maxRecDepth 20000 in
theorem gX8_place_X8_frankOn : GoodIn wsX8_place (wsV RX8 128 RX8 yX8_frankOn wsX8_frankOn) := goodIn_app (goodIn_of _ (by decide +kernel)) ggX8_place_X8_frankOn
theorem dX8_place_0 : decode cX8_place 0 = .ok (.aload_n 0, 1) := by decide +kernel
theorem dX8_place_1 : decode cX8_place 1 = .ok (.iload_n 1, 1) := by decide +kernel
theorem dX8_place_2 : decode cX8_place 2 = .ok (.invokevirtual 140, 3) := by decide +kernel
theorem dX8_place_5 : decode cX8_place 5 = .ok (.ifCond .eq 15, 3) := by decide +kernel
theorem dX8_place_8 : decode cX8_place 8 = .ok (.iload_n 2, 1) := by decide +kernel
theorem dX8_place_9 : decode cX8_place 9 = .ok (.i2l, 1) := by decide +kernel
theorem dX8_place_10 : decode cX8_place 10 = .ok (.lconst 0, 1) := by decide +kernel
theorem dX8_place_11 : decode cX8_place 11 = .ok (.ldc2_w 143, 3) := by decide +kernel
theorem dX8_place_14 : decode cX8_place 14 = .ok (.invokestatic 52, 3) := by decide +kernel
theorem dX8_place_17 : decode cX8_place 17 = .ok (.ifCond .ne 5, 3) := by decide +kernel
theorem dX8_place_20 : decode cX8_place 20 = .ok (.iconst (-1), 1) := by decide +kernel
theorem dX8_place_21 : decode cX8_place 21 = .ok (.ireturn, 1) := by decide +kernel
theorem dX8_place_22 : decode cX8_place 22 = .ok (.iload_n 2, 1) := by decide +kernel
theorem dX8_place_23 : decode cX8_place 23 = .ok (.ifCond .ne 12, 3) := by decide +kernel
theorem dX8_place_26 : decode cX8_place 26 = .ok (.aload_n 0, 1) := by decide +kernel
theorem dX8_place_27 : decode cX8_place 27 = .ok (.iconst 0, 1) := by decide +kernel
theorem dX8_place_28 : decode cX8_place 28 = .ok (.iload_n 1, 1) := by decide +kernel
theorem dX8_place_29 : decode cX8_place 29 = .ok (.invokevirtual 125, 3) := by decide +kernel
theorem dX8_place_32 : decode cX8_place 32 = .ok (.goto 26, 3) := by decide +kernel
theorem dX8_place_35 : decode cX8_place 35 = .ok (.iload_n 2, 1) := by decide +kernel
theorem dX8_place_36 : decode cX8_place 36 = .ok (.iconst 1, 1) := by decide +kernel
theorem dX8_place_37 : decode cX8_place 37 = .ok (.if_icmp .ne 15, 3) := by decide +kernel
theorem dX8_place_40 : decode cX8_place 40 = .ok (.aload_n 0, 1) := by decide +kernel
theorem dX8_place_41 : decode cX8_place 41 = .ok (.getfield 7, 3) := by decide +kernel
theorem dX8_place_44 : decode cX8_place 44 = .ok (.bipush 19, 2) := by decide +kernel
theorem dX8_place_46 : decode cX8_place 46 = .ok (.iload_n 1, 1) := by decide +kernel
theorem dX8_place_47 : decode cX8_place 47 = .ok (.iadd, 1) := by decide +kernel
theorem dX8_place_48 : decode cX8_place 48 = .ok (.iaload, 1) := by decide +kernel
theorem dX8_place_49 : decode cX8_place 49 = .ok (.goto 9, 3) := by decide +kernel
theorem dX8_place_52 : decode cX8_place 52 = .ok (.aload_n 0, 1) := by decide +kernel
theorem dX8_place_53 : decode cX8_place 53 = .ok (.iconst 0, 1) := by decide +kernel
theorem dX8_place_54 : decode cX8_place 54 = .ok (.iload_n 1, 1) := by decide +kernel
theorem dX8_place_55 : decode cX8_place 55 = .ok (.invokevirtual 128, 3) := by decide +kernel
theorem dX8_place_58 : decode cX8_place 58 = .ok (.ireturn, 1) := by decide +kernel
set_option maxRecDepth 20000 in
theorem ggX8_roll_X8_isRoll : GoodIn wsX8_roll wsX8_isRoll := goodIn_r _ [6, 1, 7, 8, 5, 9, 10, 11, 12, 13, 14, 15, 16, 17, 18, 19, 20, 21, 22, 23, 24, 25, 26, 27, 28, 29, 30, 31, 32, 33] (by decide +kernel) (by decide +kernel)
set_option maxRecDepth 20000 in
theorem gX8_roll_X8_isRoll : GoodIn wsX8_roll (wsV RX8 145 RX8 yX8_isRoll wsX8_isRoll) := goodIn_app (goodIn_of _ (by decide +kernel)) ggX8_roll_X8_isRoll
set_option maxRecDepth 20000 in
theorem ggX8_roll_X8_in : GoodIn wsX8_roll wsX8_in := goodIn_r _ [9] (by decide +kernel) (by decide +kernel)
set_option maxRecDepth 20000 in
theorem gX8_roll_X8_in : GoodIn wsX8_roll (va_wsS RX8 52 yX8_in wsX8_in) := goodIn_app (goodIn_of _ (by decide +kernel)) ggX8_roll_X8_in
theorem dX8_roll_0 : decode cX8_roll 0 = .ok (.aload_n 0, 1) := by decide +kernel
theorem dX8_roll_1 : decode cX8_roll 1 = .ok (.iload_n 1, 1) := by decide +kernel
theorem dX8_roll_2 : decode cX8_roll 2 = .ok (.invokevirtual 145, 3) := by decide +kernel
theorem dX8_roll_5 : decode cX8_roll 5 = .ok (.ifCond .eq 29, 3) := by decide +kernel
theorem dX8_roll_8 : decode cX8_roll 8 = .ok (.iload_n 2, 1) := by decide +kernel
theorem dX8_roll_9 : decode cX8_roll 9 = .ok (.i2l, 1) := by decide +kernel
theorem dX8_roll_10 : decode cX8_roll 10 = .ok (.lconst 0, 1) := by decide +kernel
theorem dX8_roll_11 : decode cX8_roll 11 = .ok (.lconst 1, 1) := by decide +kernel
theorem dX8_roll_12 : decode cX8_roll 12 = .ok (.invokestatic 52, 3) := by decide +kernel
theorem dX8_roll_15 : decode cX8_roll 15 = .ok (.ifCond .eq 19, 3) := by decide +kernel
theorem dX8_roll_18 : decode cX8_roll 18 = .ok (.aload_n 0, 1) := by decide +kernel
theorem dX8_roll_19 : decode cX8_roll 19 = .ok (.getfield 7, 3) := by decide +kernel
theorem dX8_roll_22 : decode cX8_roll 22 = .ok (.bipush 31, 2) := by decide +kernel
theorem dX8_roll_24 : decode cX8_roll 24 = .ok (.iconst 4, 1) := by decide +kernel
theorem dX8_roll_25 : decode cX8_roll 25 = .ok (.iload_n 2, 1) := by decide +kernel
theorem dX8_roll_26 : decode cX8_roll 26 = .ok (.imul, 1) := by decide +kernel
theorem dX8_roll_27 : decode cX8_roll 27 = .ok (.iadd, 1) := by decide +kernel
theorem dX8_roll_28 : decode cX8_roll 28 = .ok (.iload_n 1, 1) := by decide +kernel
theorem dX8_roll_29 : decode cX8_roll 29 = .ok (.iadd, 1) := by decide +kernel
theorem dX8_roll_30 : decode cX8_roll 30 = .ok (.iaload, 1) := by decide +kernel
theorem dX8_roll_31 : decode cX8_roll 31 = .ok (.goto 4, 3) := by decide +kernel
theorem dX8_roll_34 : decode cX8_roll 34 = .ok (.iconst (-1), 1) := by decide +kernel
theorem dX8_roll_35 : decode cX8_roll 35 = .ok (.ireturn, 1) := by decide +kernel
theorem dX8_puts_0 : decode cX8_puts 0 = .ok (.iload_n 1, 1) := by decide +kernel
theorem dX8_puts_1 : decode cX8_puts 1 = .ok (.ifCond .ne 5, 3) := by decide +kernel
theorem dX8_puts_4 : decode cX8_puts 4 = .ok (.iconst (-1), 1) := by decide +kernel
theorem dX8_puts_5 : decode cX8_puts 5 = .ok (.ireturn, 1) := by decide +kernel
theorem dX8_puts_6 : decode cX8_puts 6 = .ok (.aload_n 0, 1) := by decide +kernel
theorem dX8_puts_7 : decode cX8_puts 7 = .ok (.getfield 7, 3) := by decide +kernel
theorem dX8_puts_10 : decode cX8_puts 10 = .ok (.iload_n 2, 1) := by decide +kernel
theorem dX8_puts_11 : decode cX8_puts 11 = .ok (.iaload, 1) := by decide +kernel
theorem dX8_puts_12 : decode cX8_puts 12 = .ok (.iload 4, 2) := by decide +kernel
theorem dX8_puts_14 : decode cX8_puts 14 = .ok (.iadd, 1) := by decide +kernel
theorem dX8_puts_15 : decode cX8_puts 15 = .ok (.istore 5, 2) := by decide +kernel
theorem dX8_puts_17 : decode cX8_puts 17 = .ok (.aload_n 0, 1) := by decide +kernel
theorem dX8_puts_18 : decode cX8_puts 18 = .ok (.getfield 7, 3) := by decide +kernel
theorem dX8_puts_21 : decode cX8_puts 21 = .ok (.iload_n 2, 1) := by decide +kernel
theorem dX8_puts_22 : decode cX8_puts 22 = .ok (.iload_n 3, 1) := by decide +kernel
theorem dX8_puts_23 : decode cX8_puts 23 = .ok (.iload 4, 2) := by decide +kernel
theorem dX8_puts_25 : decode cX8_puts 25 = .ok (.isub, 1) := by decide +kernel
theorem dX8_puts_26 : decode cX8_puts 26 = .ok (.iastore, 1) := by decide +kernel
theorem dX8_puts_27 : decode cX8_puts 27 = .ok (.iload 5, 2) := by decide +kernel
theorem dX8_puts_29 : decode cX8_puts 29 = .ok (.ireturn, 1) := by decide +kernel
set_option maxRecDepth 20000 in
theorem ggX8_alter_X8_in : GoodIn wsX8_alter wsX8_in := goodIn_r _ [6] (by decide +kernel) (by decide +kernel)
set_option maxRecDepth 20000 in
theorem gX8_alter_X8_in : GoodIn wsX8_alter (va_wsS RX8 52 yX8_in wsX8_in) := goodIn_app (goodIn_of _ (by decide +kernel)) ggX8_alter_X8_in
set_option maxRecDepth 20000 in
theorem ggX8_alter_X8_isBlock : GoodIn wsX8_alter wsX8_isBlock := goodIn_r _ [10, 11, 3, 4, 5, 6, 16, 17, 18, 19, 20, 21, 22, 23, 24, 25, 26, 27, 28, 29, 30, 31, 32, 33, 34, 35, 36, 37, 38, 39] (by decide +kernel) (by decide +kernel)
set_option maxRecDepth 20000 in
theorem gX8_alter_X8_isBlock : GoodIn wsX8_alter (wsV RX8 134 RX8 yX8_isBlock wsX8_isBlock) := goodIn_app (goodIn_of _ (by decide +kernel)) ggX8_alter_X8_isBlock
set_option maxRecDepth 20000 in
theorem ggX8_alter_X8_puts : GoodIn wsX8_alter wsX8_puts := goodIn_r _ [15, 11, 16, 17, 18, 19, 20, 21, 22, 23, 24, 25, 26, 27, 28, 29, 30, 31, 32, 33, 34, 35, 36, 37, 38, 39] (by decide +kernel) (by decide +kernel)
set_option maxRecDepth 20000 in
theorem gX8_alter_X8_puts : GoodIn wsX8_alter (wsV RX8 150 RX8 yX8_puts wsX8_puts) := goodIn_app (goodIn_of _ (by decide +kernel)) ggX8_alter_X8_puts
theorem dX8_alter_0 : decode cX8_alter 0 = .ok (.iload_n 2, 1) := by decide +kernel
theorem dX8_alter_1 : decode cX8_alter 1 = .ok (.ifCond .ne 15, 3) := by decide +kernel
theorem dX8_alter_4 : decode cX8_alter 4 = .ok (.iload_n 3, 1) := by decide +kernel
theorem dX8_alter_5 : decode cX8_alter 5 = .ok (.i2l, 1) := by decide +kernel
theorem dX8_alter_6 : decode cX8_alter 6 = .ok (.lconst 0, 1) := by decide +kernel
theorem dX8_alter_7 : decode cX8_alter 7 = .ok (.ldc2_w 138, 3) := by decide +kernel
theorem dX8_alter_10 : decode cX8_alter 10 = .ok (.invokestatic 52, 3) := by decide +kernel
theorem dX8_alter_13 : decode cX8_alter 13 = .ok (.goto 25, 3) := by decide +kernel
theorem dX8_alter_16 : decode cX8_alter 16 = .ok (.iload_n 2, 1) := by decide +kernel
theorem dX8_alter_17 : decode cX8_alter 17 = .ok (.iconst 1, 1) := by decide +kernel
theorem dX8_alter_18 : decode cX8_alter 18 = .ok (.if_icmp .ne 19, 3) := by decide +kernel
theorem dX8_alter_21 : decode cX8_alter 21 = .ok (.iload_n 3, 1) := by decide +kernel
theorem dX8_alter_22 : decode cX8_alter 22 = .ok (.i2l, 1) := by decide +kernel
theorem dX8_alter_23 : decode cX8_alter 23 = .ok (.lconst 0, 1) := by decide +kernel
theorem dX8_alter_24 : decode cX8_alter 24 = .ok (.ldc2_w 148, 3) := by decide +kernel
theorem dX8_alter_27 : decode cX8_alter 27 = .ok (.invokestatic 52, 3) := by decide +kernel
theorem dX8_alter_30 : decode cX8_alter 30 = .ok (.ifCond .eq 7, 3) := by decide +kernel
theorem dX8_alter_33 : decode cX8_alter 33 = .ok (.iconst 1, 1) := by decide +kernel
theorem dX8_alter_34 : decode cX8_alter 34 = .ok (.goto 4, 3) := by decide +kernel
theorem dX8_alter_37 : decode cX8_alter 37 = .ok (.iconst 0, 1) := by decide +kernel
theorem dX8_alter_38 : decode cX8_alter 38 = .ok (.istore 4, 2) := by decide +kernel
theorem dX8_alter_40 : decode cX8_alter 40 = .ok (.aload_n 0, 1) := by decide +kernel
theorem dX8_alter_41 : decode cX8_alter 41 = .ok (.aload_n 0, 1) := by decide +kernel
theorem dX8_alter_42 : decode cX8_alter 42 = .ok (.iload_n 1, 1) := by decide +kernel
theorem dX8_alter_43 : decode cX8_alter 43 = .ok (.invokevirtual 134, 3) := by decide +kernel
theorem dX8_alter_46 : decode cX8_alter 46 = .ok (.ifCond .eq 12, 3) := by decide +kernel
theorem dX8_alter_49 : decode cX8_alter 49 = .ok (.iload 4, 2) := by decide +kernel
theorem dX8_alter_51 : decode cX8_alter 51 = .ok (.ifCond .eq 7, 3) := by decide +kernel
theorem dX8_alter_54 : decode cX8_alter 54 = .ok (.iconst 1, 1) := by decide +kernel
theorem dX8_alter_55 : decode cX8_alter 55 = .ok (.goto 4, 3) := by decide +kernel
theorem dX8_alter_58 : decode cX8_alter 58 = .ok (.iconst 0, 1) := by decide +kernel
theorem dX8_alter_59 : decode cX8_alter 59 = .ok (.bipush 6, 2) := by decide +kernel
theorem dX8_alter_61 : decode cX8_alter 61 = .ok (.iload_n 2, 1) := by decide +kernel
theorem dX8_alter_62 : decode cX8_alter 62 = .ok (.imul, 1) := by decide +kernel
theorem dX8_alter_63 : decode cX8_alter 63 = .ok (.iload_n 1, 1) := by decide +kernel
theorem dX8_alter_64 : decode cX8_alter 64 = .ok (.iadd, 1) := by decide +kernel
theorem dX8_alter_65 : decode cX8_alter 65 = .ok (.iload_n 3, 1) := by decide +kernel
theorem dX8_alter_66 : decode cX8_alter 66 = .ok (.iconst 0, 1) := by decide +kernel
theorem dX8_alter_67 : decode cX8_alter 67 = .ok (.invokevirtual 150, 3) := by decide +kernel
theorem dX8_alter_70 : decode cX8_alter 70 = .ok (.ireturn, 1) := by decide +kernel
set_option maxRecDepth 20000 in
theorem ggX8_set_X8_in : GoodIn wsX8_set wsX8_in := goodIn_r _ [9] (by decide +kernel) (by decide +kernel)
set_option maxRecDepth 20000 in
theorem gX8_set_X8_in : GoodIn wsX8_set (va_wsS RX8 52 yX8_in wsX8_in) := goodIn_app (goodIn_of _ (by decide +kernel)) ggX8_set_X8_in
set_option maxRecDepth 20000 in
theorem ggX8_set_X8_puts : GoodIn wsX8_set wsX8_puts := goodIn_r _ [13, 14, 15, 16, 17, 18, 19, 20, 21, 22, 23, 24, 25, 26, 27, 28, 29, 30, 31, 32, 33, 34, 35, 36, 37, 38] (by decide +kernel) (by decide +kernel)
set_option maxRecDepth 20000 in
theorem gX8_set_X8_puts : GoodIn wsX8_set (wsV RX8 150 RX8 yX8_puts wsX8_puts) := goodIn_app (goodIn_of _ (by decide +kernel)) ggX8_set_X8_puts
theorem dX8_set_0 : decode cX8_set 0 = .ok (.iload_n 1, 1) := by decide +kernel
theorem dX8_set_1 : decode cX8_set 1 = .ok (.ifCond .ne 15, 3) := by decide +kernel
theorem dX8_set_4 : decode cX8_set 4 = .ok (.iload_n 2, 1) := by decide +kernel
theorem dX8_set_5 : decode cX8_set 5 = .ok (.i2l, 1) := by decide +kernel
theorem dX8_set_6 : decode cX8_set 6 = .ok (.lconst 1, 1) := by decide +kernel
theorem dX8_set_7 : decode cX8_set 7 = .ok (.ldc2_w 154, 3) := by decide +kernel
theorem dX8_set_10 : decode cX8_set 10 = .ok (.invokestatic 52, 3) := by decide +kernel
theorem dX8_set_13 : decode cX8_set 13 = .ok (.goto 51, 3) := by decide +kernel
theorem dX8_set_16 : decode cX8_set 16 = .ok (.iload_n 1, 1) := by decide +kernel
theorem dX8_set_17 : decode cX8_set 17 = .ok (.iconst 1, 1) := by decide +kernel
theorem dX8_set_18 : decode cX8_set 18 = .ok (.if_icmp .ne 15, 3) := by decide +kernel
theorem dX8_set_21 : decode cX8_set 21 = .ok (.iload_n 2, 1) := by decide +kernel
theorem dX8_set_22 : decode cX8_set 22 = .ok (.i2l, 1) := by decide +kernel
theorem dX8_set_23 : decode cX8_set 23 = .ok (.lconst 0, 1) := by decide +kernel
theorem dX8_set_24 : decode cX8_set 24 = .ok (.ldc2_w 156, 3) := by decide +kernel
theorem dX8_set_27 : decode cX8_set 27 = .ok (.invokestatic 52, 3) := by decide +kernel
theorem dX8_set_30 : decode cX8_set 30 = .ok (.goto 34, 3) := by decide +kernel
theorem dX8_set_33 : decode cX8_set 33 = .ok (.iload_n 1, 1) := by decide +kernel
theorem dX8_set_34 : decode cX8_set 34 = .ok (.i2l, 1) := by decide +kernel
theorem dX8_set_35 : decode cX8_set 35 = .ok (.ldc2_w 143, 3) := by decide +kernel
theorem dX8_set_38 : decode cX8_set 38 = .ok (.ldc2_w 138, 3) := by decide +kernel
theorem dX8_set_41 : decode cX8_set 41 = .ok (.invokestatic 52, 3) := by decide +kernel
theorem dX8_set_44 : decode cX8_set 44 = .ok (.ifCond .eq 19, 3) := by decide +kernel
theorem dX8_set_47 : decode cX8_set 47 = .ok (.iload_n 2, 1) := by decide +kernel
theorem dX8_set_48 : decode cX8_set 48 = .ok (.i2l, 1) := by decide +kernel
theorem dX8_set_49 : decode cX8_set 49 = .ok (.lconst 0, 1) := by decide +kernel
theorem dX8_set_50 : decode cX8_set 50 = .ok (.ldc2_w 158, 3) := by decide +kernel
theorem dX8_set_53 : decode cX8_set 53 = .ok (.invokestatic 52, 3) := by decide +kernel
theorem dX8_set_56 : decode cX8_set 56 = .ok (.ifCond .eq 7, 3) := by decide +kernel
theorem dX8_set_59 : decode cX8_set 59 = .ok (.iconst 1, 1) := by decide +kernel
theorem dX8_set_60 : decode cX8_set 60 = .ok (.goto 4, 3) := by decide +kernel
theorem dX8_set_63 : decode cX8_set 63 = .ok (.iconst 0, 1) := by decide +kernel
theorem dX8_set_64 : decode cX8_set 64 = .ok (.istore_n 3, 1) := by decide +kernel
theorem dX8_set_65 : decode cX8_set 65 = .ok (.aload_n 0, 1) := by decide +kernel
theorem dX8_set_66 : decode cX8_set 66 = .ok (.iload_n 3, 1) := by decide +kernel
theorem dX8_set_67 : decode cX8_set 67 = .ok (.bipush 13, 2) := by decide +kernel
theorem dX8_set_69 : decode cX8_set 69 = .ok (.iload_n 1, 1) := by decide +kernel
theorem dX8_set_70 : decode cX8_set 70 = .ok (.iadd, 1) := by decide +kernel
theorem dX8_set_71 : decode cX8_set 71 = .ok (.iload_n 2, 1) := by decide +kernel
theorem dX8_set_72 : decode cX8_set 72 = .ok (.iload_n 1, 1) := by decide +kernel
theorem dX8_set_73 : decode cX8_set 73 = .ok (.ifCond .ne 8, 3) := by decide +kernel
theorem dX8_set_76 : decode cX8_set 76 = .ok (.bipush 12, 2) := by decide +kernel
theorem dX8_set_78 : decode cX8_set 78 = .ok (.goto 13, 3) := by decide +kernel
theorem dX8_set_81 : decode cX8_set 81 = .ok (.iload_n 1, 1) := by decide +kernel
theorem dX8_set_82 : decode cX8_set 82 = .ok (.iconst 3, 1) := by decide +kernel
theorem dX8_set_83 : decode cX8_set 83 = .ok (.if_icmp .ne 7, 3) := by decide +kernel
theorem dX8_set_86 : decode cX8_set 86 = .ok (.iconst 2, 1) := by decide +kernel
theorem dX8_set_87 : decode cX8_set 87 = .ok (.goto 4, 3) := by decide +kernel
theorem dX8_set_90 : decode cX8_set 90 = .ok (.iconst 0, 1) := by decide +kernel
theorem dX8_set_91 : decode cX8_set 91 = .ok (.invokevirtual 150, 3) := by decide +kernel
theorem dX8_set_94 : decode cX8_set 94 = .ok (.ireturn, 1) := by decide +kernel
set_option maxRecDepth 20000 in
theorem ggX8_turn_X8_in : GoodIn wsX8_turn wsX8_in := goodIn_r _ [6] (by decide +kernel) (by decide +kernel)
set_option maxRecDepth 20000 in
theorem gX8_turn_X8_in : GoodIn wsX8_turn (va_wsS RX8 52 yX8_in wsX8_in) := goodIn_app (goodIn_of _ (by decide +kernel)) ggX8_turn_X8_in
theorem dX8_turn_0 : decode cX8_turn 0 = .ok (.iload_n 1, 1) := by decide +kernel
theorem dX8_turn_1 : decode cX8_turn 1 = .ok (.i2l, 1) := by decide +kernel
theorem dX8_turn_2 : decode cX8_turn 2 = .ok (.lconst 0, 1) := by decide +kernel
theorem dX8_turn_3 : decode cX8_turn 3 = .ok (.ldc2_w 158, 3) := by decide +kernel
theorem dX8_turn_6 : decode cX8_turn 6 = .ok (.invokestatic 52, 3) := by decide +kernel
theorem dX8_turn_9 : decode cX8_turn 9 = .ok (.ifCond .ne 11, 3) := by decide +kernel
theorem dX8_turn_12 : decode cX8_turn 12 = .ok (.iload_n 1, 1) := by decide +kernel
theorem dX8_turn_13 : decode cX8_turn 13 = .ok (.bipush 99, 2) := by decide +kernel
theorem dX8_turn_15 : decode cX8_turn 15 = .ok (.if_icmp .eq 5, 3) := by decide +kernel
theorem dX8_turn_18 : decode cX8_turn 18 = .ok (.iconst (-1), 1) := by decide +kernel
theorem dX8_turn_19 : decode cX8_turn 19 = .ok (.ireturn, 1) := by decide +kernel
theorem dX8_turn_20 : decode cX8_turn 20 = .ok (.aload_n 0, 1) := by decide +kernel
theorem dX8_turn_21 : decode cX8_turn 21 = .ok (.getfield 7, 3) := by decide +kernel
theorem dX8_turn_24 : decode cX8_turn 24 = .ok (.bipush 17, 2) := by decide +kernel
theorem dX8_turn_26 : decode cX8_turn 26 = .ok (.iaload, 1) := by decide +kernel
theorem dX8_turn_27 : decode cX8_turn 27 = .ok (.ifCond .ne 8, 3) := by decide +kernel
theorem dX8_turn_30 : decode cX8_turn 30 = .ok (.bipush (-4), 2) := by decide +kernel
theorem dX8_turn_32 : decode cX8_turn 32 = .ok (.goto 12, 3) := by decide +kernel
theorem dX8_turn_35 : decode cX8_turn 35 = .ok (.aload_n 0, 1) := by decide +kernel
theorem dX8_turn_36 : decode cX8_turn 36 = .ok (.getfield 7, 3) := by decide +kernel
theorem dX8_turn_39 : decode cX8_turn 39 = .ok (.bipush 17, 2) := by decide +kernel
theorem dX8_turn_41 : decode cX8_turn 41 = .ok (.iaload, 1) := by decide +kernel
theorem dX8_turn_42 : decode cX8_turn 42 = .ok (.iconst 1, 1) := by decide +kernel
theorem dX8_turn_43 : decode cX8_turn 43 = .ok (.isub, 1) := by decide +kernel
theorem dX8_turn_44 : decode cX8_turn 44 = .ok (.istore_n 2, 1) := by decide +kernel
theorem dX8_turn_45 : decode cX8_turn 45 = .ok (.aload_n 0, 1) := by decide +kernel
theorem dX8_turn_46 : decode cX8_turn 46 = .ok (.getfield 7, 3) := by decide +kernel
theorem dX8_turn_49 : decode cX8_turn 49 = .ok (.bipush 17, 2) := by decide +kernel
theorem dX8_turn_51 : decode cX8_turn 51 = .ok (.iload_n 1, 1) := by decide +kernel
theorem dX8_turn_52 : decode cX8_turn 52 = .ok (.bipush 99, 2) := by decide +kernel
theorem dX8_turn_54 : decode cX8_turn 54 = .ok (.if_icmp .ne 7, 3) := by decide +kernel
theorem dX8_turn_57 : decode cX8_turn 57 = .ok (.iconst 0, 1) := by decide +kernel
theorem dX8_turn_58 : decode cX8_turn 58 = .ok (.goto 6, 3) := by decide +kernel
theorem dX8_turn_61 : decode cX8_turn 61 = .ok (.iload_n 1, 1) := by decide +kernel
theorem dX8_turn_62 : decode cX8_turn 62 = .ok (.iconst 1, 1) := by decide +kernel
theorem dX8_turn_63 : decode cX8_turn 63 = .ok (.iadd, 1) := by decide +kernel
theorem dX8_turn_64 : decode cX8_turn 64 = .ok (.iastore, 1) := by decide +kernel
theorem dX8_turn_65 : decode cX8_turn 65 = .ok (.iload_n 2, 1) := by decide +kernel
theorem dX8_turn_66 : decode cX8_turn 66 = .ok (.ireturn, 1) := by decide +kernel
set_option maxRecDepth 20000 in
theorem ggX8_paint_X8_isPlace : GoodIn wsX8_paint wsX8_isPlace := goodIn_r _ [6, 7, 8, 9, 5, 10, 11, 12, 13, 14, 19, 20, 21, 22, 23, 24, 25, 26, 27, 28, 29, 30, 31, 32, 33, 34, 35, 36, 37, 38, 39, 40, 41, 42] (by decide +kernel) (by decide +kernel)
set_option maxRecDepth 20000 in
theorem gX8_paint_X8_isPlace : GoodIn wsX8_paint (wsV RX8 140 RX8 yX8_isPlace wsX8_isPlace) := goodIn_app (goodIn_of _ (by decide +kernel)) ggX8_paint_X8_isPlace
set_option maxRecDepth 20000 in
theorem ggX8_paint_X8_in : GoodIn wsX8_paint wsX8_in := goodIn_r _ [14] (by decide +kernel) (by decide +kernel)
set_option maxRecDepth 20000 in
theorem gX8_paint_X8_in : GoodIn wsX8_paint (va_wsS RX8 52 yX8_in wsX8_in) := goodIn_app (goodIn_of _ (by decide +kernel)) ggX8_paint_X8_in
set_option maxRecDepth 20000 in
theorem ggX8_paint_X8_puts : GoodIn wsX8_paint wsX8_puts := goodIn_r _ [18, 11, 19, 20, 21, 22, 23, 24, 25, 26, 27, 28, 29, 30, 31, 32, 33, 34, 35, 36, 37, 38, 39, 40, 41, 42] (by decide +kernel) (by decide +kernel)
set_option maxRecDepth 20000 in
theorem gX8_paint_X8_puts : GoodIn wsX8_paint (wsV RX8 150 RX8 yX8_puts wsX8_puts) := goodIn_app (goodIn_of _ (by decide +kernel)) ggX8_paint_X8_puts
theorem dX8_paint_0 : decode cX8_paint 0 = .ok (.aload_n 0, 1) := by decide +kernel
theorem dX8_paint_1 : decode cX8_paint 1 = .ok (.aload_n 0, 1) := by decide +kernel
theorem dX8_paint_2 : decode cX8_paint 2 = .ok (.iload_n 1, 1) := by decide +kernel
theorem dX8_paint_3 : decode cX8_paint 3 = .ok (.invokevirtual 140, 3) := by decide +kernel
theorem dX8_paint_6 : decode cX8_paint 6 = .ok (.ifCond .eq 19, 3) := by decide +kernel
theorem dX8_paint_9 : decode cX8_paint 9 = .ok (.iload_n 2, 1) := by decide +kernel
theorem dX8_paint_10 : decode cX8_paint 10 = .ok (.i2l, 1) := by decide +kernel
theorem dX8_paint_11 : decode cX8_paint 11 = .ok (.lconst 0, 1) := by decide +kernel
theorem dX8_paint_12 : decode cX8_paint 12 = .ok (.ldc2_w 160, 3) := by decide +kernel
theorem dX8_paint_15 : decode cX8_paint 15 = .ok (.invokestatic 52, 3) := by decide +kernel
theorem dX8_paint_18 : decode cX8_paint 18 = .ok (.ifCond .eq 7, 3) := by decide +kernel
theorem dX8_paint_21 : decode cX8_paint 21 = .ok (.iconst 1, 1) := by decide +kernel
theorem dX8_paint_22 : decode cX8_paint 22 = .ok (.goto 4, 3) := by decide +kernel
theorem dX8_paint_25 : decode cX8_paint 25 = .ok (.iconst 0, 1) := by decide +kernel
theorem dX8_paint_26 : decode cX8_paint 26 = .ok (.bipush 19, 2) := by decide +kernel
theorem dX8_paint_28 : decode cX8_paint 28 = .ok (.iload_n 1, 1) := by decide +kernel
theorem dX8_paint_29 : decode cX8_paint 29 = .ok (.iadd, 1) := by decide +kernel
theorem dX8_paint_30 : decode cX8_paint 30 = .ok (.iload_n 2, 1) := by decide +kernel
theorem dX8_paint_31 : decode cX8_paint 31 = .ok (.iconst 0, 1) := by decide +kernel
theorem dX8_paint_32 : decode cX8_paint 32 = .ok (.invokevirtual 150, 3) := by decide +kernel
theorem dX8_paint_35 : decode cX8_paint 35 = .ok (.ireturn, 1) := by decide +kernel
set_option maxRecDepth 20000 in
theorem ggX8_prints_X8_in : GoodIn wsX8_prints wsX8_in := goodIn_r _ [7] (by decide +kernel) (by decide +kernel)
set_option maxRecDepth 20000 in
theorem gX8_prints_X8_in : GoodIn wsX8_prints (va_wsS RX8 52 yX8_in wsX8_in) := goodIn_app (goodIn_of _ (by decide +kernel)) ggX8_prints_X8_in
theorem dX8_prints_0 : decode cX8_prints 0 = .ok (.iload_n 1, 1) := by decide +kernel
theorem dX8_prints_1 : decode cX8_prints 1 = .ok (.i2l, 1) := by decide +kernel
theorem dX8_prints_2 : decode cX8_prints 2 = .ok (.lconst 0, 1) := by decide +kernel
theorem dX8_prints_3 : decode cX8_prints 3 = .ok (.ldc2_w 138, 3) := by decide +kernel
theorem dX8_prints_6 : decode cX8_prints 6 = .ok (.invokestatic 52, 3) := by decide +kernel
theorem dX8_prints_9 : decode cX8_prints 9 = .ok (.ifCond .eq 15, 3) := by decide +kernel
theorem dX8_prints_12 : decode cX8_prints 12 = .ok (.iload_n 2, 1) := by decide +kernel
theorem dX8_prints_13 : decode cX8_prints 13 = .ok (.i2l, 1) := by decide +kernel
theorem dX8_prints_14 : decode cX8_prints 14 = .ok (.lconst 0, 1) := by decide +kernel
theorem dX8_prints_15 : decode cX8_prints 15 = .ok (.ldc2_w 148, 3) := by decide +kernel
theorem dX8_prints_18 : decode cX8_prints 18 = .ok (.invokestatic 52, 3) := by decide +kernel
theorem dX8_prints_21 : decode cX8_prints 21 = .ok (.ifCond .ne 5, 3) := by decide +kernel
theorem dX8_prints_24 : decode cX8_prints 24 = .ok (.iconst (-1), 1) := by decide +kernel
theorem dX8_prints_25 : decode cX8_prints 25 = .ok (.ireturn, 1) := by decide +kernel
theorem dX8_prints_26 : decode cX8_prints 26 = .ok (.aload_n 0, 1) := by decide +kernel
theorem dX8_prints_27 : decode cX8_prints 27 = .ok (.getfield 7, 3) := by decide +kernel
theorem dX8_prints_30 : decode cX8_prints 30 = .ok (.bipush 12, 2) := by decide +kernel
theorem dX8_prints_32 : decode cX8_prints 32 = .ok (.iaload, 1) := by decide +kernel
theorem dX8_prints_33 : decode cX8_prints 33 = .ok (.istore_n 3, 1) := by decide +kernel
theorem dX8_prints_34 : decode cX8_prints 34 = .ok (.iload_n 3, 1) := by decide +kernel
theorem dX8_prints_35 : decode cX8_prints 35 = .ok (.bipush 6, 2) := by decide +kernel
theorem dX8_prints_37 : decode cX8_prints 37 = .ok (.if_icmp .ne 6, 3) := by decide +kernel
theorem dX8_prints_40 : decode cX8_prints 40 = .ok (.bipush (-3), 2) := by decide +kernel
theorem dX8_prints_42 : decode cX8_prints 42 = .ok (.ireturn, 1) := by decide +kernel
theorem dX8_prints_43 : decode cX8_prints 43 = .ok (.aload_n 0, 1) := by decide +kernel
theorem dX8_prints_44 : decode cX8_prints 44 = .ok (.getfield 7, 3) := by decide +kernel
theorem dX8_prints_47 : decode cX8_prints 47 = .ok (.iload_n 3, 1) := by decide +kernel
theorem dX8_prints_48 : decode cX8_prints 48 = .ok (.iload_n 1, 1) := by decide +kernel
theorem dX8_prints_49 : decode cX8_prints 49 = .ok (.iastore, 1) := by decide +kernel
theorem dX8_prints_50 : decode cX8_prints 50 = .ok (.aload_n 0, 1) := by decide +kernel
theorem dX8_prints_51 : decode cX8_prints 51 = .ok (.getfield 7, 3) := by decide +kernel
theorem dX8_prints_54 : decode cX8_prints 54 = .ok (.bipush 6, 2) := by decide +kernel
theorem dX8_prints_56 : decode cX8_prints 56 = .ok (.iload_n 3, 1) := by decide +kernel
theorem dX8_prints_57 : decode cX8_prints 57 = .ok (.iadd, 1) := by decide +kernel
theorem dX8_prints_58 : decode cX8_prints 58 = .ok (.iload_n 2, 1) := by decide +kernel
theorem dX8_prints_59 : decode cX8_prints 59 = .ok (.iastore, 1) := by decide +kernel
theorem dX8_prints_60 : decode cX8_prints 60 = .ok (.aload_n 0, 1) := by decide +kernel
theorem dX8_prints_61 : decode cX8_prints 61 = .ok (.getfield 7, 3) := by decide +kernel
theorem dX8_prints_64 : decode cX8_prints 64 = .ok (.bipush 12, 2) := by decide +kernel
theorem dX8_prints_66 : decode cX8_prints 66 = .ok (.dup2, 1) := by decide +kernel
theorem dX8_prints_67 : decode cX8_prints 67 = .ok (.iaload, 1) := by decide +kernel
theorem dX8_prints_68 : decode cX8_prints 68 = .ok (.iconst 1, 1) := by decide +kernel
theorem dX8_prints_69 : decode cX8_prints 69 = .ok (.iadd, 1) := by decide +kernel
theorem dX8_prints_70 : decode cX8_prints 70 = .ok (.iastore, 1) := by decide +kernel
theorem dX8_prints_71 : decode cX8_prints 71 = .ok (.aload_n 0, 1) := by decide +kernel
theorem dX8_prints_72 : decode cX8_prints 72 = .ok (.getfield 7, 3) := by decide +kernel
theorem dX8_prints_75 : decode cX8_prints 75 = .ok (.bipush 12, 2) := by decide +kernel
theorem dX8_prints_77 : decode cX8_prints 77 = .ok (.iaload, 1) := by decide +kernel
theorem dX8_prints_78 : decode cX8_prints 78 = .ok (.ireturn, 1) := by decide +kernel
set_option maxRecDepth 20000 in
theorem ggX8_print_X8_prints : GoodIn wsX8_print wsX8_prints := goodIn_r _ [5, 6, 7, 8, 9, 10, 4, 11, 12, 13, 14, 15, 16, 17, 18, 19, 20, 21, 22, 23, 24, 25, 26, 27, 28, 29, 30, 31, 32, 33, 34, 35] (by decide +kernel) (by decide +kernel)
set_option maxRecDepth 20000 in
theorem gX8_print_X8_prints : GoodIn wsX8_print (wsV RX8 162 RX8 yX8_prints wsX8_prints) := goodIn_app (goodIn_of _ (by decide +kernel)) ggX8_print_X8_prints
theorem dX8_print_0 : decode cX8_print 0 = .ok (.aload_n 0, 1) := by decide +kernel
theorem dX8_print_1 : decode cX8_print 1 = .ok (.iload_n 1, 1) := by decide +kernel
theorem dX8_print_2 : decode cX8_print 2 = .ok (.iload_n 2, 1) := by decide +kernel
theorem dX8_print_3 : decode cX8_print 3 = .ok (.invokevirtual 162, 3) := by decide +kernel
theorem dX8_print_6 : decode cX8_print 6 = .ok (.ireturn, 1) := by decide +kernel
set_option maxRecDepth 20000 in
theorem ggX8_stock_X8_in : GoodIn wsX8_stock wsX8_in := goodIn_r _ [6] (by decide +kernel) (by decide +kernel)
set_option maxRecDepth 20000 in
theorem gX8_stock_X8_in : GoodIn wsX8_stock (va_wsS RX8 52 yX8_in wsX8_in) := goodIn_app (goodIn_of _ (by decide +kernel)) ggX8_stock_X8_in
theorem dX8_stock_0 : decode cX8_stock 0 = .ok (.iload_n 1, 1) := by decide +kernel
theorem dX8_stock_1 : decode cX8_stock 1 = .ok (.i2l, 1) := by decide +kernel
theorem dX8_stock_2 : decode cX8_stock 2 = .ok (.lconst 1, 1) := by decide +kernel
theorem dX8_stock_3 : decode cX8_stock 3 = .ok (.ldc2_w 148, 3) := by decide +kernel
theorem dX8_stock_6 : decode cX8_stock 6 = .ok (.invokestatic 52, 3) := by decide +kernel
theorem dX8_stock_9 : decode cX8_stock 9 = .ok (.ifCond .eq 15, 3) := by decide +kernel
theorem dX8_stock_12 : decode cX8_stock 12 = .ok (.iload_n 2, 1) := by decide +kernel
theorem dX8_stock_13 : decode cX8_stock 13 = .ok (.i2l, 1) := by decide +kernel
theorem dX8_stock_14 : decode cX8_stock 14 = .ok (.lconst 1, 1) := by decide +kernel
theorem dX8_stock_15 : decode cX8_stock 15 = .ok (.ldc2_w 148, 3) := by decide +kernel
theorem dX8_stock_18 : decode cX8_stock 18 = .ok (.invokestatic 52, 3) := by decide +kernel
theorem dX8_stock_21 : decode cX8_stock 21 = .ok (.ifCond .ne 5, 3) := by decide +kernel
theorem dX8_stock_24 : decode cX8_stock 24 = .ok (.iconst (-1), 1) := by decide +kernel
theorem dX8_stock_25 : decode cX8_stock 25 = .ok (.ireturn, 1) := by decide +kernel
theorem dX8_stock_26 : decode cX8_stock 26 = .ok (.aload_n 0, 1) := by decide +kernel
theorem dX8_stock_27 : decode cX8_stock 27 = .ok (.getfield 7, 3) := by decide +kernel
theorem dX8_stock_30 : decode cX8_stock 30 = .ok (.bipush 39, 2) := by decide +kernel
theorem dX8_stock_32 : decode cX8_stock 32 = .ok (.iaload, 1) := by decide +kernel
theorem dX8_stock_33 : decode cX8_stock 33 = .ok (.istore_n 3, 1) := by decide +kernel
theorem dX8_stock_34 : decode cX8_stock 34 = .ok (.iload_n 3, 1) := by decide +kernel
theorem dX8_stock_35 : decode cX8_stock 35 = .ok (.iconst 4, 1) := by decide +kernel
theorem dX8_stock_36 : decode cX8_stock 36 = .ok (.if_icmp .ne 6, 3) := by decide +kernel
theorem dX8_stock_39 : decode cX8_stock 39 = .ok (.bipush (-3), 2) := by decide +kernel
theorem dX8_stock_41 : decode cX8_stock 41 = .ok (.ireturn, 1) := by decide +kernel
theorem dX8_stock_42 : decode cX8_stock 42 = .ok (.aload_n 0, 1) := by decide +kernel
theorem dX8_stock_43 : decode cX8_stock 43 = .ok (.getfield 7, 3) := by decide +kernel
theorem dX8_stock_46 : decode cX8_stock 46 = .ok (.bipush 31, 2) := by decide +kernel
theorem dX8_stock_48 : decode cX8_stock 48 = .ok (.iload_n 3, 1) := by decide +kernel
theorem dX8_stock_49 : decode cX8_stock 49 = .ok (.iadd, 1) := by decide +kernel
theorem dX8_stock_50 : decode cX8_stock 50 = .ok (.iload_n 1, 1) := by decide +kernel
theorem dX8_stock_51 : decode cX8_stock 51 = .ok (.iastore, 1) := by decide +kernel
theorem dX8_stock_52 : decode cX8_stock 52 = .ok (.aload_n 0, 1) := by decide +kernel
theorem dX8_stock_53 : decode cX8_stock 53 = .ok (.getfield 7, 3) := by decide +kernel
theorem dX8_stock_56 : decode cX8_stock 56 = .ok (.bipush 35, 2) := by decide +kernel
theorem dX8_stock_58 : decode cX8_stock 58 = .ok (.iload_n 3, 1) := by decide +kernel
theorem dX8_stock_59 : decode cX8_stock 59 = .ok (.iadd, 1) := by decide +kernel
theorem dX8_stock_60 : decode cX8_stock 60 = .ok (.iload_n 2, 1) := by decide +kernel
theorem dX8_stock_61 : decode cX8_stock 61 = .ok (.iastore, 1) := by decide +kernel
theorem dX8_stock_62 : decode cX8_stock 62 = .ok (.aload_n 0, 1) := by decide +kernel
theorem dX8_stock_63 : decode cX8_stock 63 = .ok (.getfield 7, 3) := by decide +kernel
theorem dX8_stock_66 : decode cX8_stock 66 = .ok (.bipush 39, 2) := by decide +kernel
theorem dX8_stock_68 : decode cX8_stock 68 = .ok (.dup2, 1) := by decide +kernel
theorem dX8_stock_69 : decode cX8_stock 69 = .ok (.iaload, 1) := by decide +kernel
theorem dX8_stock_70 : decode cX8_stock 70 = .ok (.iconst 1, 1) := by decide +kernel
theorem dX8_stock_71 : decode cX8_stock 71 = .ok (.iadd, 1) := by decide +kernel
theorem dX8_stock_72 : decode cX8_stock 72 = .ok (.iastore, 1) := by decide +kernel
theorem dX8_stock_73 : decode cX8_stock 73 = .ok (.aload_n 0, 1) := by decide +kernel
theorem dX8_stock_74 : decode cX8_stock 74 = .ok (.getfield 7, 3) := by decide +kernel
theorem dX8_stock_77 : decode cX8_stock 77 = .ok (.bipush 39, 2) := by decide +kernel
theorem dX8_stock_79 : decode cX8_stock 79 = .ok (.iaload, 1) := by decide +kernel
theorem dX8_stock_80 : decode cX8_stock 80 = .ok (.ireturn, 1) := by decide +kernel
set_option maxRecDepth 20000 in
theorem ggX8_drop_X8_in : GoodIn wsX8_drop wsX8_in := goodIn_r _ [5] (by decide +kernel) (by decide +kernel)
set_option maxRecDepth 20000 in
theorem gX8_drop_X8_in : GoodIn wsX8_drop (va_wsS RX8 52 yX8_in wsX8_in) := goodIn_app (goodIn_of _ (by decide +kernel)) ggX8_drop_X8_in
set_option maxRecDepth 20000 in
theorem ggX8_drop_X8_puts : GoodIn wsX8_drop wsX8_puts := goodIn_r _ [9, 1, 10, 11, 12, 13, 14, 15, 16, 17, 18, 19, 20, 21, 22, 23, 24, 25, 26, 27, 28, 29, 30, 31, 32, 33] (by decide +kernel) (by decide +kernel)
set_option maxRecDepth 20000 in
theorem gX8_drop_X8_puts : GoodIn wsX8_drop (wsV RX8 150 RX8 yX8_puts wsX8_puts) := goodIn_app (goodIn_of _ (by decide +kernel)) ggX8_drop_X8_puts
theorem dX8_drop_0 : decode cX8_drop 0 = .ok (.aload_n 0, 1) := by decide +kernel
theorem dX8_drop_1 : decode cX8_drop 1 = .ok (.iload_n 1, 1) := by decide +kernel
theorem dX8_drop_2 : decode cX8_drop 2 = .ok (.i2l, 1) := by decide +kernel
theorem dX8_drop_3 : decode cX8_drop 3 = .ok (.lconst 0, 1) := by decide +kernel
theorem dX8_drop_4 : decode cX8_drop 4 = .ok (.aload_n 0, 1) := by decide +kernel
theorem dX8_drop_5 : decode cX8_drop 5 = .ok (.getfield 7, 3) := by decide +kernel
theorem dX8_drop_8 : decode cX8_drop 8 = .ok (.bipush 39, 2) := by decide +kernel
theorem dX8_drop_10 : decode cX8_drop 10 = .ok (.iaload, 1) := by decide +kernel
theorem dX8_drop_11 : decode cX8_drop 11 = .ok (.i2l, 1) := by decide +kernel
theorem dX8_drop_12 : decode cX8_drop 12 = .ok (.invokestatic 52, 3) := by decide +kernel
theorem dX8_drop_15 : decode cX8_drop 15 = .ok (.bipush 39, 2) := by decide +kernel
theorem dX8_drop_17 : decode cX8_drop 17 = .ok (.iload_n 1, 1) := by decide +kernel
theorem dX8_drop_18 : decode cX8_drop 18 = .ok (.iconst 0, 1) := by decide +kernel
theorem dX8_drop_19 : decode cX8_drop 19 = .ok (.invokevirtual 150, 3) := by decide +kernel
theorem dX8_drop_22 : decode cX8_drop 22 = .ok (.ireturn, 1) := by decide +kernel
set_option maxRecDepth 20000 in
theorem ggX8_years_X8_in : GoodIn wsX8_years wsX8_in := goodIn_r _ [6] (by decide +kernel) (by decide +kernel)
set_option maxRecDepth 20000 in
theorem gX8_years_X8_in : GoodIn wsX8_years (va_wsS RX8 52 yX8_in wsX8_in) := goodIn_app (goodIn_of _ (by decide +kernel)) ggX8_years_X8_in
set_option maxRecDepth 20000 in
theorem ggX8_years_X8_yearOn : GoodIn wsX8_years wsX8_yearOn := goodIn_r _ [10, 2, 11, 12, 13, 5, 14, 27, 28, 29, 30, 31, 32, 33, 34, 35, 36, 37, 38, 39, 40, 41, 42, 43, 44, 45, 46, 47, 48, 49, 50] (by decide +kernel) (by decide +kernel)
set_option maxRecDepth 20000 in
theorem gX8_years_X8_yearOn : GoodIn wsX8_years (wsV RX8 167 RX8 yX8_yearOn wsX8_yearOn) := goodIn_app (goodIn_of _ (by decide +kernel)) ggX8_years_X8_yearOn
set_option maxRecDepth 20000 in
theorem ggX8_years_X8_frankOfAll : GoodIn wsX8_years wsX8_frankOfAll := goodIn_r _ [18, 11, 12, 13, 5, 14, 2, 19, 20, 21, 22, 23, 24, 25, 26, 27, 28, 29, 30, 31, 32, 33, 34, 35, 36, 37, 38, 39, 40, 41, 42, 43, 44, 45, 46, 47, 48, 49, 50] (by decide +kernel) (by decide +kernel)
set_option maxRecDepth 20000 in
theorem gX8_years_X8_frankOfAll : GoodIn wsX8_years (wsV RX8 131 RX8 yX8_frankOfAll wsX8_frankOfAll) := goodIn_app (goodIn_of _ (by decide +kernel)) ggX8_years_X8_frankOfAll
theorem dX8_years_0 : decode cX8_years 0 = .ok (.iload_n 1, 1) := by decide +kernel
theorem dX8_years_1 : decode cX8_years 1 = .ok (.i2l, 1) := by decide +kernel
theorem dX8_years_2 : decode cX8_years 2 = .ok (.lconst 0, 1) := by decide +kernel
theorem dX8_years_3 : decode cX8_years 3 = .ok (.ldc2_w 165, 3) := by decide +kernel
theorem dX8_years_6 : decode cX8_years 6 = .ok (.invokestatic 52, 3) := by decide +kernel
theorem dX8_years_9 : decode cX8_years 9 = .ok (.ifCond .ne 5, 3) := by decide +kernel
theorem dX8_years_12 : decode cX8_years 12 = .ok (.iconst (-1), 1) := by decide +kernel
theorem dX8_years_13 : decode cX8_years 13 = .ok (.ireturn, 1) := by decide +kernel
theorem dX8_years_14 : decode cX8_years 14 = .ok (.aload_n 0, 1) := by decide +kernel
theorem dX8_years_15 : decode cX8_years 15 = .ok (.getfield 7, 3) := by decide +kernel
theorem dX8_years_18 : decode cX8_years 18 = .ok (.bipush 18, 2) := by decide +kernel
theorem dX8_years_20 : decode cX8_years 20 = .ok (.iaload, 1) := by decide +kernel
theorem dX8_years_21 : decode cX8_years 21 = .ok (.iload_n 1, 1) := by decide +kernel
theorem dX8_years_22 : decode cX8_years 22 = .ok (.iadd, 1) := by decide +kernel
theorem dX8_years_23 : decode cX8_years 23 = .ok (.sipush 999, 3) := by decide +kernel
theorem dX8_years_26 : decode cX8_years 26 = .ok (.if_icmp .le 6, 3) := by decide +kernel
theorem dX8_years_29 : decode cX8_years 29 = .ok (.bipush (-3), 2) := by decide +kernel
theorem dX8_years_31 : decode cX8_years 31 = .ok (.ireturn, 1) := by decide +kernel
theorem dX8_years_32 : decode cX8_years 32 = .ok (.iconst 0, 1) := by decide +kernel
theorem dX8_years_33 : decode cX8_years 33 = .ok (.istore_n 2, 1) := by decide +kernel
theorem dX8_years_34 : decode cX8_years 34 = .ok (.iload_n 2, 1) := by decide +kernel
theorem dX8_years_35 : decode cX8_years 35 = .ok (.iload_n 1, 1) := by decide +kernel
theorem dX8_years_36 : decode cX8_years 36 = .ok (.if_icmp .ge 14, 3) := by decide +kernel
theorem dX8_years_39 : decode cX8_years 39 = .ok (.aload_n 0, 1) := by decide +kernel
theorem dX8_years_40 : decode cX8_years 40 = .ok (.iconst 0, 1) := by decide +kernel
theorem dX8_years_41 : decode cX8_years 41 = .ok (.invokevirtual 167, 3) := by decide +kernel
theorem dX8_years_44 : decode cX8_years 44 = .ok (.iinc 2 1, 3) := by decide +kernel
theorem dX8_years_47 : decode cX8_years 47 = .ok (.goto (-13), 3) := by decide +kernel
theorem dX8_years_50 : decode cX8_years 50 = .ok (.aload_n 0, 1) := by decide +kernel
theorem dX8_years_51 : decode cX8_years 51 = .ok (.iconst 0, 1) := by decide +kernel
theorem dX8_years_52 : decode cX8_years 52 = .ok (.invokevirtual 131, 3) := by decide +kernel
theorem dX8_years_55 : decode cX8_years 55 = .ok (.ireturn, 1) := by decide +kernel
theorem dX8_copies_0 : decode cX8_copies 0 = .ok (.iconst 0, 1) := by decide +kernel
theorem dX8_copies_1 : decode cX8_copies 1 = .ok (.istore_n 3, 1) := by decide +kernel
theorem dX8_copies_2 : decode cX8_copies 2 = .ok (.iload_n 3, 1) := by decide +kernel
theorem dX8_copies_3 : decode cX8_copies 3 = .ok (.bipush 40, 2) := by decide +kernel
theorem dX8_copies_5 : decode cX8_copies 5 = .ok (.if_icmp .ge 25, 3) := by decide +kernel
theorem dX8_copies_8 : decode cX8_copies 8 = .ok (.aload_n 0, 1) := by decide +kernel
theorem dX8_copies_9 : decode cX8_copies 9 = .ok (.getfield 7, 3) := by decide +kernel
theorem dX8_copies_12 : decode cX8_copies 12 = .ok (.iload_n 2, 1) := by decide +kernel
theorem dX8_copies_13 : decode cX8_copies 13 = .ok (.iload_n 3, 1) := by decide +kernel
theorem dX8_copies_14 : decode cX8_copies 14 = .ok (.iadd, 1) := by decide +kernel
theorem dX8_copies_15 : decode cX8_copies 15 = .ok (.aload_n 0, 1) := by decide +kernel
theorem dX8_copies_16 : decode cX8_copies 16 = .ok (.getfield 7, 3) := by decide +kernel
theorem dX8_copies_19 : decode cX8_copies 19 = .ok (.iload_n 1, 1) := by decide +kernel
theorem dX8_copies_20 : decode cX8_copies 20 = .ok (.iload_n 3, 1) := by decide +kernel
theorem dX8_copies_21 : decode cX8_copies 21 = .ok (.iadd, 1) := by decide +kernel
theorem dX8_copies_22 : decode cX8_copies 22 = .ok (.iaload, 1) := by decide +kernel
theorem dX8_copies_23 : decode cX8_copies 23 = .ok (.iastore, 1) := by decide +kernel
theorem dX8_copies_24 : decode cX8_copies 24 = .ok (.iinc 3 1, 3) := by decide +kernel
theorem dX8_copies_27 : decode cX8_copies 27 = .ok (.goto (-25), 3) := by decide +kernel
theorem dX8_copies_30 : decode cX8_copies 30 = .ok (.return_, 1) := by decide +kernel
set_option maxRecDepth 20000 in
theorem ggX8_yearsGo_X8_copies : GoodIn wsX8_yearsGo wsX8_copies := goodIn_r _ [5, 6, 15, 16, 17, 18, 19, 20, 21, 22, 23, 24, 25, 26, 27, 28, 29, 30, 31, 32, 33, 34, 35, 36, 37, 38] (by decide +kernel) (by decide +kernel)
set_option maxRecDepth 20000 in
theorem gX8_yearsGo_X8_copies : GoodIn wsX8_yearsGo (wsV RX8 170 RX8 yX8_copies wsX8_copies) := goodIn_app (goodIn_of _ (by decide +kernel)) ggX8_yearsGo_X8_copies
set_option maxRecDepth 20000 in
theorem ggX8_yearsGo_X8_yearOn : GoodIn wsX8_yearsGo wsX8_yearOn := goodIn_r _ [10, 6, 11, 12, 13, 4, 14, 15, 16, 17, 18, 19, 20, 21, 22, 23, 24, 25, 26, 27, 28, 29, 30, 31, 32, 33, 34, 35, 36, 37, 38] (by decide +kernel) (by decide +kernel)
set_option maxRecDepth 20000 in
theorem gX8_yearsGo_X8_yearOn : GoodIn wsX8_yearsGo (wsV RX8 167 RX8 yX8_yearOn wsX8_yearOn) := goodIn_app (goodIn_of _ (by decide +kernel)) ggX8_yearsGo_X8_yearOn
theorem dX8_yearsGo_0 : decode cX8_yearsGo 0 = .ok (.aload_n 0, 1) := by decide +kernel
theorem dX8_yearsGo_1 : decode cX8_yearsGo 1 = .ok (.iload_n 1, 1) := by decide +kernel
theorem dX8_yearsGo_2 : decode cX8_yearsGo 2 = .ok (.sipush 160, 3) := by decide +kernel
theorem dX8_yearsGo_5 : decode cX8_yearsGo 5 = .ok (.invokevirtual 170, 3) := by decide +kernel
theorem dX8_yearsGo_8 : decode cX8_yearsGo 8 = .ok (.iconst 0, 1) := by decide +kernel
theorem dX8_yearsGo_9 : decode cX8_yearsGo 9 = .ok (.istore_n 3, 1) := by decide +kernel
theorem dX8_yearsGo_10 : decode cX8_yearsGo 10 = .ok (.iload_n 3, 1) := by decide +kernel
theorem dX8_yearsGo_11 : decode cX8_yearsGo 11 = .ok (.iload_n 2, 1) := by decide +kernel
theorem dX8_yearsGo_12 : decode cX8_yearsGo 12 = .ok (.if_icmp .ge 16, 3) := by decide +kernel
theorem dX8_yearsGo_15 : decode cX8_yearsGo 15 = .ok (.aload_n 0, 1) := by decide +kernel
theorem dX8_yearsGo_16 : decode cX8_yearsGo 16 = .ok (.sipush 160, 3) := by decide +kernel
theorem dX8_yearsGo_19 : decode cX8_yearsGo 19 = .ok (.invokevirtual 167, 3) := by decide +kernel
theorem dX8_yearsGo_22 : decode cX8_yearsGo 22 = .ok (.iinc 3 1, 3) := by decide +kernel
theorem dX8_yearsGo_25 : decode cX8_yearsGo 25 = .ok (.goto (-15), 3) := by decide +kernel
theorem dX8_yearsGo_28 : decode cX8_yearsGo 28 = .ok (.return_, 1) := by decide +kernel
set_option maxRecDepth 20000 in
theorem ggX8_runs_X8_in : GoodIn wsX8_runs wsX8_in := goodIn_r _ [6] (by decide +kernel) (by decide +kernel)
set_option maxRecDepth 20000 in
theorem gX8_runs_X8_in : GoodIn wsX8_runs (va_wsS RX8 52 yX8_in wsX8_in) := goodIn_app (goodIn_of _ (by decide +kernel)) ggX8_runs_X8_in
set_option maxRecDepth 20000 in
theorem ggX8_runs_X8_yearsGo : GoodIn wsX8_runs wsX8_yearsGo := goodIn_r _ [10, 11, 12, 13, 5, 14, 15, 16, 17, 18, 19, 20, 21, 22, 23, 36, 37, 38, 39, 40, 41, 42, 43, 44, 45, 46, 47, 48, 49, 50, 51, 52, 53, 54, 55, 56, 57, 58, 59] (by decide +kernel) (by decide +kernel)
set_option maxRecDepth 20000 in
theorem gX8_runs_X8_yearsGo : GoodIn wsX8_runs (wsV RX8 176 RX8 yX8_yearsGo wsX8_yearsGo) := goodIn_app (goodIn_of _ (by decide +kernel)) ggX8_runs_X8_yearsGo
set_option maxRecDepth 20000 in
theorem ggX8_runs_X8_longOn : GoodIn wsX8_runs wsX8_longOn := goodIn_r _ [23, 15, 36, 37, 38, 39, 40, 41, 42, 43, 44, 45, 46, 47, 48, 49, 50, 51, 52, 53, 54, 55, 56, 57, 58, 59] (by decide +kernel) (by decide +kernel)
set_option maxRecDepth 20000 in
theorem gX8_runs_X8_longOn : GoodIn wsX8_runs (wsV RX8 122 RX8 yX8_longOn wsX8_longOn) := goodIn_app (goodIn_of _ (by decide +kernel)) ggX8_runs_X8_longOn
set_option maxRecDepth 20000 in
theorem ggX8_runs_X8_frankOn : GoodIn wsX8_runs wsX8_frankOn := goodIn_r _ [27, 15, 28, 29, 30, 5, 31, 36, 37, 38, 39, 40, 41, 42, 43, 44, 45, 46, 47, 48, 49, 50, 51, 52, 53, 54, 55, 56, 57, 58, 59] (by decide +kernel) (by decide +kernel)
set_option maxRecDepth 20000 in
theorem gX8_runs_X8_frankOn : GoodIn wsX8_runs (wsV RX8 128 RX8 yX8_frankOn wsX8_frankOn) := goodIn_app (goodIn_of _ (by decide +kernel)) ggX8_runs_X8_frankOn
set_option maxRecDepth 20000 in
theorem ggX8_runs_X8_frankOfAll : GoodIn wsX8_runs wsX8_frankOfAll := goodIn_r _ [35, 20, 21, 22, 5, 23, 15, 24, 25, 26, 27, 28, 29, 30, 31, 36, 37, 38, 39, 40, 41, 42, 43, 44, 45, 46, 47, 48, 49, 50, 51, 52, 53, 54, 55, 56, 57, 58, 59] (by decide +kernel) (by decide +kernel)
set_option maxRecDepth 20000 in
theorem gX8_runs_X8_frankOfAll : GoodIn wsX8_runs (wsV RX8 131 RX8 yX8_frankOfAll wsX8_frankOfAll) := goodIn_app (goodIn_of _ (by decide +kernel)) ggX8_runs_X8_frankOfAll
theorem dX8_runs_0 : decode cX8_runs 0 = .ok (.iload_n 1, 1) := by decide +kernel
theorem dX8_runs_1 : decode cX8_runs 1 = .ok (.i2l, 1) := by decide +kernel
theorem dX8_runs_2 : decode cX8_runs 2 = .ok (.lconst 0, 1) := by decide +kernel
theorem dX8_runs_3 : decode cX8_runs 3 = .ok (.ldc2_w 174, 3) := by decide +kernel
theorem dX8_runs_6 : decode cX8_runs 6 = .ok (.invokestatic 52, 3) := by decide +kernel
theorem dX8_runs_9 : decode cX8_runs 9 = .ok (.ifCond .eq 15, 3) := by decide +kernel
theorem dX8_runs_12 : decode cX8_runs 12 = .ok (.iload_n 2, 1) := by decide +kernel
theorem dX8_runs_13 : decode cX8_runs 13 = .ok (.i2l, 1) := by decide +kernel
theorem dX8_runs_14 : decode cX8_runs 14 = .ok (.lconst 0, 1) := by decide +kernel
theorem dX8_runs_15 : decode cX8_runs 15 = .ok (.ldc2_w 138, 3) := by decide +kernel
theorem dX8_runs_18 : decode cX8_runs 18 = .ok (.invokestatic 52, 3) := by decide +kernel
theorem dX8_runs_21 : decode cX8_runs 21 = .ok (.ifCond .ne 5, 3) := by decide +kernel
theorem dX8_runs_24 : decode cX8_runs 24 = .ok (.iconst (-1), 1) := by decide +kernel
theorem dX8_runs_25 : decode cX8_runs 25 = .ok (.ireturn, 1) := by decide +kernel
theorem dX8_runs_26 : decode cX8_runs 26 = .ok (.aload_n 0, 1) := by decide +kernel
theorem dX8_runs_27 : decode cX8_runs 27 = .ok (.iconst 0, 1) := by decide +kernel
theorem dX8_runs_28 : decode cX8_runs 28 = .ok (.iload_n 1, 1) := by decide +kernel
theorem dX8_runs_29 : decode cX8_runs 29 = .ok (.invokevirtual 176, 3) := by decide +kernel
theorem dX8_runs_32 : decode cX8_runs 32 = .ok (.iconst 0, 1) := by decide +kernel
theorem dX8_runs_33 : decode cX8_runs 33 = .ok (.istore_n 3, 1) := by decide +kernel
theorem dX8_runs_34 : decode cX8_runs 34 = .ok (.iconst 0, 1) := by decide +kernel
theorem dX8_runs_35 : decode cX8_runs 35 = .ok (.istore 4, 2) := by decide +kernel
theorem dX8_runs_37 : decode cX8_runs 37 = .ok (.iconst 0, 1) := by decide +kernel
theorem dX8_runs_38 : decode cX8_runs 38 = .ok (.istore 5, 2) := by decide +kernel
theorem dX8_runs_40 : decode cX8_runs 40 = .ok (.iload 5, 2) := by decide +kernel
theorem dX8_runs_42 : decode cX8_runs 42 = .ok (.aload_n 0, 1) := by decide +kernel
theorem dX8_runs_43 : decode cX8_runs 43 = .ok (.sipush 160, 3) := by decide +kernel
theorem dX8_runs_46 : decode cX8_runs 46 = .ok (.invokevirtual 122, 3) := by decide +kernel
theorem dX8_runs_49 : decode cX8_runs 49 = .ok (.if_icmp .ge 62, 3) := by decide +kernel
theorem dX8_runs_52 : decode cX8_runs 52 = .ok (.iload_n 3, 1) := by decide +kernel
theorem dX8_runs_53 : decode cX8_runs 53 = .ok (.aload_n 0, 1) := by decide +kernel
theorem dX8_runs_54 : decode cX8_runs 54 = .ok (.sipush 160, 3) := by decide +kernel
theorem dX8_runs_57 : decode cX8_runs 57 = .ok (.iload 5, 2) := by decide +kernel
theorem dX8_runs_59 : decode cX8_runs 59 = .ok (.invokevirtual 128, 3) := by decide +kernel
theorem dX8_runs_62 : decode cX8_runs 62 = .ok (.ifCond .ne 10, 3) := by decide +kernel
theorem dX8_runs_65 : decode cX8_runs 65 = .ok (.iconst 1, 1) := by decide +kernel
theorem dX8_runs_66 : decode cX8_runs 66 = .ok (.iload 5, 2) := by decide +kernel
theorem dX8_runs_68 : decode cX8_runs 68 = .ok (.ishl, 1) := by decide +kernel
theorem dX8_runs_69 : decode cX8_runs 69 = .ok (.goto 4, 3) := by decide +kernel
theorem dX8_runs_72 : decode cX8_runs 72 = .ok (.iconst 0, 1) := by decide +kernel
theorem dX8_runs_73 : decode cX8_runs 73 = .ok (.ior, 1) := by decide +kernel
theorem dX8_runs_74 : decode cX8_runs 74 = .ok (.istore_n 3, 1) := by decide +kernel
theorem dX8_runs_75 : decode cX8_runs 75 = .ok (.aload_n 0, 1) := by decide +kernel
theorem dX8_runs_76 : decode cX8_runs 76 = .ok (.sipush 160, 3) := by decide +kernel
theorem dX8_runs_79 : decode cX8_runs 79 = .ok (.iload 5, 2) := by decide +kernel
theorem dX8_runs_81 : decode cX8_runs 81 = .ok (.invokevirtual 128, 3) := by decide +kernel
theorem dX8_runs_84 : decode cX8_runs 84 = .ok (.aload_n 0, 1) := by decide +kernel
theorem dX8_runs_85 : decode cX8_runs 85 = .ok (.sipush 160, 3) := by decide +kernel
theorem dX8_runs_88 : decode cX8_runs 88 = .ok (.iload 4, 2) := by decide +kernel
theorem dX8_runs_90 : decode cX8_runs 90 = .ok (.invokevirtual 128, 3) := by decide +kernel
theorem dX8_runs_93 : decode cX8_runs 93 = .ok (.if_icmp .le 8, 3) := by decide +kernel
theorem dX8_runs_96 : decode cX8_runs 96 = .ok (.iload 5, 2) := by decide +kernel
theorem dX8_runs_98 : decode cX8_runs 98 = .ok (.goto 5, 3) := by decide +kernel
theorem dX8_runs_101 : decode cX8_runs 101 = .ok (.iload 4, 2) := by decide +kernel
theorem dX8_runs_103 : decode cX8_runs 103 = .ok (.istore 4, 2) := by decide +kernel
theorem dX8_runs_105 : decode cX8_runs 105 = .ok (.iinc 5 1, 3) := by decide +kernel
theorem dX8_runs_108 : decode cX8_runs 108 = .ok (.goto (-68), 3) := by decide +kernel
theorem dX8_runs_111 : decode cX8_runs 111 = .ok (.iload_n 2, 1) := by decide +kernel
theorem dX8_runs_112 : decode cX8_runs 112 = .ok (.ifCond .ne 13, 3) := by decide +kernel
theorem dX8_runs_115 : decode cX8_runs 115 = .ok (.aload_n 0, 1) := by decide +kernel
theorem dX8_runs_116 : decode cX8_runs 116 = .ok (.sipush 160, 3) := by decide +kernel
theorem dX8_runs_119 : decode cX8_runs 119 = .ok (.invokevirtual 131, 3) := by decide +kernel
theorem dX8_runs_122 : decode cX8_runs 122 = .ok (.goto 31, 3) := by decide +kernel
theorem dX8_runs_125 : decode cX8_runs 125 = .ok (.iload_n 2, 1) := by decide +kernel
theorem dX8_runs_126 : decode cX8_runs 126 = .ok (.iconst 1, 1) := by decide +kernel
theorem dX8_runs_127 : decode cX8_runs 127 = .ok (.if_icmp .ne 7, 3) := by decide +kernel
theorem dX8_runs_130 : decode cX8_runs 130 = .ok (.iload_n 3, 1) := by decide +kernel
theorem dX8_runs_131 : decode cX8_runs 131 = .ok (.goto 22, 3) := by decide +kernel
theorem dX8_runs_134 : decode cX8_runs 134 = .ok (.iload_n 2, 1) := by decide +kernel
theorem dX8_runs_135 : decode cX8_runs 135 = .ok (.iconst 2, 1) := by decide +kernel
theorem dX8_runs_136 : decode cX8_runs 136 = .ok (.if_icmp .ne 8, 3) := by decide +kernel
theorem dX8_runs_139 : decode cX8_runs 139 = .ok (.iload 4, 2) := by decide +kernel
theorem dX8_runs_141 : decode cX8_runs 141 = .ok (.goto 12, 3) := by decide +kernel
theorem dX8_runs_144 : decode cX8_runs 144 = .ok (.aload_n 0, 1) := by decide +kernel
theorem dX8_runs_145 : decode cX8_runs 145 = .ok (.sipush 160, 3) := by decide +kernel
theorem dX8_runs_148 : decode cX8_runs 148 = .ok (.iload 4, 2) := by decide +kernel
theorem dX8_runs_150 : decode cX8_runs 150 = .ok (.invokevirtual 128, 3) := by decide +kernel
theorem dX8_runs_153 : decode cX8_runs 153 = .ok (.ireturn, 1) := by decide +kernel
set_option maxRecDepth 20000 in
theorem ggX8_ahead_X8_isPlace : GoodIn wsX8_ahead wsX8_isPlace := goodIn_r _ [6, 7, 8, 9, 5, 10, 11, 12, 13, 14, 35, 36, 37, 38, 39, 40, 41, 42, 43, 44, 45, 46, 47, 48, 49, 50, 51, 52, 53, 54, 55, 56, 57, 58] (by decide +kernel) (by decide +kernel)
set_option maxRecDepth 20000 in
theorem gX8_ahead_X8_isPlace : GoodIn wsX8_ahead (wsV RX8 140 RX8 yX8_isPlace wsX8_isPlace) := goodIn_app (goodIn_of _ (by decide +kernel)) ggX8_ahead_X8_isPlace
set_option maxRecDepth 20000 in
theorem ggX8_ahead_X8_in : GoodIn wsX8_ahead wsX8_in := goodIn_r _ [14] (by decide +kernel) (by decide +kernel)
set_option maxRecDepth 20000 in
theorem gX8_ahead_X8_in : GoodIn wsX8_ahead (va_wsS RX8 52 yX8_in wsX8_in) := goodIn_app (goodIn_of _ (by decide +kernel)) ggX8_ahead_X8_in
set_option maxRecDepth 20000 in
theorem ggX8_ahead_X8_yearsGo : GoodIn wsX8_ahead wsX8_yearsGo := goodIn_r _ [18, 19, 20, 21, 5, 22, 11, 23, 24, 25, 26, 7, 8, 9, 10, 35, 36, 37, 38, 39, 40, 41, 42, 43, 44, 45, 46, 47, 48, 49, 50, 51, 52, 53, 54, 55, 56, 57, 58] (by decide +kernel) (by decide +kernel)
set_option maxRecDepth 20000 in
theorem gX8_ahead_X8_yearsGo : GoodIn wsX8_ahead (wsV RX8 176 RX8 yX8_yearsGo wsX8_yearsGo) := goodIn_app (goodIn_of _ (by decide +kernel)) ggX8_ahead_X8_yearsGo
