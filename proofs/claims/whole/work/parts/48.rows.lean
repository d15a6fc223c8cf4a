/-! rows of the reference's constructor, the first half -/
theorem dX5_init_0 : decode cX5_init 0 = .ok (.aload_n 0, 1) := by decide +kernel
theorem dX5_init_1 : decode cX5_init 1 = .ok (.invokespecial 1, 3) := by decide +kernel
theorem dX5_init_4 : decode cX5_init 4 = .ok (.aload_n 0, 1) := by decide +kernel
theorem dX5_init_5 : decode cX5_init 5 = .ok (.bipush 78, 2) := by decide +kernel
theorem dX5_init_7 : decode cX5_init 7 = .ok (.newarray .int, 2) := by decide +kernel
theorem dX5_init_9 : decode cX5_init 9 = .ok (.putfield 9, 3) := by decide +kernel
theorem dX5_init_12 : decode cX5_init 12 = .ok (.aload_n 0, 1) := by decide +kernel
theorem dX5_init_13 : decode cX5_init 13 = .ok (.bipush 78, 2) := by decide +kernel
theorem dX5_init_15 : decode cX5_init 15 = .ok (.newarray .int, 2) := by decide +kernel
theorem dX5_init_17 : decode cX5_init 17 = .ok (.putfield 13, 3) := by decide +kernel
theorem dX5_init_20 : decode cX5_init 20 = .ok (.aload_n 0, 1) := by decide +kernel
theorem dX5_init_21 : decode cX5_init 21 = .ok (.bipush 78, 2) := by decide +kernel
theorem dX5_init_23 : decode cX5_init 23 = .ok (.newarray .int, 2) := by decide +kernel
theorem dX5_init_25 : decode cX5_init 25 = .ok (.putfield 16, 3) := by decide +kernel
theorem dX5_init_28 : decode cX5_init 28 = .ok (.aload_n 0, 1) := by decide +kernel
theorem dX5_init_29 : decode cX5_init 29 = .ok (.bipush 7, 2) := by decide +kernel
theorem dX5_init_31 : decode cX5_init 31 = .ok (.newarray .int, 2) := by decide +kernel
theorem dX5_init_33 : decode cX5_init 33 = .ok (.putfield 19, 3) := by decide +kernel
theorem dX5_init_36 : decode cX5_init 36 = .ok (.aload_n 0, 1) := by decide +kernel
theorem dX5_init_37 : decode cX5_init 37 = .ok (.bipush 120, 2) := by decide +kernel
theorem dX5_init_39 : decode cX5_init 39 = .ok (.newarray .int, 2) := by decide +kernel
theorem dX5_init_41 : decode cX5_init 41 = .ok (.putfield 22, 3) := by decide +kernel
theorem dX5_init_44 : decode cX5_init 44 = .ok (.aload_n 0, 1) := by decide +kernel
theorem dX5_init_45 : decode cX5_init 45 = .ok (.bipush 70, 2) := by decide +kernel
theorem dX5_init_47 : decode cX5_init 47 = .ok (.newarray .char, 2) := by decide +kernel
theorem dX5_init_49 : decode cX5_init 49 = .ok (.dup, 1) := by decide +kernel
theorem dX5_init_50 : decode cX5_init 50 = .ok (.iconst 0, 1) := by decide +kernel
theorem dX5_init_51 : decode cX5_init 51 = .ok (.bipush 112, 2) := by decide +kernel
theorem dX5_init_53 : decode cX5_init 53 = .ok (.castore, 1) := by decide +kernel
theorem dX5_init_54 : decode cX5_init 54 = .ok (.dup, 1) := by decide +kernel
theorem dX5_init_55 : decode cX5_init 55 = .ok (.iconst 1, 1) := by decide +kernel
theorem dX5_init_56 : decode cX5_init 56 = .ok (.bipush 97, 2) := by decide +kernel
theorem dX5_init_58 : decode cX5_init 58 = .ok (.castore, 1) := by decide +kernel
theorem dX5_init_59 : decode cX5_init 59 = .ok (.dup, 1) := by decide +kernel
theorem dX5_init_60 : decode cX5_init 60 = .ok (.iconst 2, 1) := by decide +kernel
theorem dX5_init_61 : decode cX5_init 61 = .ok (.bipush 114, 2) := by decide +kernel
theorem dX5_init_63 : decode cX5_init 63 = .ok (.castore, 1) := by decide +kernel
theorem dX5_init_64 : decode cX5_init 64 = .ok (.dup, 1) := by decide +kernel
theorem dX5_init_65 : decode cX5_init 65 = .ok (.iconst 3, 1) := by decide +kernel
theorem dX5_init_66 : decode cX5_init 66 = .ok (.bipush 99, 2) := by decide +kernel
theorem dX5_init_68 : decode cX5_init 68 = .ok (.castore, 1) := by decide +kernel
theorem dX5_init_69 : decode cX5_init 69 = .ok (.dup, 1) := by decide +kernel
theorem dX5_init_70 : decode cX5_init 70 = .ok (.iconst 4, 1) := by decide +kernel
theorem dX5_init_71 : decode cX5_init 71 = .ok (.bipush 101, 2) := by decide +kernel
theorem dX5_init_73 : decode cX5_init 73 = .ok (.castore, 1) := by decide +kernel
theorem dX5_init_74 : decode cX5_init 74 = .ok (.dup, 1) := by decide +kernel
theorem dX5_init_75 : decode cX5_init 75 = .ok (.iconst 5, 1) := by decide +kernel
theorem dX5_init_76 : decode cX5_init 76 = .ok (.bipush 108, 2) := by decide +kernel
theorem dX5_init_78 : decode cX5_init 78 = .ok (.castore, 1) := by decide +kernel
theorem dX5_init_79 : decode cX5_init 79 = .ok (.dup, 1) := by decide +kernel
theorem dX5_init_80 : decode cX5_init 80 = .ok (.bipush 6, 2) := by decide +kernel
theorem dX5_init_82 : decode cX5_init 82 = .ok (.bipush 32, 2) := by decide +kernel
theorem dX5_init_84 : decode cX5_init 84 = .ok (.castore, 1) := by decide +kernel
theorem dX5_init_85 : decode cX5_init 85 = .ok (.dup, 1) := by decide +kernel
theorem dX5_init_86 : decode cX5_init 86 = .ok (.bipush 7, 2) := by decide +kernel
theorem dX5_init_88 : decode cX5_init 88 = .ok (.bipush 32, 2) := by decide +kernel
theorem dX5_init_90 : decode cX5_init 90 = .ok (.castore, 1) := by decide +kernel
theorem dX5_init_91 : decode cX5_init 91 = .ok (.dup, 1) := by decide +kernel
theorem dX5_init_92 : decode cX5_init 92 = .ok (.bipush 8, 2) := by decide +kernel
theorem dX5_init_94 : decode cX5_init 94 = .ok (.bipush 32, 2) := by decide +kernel
theorem dX5_init_96 : decode cX5_init 96 = .ok (.castore, 1) := by decide +kernel
theorem dX5_init_97 : decode cX5_init 97 = .ok (.dup, 1) := by decide +kernel
theorem dX5_init_98 : decode cX5_init 98 = .ok (.bipush 9, 2) := by decide +kernel
theorem dX5_init_100 : decode cX5_init 100 = .ok (.bipush 32, 2) := by decide +kernel
theorem dX5_init_102 : decode cX5_init 102 = .ok (.castore, 1) := by decide +kernel
theorem dX5_init_103 : decode cX5_init 103 = .ok (.dup, 1) := by decide +kernel
theorem dX5_init_104 : decode cX5_init 104 = .ok (.bipush 10, 2) := by decide +kernel
theorem dX5_init_106 : decode cX5_init 106 = .ok (.bipush 108, 2) := by decide +kernel
theorem dX5_init_108 : decode cX5_init 108 = .ok (.castore, 1) := by decide +kernel
theorem dX5_init_109 : decode cX5_init 109 = .ok (.dup, 1) := by decide +kernel
theorem dX5_init_110 : decode cX5_init 110 = .ok (.bipush 11, 2) := by decide +kernel
theorem dX5_init_112 : decode cX5_init 112 = .ok (.bipush 101, 2) := by decide +kernel
theorem dX5_init_114 : decode cX5_init 114 = .ok (.castore, 1) := by decide +kernel
theorem dX5_init_115 : decode cX5_init 115 = .ok (.dup, 1) := by decide +kernel
theorem dX5_init_116 : decode cX5_init 116 = .ok (.bipush 12, 2) := by decide +kernel
theorem dX5_init_118 : decode cX5_init 118 = .ok (.bipush 116, 2) := by decide +kernel
theorem dX5_init_120 : decode cX5_init 120 = .ok (.castore, 1) := by decide +kernel
theorem dX5_init_121 : decode cX5_init 121 = .ok (.dup, 1) := by decide +kernel
theorem dX5_init_122 : decode cX5_init 122 = .ok (.bipush 13, 2) := by decide +kernel
theorem dX5_init_124 : decode cX5_init 124 = .ok (.bipush 116, 2) := by decide +kernel
theorem dX5_init_126 : decode cX5_init 126 = .ok (.castore, 1) := by decide +kernel
theorem dX5_init_127 : decode cX5_init 127 = .ok (.dup, 1) := by decide +kernel
theorem dX5_init_128 : decode cX5_init 128 = .ok (.bipush 14, 2) := by decide +kernel
theorem dX5_init_130 : decode cX5_init 130 = .ok (.bipush 101, 2) := by decide +kernel
theorem dX5_init_132 : decode cX5_init 132 = .ok (.castore, 1) := by decide +kernel
theorem dX5_init_133 : decode cX5_init 133 = .ok (.dup, 1) := by decide +kernel
theorem dX5_init_134 : decode cX5_init 134 = .ok (.bipush 15, 2) := by decide +kernel
theorem dX5_init_136 : decode cX5_init 136 = .ok (.bipush 114, 2) := by decide +kernel
theorem dX5_init_138 : decode cX5_init 138 = .ok (.castore, 1) := by decide +kernel
theorem dX5_init_139 : decode cX5_init 139 = .ok (.dup, 1) := by decide +kernel
theorem dX5_init_140 : decode cX5_init 140 = .ok (.bipush 16, 2) := by decide +kernel
theorem dX5_init_142 : decode cX5_init 142 = .ok (.bipush 32, 2) := by decide +kernel
theorem dX5_init_144 : decode cX5_init 144 = .ok (.castore, 1) := by decide +kernel
theorem dX5_init_145 : decode cX5_init 145 = .ok (.dup, 1) := by decide +kernel
theorem dX5_init_146 : decode cX5_init 146 = .ok (.bipush 17, 2) := by decide +kernel
theorem dX5_init_148 : decode cX5_init 148 = .ok (.bipush 32, 2) := by decide +kernel
theorem dX5_init_150 : decode cX5_init 150 = .ok (.castore, 1) := by decide +kernel
theorem dX5_init_151 : decode cX5_init 151 = .ok (.dup, 1) := by decide +kernel
theorem dX5_init_152 : decode cX5_init 152 = .ok (.bipush 18, 2) := by decide +kernel
theorem dX5_init_154 : decode cX5_init 154 = .ok (.bipush 32, 2) := by decide +kernel
theorem dX5_init_156 : decode cX5_init 156 = .ok (.castore, 1) := by decide +kernel
theorem dX5_init_157 : decode cX5_init 157 = .ok (.dup, 1) := by decide +kernel
theorem dX5_init_158 : decode cX5_init 158 = .ok (.bipush 19, 2) := by decide +kernel
theorem dX5_init_160 : decode cX5_init 160 = .ok (.bipush 32, 2) := by decide +kernel
theorem dX5_init_162 : decode cX5_init 162 = .ok (.castore, 1) := by decide +kernel
theorem dX5_init_163 : decode cX5_init 163 = .ok (.dup, 1) := by decide +kernel
theorem dX5_init_164 : decode cX5_init 164 = .ok (.bipush 20, 2) := by decide +kernel
theorem dX5_init_166 : decode cX5_init 166 = .ok (.bipush 99, 2) := by decide +kernel
theorem dX5_init_168 : decode cX5_init 168 = .ok (.castore, 1) := by decide +kernel
theorem dX5_init_169 : decode cX5_init 169 = .ok (.dup, 1) := by decide +kernel
theorem dX5_init_170 : decode cX5_init 170 = .ok (.bipush 21, 2) := by decide +kernel
theorem dX5_init_172 : decode cX5_init 172 = .ok (.bipush 114, 2) := by decide +kernel
theorem dX5_init_174 : decode cX5_init 174 = .ok (.castore, 1) := by decide +kernel
theorem dX5_init_175 : decode cX5_init 175 = .ok (.dup, 1) := by decide +kernel
theorem dX5_init_176 : decode cX5_init 176 = .ok (.bipush 22, 2) := by decide +kernel
theorem dX5_init_178 : decode cX5_init 178 = .ok (.bipush 97, 2) := by decide +kernel
theorem dX5_init_180 : decode cX5_init 180 = .ok (.castore, 1) := by decide +kernel
theorem dX5_init_181 : decode cX5_init 181 = .ok (.dup, 1) := by decide +kernel
theorem dX5_init_182 : decode cX5_init 182 = .ok (.bipush 23, 2) := by decide +kernel
theorem dX5_init_184 : decode cX5_init 184 = .ok (.bipush 116, 2) := by decide +kernel
theorem dX5_init_186 : decode cX5_init 186 = .ok (.castore, 1) := by decide +kernel
theorem dX5_init_187 : decode cX5_init 187 = .ok (.dup, 1) := by decide +kernel
theorem dX5_init_188 : decode cX5_init 188 = .ok (.bipush 24, 2) := by decide +kernel
theorem dX5_init_190 : decode cX5_init 190 = .ok (.bipush 101, 2) := by decide +kernel
theorem dX5_init_192 : decode cX5_init 192 = .ok (.castore, 1) := by decide +kernel
theorem dX5_init_193 : decode cX5_init 193 = .ok (.dup, 1) := by decide +kernel
theorem dX5_init_194 : decode cX5_init 194 = .ok (.bipush 25, 2) := by decide +kernel
theorem dX5_init_196 : decode cX5_init 196 = .ok (.bipush 32, 2) := by decide +kernel
theorem dX5_init_198 : decode cX5_init 198 = .ok (.castore, 1) := by decide +kernel
theorem dX5_init_199 : decode cX5_init 199 = .ok (.dup, 1) := by decide +kernel
theorem dX5_init_200 : decode cX5_init 200 = .ok (.bipush 26, 2) := by decide +kernel
theorem dX5_init_202 : decode cX5_init 202 = .ok (.bipush 32, 2) := by decide +kernel
theorem dX5_init_204 : decode cX5_init 204 = .ok (.castore, 1) := by decide +kernel
theorem dX5_init_205 : decode cX5_init 205 = .ok (.dup, 1) := by decide +kernel
theorem dX5_init_206 : decode cX5_init 206 = .ok (.bipush 27, 2) := by decide +kernel
theorem dX5_init_208 : decode cX5_init 208 = .ok (.bipush 32, 2) := by decide +kernel
theorem dX5_init_210 : decode cX5_init 210 = .ok (.castore, 1) := by decide +kernel
theorem dX5_init_211 : decode cX5_init 211 = .ok (.dup, 1) := by decide +kernel
theorem dX5_init_212 : decode cX5_init 212 = .ok (.bipush 28, 2) := by decide +kernel
theorem dX5_init_214 : decode cX5_init 214 = .ok (.bipush 32, 2) := by decide +kernel
theorem dX5_init_216 : decode cX5_init 216 = .ok (.castore, 1) := by decide +kernel
theorem dX5_init_217 : decode cX5_init 217 = .ok (.dup, 1) := by decide +kernel
theorem dX5_init_218 : decode cX5_init 218 = .ok (.bipush 29, 2) := by decide +kernel
theorem dX5_init_220 : decode cX5_init 220 = .ok (.bipush 32, 2) := by decide +kernel
theorem dX5_init_222 : decode cX5_init 222 = .ok (.castore, 1) := by decide +kernel
theorem dX5_init_223 : decode cX5_init 223 = .ok (.dup, 1) := by decide +kernel
theorem dX5_init_224 : decode cX5_init 224 = .ok (.bipush 30, 2) := by decide +kernel
theorem dX5_init_226 : decode cX5_init 226 = .ok (.bipush 99, 2) := by decide +kernel
theorem dX5_init_228 : decode cX5_init 228 = .ok (.castore, 1) := by decide +kernel
theorem dX5_init_229 : decode cX5_init 229 = .ok (.dup, 1) := by decide +kernel
theorem dX5_init_230 : decode cX5_init 230 = .ok (.bipush 31, 2) := by decide +kernel
theorem dX5_init_232 : decode cX5_init 232 = .ok (.bipush 108, 2) := by decide +kernel
theorem dX5_init_234 : decode cX5_init 234 = .ok (.castore, 1) := by decide +kernel
theorem dX5_init_235 : decode cX5_init 235 = .ok (.dup, 1) := by decide +kernel
theorem dX5_init_236 : decode cX5_init 236 = .ok (.bipush 32, 2) := by decide +kernel
theorem dX5_init_238 : decode cX5_init 238 = .ok (.bipush 111, 2) := by decide +kernel
theorem dX5_init_240 : decode cX5_init 240 = .ok (.castore, 1) := by decide +kernel
theorem dX5_init_241 : decode cX5_init 241 = .ok (.dup, 1) := by decide +kernel
theorem dX5_init_242 : decode cX5_init 242 = .ok (.bipush 33, 2) := by decide +kernel
theorem dX5_init_244 : decode cX5_init 244 = .ok (.bipush 99, 2) := by decide +kernel
theorem dX5_init_246 : decode cX5_init 246 = .ok (.castore, 1) := by decide +kernel
theorem dX5_init_247 : decode cX5_init 247 = .ok (.dup, 1) := by decide +kernel
theorem dX5_init_248 : decode cX5_init 248 = .ok (.bipush 34, 2) := by decide +kernel
theorem dX5_init_250 : decode cX5_init 250 = .ok (.bipush 107, 2) := by decide +kernel
theorem dX5_init_252 : decode cX5_init 252 = .ok (.castore, 1) := by decide +kernel
theorem dX5_init_253 : decode cX5_init 253 = .ok (.dup, 1) := by decide +kernel
theorem dX5_init_254 : decode cX5_init 254 = .ok (.bipush 35, 2) := by decide +kernel
theorem dX5_init_256 : decode cX5_init 256 = .ok (.bipush 32, 2) := by decide +kernel
theorem dX5_init_258 : decode cX5_init 258 = .ok (.castore, 1) := by decide +kernel
theorem dX5_init_259 : decode cX5_init 259 = .ok (.dup, 1) := by decide +kernel
theorem dX5_init_260 : decode cX5_init 260 = .ok (.bipush 36, 2) := by decide +kernel
theorem dX5_init_262 : decode cX5_init 262 = .ok (.bipush 32, 2) := by decide +kernel
theorem dX5_init_264 : decode cX5_init 264 = .ok (.castore, 1) := by decide +kernel
theorem dX5_init_265 : decode cX5_init 265 = .ok (.dup, 1) := by decide +kernel
theorem dX5_init_266 : decode cX5_init 266 = .ok (.bipush 37, 2) := by decide +kernel
theorem dX5_init_268 : decode cX5_init 268 = .ok (.bipush 32, 2) := by decide +kernel
theorem dX5_init_270 : decode cX5_init 270 = .ok (.castore, 1) := by decide +kernel
theorem dX5_init_271 : decode cX5_init 271 = .ok (.dup, 1) := by decide +kernel
theorem dX5_init_272 : decode cX5_init 272 = .ok (.bipush 38, 2) := by decide +kernel
theorem dX5_init_274 : decode cX5_init 274 = .ok (.bipush 32, 2) := by decide +kernel
theorem dX5_init_276 : decode cX5_init 276 = .ok (.castore, 1) := by decide +kernel
theorem dX5_init_277 : decode cX5_init 277 = .ok (.dup, 1) := by decide +kernel
theorem dX5_init_278 : decode cX5_init 278 = .ok (.bipush 39, 2) := by decide +kernel
theorem dX5_init_280 : decode cX5_init 280 = .ok (.bipush 32, 2) := by decide +kernel
theorem dX5_init_282 : decode cX5_init 282 = .ok (.castore, 1) := by decide +kernel
theorem dX5_init_283 : decode cX5_init 283 = .ok (.dup, 1) := by decide +kernel
theorem dX5_init_284 : decode cX5_init 284 = .ok (.bipush 40, 2) := by decide +kernel
theorem dX5_init_286 : decode cX5_init 286 = .ok (.bipush 98, 2) := by decide +kernel
theorem dX5_init_288 : decode cX5_init 288 = .ok (.castore, 1) := by decide +kernel
theorem dX5_init_289 : decode cX5_init 289 = .ok (.dup, 1) := by decide +kernel
theorem dX5_init_290 : decode cX5_init 290 = .ok (.bipush 41, 2) := by decide +kernel
theorem dX5_init_292 : decode cX5_init 292 = .ok (.bipush 114, 2) := by decide +kernel
theorem dX5_init_294 : decode cX5_init 294 = .ok (.castore, 1) := by decide +kernel
theorem dX5_init_295 : decode cX5_init 295 = .ok (.dup, 1) := by decide +kernel
theorem dX5_init_296 : decode cX5_init 296 = .ok (.bipush 42, 2) := by decide +kernel
theorem dX5_init_298 : decode cX5_init 298 = .ok (.bipush 105, 2) := by decide +kernel
theorem dX5_init_300 : decode cX5_init 300 = .ok (.castore, 1) := by decide +kernel
theorem dX5_init_301 : decode cX5_init 301 = .ok (.dup, 1) := by decide +kernel
theorem dX5_init_302 : decode cX5_init 302 = .ok (.bipush 43, 2) := by decide +kernel
theorem dX5_init_304 : decode cX5_init 304 = .ok (.bipush 100, 2) := by decide +kernel
theorem dX5_init_306 : decode cX5_init 306 = .ok (.castore, 1) := by decide +kernel
theorem dX5_init_307 : decode cX5_init 307 = .ok (.dup, 1) := by decide +kernel
theorem dX5_init_308 : decode cX5_init 308 = .ok (.bipush 44, 2) := by decide +kernel
theorem dX5_init_310 : decode cX5_init 310 = .ok (.bipush 101, 2) := by decide +kernel
theorem dX5_init_312 : decode cX5_init 312 = .ok (.castore, 1) := by decide +kernel
theorem dX5_init_313 : decode cX5_init 313 = .ok (.dup, 1) := by decide +kernel
theorem dX5_init_314 : decode cX5_init 314 = .ok (.bipush 45, 2) := by decide +kernel
theorem dX5_init_316 : decode cX5_init 316 = .ok (.bipush 32, 2) := by decide +kernel
theorem dX5_init_318 : decode cX5_init 318 = .ok (.castore, 1) := by decide +kernel
theorem dX5_init_319 : decode cX5_init 319 = .ok (.dup, 1) := by decide +kernel
theorem dX5_init_320 : decode cX5_init 320 = .ok (.bipush 46, 2) := by decide +kernel
theorem dX5_init_322 : decode cX5_init 322 = .ok (.bipush 32, 2) := by decide +kernel
theorem dX5_init_324 : decode cX5_init 324 = .ok (.castore, 1) := by decide +kernel
theorem dX5_init_325 : decode cX5_init 325 = .ok (.dup, 1) := by decide +kernel
theorem dX5_init_326 : decode cX5_init 326 = .ok (.bipush 47, 2) := by decide +kernel
theorem dX5_init_328 : decode cX5_init 328 = .ok (.bipush 32, 2) := by decide +kernel
theorem dX5_init_330 : decode cX5_init 330 = .ok (.castore, 1) := by decide +kernel
theorem dX5_init_331 : decode cX5_init 331 = .ok (.dup, 1) := by decide +kernel
theorem dX5_init_332 : decode cX5_init 332 = .ok (.bipush 48, 2) := by decide +kernel
theorem dX5_init_334 : decode cX5_init 334 = .ok (.bipush 32, 2) := by decide +kernel
theorem dX5_init_336 : decode cX5_init 336 = .ok (.castore, 1) := by decide +kernel
theorem dX5_init_337 : decode cX5_init 337 = .ok (.dup, 1) := by decide +kernel
theorem dX5_init_338 : decode cX5_init 338 = .ok (.bipush 49, 2) := by decide +kernel
theorem dX5_init_340 : decode cX5_init 340 = .ok (.bipush 32, 2) := by decide +kernel
theorem dX5_init_342 : decode cX5_init 342 = .ok (.castore, 1) := by decide +kernel
theorem dX5_init_343 : decode cX5_init 343 = .ok (.dup, 1) := by decide +kernel
theorem dX5_init_344 : decode cX5_init 344 = .ok (.bipush 50, 2) := by decide +kernel
theorem dX5_init_346 : decode cX5_init 346 = .ok (.bipush 115, 2) := by decide +kernel
theorem dX5_init_348 : decode cX5_init 348 = .ok (.castore, 1) := by decide +kernel
theorem dX5_init_349 : decode cX5_init 349 = .ok (.dup, 1) := by decide +kernel
theorem dX5_init_350 : decode cX5_init 350 = .ok (.bipush 51, 2) := by decide +kernel
theorem dX5_init_352 : decode cX5_init 352 = .ok (.bipush 111, 2) := by decide +kernel
theorem dX5_init_354 : decode cX5_init 354 = .ok (.castore, 1) := by decide +kernel
theorem dX5_init_355 : decode cX5_init 355 = .ok (.dup, 1) := by decide +kernel
theorem dX5_init_356 : decode cX5_init 356 = .ok (.bipush 52, 2) := by decide +kernel
theorem dX5_init_358 : decode cX5_init 358 = .ok (.bipush 99, 2) := by decide +kernel
theorem dX5_init_360 : decode cX5_init 360 = .ok (.castore, 1) := by decide +kernel
theorem dX5_init_361 : decode cX5_init 361 = .ok (.dup, 1) := by decide +kernel
theorem dX5_init_362 : decode cX5_init 362 = .ok (.bipush 53, 2) := by decide +kernel
theorem dX5_init_364 : decode cX5_init 364 = .ok (.bipush 107, 2) := by decide +kernel
theorem dX5_init_366 : decode cX5_init 366 = .ok (.castore, 1) := by decide +kernel
theorem dX5_init_367 : decode cX5_init 367 = .ok (.dup, 1) := by decide +kernel
theorem dX5_init_368 : decode cX5_init 368 = .ok (.bipush 54, 2) := by decide +kernel
theorem dX5_init_370 : decode cX5_init 370 = .ok (.bipush 115, 2) := by decide +kernel
theorem dX5_init_372 : decode cX5_init 372 = .ok (.castore, 1) := by decide +kernel
theorem dX5_init_373 : decode cX5_init 373 = .ok (.dup, 1) := by decide +kernel
theorem dX5_init_374 : decode cX5_init 374 = .ok (.bipush 55, 2) := by decide +kernel
theorem dX5_init_376 : decode cX5_init 376 = .ok (.bipush 32, 2) := by decide +kernel
theorem dX5_init_378 : decode cX5_init 378 = .ok (.castore, 1) := by decide +kernel
theorem dX5_init_379 : decode cX5_init 379 = .ok (.dup, 1) := by decide +kernel
theorem dX5_init_380 : decode cX5_init 380 = .ok (.bipush 56, 2) := by decide +kernel
theorem dX5_init_382 : decode cX5_init 382 = .ok (.bipush 32, 2) := by decide +kernel
theorem dX5_init_384 : decode cX5_init 384 = .ok (.castore, 1) := by decide +kernel
theorem dX5_init_385 : decode cX5_init 385 = .ok (.dup, 1) := by decide +kernel
theorem dX5_init_386 : decode cX5_init 386 = .ok (.bipush 57, 2) := by decide +kernel
theorem dX5_init_388 : decode cX5_init 388 = .ok (.bipush 32, 2) := by decide +kernel
theorem dX5_init_390 : decode cX5_init 390 = .ok (.castore, 1) := by decide +kernel
theorem dX5_init_391 : decode cX5_init 391 = .ok (.dup, 1) := by decide +kernel
theorem dX5_init_392 : decode cX5_init 392 = .ok (.bipush 58, 2) := by decide +kernel
theorem dX5_init_394 : decode cX5_init 394 = .ok (.bipush 32, 2) := by decide +kernel
theorem dX5_init_396 : decode cX5_init 396 = .ok (.castore, 1) := by decide +kernel
theorem dX5_init_397 : decode cX5_init 397 = .ok (.dup, 1) := by decide +kernel
theorem dX5_init_398 : decode cX5_init 398 = .ok (.bipush 59, 2) := by decide +kernel
theorem dX5_init_400 : decode cX5_init 400 = .ok (.bipush 32, 2) := by decide +kernel
theorem dX5_init_402 : decode cX5_init 402 = .ok (.castore, 1) := by decide +kernel
theorem dX5_init_403 : decode cX5_init 403 = .ok (.dup, 1) := by decide +kernel
theorem dX5_init_404 : decode cX5_init 404 = .ok (.bipush 60, 2) := by decide +kernel
theorem dX5_init_406 : decode cX5_init 406 = .ok (.bipush 114, 2) := by decide +kernel
theorem dX5_init_408 : decode cX5_init 408 = .ok (.castore, 1) := by decide +kernel
theorem dX5_init_409 : decode cX5_init 409 = .ok (.dup, 1) := by decide +kernel
theorem dX5_init_410 : decode cX5_init 410 = .ok (.bipush 61, 2) := by decide +kernel
theorem dX5_init_412 : decode cX5_init 412 = .ok (.bipush 101, 2) := by decide +kernel
theorem dX5_init_414 : decode cX5_init 414 = .ok (.castore, 1) := by decide +kernel
theorem dX5_init_415 : decode cX5_init 415 = .ok (.dup, 1) := by decide +kernel
theorem dX5_init_416 : decode cX5_init 416 = .ok (.bipush 62, 2) := by decide +kernel
theorem dX5_init_418 : decode cX5_init 418 = .ok (.bipush 103, 2) := by decide +kernel
theorem dX5_init_420 : decode cX5_init 420 = .ok (.castore, 1) := by decide +kernel
theorem dX5_init_421 : decode cX5_init 421 = .ok (.dup, 1) := by decide +kernel
theorem dX5_init_422 : decode cX5_init 422 = .ok (.bipush 63, 2) := by decide +kernel
theorem dX5_init_424 : decode cX5_init 424 = .ok (.bipush 105, 2) := by decide +kernel
theorem dX5_init_426 : decode cX5_init 426 = .ok (.castore, 1) := by decide +kernel
theorem dX5_init_427 : decode cX5_init 427 = .ok (.dup, 1) := by decide +kernel
theorem dX5_init_428 : decode cX5_init 428 = .ok (.bipush 64, 2) := by decide +kernel
theorem dX5_init_430 : decode cX5_init 430 = .ok (.bipush 115, 2) := by decide +kernel
theorem dX5_init_432 : decode cX5_init 432 = .ok (.castore, 1) := by decide +kernel
theorem dX5_init_433 : decode cX5_init 433 = .ok (.dup, 1) := by decide +kernel
theorem dX5_init_434 : decode cX5_init 434 = .ok (.bipush 65, 2) := by decide +kernel
theorem dX5_init_436 : decode cX5_init 436 = .ok (.bipush 116, 2) := by decide +kernel
theorem dX5_init_438 : decode cX5_init 438 = .ok (.castore, 1) := by decide +kernel
theorem dX5_init_439 : decode cX5_init 439 = .ok (.dup, 1) := by decide +kernel
theorem dX5_init_440 : decode cX5_init 440 = .ok (.bipush 66, 2) := by decide +kernel
theorem dX5_init_442 : decode cX5_init 442 = .ok (.bipush 101, 2) := by decide +kernel
theorem dX5_init_444 : decode cX5_init 444 = .ok (.castore, 1) := by decide +kernel
theorem dX5_init_445 : decode cX5_init 445 = .ok (.dup, 1) := by decide +kernel
theorem dX5_init_446 : decode cX5_init 446 = .ok (.bipush 67, 2) := by decide +kernel
