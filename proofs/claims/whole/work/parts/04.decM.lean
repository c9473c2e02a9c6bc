theorem dX8_init_0 : decode cX8_init 0 = .ok (.aload_n 0, 1) := by decide +kernel
theorem dX8_init_1 : decode cX8_init 1 = .ok (.invokespecial 1, 3) := by decide +kernel
theorem dX8_init_4 : decode cX8_init 4 = .ok (.aload_n 0, 1) := by decide +kernel
theorem dX8_init_5 : decode cX8_init 5 = .ok (.sipush 200, 3) := by decide +kernel
theorem dX8_init_8 : decode cX8_init 8 = .ok (.newarray .int, 2) := by decide +kernel
theorem dX8_init_10 : decode cX8_init 10 = .ok (.putfield 7, 3) := by decide +kernel
theorem dX8_init_13 : decode cX8_init 13 = .ok (.aload_n 0, 1) := by decide +kernel
theorem dX8_init_14 : decode cX8_init 14 = .ok (.bipush 14, 2) := by decide +kernel
theorem dX8_init_16 : decode cX8_init 16 = .ok (.newarray .int, 2) := by decide +kernel
theorem dX8_init_18 : decode cX8_init 18 = .ok (.dup, 1) := by decide +kernel
theorem dX8_init_19 : decode cX8_init 19 = .ok (.iconst 0, 1) := by decide +kernel
theorem dX8_init_20 : decode cX8_init 20 = .ok (.iconst 0, 1) := by decide +kernel
theorem dX8_init_21 : decode cX8_init 21 = .ok (.iastore, 1) := by decide +kernel
theorem dX8_init_22 : decode cX8_init 22 = .ok (.dup, 1) := by decide +kernel
theorem dX8_init_23 : decode cX8_init 23 = .ok (.iconst 1, 1) := by decide +kernel
theorem dX8_init_24 : decode cX8_init 24 = .ok (.bipush 6, 2) := by decide +kernel
theorem dX8_init_26 : decode cX8_init 26 = .ok (.iastore, 1) := by decide +kernel
theorem dX8_init_27 : decode cX8_init 27 = .ok (.dup, 1) := by decide +kernel
theorem dX8_init_28 : decode cX8_init 28 = .ok (.iconst 2, 1) := by decide +kernel
theorem dX8_init_29 : decode cX8_init 29 = .ok (.bipush 10, 2) := by decide +kernel
theorem dX8_init_31 : decode cX8_init 31 = .ok (.iastore, 1) := by decide +kernel
theorem dX8_init_32 : decode cX8_init 32 = .ok (.dup, 1) := by decide +kernel
theorem dX8_init_33 : decode cX8_init 33 = .ok (.iconst 3, 1) := by decide +kernel
theorem dX8_init_34 : decode cX8_init 34 = .ok (.bipush 14, 2) := by decide +kernel
theorem dX8_init_36 : decode cX8_init 36 = .ok (.iastore, 1) := by decide +kernel
theorem dX8_init_37 : decode cX8_init 37 = .ok (.dup, 1) := by decide +kernel
theorem dX8_init_38 : decode cX8_init 38 = .ok (.iconst 4, 1) := by decide +kernel
theorem dX8_init_39 : decode cX8_init 39 = .ok (.bipush 17, 2) := by decide +kernel
theorem dX8_init_41 : decode cX8_init 41 = .ok (.iastore, 1) := by decide +kernel
theorem dX8_init_42 : decode cX8_init 42 = .ok (.dup, 1) := by decide +kernel
theorem dX8_init_43 : decode cX8_init 43 = .ok (.iconst 5, 1) := by decide +kernel
theorem dX8_init_44 : decode cX8_init 44 = .ok (.bipush 21, 2) := by decide +kernel
theorem dX8_init_46 : decode cX8_init 46 = .ok (.iastore, 1) := by decide +kernel
theorem dX8_init_47 : decode cX8_init 47 = .ok (.dup, 1) := by decide +kernel
theorem dX8_init_48 : decode cX8_init 48 = .ok (.bipush 6, 2) := by decide +kernel
theorem dX8_init_50 : decode cX8_init 50 = .ok (.bipush 25, 2) := by decide +kernel
theorem dX8_init_52 : decode cX8_init 52 = .ok (.iastore, 1) := by decide +kernel
theorem dX8_init_53 : decode cX8_init 53 = .ok (.dup, 1) := by decide +kernel
theorem dX8_init_54 : decode cX8_init 54 = .ok (.bipush 7, 2) := by decide +kernel
theorem dX8_init_56 : decode cX8_init 56 = .ok (.bipush 30, 2) := by decide +kernel
theorem dX8_init_58 : decode cX8_init 58 = .ok (.iastore, 1) := by decide +kernel
theorem dX8_init_59 : decode cX8_init 59 = .ok (.dup, 1) := by decide +kernel
theorem dX8_init_60 : decode cX8_init 60 = .ok (.bipush 8, 2) := by decide +kernel
theorem dX8_init_62 : decode cX8_init 62 = .ok (.bipush 34, 2) := by decide +kernel
theorem dX8_init_64 : decode cX8_init 64 = .ok (.iastore, 1) := by decide +kernel
theorem dX8_init_65 : decode cX8_init 65 = .ok (.dup, 1) := by decide +kernel
theorem dX8_init_66 : decode cX8_init 66 = .ok (.bipush 9, 2) := by decide +kernel
theorem dX8_init_68 : decode cX8_init 68 = .ok (.bipush 39, 2) := by decide +kernel
theorem dX8_init_70 : decode cX8_init 70 = .ok (.iastore, 1) := by decide +kernel
theorem dX8_init_71 : decode cX8_init 71 = .ok (.dup, 1) := by decide +kernel
theorem dX8_init_72 : decode cX8_init 72 = .ok (.bipush 10, 2) := by decide +kernel
theorem dX8_init_74 : decode cX8_init 74 = .ok (.bipush 43, 2) := by decide +kernel
theorem dX8_init_76 : decode cX8_init 76 = .ok (.iastore, 1) := by decide +kernel
theorem dX8_init_77 : decode cX8_init 77 = .ok (.dup, 1) := by decide +kernel
theorem dX8_init_78 : decode cX8_init 78 = .ok (.bipush 11, 2) := by decide +kernel
theorem dX8_init_80 : decode cX8_init 80 = .ok (.bipush 46, 2) := by decide +kernel
theorem dX8_init_82 : decode cX8_init 82 = .ok (.iastore, 1) := by decide +kernel
theorem dX8_init_83 : decode cX8_init 83 = .ok (.dup, 1) := by decide +kernel
theorem dX8_init_84 : decode cX8_init 84 = .ok (.bipush 12, 2) := by decide +kernel
theorem dX8_init_86 : decode cX8_init 86 = .ok (.bipush 51, 2) := by decide +kernel
theorem dX8_init_88 : decode cX8_init 88 = .ok (.iastore, 1) := by decide +kernel
theorem dX8_init_89 : decode cX8_init 89 = .ok (.dup, 1) := by decide +kernel
theorem dX8_init_90 : decode cX8_init 90 = .ok (.bipush 13, 2) := by decide +kernel
theorem dX8_init_92 : decode cX8_init 92 = .ok (.bipush 55, 2) := by decide +kernel
theorem dX8_init_94 : decode cX8_init 94 = .ok (.iastore, 1) := by decide +kernel
theorem dX8_init_95 : decode cX8_init 95 = .ok (.putfield 13, 3) := by decide +kernel
theorem dX8_init_98 : decode cX8_init 98 = .ok (.aload_n 0, 1) := by decide +kernel
theorem dX8_init_99 : decode cX8_init 99 = .ok (.bipush 55, 2) := by decide +kernel
theorem dX8_init_101 : decode cX8_init 101 = .ok (.newarray .int, 2) := by decide +kernel
theorem dX8_init_103 : decode cX8_init 103 = .ok (.dup, 1) := by decide +kernel
theorem dX8_init_104 : decode cX8_init 104 = .ok (.iconst 0, 1) := by decide +kernel
theorem dX8_init_105 : decode cX8_init 105 = .ok (.bipush 119, 2) := by decide +kernel
theorem dX8_init_107 : decode cX8_init 107 = .ok (.iastore, 1) := by decide +kernel
theorem dX8_init_108 : decode cX8_init 108 = .ok (.dup, 1) := by decide +kernel
theorem dX8_init_109 : decode cX8_init 109 = .ok (.iconst 1, 1) := by decide +kernel
theorem dX8_init_110 : decode cX8_init 110 = .ok (.bipush 101, 2) := by decide +kernel
theorem dX8_init_112 : decode cX8_init 112 = .ok (.iastore, 1) := by decide +kernel
theorem dX8_init_113 : decode cX8_init 113 = .ok (.dup, 1) := by decide +kernel
theorem dX8_init_114 : decode cX8_init 114 = .ok (.iconst 2, 1) := by decide +kernel
theorem dX8_init_115 : decode cX8_init 115 = .ok (.bipush 105, 2) := by decide +kernel
theorem dX8_init_117 : decode cX8_init 117 = .ok (.iastore, 1) := by decide +kernel
theorem dX8_init_118 : decode cX8_init 118 = .ok (.dup, 1) := by decide +kernel
theorem dX8_init_119 : decode cX8_init 119 = .ok (.iconst 3, 1) := by decide +kernel
theorem dX8_init_120 : decode cX8_init 120 = .ok (.bipush 103, 2) := by decide +kernel
theorem dX8_init_122 : decode cX8_init 122 = .ok (.iastore, 1) := by decide +kernel
theorem dX8_init_123 : decode cX8_init 123 = .ok (.dup, 1) := by decide +kernel
theorem dX8_init_124 : decode cX8_init 124 = .ok (.iconst 4, 1) := by decide +kernel
theorem dX8_init_125 : decode cX8_init 125 = .ok (.bipush 104, 2) := by decide +kernel
theorem dX8_init_127 : decode cX8_init 127 = .ok (.iastore, 1) := by decide +kernel
theorem dX8_init_128 : decode cX8_init 128 = .ok (.dup, 1) := by decide +kernel
theorem dX8_init_129 : decode cX8_init 129 = .ok (.iconst 5, 1) := by decide +kernel
theorem dX8_init_130 : decode cX8_init 130 = .ok (.bipush 116, 2) := by decide +kernel
theorem dX8_init_132 : decode cX8_init 132 = .ok (.iastore, 1) := by decide +kernel
theorem dX8_init_133 : decode cX8_init 133 = .ok (.dup, 1) := by decide +kernel
theorem dX8_init_134 : decode cX8_init 134 = .ok (.bipush 6, 2) := by decide +kernel
theorem dX8_init_136 : decode cX8_init 136 = .ok (.bipush 98, 2) := by decide +kernel
theorem dX8_init_138 : decode cX8_init 138 = .ok (.iastore, 1) := by decide +kernel
theorem dX8_init_139 : decode cX8_init 139 = .ok (.dup, 1) := by decide +kernel
theorem dX8_init_140 : decode cX8_init 140 = .ok (.bipush 7, 2) := by decide +kernel
theorem dX8_init_142 : decode cX8_init 142 = .ok (.bipush 101, 2) := by decide +kernel
theorem dX8_init_144 : decode cX8_init 144 = .ok (.iastore, 1) := by decide +kernel
theorem dX8_init_145 : decode cX8_init 145 = .ok (.dup, 1) := by decide +kernel
theorem dX8_init_146 : decode cX8_init 146 = .ok (.bipush 8, 2) := by decide +kernel
theorem dX8_init_148 : decode cX8_init 148 = .ok (.bipush 110, 2) := by decide +kernel
theorem dX8_init_150 : decode cX8_init 150 = .ok (.iastore, 1) := by decide +kernel
theorem dX8_init_151 : decode cX8_init 151 = .ok (.dup, 1) := by decide +kernel
theorem dX8_init_152 : decode cX8_init 152 = .ok (.bipush 9, 2) := by decide +kernel
theorem dX8_init_154 : decode cX8_init 154 = .ok (.bipush 100, 2) := by decide +kernel
theorem dX8_init_156 : decode cX8_init 156 = .ok (.iastore, 1) := by decide +kernel
theorem dX8_init_157 : decode cX8_init 157 = .ok (.dup, 1) := by decide +kernel
theorem dX8_init_158 : decode cX8_init 158 = .ok (.bipush 10, 2) := by decide +kernel
theorem dX8_init_160 : decode cX8_init 160 = .ok (.bipush 114, 2) := by decide +kernel
theorem dX8_init_162 : decode cX8_init 162 = .ok (.iastore, 1) := by decide +kernel
theorem dX8_init_163 : decode cX8_init 163 = .ok (.dup, 1) := by decide +kernel
theorem dX8_init_164 : decode cX8_init 164 = .ok (.bipush 11, 2) := by decide +kernel
theorem dX8_init_166 : decode cX8_init 166 = .ok (.bipush 105, 2) := by decide +kernel
theorem dX8_init_168 : decode cX8_init 168 = .ok (.iastore, 1) := by decide +kernel
theorem dX8_init_169 : decode cX8_init 169 = .ok (.dup, 1) := by decide +kernel
theorem dX8_init_170 : decode cX8_init 170 = .ok (.bipush 12, 2) := by decide +kernel
theorem dX8_init_172 : decode cX8_init 172 = .ok (.bipush 115, 2) := by decide +kernel
theorem dX8_init_174 : decode cX8_init 174 = .ok (.iastore, 1) := by decide +kernel
theorem dX8_init_175 : decode cX8_init 175 = .ok (.dup, 1) := by decide +kernel
theorem dX8_init_176 : decode cX8_init 176 = .ok (.bipush 13, 2) := by decide +kernel
theorem dX8_init_178 : decode cX8_init 178 = .ok (.bipush 101, 2) := by decide +kernel
theorem dX8_init_180 : decode cX8_init 180 = .ok (.iastore, 1) := by decide +kernel
theorem dX8_init_181 : decode cX8_init 181 = .ok (.dup, 1) := by decide +kernel
theorem dX8_init_182 : decode cX8_init 182 = .ok (.bipush 14, 2) := by decide +kernel
theorem dX8_init_184 : decode cX8_init 184 = .ok (.bipush 114, 2) := by decide +kernel
theorem dX8_init_186 : decode cX8_init 186 = .ok (.iastore, 1) := by decide +kernel
theorem dX8_init_187 : decode cX8_init 187 = .ok (.dup, 1) := by decide +kernel
theorem dX8_init_188 : decode cX8_init 188 = .ok (.bipush 15, 2) := by decide +kernel
theorem dX8_init_190 : decode cX8_init 190 = .ok (.bipush 117, 2) := by decide +kernel
theorem dX8_init_192 : decode cX8_init 192 = .ok (.iastore, 1) := by decide +kernel
theorem dX8_init_193 : decode cX8_init 193 = .ok (.dup, 1) := by decide +kernel
theorem dX8_init_194 : decode cX8_init 194 = .ok (.bipush 16, 2) := by decide +kernel
theorem dX8_init_196 : decode cX8_init 196 = .ok (.bipush 110, 2) := by decide +kernel
theorem dX8_init_198 : decode cX8_init 198 = .ok (.iastore, 1) := by decide +kernel
theorem dX8_init_199 : decode cX8_init 199 = .ok (.dup, 1) := by decide +kernel
theorem dX8_init_200 : decode cX8_init 200 = .ok (.bipush 17, 2) := by decide +kernel
theorem dX8_init_202 : decode cX8_init 202 = .ok (.bipush 102, 2) := by decide +kernel
theorem dX8_init_204 : decode cX8_init 204 = .ok (.iastore, 1) := by decide +kernel
theorem dX8_init_205 : decode cX8_init 205 = .ok (.dup, 1) := by decide +kernel
theorem dX8_init_206 : decode cX8_init 206 = .ok (.bipush 18, 2) := by decide +kernel
theorem dX8_init_208 : decode cX8_init 208 = .ok (.bipush 97, 2) := by decide +kernel
theorem dX8_init_210 : decode cX8_init 210 = .ok (.iastore, 1) := by decide +kernel
theorem dX8_init_211 : decode cX8_init 211 = .ok (.dup, 1) := by decide +kernel
theorem dX8_init_212 : decode cX8_init 212 = .ok (.bipush 19, 2) := by decide +kernel
theorem dX8_init_214 : decode cX8_init 214 = .ok (.bipush 108, 2) := by decide +kernel
theorem dX8_init_216 : decode cX8_init 216 = .ok (.iastore, 1) := by decide +kernel
theorem dX8_init_217 : decode cX8_init 217 = .ok (.dup, 1) := by decide +kernel
theorem dX8_init_218 : decode cX8_init 218 = .ok (.bipush 20, 2) := by decide +kernel
theorem dX8_init_220 : decode cX8_init 220 = .ok (.bipush 108, 2) := by decide +kernel
theorem dX8_init_222 : decode cX8_init 222 = .ok (.iastore, 1) := by decide +kernel
theorem dX8_init_223 : decode cX8_init 223 = .ok (.dup, 1) := by decide +kernel
theorem dX8_init_224 : decode cX8_init 224 = .ok (.bipush 21, 2) := by decide +kernel
theorem dX8_init_226 : decode cX8_init 226 = .ok (.bipush 109, 2) := by decide +kernel
theorem dX8_init_228 : decode cX8_init 228 = .ok (.iastore, 1) := by decide +kernel
theorem dX8_init_229 : decode cX8_init 229 = .ok (.dup, 1) := by decide +kernel
theorem dX8_init_230 : decode cX8_init 230 = .ok (.bipush 22, 2) := by decide +kernel
theorem dX8_init_232 : decode cX8_init 232 = .ok (.bipush 97, 2) := by decide +kernel
theorem dX8_init_234 : decode cX8_init 234 = .ok (.iastore, 1) := by decide +kernel
theorem dX8_init_235 : decode cX8_init 235 = .ok (.dup, 1) := by decide +kernel
theorem dX8_init_236 : decode cX8_init 236 = .ok (.bipush 23, 2) := by decide +kernel
theorem dX8_init_238 : decode cX8_init 238 = .ok (.bipush 114, 2) := by decide +kernel
theorem dX8_init_240 : decode cX8_init 240 = .ok (.iastore, 1) := by decide +kernel
theorem dX8_init_241 : decode cX8_init 241 = .ok (.dup, 1) := by decide +kernel
theorem dX8_init_242 : decode cX8_init 242 = .ok (.bipush 24, 2) := by decide +kernel
theorem dX8_init_244 : decode cX8_init 244 = .ok (.bipush 107, 2) := by decide +kernel
theorem dX8_init_246 : decode cX8_init 246 = .ok (.iastore, 1) := by decide +kernel
theorem dX8_init_247 : decode cX8_init 247 = .ok (.dup, 1) := by decide +kernel
theorem dX8_init_248 : decode cX8_init 248 = .ok (.bipush 25, 2) := by decide +kernel
theorem dX8_init_250 : decode cX8_init 250 = .ok (.bipush 115, 2) := by decide +kernel
theorem dX8_init_252 : decode cX8_init 252 = .ok (.iastore, 1) := by decide +kernel
theorem dX8_init_253 : decode cX8_init 253 = .ok (.dup, 1) := by decide +kernel
theorem dX8_init_254 : decode cX8_init 254 = .ok (.bipush 26, 2) := by decide +kernel
theorem dX8_init_256 : decode cX8_init 256 = .ok (.bipush 116, 2) := by decide +kernel
theorem dX8_init_258 : decode cX8_init 258 = .ok (.iastore, 1) := by decide +kernel
theorem dX8_init_259 : decode cX8_init 259 = .ok (.dup, 1) := by decide +kernel
theorem dX8_init_260 : decode cX8_init 260 = .ok (.bipush 27, 2) := by decide +kernel
theorem dX8_init_262 : decode cX8_init 262 = .ok (.bipush 97, 2) := by decide +kernel
theorem dX8_init_264 : decode cX8_init 264 = .ok (.iastore, 1) := by decide +kernel
theorem dX8_init_265 : decode cX8_init 265 = .ok (.dup, 1) := by decide +kernel
theorem dX8_init_266 : decode cX8_init 266 = .ok (.bipush 28, 2) := by decide +kernel
theorem dX8_init_268 : decode cX8_init 268 = .ok (.bipush 110, 2) := by decide +kernel
theorem dX8_init_270 : decode cX8_init 270 = .ok (.iastore, 1) := by decide +kernel
theorem dX8_init_271 : decode cX8_init 271 = .ok (.dup, 1) := by decide +kernel
theorem dX8_init_272 : decode cX8_init 272 = .ok (.bipush 29, 2) := by decide +kernel
theorem dX8_init_274 : decode cX8_init 274 = .ok (.bipush 100, 2) := by decide +kernel
theorem dX8_init_276 : decode cX8_init 276 = .ok (.iastore, 1) := by decide +kernel
theorem dX8_init_277 : decode cX8_init 277 = .ok (.dup, 1) := by decide +kernel
theorem dX8_init_278 : decode cX8_init 278 = .ok (.bipush 30, 2) := by decide +kernel
theorem dX8_init_280 : decode cX8_init 280 = .ok (.bipush 110, 2) := by decide +kernel
theorem dX8_init_282 : decode cX8_init 282 = .ok (.iastore, 1) := by decide +kernel
theorem dX8_init_283 : decode cX8_init 283 = .ok (.dup, 1) := by decide +kernel
theorem dX8_init_284 : decode cX8_init 284 = .ok (.bipush 31, 2) := by decide +kernel
theorem dX8_init_286 : decode cX8_init 286 = .ok (.bipush 101, 2) := by decide +kernel
theorem dX8_init_288 : decode cX8_init 288 = .ok (.iastore, 1) := by decide +kernel
theorem dX8_init_289 : decode cX8_init 289 = .ok (.dup, 1) := by decide +kernel
theorem dX8_init_290 : decode cX8_init 290 = .ok (.bipush 32, 2) := by decide +kernel
theorem dX8_init_292 : decode cX8_init 292 = .ok (.bipush 97, 2) := by decide +kernel
theorem dX8_init_294 : decode cX8_init 294 = .ok (.iastore, 1) := by decide +kernel
theorem dX8_init_295 : decode cX8_init 295 = .ok (.dup, 1) := by decide +kernel
theorem dX8_init_296 : decode cX8_init 296 = .ok (.bipush 33, 2) := by decide +kernel
theorem dX8_init_298 : decode cX8_init 298 = .ok (.bipush 114, 2) := by decide +kernel
theorem dX8_init_300 : decode cX8_init 300 = .ok (.iastore, 1) := by decide +kernel
theorem dX8_init_301 : decode cX8_init 301 = .ok (.dup, 1) := by decide +kernel
theorem dX8_init_302 : decode cX8_init 302 = .ok (.bipush 34, 2) := by decide +kernel
theorem dX8_init_304 : decode cX8_init 304 = .ok (.bipush 113, 2) := by decide +kernel
theorem dX8_init_306 : decode cX8_init 306 = .ok (.iastore, 1) := by decide +kernel
theorem dX8_init_307 : decode cX8_init 307 = .ok (.dup, 1) := by decide +kernel
theorem dX8_init_308 : decode cX8_init 308 = .ok (.bipush 35, 2) := by decide +kernel
theorem dX8_init_310 : decode cX8_init 310 = .ok (.bipush 117, 2) := by decide +kernel
theorem dX8_init_312 : decode cX8_init 312 = .ok (.iastore, 1) := by decide +kernel
theorem dX8_init_313 : decode cX8_init 313 = .ok (.dup, 1) := by decide +kernel
theorem dX8_init_314 : decode cX8_init 314 = .ok (.bipush 36, 2) := by decide +kernel
theorem dX8_init_316 : decode cX8_init 316 = .ok (.bipush 105, 2) := by decide +kernel
theorem dX8_init_318 : decode cX8_init 318 = .ok (.iastore, 1) := by decide +kernel
theorem dX8_init_319 : decode cX8_init 319 = .ok (.dup, 1) := by decide +kernel
theorem dX8_init_320 : decode cX8_init 320 = .ok (.bipush 37, 2) := by decide +kernel
theorem dX8_init_322 : decode cX8_init 322 = .ok (.bipush 99, 2) := by decide +kernel
theorem dX8_init_324 : decode cX8_init 324 = .ok (.iastore, 1) := by decide +kernel
theorem dX8_init_325 : decode cX8_init 325 = .ok (.dup, 1) := by decide +kernel
theorem dX8_init_326 : decode cX8_init 326 = .ok (.bipush 38, 2) := by decide +kernel
theorem dX8_init_328 : decode cX8_init 328 = .ok (.bipush 107, 2) := by decide +kernel
theorem dX8_init_330 : decode cX8_init 330 = .ok (.iastore, 1) := by decide +kernel
theorem dX8_init_331 : decode cX8_init 331 = .ok (.dup, 1) := by decide +kernel
theorem dX8_init_332 : decode cX8_init 332 = .ok (.bipush 39, 2) := by decide +kernel
theorem dX8_init_334 : decode cX8_init 334 = .ok (.bipush 102, 2) := by decide +kernel
theorem dX8_init_336 : decode cX8_init 336 = .ok (.iastore, 1) := by decide +kernel
theorem dX8_init_337 : decode cX8_init 337 = .ok (.dup, 1) := by decide +kernel
theorem dX8_init_338 : decode cX8_init 338 = .ok (.bipush 40, 2) := by decide +kernel
theorem dX8_init_340 : decode cX8_init 340 = .ok (.bipush 101, 2) := by decide +kernel
theorem dX8_init_342 : decode cX8_init 342 = .ok (.iastore, 1) := by decide +kernel
theorem dX8_init_343 : decode cX8_init 343 = .ok (.dup, 1) := by decide +kernel
theorem dX8_init_344 : decode cX8_init 344 = .ok (.bipush 41, 2) := by decide +kernel
theorem dX8_init_346 : decode cX8_init 346 = .ok (.bipush 101, 2) := by decide +kernel
theorem dX8_init_348 : decode cX8_init 348 = .ok (.iastore, 1) := by decide +kernel
theorem dX8_init_349 : decode cX8_init 349 = .ok (.dup, 1) := by decide +kernel
theorem dX8_init_350 : decode cX8_init 350 = .ok (.bipush 42, 2) := by decide +kernel
theorem dX8_init_352 : decode cX8_init 352 = .ok (.bipush 116, 2) := by decide +kernel
theorem dX8_init_354 : decode cX8_init 354 = .ok (.iastore, 1) := by decide +kernel
theorem dX8_init_355 : decode cX8_init 355 = .ok (.dup, 1) := by decide +kernel
theorem dX8_init_356 : decode cX8_init 356 = .ok (.bipush 43, 2) := by decide +kernel
theorem dX8_init_358 : decode cX8_init 358 = .ok (.bipush 112, 2) := by decide +kernel
theorem dX8_init_360 : decode cX8_init 360 = .ok (.iastore, 1) := by decide +kernel
theorem dX8_init_361 : decode cX8_init 361 = .ok (.dup, 1) := by decide +kernel
theorem dX8_init_362 : decode cX8_init 362 = .ok (.bipush 44, 2) := by decide +kernel
theorem dX8_init_364 : decode cX8_init 364 = .ok (.bipush 105, 2) := by decide +kernel
theorem dX8_init_366 : decode cX8_init 366 = .ok (.iastore, 1) := by decide +kernel
theorem dX8_init_367 : decode cX8_init 367 = .ok (.dup, 1) := by decide +kernel
theorem dX8_init_368 : decode cX8_init 368 = .ok (.bipush 45, 2) := by decide +kernel
theorem dX8_init_370 : decode cX8_init 370 = .ok (.bipush 116, 2) := by decide +kernel
theorem dX8_init_372 : decode cX8_init 372 = .ok (.iastore, 1) := by decide +kernel
theorem dX8_init_373 : decode cX8_init 373 = .ok (.dup, 1) := by decide +kernel
theorem dX8_init_374 : decode cX8_init 374 = .ok (.bipush 46, 2) := by decide +kernel
theorem dX8_init_376 : decode cX8_init 376 = .ok (.bipush 104, 2) := by decide +kernel
theorem dX8_init_378 : decode cX8_init 378 = .ok (.iastore, 1) := by decide +kernel
theorem dX8_init_379 : decode cX8_init 379 = .ok (.dup, 1) := by decide +kernel
theorem dX8_init_380 : decode cX8_init 380 = .ok (.bipush 47, 2) := by decide +kernel
theorem dX8_init_382 : decode cX8_init 382 = .ok (.bipush 97, 2) := by decide +kernel
theorem dX8_init_384 : decode cX8_init 384 = .ok (.iastore, 1) := by decide +kernel
theorem dX8_init_385 : decode cX8_init 385 = .ok (.dup, 1) := by decide +kernel
theorem dX8_init_386 : decode cX8_init 386 = .ok (.bipush 48, 2) := by decide +kernel
theorem dX8_init_388 : decode cX8_init 388 = .ok (.bipush 98, 2) := by decide +kernel
theorem dX8_init_390 : decode cX8_init 390 = .ok (.iastore, 1) := by decide +kernel
theorem dX8_init_391 : decode cX8_init 391 = .ok (.dup, 1) := by decide +kernel
theorem dX8_init_392 : decode cX8_init 392 = .ok (.bipush 49, 2) := by decide +kernel
theorem dX8_init_394 : decode cX8_init 394 = .ok (.bipush 105, 2) := by decide +kernel
theorem dX8_init_396 : decode cX8_init 396 = .ok (.iastore, 1) := by decide +kernel
theorem dX8_init_397 : decode cX8_init 397 = .ok (.dup, 1) := by decide +kernel
theorem dX8_init_398 : decode cX8_init 398 = .ok (.bipush 50, 2) := by decide +kernel
theorem dX8_init_400 : decode cX8_init 400 = .ok (.bipush 116, 2) := by decide +kernel
theorem dX8_init_402 : decode cX8_init 402 = .ok (.iastore, 1) := by decide +kernel
theorem dX8_init_403 : decode cX8_init 403 = .ok (.dup, 1) := by decide +kernel
theorem dX8_init_404 : decode cX8_init 404 = .ok (.bipush 51, 2) := by decide +kernel
theorem dX8_init_406 : decode cX8_init 406 = .ok (.bipush 115, 2) := by decide +kernel
theorem dX8_init_408 : decode cX8_init 408 = .ok (.iastore, 1) := by decide +kernel
theorem dX8_init_409 : decode cX8_init 409 = .ok (.dup, 1) := by decide +kernel
theorem dX8_init_410 : decode cX8_init 410 = .ok (.bipush 52, 2) := by decide +kernel
theorem dX8_init_412 : decode cX8_init 412 = .ok (.bipush 101, 2) := by decide +kernel
theorem dX8_init_414 : decode cX8_init 414 = .ok (.iastore, 1) := by decide +kernel
theorem dX8_init_415 : decode cX8_init 415 = .ok (.dup, 1) := by decide +kernel
theorem dX8_init_416 : decode cX8_init 416 = .ok (.bipush 53, 2) := by decide +kernel
theorem dX8_init_418 : decode cX8_init 418 = .ok (.bipush 101, 2) := by decide +kernel
theorem dX8_init_420 : decode cX8_init 420 = .ok (.iastore, 1) := by decide +kernel
theorem dX8_init_421 : decode cX8_init 421 = .ok (.dup, 1) := by decide +kernel
theorem dX8_init_422 : decode cX8_init 422 = .ok (.bipush 54, 2) := by decide +kernel
theorem dX8_init_424 : decode cX8_init 424 = .ok (.bipush 110, 2) := by decide +kernel
theorem dX8_init_426 : decode cX8_init 426 = .ok (.iastore, 1) := by decide +kernel
theorem dX8_init_427 : decode cX8_init 427 = .ok (.putfield 16, 3) := by decide +kernel
theorem dX8_init_430 : decode cX8_init 430 = .ok (.aload_n 0, 1) := by decide +kernel
theorem dX8_init_431 : decode cX8_init 431 = .ok (.bipush 18, 2) := by decide +kernel
theorem dX8_init_433 : decode cX8_init 433 = .ok (.newarray .int, 2) := by decide +kernel
theorem dX8_init_435 : decode cX8_init 435 = .ok (.dup, 1) := by decide +kernel
theorem dX8_init_436 : decode cX8_init 436 = .ok (.iconst 0, 1) := by decide +kernel
theorem dX8_init_437 : decode cX8_init 437 = .ok (.iconst 5, 1) := by decide +kernel
theorem dX8_init_438 : decode cX8_init 438 = .ok (.iastore, 1) := by decide +kernel
theorem dX8_init_439 : decode cX8_init 439 = .ok (.dup, 1) := by decide +kernel
theorem dX8_init_440 : decode cX8_init 440 = .ok (.iconst 1, 1) := by decide +kernel
theorem dX8_init_441 : decode cX8_init 441 = .ok (.iconst 5, 1) := by decide +kernel
theorem dX8_init_442 : decode cX8_init 442 = .ok (.iastore, 1) := by decide +kernel
theorem dX8_init_443 : decode cX8_init 443 = .ok (.dup, 1) := by decide +kernel
theorem dX8_init_444 : decode cX8_init 444 = .ok (.iconst 2, 1) := by decide +kernel
theorem dX8_init_445 : decode cX8_init 445 = .ok (.iconst 5, 1) := by decide +kernel
theorem dX8_init_446 : decode cX8_init 446 = .ok (.iastore, 1) := by decide +kernel
theorem dX8_init_447 : decode cX8_init 447 = .ok (.dup, 1) := by decide +kernel
theorem dX8_init_448 : decode cX8_init 448 = .ok (.iconst 3, 1) := by decide +kernel
theorem dX8_init_449 : decode cX8_init 449 = .ok (.iconst 5, 1) := by decide +kernel
theorem dX8_init_450 : decode cX8_init 450 = .ok (.iastore, 1) := by decide +kernel
theorem dX8_init_451 : decode cX8_init 451 = .ok (.dup, 1) := by decide +kernel
theorem dX8_init_452 : decode cX8_init 452 = .ok (.iconst 4, 1) := by decide +kernel
theorem dX8_init_453 : decode cX8_init 453 = .ok (.bipush 9, 2) := by decide +kernel
theorem dX8_init_455 : decode cX8_init 455 = .ok (.iastore, 1) := by decide +kernel
theorem dX8_init_456 : decode cX8_init 456 = .ok (.dup, 1) := by decide +kernel
theorem dX8_init_457 : decode cX8_init 457 = .ok (.iconst 5, 1) := by decide +kernel
theorem dX8_init_458 : decode cX8_init 458 = .ok (.bipush 9, 2) := by decide +kernel
theorem dX8_init_460 : decode cX8_init 460 = .ok (.iastore, 1) := by decide +kernel
theorem dX8_init_461 : decode cX8_init 461 = .ok (.dup, 1) := by decide +kernel
theorem dX8_init_462 : decode cX8_init 462 = .ok (.bipush 6, 2) := by decide +kernel
theorem dX8_init_464 : decode cX8_init 464 = .ok (.bipush 9, 2) := by decide +kernel
theorem dX8_init_466 : decode cX8_init 466 = .ok (.iastore, 1) := by decide +kernel
theorem dX8_init_467 : decode cX8_init 467 = .ok (.dup, 1) := by decide +kernel
theorem dX8_init_468 : decode cX8_init 468 = .ok (.bipush 7, 2) := by decide +kernel
theorem dX8_init_470 : decode cX8_init 470 = .ok (.bipush 20, 2) := by decide +kernel
theorem dX8_init_472 : decode cX8_init 472 = .ok (.iastore, 1) := by decide +kernel
theorem dX8_init_473 : decode cX8_init 473 = .ok (.dup, 1) := by decide +kernel
theorem dX8_init_474 : decode cX8_init 474 = .ok (.bipush 8, 2) := by decide +kernel
theorem dX8_init_476 : decode cX8_init 476 = .ok (.iconst 5, 1) := by decide +kernel
theorem dX8_init_477 : decode cX8_init 477 = .ok (.iastore, 1) := by decide +kernel
theorem dX8_init_478 : decode cX8_init 478 = .ok (.dup, 1) := by decide +kernel
theorem dX8_init_479 : decode cX8_init 479 = .ok (.bipush 9, 2) := by decide +kernel
theorem dX8_init_481 : decode cX8_init 481 = .ok (.iconst 2, 1) := by decide +kernel
theorem dX8_init_482 : decode cX8_init 482 = .ok (.iastore, 1) := by decide +kernel
theorem dX8_init_483 : decode cX8_init 483 = .ok (.dup, 1) := by decide +kernel
theorem dX8_init_484 : decode cX8_init 484 = .ok (.bipush 10, 2) := by decide +kernel
theorem dX8_init_486 : decode cX8_init 486 = .ok (.bipush 15, 2) := by decide +kernel
theorem dX8_init_488 : decode cX8_init 488 = .ok (.iastore, 1) := by decide +kernel
theorem dX8_init_489 : decode cX8_init 489 = .ok (.dup, 1) := by decide +kernel
theorem dX8_init_490 : decode cX8_init 490 = .ok (.bipush 11, 2) := by decide +kernel
theorem dX8_init_492 : decode cX8_init 492 = .ok (.bipush 10, 2) := by decide +kernel
theorem dX8_init_494 : decode cX8_init 494 = .ok (.iastore, 1) := by decide +kernel
theorem dX8_init_495 : decode cX8_init 495 = .ok (.dup, 1) := by decide +kernel
theorem dX8_init_496 : decode cX8_init 496 = .ok (.bipush 12, 2) := by decide +kernel
theorem dX8_init_498 : decode cX8_init 498 = .ok (.iconst 2, 1) := by decide +kernel
theorem dX8_init_499 : decode cX8_init 499 = .ok (.iastore, 1) := by decide +kernel
theorem dX8_init_500 : decode cX8_init 500 = .ok (.dup, 1) := by decide +kernel
theorem dX8_init_501 : decode cX8_init 501 = .ok (.bipush 13, 2) := by decide +kernel
theorem dX8_init_503 : decode cX8_init 503 = .ok (.bipush 6, 2) := by decide +kernel
theorem dX8_init_505 : decode cX8_init 505 = .ok (.iastore, 1) := by decide +kernel
theorem dX8_init_506 : decode cX8_init 506 = .ok (.dup, 1) := by decide +kernel
theorem dX8_init_507 : decode cX8_init 507 = .ok (.bipush 14, 2) := by decide +kernel
theorem dX8_init_509 : decode cX8_init 509 = .ok (.iconst 1, 1) := by decide +kernel
theorem dX8_init_510 : decode cX8_init 510 = .ok (.iastore, 1) := by decide +kernel
theorem dX8_init_511 : decode cX8_init 511 = .ok (.dup, 1) := by decide +kernel
theorem dX8_init_512 : decode cX8_init 512 = .ok (.bipush 15, 2) := by decide +kernel
theorem dX8_init_514 : decode cX8_init 514 = .ok (.iconst 0, 1) := by decide +kernel
theorem dX8_init_515 : decode cX8_init 515 = .ok (.iastore, 1) := by decide +kernel
theorem dX8_init_516 : decode cX8_init 516 = .ok (.dup, 1) := by decide +kernel
theorem dX8_init_517 : decode cX8_init 517 = .ok (.bipush 16, 2) := by decide +kernel
theorem dX8_init_519 : decode cX8_init 519 = .ok (.iconst 0, 1) := by decide +kernel
theorem dX8_init_520 : decode cX8_init 520 = .ok (.iastore, 1) := by decide +kernel
theorem dX8_init_521 : decode cX8_init 521 = .ok (.dup, 1) := by decide +kernel
theorem dX8_init_522 : decode cX8_init 522 = .ok (.bipush 17, 2) := by decide +kernel
theorem dX8_init_524 : decode cX8_init 524 = .ok (.iconst 1, 1) := by decide +kernel
theorem dX8_init_525 : decode cX8_init 525 = .ok (.iastore, 1) := by decide +kernel
theorem dX8_init_526 : decode cX8_init 526 = .ok (.putfield 19, 3) := by decide +kernel
theorem dX8_init_529 : decode cX8_init 529 = .ok (.aload_n 0, 1) := by decide +kernel
theorem dX8_init_530 : decode cX8_init 530 = .ok (.bipush 18, 2) := by decide +kernel
theorem dX8_init_532 : decode cX8_init 532 = .ok (.newarray .int, 2) := by decide +kernel
theorem dX8_init_534 : decode cX8_init 534 = .ok (.dup, 1) := by decide +kernel
theorem dX8_init_535 : decode cX8_init 535 = .ok (.iconst 0, 1) := by decide +kernel
theorem dX8_init_536 : decode cX8_init 536 = .ok (.iconst 1, 1) := by decide +kernel
theorem dX8_init_537 : decode cX8_init 537 = .ok (.iastore, 1) := by decide +kernel
theorem dX8_init_538 : decode cX8_init 538 = .ok (.dup, 1) := by decide +kernel
theorem dX8_init_539 : decode cX8_init 539 = .ok (.iconst 1, 1) := by decide +kernel
theorem dX8_init_540 : decode cX8_init 540 = .ok (.iconst 1, 1) := by decide +kernel
theorem dX8_init_541 : decode cX8_init 541 = .ok (.iastore, 1) := by decide +kernel
theorem dX8_init_542 : decode cX8_init 542 = .ok (.dup, 1) := by decide +kernel
theorem dX8_init_543 : decode cX8_init 543 = .ok (.iconst 2, 1) := by decide +kernel
theorem dX8_init_544 : decode cX8_init 544 = .ok (.iconst 1, 1) := by decide +kernel
theorem dX8_init_545 : decode cX8_init 545 = .ok (.iastore, 1) := by decide +kernel
theorem dX8_init_546 : decode cX8_init 546 = .ok (.dup, 1) := by decide +kernel
theorem dX8_init_547 : decode cX8_init 547 = .ok (.iconst 3, 1) := by decide +kernel
theorem dX8_init_548 : decode cX8_init 548 = .ok (.iconst 1, 1) := by decide +kernel
theorem dX8_init_549 : decode cX8_init 549 = .ok (.iastore, 1) := by decide +kernel
theorem dX8_init_550 : decode cX8_init 550 = .ok (.dup, 1) := by decide +kernel
theorem dX8_init_551 : decode cX8_init 551 = .ok (.iconst 4, 1) := by decide +kernel
theorem dX8_init_552 : decode cX8_init 552 = .ok (.iconst 1, 1) := by decide +kernel
theorem dX8_init_553 : decode cX8_init 553 = .ok (.iastore, 1) := by decide +kernel
theorem dX8_init_554 : decode cX8_init 554 = .ok (.dup, 1) := by decide +kernel
theorem dX8_init_555 : decode cX8_init 555 = .ok (.iconst 5, 1) := by decide +kernel
theorem dX8_init_556 : decode cX8_init 556 = .ok (.iconst 1, 1) := by decide +kernel
theorem dX8_init_557 : decode cX8_init 557 = .ok (.iastore, 1) := by decide +kernel
theorem dX8_init_558 : decode cX8_init 558 = .ok (.dup, 1) := by decide +kernel
theorem dX8_init_559 : decode cX8_init 559 = .ok (.bipush 6, 2) := by decide +kernel
theorem dX8_init_561 : decode cX8_init 561 = .ok (.iconst 1, 1) := by decide +kernel
theorem dX8_init_562 : decode cX8_init 562 = .ok (.iastore, 1) := by decide +kernel
theorem dX8_init_563 : decode cX8_init 563 = .ok (.dup, 1) := by decide +kernel
theorem dX8_init_564 : decode cX8_init 564 = .ok (.bipush 7, 2) := by decide +kernel
theorem dX8_init_566 : decode cX8_init 566 = .ok (.iconst 0, 1) := by decide +kernel
theorem dX8_init_567 : decode cX8_init 567 = .ok (.iastore, 1) := by decide +kernel
theorem dX8_init_568 : decode cX8_init 568 = .ok (.dup, 1) := by decide +kernel
theorem dX8_init_569 : decode cX8_init 569 = .ok (.bipush 8, 2) := by decide +kernel
theorem dX8_init_571 : decode cX8_init 571 = .ok (.iconst 1, 1) := by decide +kernel
theorem dX8_init_572 : decode cX8_init 572 = .ok (.iastore, 1) := by decide +kernel
theorem dX8_init_573 : decode cX8_init 573 = .ok (.dup, 1) := by decide +kernel
theorem dX8_init_574 : decode cX8_init 574 = .ok (.bipush 9, 2) := by decide +kernel
theorem dX8_init_576 : decode cX8_init 576 = .ok (.iconst 1, 1) := by decide +kernel
theorem dX8_init_577 : decode cX8_init 577 = .ok (.iastore, 1) := by decide +kernel
theorem dX8_init_578 : decode cX8_init 578 = .ok (.dup, 1) := by decide +kernel
theorem dX8_init_579 : decode cX8_init 579 = .ok (.bipush 10, 2) := by decide +kernel
theorem dX8_init_581 : decode cX8_init 581 = .ok (.iconst 0, 1) := by decide +kernel
theorem dX8_init_582 : decode cX8_init 582 = .ok (.iastore, 1) := by decide +kernel
theorem dX8_init_583 : decode cX8_init 583 = .ok (.dup, 1) := by decide +kernel
theorem dX8_init_584 : decode cX8_init 584 = .ok (.bipush 11, 2) := by decide +kernel
theorem dX8_init_586 : decode cX8_init 586 = .ok (.iconst 0, 1) := by decide +kernel
theorem dX8_init_587 : decode cX8_init 587 = .ok (.iastore, 1) := by decide +kernel
theorem dX8_init_588 : decode cX8_init 588 = .ok (.dup, 1) := by decide +kernel
theorem dX8_init_589 : decode cX8_init 589 = .ok (.bipush 12, 2) := by decide +kernel
theorem dX8_init_591 : decode cX8_init 591 = .ok (.iconst 0, 1) := by decide +kernel
theorem dX8_init_592 : decode cX8_init 592 = .ok (.iastore, 1) := by decide +kernel
theorem dX8_init_593 : decode cX8_init 593 = .ok (.dup, 1) := by decide +kernel
theorem dX8_init_594 : decode cX8_init 594 = .ok (.bipush 13, 2) := by decide +kernel
theorem dX8_init_596 : decode cX8_init 596 = .ok (.iconst 1, 1) := by decide +kernel
theorem dX8_init_597 : decode cX8_init 597 = .ok (.iastore, 1) := by decide +kernel
theorem dX8_init_598 : decode cX8_init 598 = .ok (.dup, 1) := by decide +kernel
theorem dX8_init_599 : decode cX8_init 599 = .ok (.bipush 14, 2) := by decide +kernel
theorem dX8_init_601 : decode cX8_init 601 = .ok (.iconst 1, 1) := by decide +kernel
theorem dX8_init_602 : decode cX8_init 602 = .ok (.iastore, 1) := by decide +kernel
theorem dX8_init_603 : decode cX8_init 603 = .ok (.dup, 1) := by decide +kernel
theorem dX8_init_604 : decode cX8_init 604 = .ok (.bipush 15, 2) := by decide +kernel
theorem dX8_init_606 : decode cX8_init 606 = .ok (.iconst 0, 1) := by decide +kernel
theorem dX8_init_607 : decode cX8_init 607 = .ok (.iastore, 1) := by decide +kernel
theorem dX8_init_608 : decode cX8_init 608 = .ok (.dup, 1) := by decide +kernel
theorem dX8_init_609 : decode cX8_init 609 = .ok (.bipush 16, 2) := by decide +kernel
theorem dX8_init_611 : decode cX8_init 611 = .ok (.iconst 0, 1) := by decide +kernel
theorem dX8_init_612 : decode cX8_init 612 = .ok (.iastore, 1) := by decide +kernel
theorem dX8_init_613 : decode cX8_init 613 = .ok (.dup, 1) := by decide +kernel
theorem dX8_init_614 : decode cX8_init 614 = .ok (.bipush 17, 2) := by decide +kernel
theorem dX8_init_616 : decode cX8_init 616 = .ok (.iconst 1, 1) := by decide +kernel
theorem dX8_init_617 : decode cX8_init 617 = .ok (.iastore, 1) := by decide +kernel
theorem dX8_init_618 : decode cX8_init 618 = .ok (.putfield 22, 3) := by decide +kernel
theorem dX8_init_621 : decode cX8_init 621 = .ok (.aload_n 0, 1) := by decide +kernel
theorem dX8_init_622 : decode cX8_init 622 = .ok (.bipush 18, 2) := by decide +kernel
theorem dX8_init_624 : decode cX8_init 624 = .ok (.newarray .int, 2) := by decide +kernel
theorem dX8_init_626 : decode cX8_init 626 = .ok (.dup, 1) := by decide +kernel
theorem dX8_init_627 : decode cX8_init 627 = .ok (.iconst 0, 1) := by decide +kernel
theorem dX8_init_628 : decode cX8_init 628 = .ok (.bipush 20, 2) := by decide +kernel
theorem dX8_init_630 : decode cX8_init 630 = .ok (.iastore, 1) := by decide +kernel
theorem dX8_init_631 : decode cX8_init 631 = .ok (.dup, 1) := by decide +kernel
theorem dX8_init_632 : decode cX8_init 632 = .ok (.iconst 1, 1) := by decide +kernel
theorem dX8_init_633 : decode cX8_init 633 = .ok (.bipush 20, 2) := by decide +kernel
theorem dX8_init_635 : decode cX8_init 635 = .ok (.iastore, 1) := by decide +kernel
theorem dX8_init_636 : decode cX8_init 636 = .ok (.dup, 1) := by decide +kernel
theorem dX8_init_637 : decode cX8_init 637 = .ok (.iconst 2, 1) := by decide +kernel
theorem dX8_init_638 : decode cX8_init 638 = .ok (.bipush 20, 2) := by decide +kernel
theorem dX8_init_640 : decode cX8_init 640 = .ok (.iastore, 1) := by decide +kernel
theorem dX8_init_641 : decode cX8_init 641 = .ok (.dup, 1) := by decide +kernel
theorem dX8_init_642 : decode cX8_init 642 = .ok (.iconst 3, 1) := by decide +kernel
theorem dX8_init_643 : decode cX8_init 643 = .ok (.bipush 20, 2) := by decide +kernel
theorem dX8_init_645 : decode cX8_init 645 = .ok (.iastore, 1) := by decide +kernel
theorem dX8_init_646 : decode cX8_init 646 = .ok (.dup, 1) := by decide +kernel
theorem dX8_init_647 : decode cX8_init 647 = .ok (.iconst 4, 1) := by decide +kernel
theorem dX8_init_648 : decode cX8_init 648 = .ok (.bipush 18, 2) := by decide +kernel
theorem dX8_init_650 : decode cX8_init 650 = .ok (.iastore, 1) := by decide +kernel
theorem dX8_init_651 : decode cX8_init 651 = .ok (.dup, 1) := by decide +kernel
theorem dX8_init_652 : decode cX8_init 652 = .ok (.iconst 5, 1) := by decide +kernel
theorem dX8_init_653 : decode cX8_init 653 = .ok (.bipush 18, 2) := by decide +kernel
theorem dX8_init_655 : decode cX8_init 655 = .ok (.iastore, 1) := by decide +kernel
theorem dX8_init_656 : decode cX8_init 656 = .ok (.dup, 1) := by decide +kernel
theorem dX8_init_657 : decode cX8_init 657 = .ok (.bipush 6, 2) := by decide +kernel
theorem dX8_init_659 : decode cX8_init 659 = .ok (.bipush 18, 2) := by decide +kernel
theorem dX8_init_661 : decode cX8_init 661 = .ok (.iastore, 1) := by decide +kernel
theorem dX8_init_662 : decode cX8_init 662 = .ok (.dup, 1) := by decide +kernel
theorem dX8_init_663 : decode cX8_init 663 = .ok (.bipush 7, 2) := by decide +kernel
theorem dX8_init_665 : decode cX8_init 665 = .ok (.bipush 60, 2) := by decide +kernel
theorem dX8_init_667 : decode cX8_init 667 = .ok (.iastore, 1) := by decide +kernel
theorem dX8_init_668 : decode cX8_init 668 = .ok (.dup, 1) := by decide +kernel
theorem dX8_init_669 : decode cX8_init 669 = .ok (.bipush 8, 2) := by decide +kernel
theorem dX8_init_671 : decode cX8_init 671 = .ok (.bipush 20, 2) := by decide +kernel
theorem dX8_init_673 : decode cX8_init 673 = .ok (.iastore, 1) := by decide +kernel
theorem dX8_init_674 : decode cX8_init 674 = .ok (.dup, 1) := by decide +kernel
theorem dX8_init_675 : decode cX8_init 675 = .ok (.bipush 9, 2) := by decide +kernel
theorem dX8_init_677 : decode cX8_init 677 = .ok (.bipush 9, 2) := by decide +kernel
theorem dX8_init_679 : decode cX8_init 679 = .ok (.iastore, 1) := by decide +kernel
theorem dX8_init_680 : decode cX8_init 680 = .ok (.dup, 1) := by decide +kernel
theorem dX8_init_681 : decode cX8_init 681 = .ok (.bipush 10, 2) := by decide +kernel
theorem dX8_init_683 : decode cX8_init 683 = .ok (.bipush 99, 2) := by decide +kernel
theorem dX8_init_685 : decode cX8_init 685 = .ok (.iastore, 1) := by decide +kernel
theorem dX8_init_686 : decode cX8_init 686 = .ok (.dup, 1) := by decide +kernel
theorem dX8_init_687 : decode cX8_init 687 = .ok (.bipush 11, 2) := by decide +kernel
theorem dX8_init_689 : decode cX8_init 689 = .ok (.bipush 30, 2) := by decide +kernel
theorem dX8_init_691 : decode cX8_init 691 = .ok (.iastore, 1) := by decide +kernel
theorem dX8_init_692 : decode cX8_init 692 = .ok (.dup, 1) := by decide +kernel
theorem dX8_init_693 : decode cX8_init 693 = .ok (.bipush 12, 2) := by decide +kernel
theorem dX8_init_695 : decode cX8_init 695 = .ok (.bipush 9, 2) := by decide +kernel
theorem dX8_init_697 : decode cX8_init 697 = .ok (.iastore, 1) := by decide +kernel
theorem dX8_init_698 : decode cX8_init 698 = .ok (.dup, 1) := by decide +kernel
theorem dX8_init_699 : decode cX8_init 699 = .ok (.bipush 13, 2) := by decide +kernel
theorem dX8_init_701 : decode cX8_init 701 = .ok (.bipush 18, 2) := by decide +kernel
theorem dX8_init_703 : decode cX8_init 703 = .ok (.iastore, 1) := by decide +kernel
theorem dX8_init_704 : decode cX8_init 704 = .ok (.dup, 1) := by decide +kernel
theorem dX8_init_705 : decode cX8_init 705 = .ok (.bipush 14, 2) := by decide +kernel
theorem dX8_init_707 : decode cX8_init 707 = .ok (.iconst 2, 1) := by decide +kernel
theorem dX8_init_708 : decode cX8_init 708 = .ok (.iastore, 1) := by decide +kernel
theorem dX8_init_709 : decode cX8_init 709 = .ok (.dup, 1) := by decide +kernel
theorem dX8_init_710 : decode cX8_init 710 = .ok (.bipush 15, 2) := by decide +kernel
theorem dX8_init_712 : decode cX8_init 712 = .ok (.iconst 2, 1) := by decide +kernel
theorem dX8_init_713 : decode cX8_init 713 = .ok (.iastore, 1) := by decide +kernel
theorem dX8_init_714 : decode cX8_init 714 = .ok (.dup, 1) := by decide +kernel
theorem dX8_init_715 : decode cX8_init 715 = .ok (.bipush 16, 2) := by decide +kernel
theorem dX8_init_717 : decode cX8_init 717 = .ok (.bipush 20, 2) := by decide +kernel
theorem dX8_init_719 : decode cX8_init 719 = .ok (.iastore, 1) := by decide +kernel
theorem dX8_init_720 : decode cX8_init 720 = .ok (.dup, 1) := by decide +kernel
theorem dX8_init_721 : decode cX8_init 721 = .ok (.bipush 17, 2) := by decide +kernel
theorem dX8_init_723 : decode cX8_init 723 = .ok (.iconst 5, 1) := by decide +kernel
theorem dX8_init_724 : decode cX8_init 724 = .ok (.iastore, 1) := by decide +kernel
theorem dX8_init_725 : decode cX8_init 725 = .ok (.putfield 25, 3) := by decide +kernel
theorem dX8_init_728 : decode cX8_init 728 = .ok (.aload_n 0, 1) := by decide +kernel
theorem dX8_init_729 : decode cX8_init 729 = .ok (.bipush 18, 2) := by decide +kernel
theorem dX8_init_731 : decode cX8_init 731 = .ok (.newarray .int, 2) := by decide +kernel
theorem dX8_init_733 : decode cX8_init 733 = .ok (.dup, 1) := by decide +kernel
theorem dX8_init_734 : decode cX8_init 734 = .ok (.iconst 0, 1) := by decide +kernel
theorem dX8_init_735 : decode cX8_init 735 = .ok (.iconst 5, 1) := by decide +kernel
theorem dX8_init_736 : decode cX8_init 736 = .ok (.iastore, 1) := by decide +kernel
theorem dX8_init_737 : decode cX8_init 737 = .ok (.dup, 1) := by decide +kernel
theorem dX8_init_738 : decode cX8_init 738 = .ok (.iconst 1, 1) := by decide +kernel
theorem dX8_init_739 : decode cX8_init 739 = .ok (.iconst 5, 1) := by decide +kernel
theorem dX8_init_740 : decode cX8_init 740 = .ok (.iastore, 1) := by decide +kernel
theorem dX8_init_741 : decode cX8_init 741 = .ok (.dup, 1) := by decide +kernel
theorem dX8_init_742 : decode cX8_init 742 = .ok (.iconst 2, 1) := by decide +kernel
theorem dX8_init_743 : decode cX8_init 743 = .ok (.iconst 5, 1) := by decide +kernel
theorem dX8_init_744 : decode cX8_init 744 = .ok (.iastore, 1) := by decide +kernel
theorem dX8_init_745 : decode cX8_init 745 = .ok (.dup, 1) := by decide +kernel
theorem dX8_init_746 : decode cX8_init 746 = .ok (.iconst 3, 1) := by decide +kernel
theorem dX8_init_747 : decode cX8_init 747 = .ok (.iconst 5, 1) := by decide +kernel
theorem dX8_init_748 : decode cX8_init 748 = .ok (.iastore, 1) := by decide +kernel
theorem dX8_init_749 : decode cX8_init 749 = .ok (.dup, 1) := by decide +kernel
theorem dX8_init_750 : decode cX8_init 750 = .ok (.iconst 4, 1) := by decide +kernel
theorem dX8_init_751 : decode cX8_init 751 = .ok (.bipush 9, 2) := by decide +kernel
theorem dX8_init_753 : decode cX8_init 753 = .ok (.iastore, 1) := by decide +kernel
theorem dX8_init_754 : decode cX8_init 754 = .ok (.dup, 1) := by decide +kernel
theorem dX8_init_755 : decode cX8_init 755 = .ok (.iconst 5, 1) := by decide +kernel
theorem dX8_init_756 : decode cX8_init 756 = .ok (.bipush 9, 2) := by decide +kernel
theorem dX8_init_758 : decode cX8_init 758 = .ok (.iastore, 1) := by decide +kernel
theorem dX8_init_759 : decode cX8_init 759 = .ok (.dup, 1) := by decide +kernel
theorem dX8_init_760 : decode cX8_init 760 = .ok (.bipush 6, 2) := by decide +kernel
theorem dX8_init_762 : decode cX8_init 762 = .ok (.bipush 9, 2) := by decide +kernel
theorem dX8_init_764 : decode cX8_init 764 = .ok (.iastore, 1) := by decide +kernel
theorem dX8_init_765 : decode cX8_init 765 = .ok (.dup, 1) := by decide +kernel
theorem dX8_init_766 : decode cX8_init 766 = .ok (.bipush 7, 2) := by decide +kernel
theorem dX8_init_768 : decode cX8_init 768 = .ok (.bipush 20, 2) := by decide +kernel
theorem dX8_init_770 : decode cX8_init 770 = .ok (.iastore, 1) := by decide +kernel
theorem dX8_init_771 : decode cX8_init 771 = .ok (.dup, 1) := by decide +kernel
theorem dX8_init_772 : decode cX8_init 772 = .ok (.bipush 8, 2) := by decide +kernel
theorem dX8_init_774 : decode cX8_init 774 = .ok (.iconst 5, 1) := by decide +kernel
theorem dX8_init_775 : decode cX8_init 775 = .ok (.iastore, 1) := by decide +kernel
theorem dX8_init_776 : decode cX8_init 776 = .ok (.dup, 1) := by decide +kernel
theorem dX8_init_777 : decode cX8_init 777 = .ok (.bipush 9, 2) := by decide +kernel
theorem dX8_init_779 : decode cX8_init 779 = .ok (.iconst 2, 1) := by decide +kernel
theorem dX8_init_780 : decode cX8_init 780 = .ok (.iastore, 1) := by decide +kernel
theorem dX8_init_781 : decode cX8_init 781 = .ok (.dup, 1) := by decide +kernel
theorem dX8_init_782 : decode cX8_init 782 = .ok (.bipush 10, 2) := by decide +kernel
theorem dX8_init_784 : decode cX8_init 784 = .ok (.bipush 15, 2) := by decide +kernel
theorem dX8_init_786 : decode cX8_init 786 = .ok (.iastore, 1) := by decide +kernel
theorem dX8_init_787 : decode cX8_init 787 = .ok (.dup, 1) := by decide +kernel
theorem dX8_init_788 : decode cX8_init 788 = .ok (.bipush 11, 2) := by decide +kernel
theorem dX8_init_790 : decode cX8_init 790 = .ok (.bipush 10, 2) := by decide +kernel
theorem dX8_init_792 : decode cX8_init 792 = .ok (.iastore, 1) := by decide +kernel
theorem dX8_init_793 : decode cX8_init 793 = .ok (.dup, 1) := by decide +kernel
theorem dX8_init_794 : decode cX8_init 794 = .ok (.bipush 12, 2) := by decide +kernel
theorem dX8_init_796 : decode cX8_init 796 = .ok (.iconst 2, 1) := by decide +kernel
theorem dX8_init_797 : decode cX8_init 797 = .ok (.iastore, 1) := by decide +kernel
theorem dX8_init_798 : decode cX8_init 798 = .ok (.dup, 1) := by decide +kernel
theorem dX8_init_799 : decode cX8_init 799 = .ok (.bipush 13, 2) := by decide +kernel
theorem dX8_init_801 : decode cX8_init 801 = .ok (.bipush 6, 2) := by decide +kernel
theorem dX8_init_803 : decode cX8_init 803 = .ok (.iastore, 1) := by decide +kernel
theorem dX8_init_804 : decode cX8_init 804 = .ok (.dup, 1) := by decide +kernel
theorem dX8_init_805 : decode cX8_init 805 = .ok (.bipush 14, 2) := by decide +kernel
theorem dX8_init_807 : decode cX8_init 807 = .ok (.iconst 1, 1) := by decide +kernel
theorem dX8_init_808 : decode cX8_init 808 = .ok (.iastore, 1) := by decide +kernel
theorem dX8_init_809 : decode cX8_init 809 = .ok (.dup, 1) := by decide +kernel
theorem dX8_init_810 : decode cX8_init 810 = .ok (.bipush 15, 2) := by decide +kernel
theorem dX8_init_812 : decode cX8_init 812 = .ok (.iconst 0, 1) := by decide +kernel
theorem dX8_init_813 : decode cX8_init 813 = .ok (.iastore, 1) := by decide +kernel
theorem dX8_init_814 : decode cX8_init 814 = .ok (.dup, 1) := by decide +kernel
theorem dX8_init_815 : decode cX8_init 815 = .ok (.bipush 16, 2) := by decide +kernel
theorem dX8_init_817 : decode cX8_init 817 = .ok (.iconst 0, 1) := by decide +kernel
theorem dX8_init_818 : decode cX8_init 818 = .ok (.iastore, 1) := by decide +kernel
theorem dX8_init_819 : decode cX8_init 819 = .ok (.dup, 1) := by decide +kernel
theorem dX8_init_820 : decode cX8_init 820 = .ok (.bipush 17, 2) := by decide +kernel
theorem dX8_init_822 : decode cX8_init 822 = .ok (.iconst 1, 1) := by decide +kernel
theorem dX8_init_823 : decode cX8_init 823 = .ok (.iastore, 1) := by decide +kernel
theorem dX8_init_824 : decode cX8_init 824 = .ok (.putfield 28, 3) := by decide +kernel
theorem dX8_init_827 : decode cX8_init 827 = .ok (.aload_n 0, 1) := by decide +kernel
theorem dX8_init_828 : decode cX8_init 828 = .ok (.bipush 18, 2) := by decide +kernel
theorem dX8_init_830 : decode cX8_init 830 = .ok (.newarray .int, 2) := by decide +kernel
theorem dX8_init_832 : decode cX8_init 832 = .ok (.putfield 31, 3) := by decide +kernel
theorem dX8_init_835 : decode cX8_init 835 = .ok (.aload_n 0, 1) := by decide +kernel
theorem dX8_init_836 : decode cX8_init 836 = .ok (.sipush 384, 3) := by decide +kernel
theorem dX8_init_839 : decode cX8_init 839 = .ok (.newarray .int, 2) := by decide +kernel
theorem dX8_init_841 : decode cX8_init 841 = .ok (.putfield 34, 3) := by decide +kernel
theorem dX8_init_844 : decode cX8_init 844 = .ok (.aload_n 0, 1) := by decide +kernel
theorem dX8_init_845 : decode cX8_init 845 = .ok (.bipush 6, 2) := by decide +kernel
theorem dX8_init_847 : decode cX8_init 847 = .ok (.newarray .int, 2) := by decide +kernel
theorem dX8_init_849 : decode cX8_init 849 = .ok (.putfield 37, 3) := by decide +kernel
theorem dX8_init_852 : decode cX8_init 852 = .ok (.aload_n 0, 1) := by decide +kernel
theorem dX8_init_853 : decode cX8_init 853 = .ok (.bipush 6, 2) := by decide +kernel
theorem dX8_init_855 : decode cX8_init 855 = .ok (.newarray .int, 2) := by decide +kernel
theorem dX8_init_857 : decode cX8_init 857 = .ok (.putfield 40, 3) := by decide +kernel
theorem dX8_init_860 : decode cX8_init 860 = .ok (.aload_n 0, 1) := by decide +kernel
theorem dX8_init_861 : decode cX8_init 861 = .ok (.bipush 64, 2) := by decide +kernel
theorem dX8_init_863 : decode cX8_init 863 = .ok (.newarray .int, 2) := by decide +kernel
theorem dX8_init_865 : decode cX8_init 865 = .ok (.putfield 43, 3) := by decide +kernel
theorem dX8_init_868 : decode cX8_init 868 = .ok (.aload_n 0, 1) := by decide +kernel
theorem dX8_init_869 : decode cX8_init 869 = .ok (.bipush 12, 2) := by decide +kernel
theorem dX8_init_871 : decode cX8_init 871 = .ok (.newarray .int, 2) := by decide +kernel
theorem dX8_init_873 : decode cX8_init 873 = .ok (.putfield 46, 3) := by decide +kernel
theorem dX8_init_876 : decode cX8_init 876 = .ok (.aload_n 0, 1) := by decide +kernel
theorem dX8_init_877 : decode cX8_init 877 = .ok (.bipush 12, 2) := by decide +kernel
theorem dX8_init_879 : decode cX8_init 879 = .ok (.newarray .int, 2) := by decide +kernel
theorem dX8_init_881 : decode cX8_init 881 = .ok (.putfield 49, 3) := by decide +kernel
theorem dX8_init_884 : decode cX8_init 884 = .ok (.aload_n 0, 1) := by decide +kernel
theorem dX8_init_885 : decode cX8_init 885 = .ok (.bipush 12, 2) := by decide +kernel
theorem dX8_init_887 : decode cX8_init 887 = .ok (.newarray .int, 2) := by decide +kernel
theorem dX8_init_889 : decode cX8_init 889 = .ok (.putfield 52, 3) := by decide +kernel
theorem dX8_init_892 : decode cX8_init 892 = .ok (.aload_n 0, 1) := by decide +kernel
theorem dX8_init_893 : decode cX8_init 893 = .ok (.bipush 6, 2) := by decide +kernel
theorem dX8_init_895 : decode cX8_init 895 = .ok (.newarray .int, 2) := by decide +kernel
theorem dX8_init_897 : decode cX8_init 897 = .ok (.putfield 55, 3) := by decide +kernel
theorem dX8_init_900 : decode cX8_init 900 = .ok (.aload_n 0, 1) := by decide +kernel
theorem dX8_init_901 : decode cX8_init 901 = .ok (.iconst 4, 1) := by decide +kernel
theorem dX8_init_902 : decode cX8_init 902 = .ok (.newarray .int, 2) := by decide +kernel
theorem dX8_init_904 : decode cX8_init 904 = .ok (.dup, 1) := by decide +kernel
theorem dX8_init_905 : decode cX8_init 905 = .ok (.iconst 0, 1) := by decide +kernel
theorem dX8_init_906 : decode cX8_init 906 = .ok (.bipush (-4), 2) := by decide +kernel
theorem dX8_init_908 : decode cX8_init 908 = .ok (.iastore, 1) := by decide +kernel
theorem dX8_init_909 : decode cX8_init 909 = .ok (.dup, 1) := by decide +kernel
theorem dX8_init_910 : decode cX8_init 910 = .ok (.iconst 1, 1) := by decide +kernel
theorem dX8_init_911 : decode cX8_init 911 = .ok (.bipush (-4), 2) := by decide +kernel
theorem dX8_init_913 : decode cX8_init 913 = .ok (.iastore, 1) := by decide +kernel
theorem dX8_init_914 : decode cX8_init 914 = .ok (.dup, 1) := by decide +kernel
theorem dX8_init_915 : decode cX8_init 915 = .ok (.iconst 2, 1) := by decide +kernel
theorem dX8_init_916 : decode cX8_init 916 = .ok (.bipush (-4), 2) := by decide +kernel
theorem dX8_init_918 : decode cX8_init 918 = .ok (.iastore, 1) := by decide +kernel
theorem dX8_init_919 : decode cX8_init 919 = .ok (.dup, 1) := by decide +kernel
theorem dX8_init_920 : decode cX8_init 920 = .ok (.iconst 3, 1) := by decide +kernel
theorem dX8_init_921 : decode cX8_init 921 = .ok (.bipush (-4), 2) := by decide +kernel
theorem dX8_init_923 : decode cX8_init 923 = .ok (.iastore, 1) := by decide +kernel
theorem dX8_init_924 : decode cX8_init 924 = .ok (.putfield 58, 3) := by decide +kernel
theorem dX8_init_927 : decode cX8_init 927 = .ok (.aload_n 0, 1) := by decide +kernel
theorem dX8_init_928 : decode cX8_init 928 = .ok (.iconst 4, 1) := by decide +kernel
theorem dX8_init_929 : decode cX8_init 929 = .ok (.newarray .int, 2) := by decide +kernel
theorem dX8_init_931 : decode cX8_init 931 = .ok (.putfield 61, 3) := by decide +kernel
theorem dX8_init_934 : decode cX8_init 934 = .ok (.aload_n 0, 1) := by decide +kernel
theorem dX8_init_935 : decode cX8_init 935 = .ok (.sipush 256, 3) := by decide +kernel
theorem dX8_init_938 : decode cX8_init 938 = .ok (.newarray .int, 2) := by decide +kernel
theorem dX8_init_940 : decode cX8_init 940 = .ok (.putfield 64, 3) := by decide +kernel
theorem dX8_init_943 : decode cX8_init 943 = .ok (.return_, 1) := by decide +kernel
theorem dX8_in_0 : decode cX8_in 0 = .ok (.lload_n 0, 1) := by decide +kernel
theorem dX8_in_1 : decode cX8_in 1 = .ok (.lload_n 2, 1) := by decide +kernel
theorem dX8_in_2 : decode cX8_in 2 = .ok (.lcmp, 1) := by decide +kernel
theorem dX8_in_3 : decode cX8_in 3 = .ok (.ifCond .lt 14, 3) := by decide +kernel
theorem dX8_in_6 : decode cX8_in 6 = .ok (.lload_n 0, 1) := by decide +kernel
theorem dX8_in_7 : decode cX8_in 7 = .ok (.lload 4, 2) := by decide +kernel
theorem dX8_in_9 : decode cX8_in 9 = .ok (.lcmp, 1) := by decide +kernel
theorem dX8_in_10 : decode cX8_in 10 = .ok (.ifCond .gt 7, 3) := by decide +kernel
theorem dX8_in_13 : decode cX8_in 13 = .ok (.iconst 1, 1) := by decide +kernel
theorem dX8_in_14 : decode cX8_in 14 = .ok (.goto 4, 3) := by decide +kernel
theorem dX8_in_17 : decode cX8_in 17 = .ok (.iconst 0, 1) := by decide +kernel
theorem dX8_in_18 : decode cX8_in 18 = .ok (.ireturn, 1) := by decide +kernel
theorem dX8_feed_0 : decode cX8_feed 0 = .ok (.aload_n 0, 1) := by decide +kernel
theorem dX8_feed_1 : decode cX8_feed 1 = .ok (.getfield 67, 3) := by decide +kernel
theorem dX8_feed_4 : decode cX8_feed 4 = .ok (.bipush 8, 2) := by decide +kernel
theorem dX8_feed_6 : decode cX8_feed 6 = .ok (.iadd, 1) := by decide +kernel
theorem dX8_feed_7 : decode cX8_feed 7 = .ok (.sipush 200, 3) := by decide +kernel
theorem dX8_feed_10 : decode cX8_feed 10 = .ok (.if_icmp .le 6, 3) := by decide +kernel
theorem dX8_feed_13 : decode cX8_feed 13 = .ok (.bipush (-3), 2) := by decide +kernel
theorem dX8_feed_15 : decode cX8_feed 15 = .ok (.ireturn, 1) := by decide +kernel
theorem dX8_feed_16 : decode cX8_feed 16 = .ok (.bipush 56, 2) := by decide +kernel
theorem dX8_feed_18 : decode cX8_feed 18 = .ok (.istore_n 3, 1) := by decide +kernel
theorem dX8_feed_19 : decode cX8_feed 19 = .ok (.iload_n 3, 1) := by decide +kernel
theorem dX8_feed_20 : decode cX8_feed 20 = .ok (.ifCond .lt 36, 3) := by decide +kernel
theorem dX8_feed_23 : decode cX8_feed 23 = .ok (.aload_n 0, 1) := by decide +kernel
theorem dX8_feed_24 : decode cX8_feed 24 = .ok (.getfield 7, 3) := by decide +kernel
theorem dX8_feed_27 : decode cX8_feed 27 = .ok (.aload_n 0, 1) := by decide +kernel
theorem dX8_feed_28 : decode cX8_feed 28 = .ok (.getfield 67, 3) := by decide +kernel
theorem dX8_feed_31 : decode cX8_feed 31 = .ok (.lload_n 1, 1) := by decide +kernel
theorem dX8_feed_32 : decode cX8_feed 32 = .ok (.iload_n 3, 1) := by decide +kernel
theorem dX8_feed_33 : decode cX8_feed 33 = .ok (.lshr, 1) := by decide +kernel
theorem dX8_feed_34 : decode cX8_feed 34 = .ok (.l2i, 1) := by decide +kernel
theorem dX8_feed_35 : decode cX8_feed 35 = .ok (.sipush 255, 3) := by decide +kernel
theorem dX8_feed_38 : decode cX8_feed 38 = .ok (.iand, 1) := by decide +kernel
theorem dX8_feed_39 : decode cX8_feed 39 = .ok (.iastore, 1) := by decide +kernel
theorem dX8_feed_40 : decode cX8_feed 40 = .ok (.aload_n 0, 1) := by decide +kernel
theorem dX8_feed_41 : decode cX8_feed 41 = .ok (.dup, 1) := by decide +kernel
theorem dX8_feed_42 : decode cX8_feed 42 = .ok (.getfield 67, 3) := by decide +kernel
theorem dX8_feed_45 : decode cX8_feed 45 = .ok (.iconst 1, 1) := by decide +kernel
theorem dX8_feed_46 : decode cX8_feed 46 = .ok (.iadd, 1) := by decide +kernel
theorem dX8_feed_47 : decode cX8_feed 47 = .ok (.putfield 67, 3) := by decide +kernel
theorem dX8_feed_50 : decode cX8_feed 50 = .ok (.iinc 3 (-8), 3) := by decide +kernel
theorem dX8_feed_53 : decode cX8_feed 53 = .ok (.goto (-34), 3) := by decide +kernel
theorem dX8_feed_56 : decode cX8_feed 56 = .ok (.aload_n 0, 1) := by decide +kernel
theorem dX8_feed_57 : decode cX8_feed 57 = .ok (.getfield 67, 3) := by decide +kernel
theorem dX8_feed_60 : decode cX8_feed 60 = .ok (.ireturn, 1) := by decide +kernel
theorem dX8_end_0 : decode cX8_end 0 = .ok (.iload_n 1, 1) := by decide +kernel
theorem dX8_end_1 : decode cX8_end 1 = .ok (.i2l, 1) := by decide +kernel
theorem dX8_end_2 : decode cX8_end 2 = .ok (.lconst 0, 1) := by decide +kernel
theorem dX8_end_3 : decode cX8_end 3 = .ok (.aload_n 0, 1) := by decide +kernel
theorem dX8_end_4 : decode cX8_end 4 = .ok (.getfield 67, 3) := by decide +kernel
theorem dX8_end_7 : decode cX8_end 7 = .ok (.i2l, 1) := by decide +kernel
theorem dX8_end_8 : decode cX8_end 8 = .ok (.invokestatic 71, 3) := by decide +kernel
theorem dX8_end_11 : decode cX8_end 11 = .ok (.ifCond .ne 5, 3) := by decide +kernel
theorem dX8_end_14 : decode cX8_end 14 = .ok (.iconst (-1), 1) := by decide +kernel
theorem dX8_end_15 : decode cX8_end 15 = .ok (.ireturn, 1) := by decide +kernel
theorem dX8_end_16 : decode cX8_end 16 = .ok (.aload_n 0, 1) := by decide +kernel
theorem dX8_end_17 : decode cX8_end 17 = .ok (.getfield 67, 3) := by decide +kernel
theorem dX8_end_20 : decode cX8_end 20 = .ok (.istore_n 2, 1) := by decide +kernel
theorem dX8_end_21 : decode cX8_end 21 = .ok (.aload_n 0, 1) := by decide +kernel
theorem dX8_end_22 : decode cX8_end 22 = .ok (.iload_n 1, 1) := by decide +kernel
theorem dX8_end_23 : decode cX8_end 23 = .ok (.putfield 67, 3) := by decide +kernel
theorem dX8_end_26 : decode cX8_end 26 = .ok (.iload_n 2, 1) := by decide +kernel
theorem dX8_end_27 : decode cX8_end 27 = .ok (.ireturn, 1) := by decide +kernel
theorem dX8_byteAt_0 : decode cX8_byteAt 0 = .ok (.iload_n 1, 1) := by decide +kernel
theorem dX8_byteAt_1 : decode cX8_byteAt 1 = .ok (.aload_n 0, 1) := by decide +kernel
theorem dX8_byteAt_2 : decode cX8_byteAt 2 = .ok (.getfield 67, 3) := by decide +kernel
theorem dX8_byteAt_5 : decode cX8_byteAt 5 = .ok (.if_icmp .ge 12, 3) := by decide +kernel
theorem dX8_byteAt_8 : decode cX8_byteAt 8 = .ok (.aload_n 0, 1) := by decide +kernel
theorem dX8_byteAt_9 : decode cX8_byteAt 9 = .ok (.getfield 7, 3) := by decide +kernel
theorem dX8_byteAt_12 : decode cX8_byteAt 12 = .ok (.iload_n 1, 1) := by decide +kernel
theorem dX8_byteAt_13 : decode cX8_byteAt 13 = .ok (.iaload, 1) := by decide +kernel
theorem dX8_byteAt_14 : decode cX8_byteAt 14 = .ok (.goto 5, 3) := by decide +kernel
theorem dX8_byteAt_17 : decode cX8_byteAt 17 = .ok (.bipush (-4), 2) := by decide +kernel
theorem dX8_byteAt_19 : decode cX8_byteAt 19 = .ok (.ireturn, 1) := by decide +kernel
theorem dX8_fails_0 : decode cX8_fails 0 = .ok (.aload_n 0, 1) := by decide +kernel
theorem dX8_fails_1 : decode cX8_fails 1 = .ok (.getfield 75, 3) := by decide +kernel
theorem dX8_fails_4 : decode cX8_fails 4 = .ok (.ifCond .ne 16, 3) := by decide +kernel
theorem dX8_fails_7 : decode cX8_fails 7 = .ok (.aload_n 0, 1) := by decide +kernel
theorem dX8_fails_8 : decode cX8_fails 8 = .ok (.iload_n 1, 1) := by decide +kernel
theorem dX8_fails_9 : decode cX8_fails 9 = .ok (.putfield 75, 3) := by decide +kernel
theorem dX8_fails_12 : decode cX8_fails 12 = .ok (.aload_n 0, 1) := by decide +kernel
theorem dX8_fails_13 : decode cX8_fails 13 = .ok (.aload_n 0, 1) := by decide +kernel
theorem dX8_fails_14 : decode cX8_fails 14 = .ok (.getfield 78, 3) := by decide +kernel
theorem dX8_fails_17 : decode cX8_fails 17 = .ok (.putfield 81, 3) := by decide +kernel
theorem dX8_fails_20 : decode cX8_fails 20 = .ok (.return_, 1) := by decide +kernel
theorem dX8_nameAt_0 : decode cX8_nameAt 0 = .ok (.iconst 0, 1) := by decide +kernel
theorem dX8_nameAt_1 : decode cX8_nameAt 1 = .ok (.istore_n 3, 1) := by decide +kernel
theorem dX8_nameAt_2 : decode cX8_nameAt 2 = .ok (.iload_n 3, 1) := by decide +kernel
theorem dX8_nameAt_3 : decode cX8_nameAt 3 = .ok (.bipush 13, 2) := by decide +kernel
theorem dX8_nameAt_5 : decode cX8_nameAt 5 = .ok (.if_icmp .ge 98, 3) := by decide +kernel
theorem dX8_nameAt_8 : decode cX8_nameAt 8 = .ok (.iload_n 2, 1) := by decide +kernel
theorem dX8_nameAt_9 : decode cX8_nameAt 9 = .ok (.iload_n 1, 1) := by decide +kernel
theorem dX8_nameAt_10 : decode cX8_nameAt 10 = .ok (.isub, 1) := by decide +kernel
theorem dX8_nameAt_11 : decode cX8_nameAt 11 = .ok (.aload_n 0, 1) := by decide +kernel
theorem dX8_nameAt_12 : decode cX8_nameAt 12 = .ok (.getfield 13, 3) := by decide +kernel
theorem dX8_nameAt_15 : decode cX8_nameAt 15 = .ok (.iload_n 3, 1) := by decide +kernel
theorem dX8_nameAt_16 : decode cX8_nameAt 16 = .ok (.iconst 1, 1) := by decide +kernel
theorem dX8_nameAt_17 : decode cX8_nameAt 17 = .ok (.iadd, 1) := by decide +kernel
theorem dX8_nameAt_18 : decode cX8_nameAt 18 = .ok (.iaload, 1) := by decide +kernel
theorem dX8_nameAt_19 : decode cX8_nameAt 19 = .ok (.aload_n 0, 1) := by decide +kernel
theorem dX8_nameAt_20 : decode cX8_nameAt 20 = .ok (.getfield 13, 3) := by decide +kernel
theorem dX8_nameAt_23 : decode cX8_nameAt 23 = .ok (.iload_n 3, 1) := by decide +kernel
theorem dX8_nameAt_24 : decode cX8_nameAt 24 = .ok (.iaload, 1) := by decide +kernel
theorem dX8_nameAt_25 : decode cX8_nameAt 25 = .ok (.isub, 1) := by decide +kernel
theorem dX8_nameAt_26 : decode cX8_nameAt 26 = .ok (.if_icmp .ne 7, 3) := by decide +kernel
theorem dX8_nameAt_29 : decode cX8_nameAt 29 = .ok (.iconst 1, 1) := by decide +kernel
theorem dX8_nameAt_30 : decode cX8_nameAt 30 = .ok (.goto 4, 3) := by decide +kernel
theorem dX8_nameAt_33 : decode cX8_nameAt 33 = .ok (.iconst 0, 1) := by decide +kernel
theorem dX8_nameAt_34 : decode cX8_nameAt 34 = .ok (.istore 4, 2) := by decide +kernel
theorem dX8_nameAt_36 : decode cX8_nameAt 36 = .ok (.iconst 0, 1) := by decide +kernel
theorem dX8_nameAt_37 : decode cX8_nameAt 37 = .ok (.istore 5, 2) := by decide +kernel
theorem dX8_nameAt_39 : decode cX8_nameAt 39 = .ok (.iload 4, 2) := by decide +kernel
theorem dX8_nameAt_41 : decode cX8_nameAt 41 = .ok (.ifCond .eq 49, 3) := by decide +kernel
theorem dX8_nameAt_44 : decode cX8_nameAt 44 = .ok (.iload 5, 2) := by decide +kernel
theorem dX8_nameAt_46 : decode cX8_nameAt 46 = .ok (.iload_n 2, 1) := by decide +kernel
theorem dX8_nameAt_47 : decode cX8_nameAt 47 = .ok (.iload_n 1, 1) := by decide +kernel
theorem dX8_nameAt_48 : decode cX8_nameAt 48 = .ok (.isub, 1) := by decide +kernel
theorem dX8_nameAt_49 : decode cX8_nameAt 49 = .ok (.if_icmp .ge 41, 3) := by decide +kernel
theorem dX8_nameAt_52 : decode cX8_nameAt 52 = .ok (.aload_n 0, 1) := by decide +kernel
theorem dX8_nameAt_53 : decode cX8_nameAt 53 = .ok (.iload_n 1, 1) := by decide +kernel
theorem dX8_nameAt_54 : decode cX8_nameAt 54 = .ok (.iload 5, 2) := by decide +kernel
theorem dX8_nameAt_56 : decode cX8_nameAt 56 = .ok (.iadd, 1) := by decide +kernel
theorem dX8_nameAt_57 : decode cX8_nameAt 57 = .ok (.invokevirtual 84, 3) := by decide +kernel
theorem dX8_nameAt_60 : decode cX8_nameAt 60 = .ok (.aload_n 0, 1) := by decide +kernel
theorem dX8_nameAt_61 : decode cX8_nameAt 61 = .ok (.getfield 16, 3) := by decide +kernel
theorem dX8_nameAt_64 : decode cX8_nameAt 64 = .ok (.aload_n 0, 1) := by decide +kernel
theorem dX8_nameAt_65 : decode cX8_nameAt 65 = .ok (.getfield 13, 3) := by decide +kernel
theorem dX8_nameAt_68 : decode cX8_nameAt 68 = .ok (.iload_n 3, 1) := by decide +kernel
theorem dX8_nameAt_69 : decode cX8_nameAt 69 = .ok (.iaload, 1) := by decide +kernel
theorem dX8_nameAt_70 : decode cX8_nameAt 70 = .ok (.iload 5, 2) := by decide +kernel
theorem dX8_nameAt_72 : decode cX8_nameAt 72 = .ok (.iadd, 1) := by decide +kernel
theorem dX8_nameAt_73 : decode cX8_nameAt 73 = .ok (.iaload, 1) := by decide +kernel
theorem dX8_nameAt_74 : decode cX8_nameAt 74 = .ok (.if_icmp .ne 7, 3) := by decide +kernel
theorem dX8_nameAt_77 : decode cX8_nameAt 77 = .ok (.iconst 1, 1) := by decide +kernel
theorem dX8_nameAt_78 : decode cX8_nameAt 78 = .ok (.goto 4, 3) := by decide +kernel
theorem dX8_nameAt_81 : decode cX8_nameAt 81 = .ok (.iconst 0, 1) := by decide +kernel
theorem dX8_nameAt_82 : decode cX8_nameAt 82 = .ok (.istore 4, 2) := by decide +kernel
theorem dX8_nameAt_84 : decode cX8_nameAt 84 = .ok (.iinc 5 1, 3) := by decide +kernel
theorem dX8_nameAt_87 : decode cX8_nameAt 87 = .ok (.goto (-48), 3) := by decide +kernel
theorem dX8_nameAt_90 : decode cX8_nameAt 90 = .ok (.iload 4, 2) := by decide +kernel
theorem dX8_nameAt_92 : decode cX8_nameAt 92 = .ok (.ifCond .eq 5, 3) := by decide +kernel
theorem dX8_nameAt_95 : decode cX8_nameAt 95 = .ok (.iload_n 3, 1) := by decide +kernel
theorem dX8_nameAt_96 : decode cX8_nameAt 96 = .ok (.ireturn, 1) := by decide +kernel
theorem dX8_nameAt_97 : decode cX8_nameAt 97 = .ok (.iinc 3 1, 3) := by decide +kernel
theorem dX8_nameAt_100 : decode cX8_nameAt 100 = .ok (.goto (-98), 3) := by decide +kernel
theorem dX8_nameAt_103 : decode cX8_nameAt 103 = .ok (.bipush (-4), 2) := by decide +kernel
theorem dX8_nameAt_105 : decode cX8_nameAt 105 = .ok (.ireturn, 1) := by decide +kernel
theorem dX8_next_0 : decode cX8_next 0 = .ok (.aload_n 0, 1) := by decide +kernel
theorem dX8_next_1 : decode cX8_next 1 = .ok (.getfield 75, 3) := by decide +kernel
theorem dX8_next_4 : decode cX8_next 4 = .ok (.ifCond .le 4, 3) := by decide +kernel
theorem dX8_next_7 : decode cX8_next 7 = .ok (.return_, 1) := by decide +kernel
theorem dX8_next_8 : decode cX8_next 8 = .ok (.aload_n 0, 1) := by decide +kernel
theorem dX8_next_9 : decode cX8_next 9 = .ok (.aload_n 0, 1) := by decide +kernel
theorem dX8_next_10 : decode cX8_next 10 = .ok (.getfield 88, 3) := by decide +kernel
theorem dX8_next_13 : decode cX8_next 13 = .ok (.invokevirtual 84, 3) := by decide +kernel
theorem dX8_next_16 : decode cX8_next 16 = .ok (.bipush 32, 2) := by decide +kernel
theorem dX8_next_18 : decode cX8_next 18 = .ok (.if_icmp .ne 16, 3) := by decide +kernel
theorem dX8_next_21 : decode cX8_next 21 = .ok (.aload_n 0, 1) := by decide +kernel
theorem dX8_next_22 : decode cX8_next 22 = .ok (.dup, 1) := by decide +kernel
theorem dX8_next_23 : decode cX8_next 23 = .ok (.getfield 88, 3) := by decide +kernel
theorem dX8_next_26 : decode cX8_next 26 = .ok (.iconst 1, 1) := by decide +kernel
theorem dX8_next_27 : decode cX8_next 27 = .ok (.iadd, 1) := by decide +kernel
theorem dX8_next_28 : decode cX8_next 28 = .ok (.putfield 88, 3) := by decide +kernel
theorem dX8_next_31 : decode cX8_next 31 = .ok (.goto (-23), 3) := by decide +kernel
theorem dX8_next_34 : decode cX8_next 34 = .ok (.aload_n 0, 1) := by decide +kernel
theorem dX8_next_35 : decode cX8_next 35 = .ok (.aload_n 0, 1) := by decide +kernel
theorem dX8_next_36 : decode cX8_next 36 = .ok (.getfield 88, 3) := by decide +kernel
theorem dX8_next_39 : decode cX8_next 39 = .ok (.putfield 78, 3) := by decide +kernel
theorem dX8_next_42 : decode cX8_next 42 = .ok (.aload_n 0, 1) := by decide +kernel
theorem dX8_next_43 : decode cX8_next 43 = .ok (.aload_n 0, 1) := by decide +kernel
theorem dX8_next_44 : decode cX8_next 44 = .ok (.getfield 88, 3) := by decide +kernel
theorem dX8_next_47 : decode cX8_next 47 = .ok (.invokevirtual 84, 3) := by decide +kernel
theorem dX8_next_50 : decode cX8_next 50 = .ok (.istore_n 1, 1) := by decide +kernel
theorem dX8_next_51 : decode cX8_next 51 = .ok (.aload_n 0, 1) := by decide +kernel
theorem dX8_next_52 : decode cX8_next 52 = .ok (.iconst 0, 1) := by decide +kernel
theorem dX8_next_53 : decode cX8_next 53 = .ok (.putfield 91, 3) := by decide +kernel
theorem dX8_next_56 : decode cX8_next 56 = .ok (.iload_n 1, 1) := by decide +kernel
theorem dX8_next_57 : decode cX8_next 57 = .ok (.bipush (-4), 2) := by decide +kernel
theorem dX8_next_59 : decode cX8_next 59 = .ok (.if_icmp .ne 11, 3) := by decide +kernel
theorem dX8_next_62 : decode cX8_next 62 = .ok (.aload_n 0, 1) := by decide +kernel
theorem dX8_next_63 : decode cX8_next 63 = .ok (.iconst 0, 1) := by decide +kernel
theorem dX8_next_64 : decode cX8_next 64 = .ok (.putfield 94, 3) := by decide +kernel
theorem dX8_next_67 : decode cX8_next 67 = .ok (.goto 232, 3) := by decide +kernel
theorem dX8_next_70 : decode cX8_next 70 = .ok (.iload_n 1, 1) := by decide +kernel
theorem dX8_next_71 : decode cX8_next 71 = .ok (.i2l, 1) := by decide +kernel
theorem dX8_next_72 : decode cX8_next 72 = .ok (.ldc2_w 97, 3) := by decide +kernel
theorem dX8_next_75 : decode cX8_next 75 = .ok (.ldc2_w 99, 3) := by decide +kernel
theorem dX8_next_78 : decode cX8_next 78 = .ok (.invokestatic 71, 3) := by decide +kernel
theorem dX8_next_81 : decode cX8_next 81 = .ok (.ifCond .eq 75, 3) := by decide +kernel
theorem dX8_next_84 : decode cX8_next 84 = .ok (.aload_n 0, 1) := by decide +kernel
theorem dX8_next_85 : decode cX8_next 85 = .ok (.aload_n 0, 1) := by decide +kernel
theorem dX8_next_86 : decode cX8_next 86 = .ok (.getfield 88, 3) := by decide +kernel
theorem dX8_next_89 : decode cX8_next 89 = .ok (.invokevirtual 84, 3) := by decide +kernel
theorem dX8_next_92 : decode cX8_next 92 = .ok (.i2l, 1) := by decide +kernel
theorem dX8_next_93 : decode cX8_next 93 = .ok (.ldc2_w 97, 3) := by decide +kernel
theorem dX8_next_96 : decode cX8_next 96 = .ok (.ldc2_w 99, 3) := by decide +kernel
theorem dX8_next_99 : decode cX8_next 99 = .ok (.invokestatic 71, 3) := by decide +kernel
theorem dX8_next_102 : decode cX8_next 102 = .ok (.ifCond .eq 16, 3) := by decide +kernel
theorem dX8_next_105 : decode cX8_next 105 = .ok (.aload_n 0, 1) := by decide +kernel
theorem dX8_next_106 : decode cX8_next 106 = .ok (.dup, 1) := by decide +kernel
theorem dX8_next_107 : decode cX8_next 107 = .ok (.getfield 88, 3) := by decide +kernel
theorem dX8_next_110 : decode cX8_next 110 = .ok (.iconst 1, 1) := by decide +kernel
theorem dX8_next_111 : decode cX8_next 111 = .ok (.iadd, 1) := by decide +kernel
theorem dX8_next_112 : decode cX8_next 112 = .ok (.putfield 88, 3) := by decide +kernel
theorem dX8_next_115 : decode cX8_next 115 = .ok (.goto (-31), 3) := by decide +kernel
theorem dX8_next_118 : decode cX8_next 118 = .ok (.aload_n 0, 1) := by decide +kernel
theorem dX8_next_119 : decode cX8_next 119 = .ok (.iconst 1, 1) := by decide +kernel
theorem dX8_next_120 : decode cX8_next 120 = .ok (.putfield 94, 3) := by decide +kernel
theorem dX8_next_123 : decode cX8_next 123 = .ok (.aload_n 0, 1) := by decide +kernel
theorem dX8_next_124 : decode cX8_next 124 = .ok (.aload_n 0, 1) := by decide +kernel
theorem dX8_next_125 : decode cX8_next 125 = .ok (.aload_n 0, 1) := by decide +kernel
theorem dX8_next_126 : decode cX8_next 126 = .ok (.getfield 78, 3) := by decide +kernel
theorem dX8_next_129 : decode cX8_next 129 = .ok (.aload_n 0, 1) := by decide +kernel
theorem dX8_next_130 : decode cX8_next 130 = .ok (.getfield 88, 3) := by decide +kernel
theorem dX8_next_133 : decode cX8_next 133 = .ok (.invokevirtual 101, 3) := by decide +kernel
theorem dX8_next_136 : decode cX8_next 136 = .ok (.putfield 91, 3) := by decide +kernel
theorem dX8_next_139 : decode cX8_next 139 = .ok (.aload_n 0, 1) := by decide +kernel
theorem dX8_next_140 : decode cX8_next 140 = .ok (.getfield 91, 3) := by decide +kernel
theorem dX8_next_143 : decode cX8_next 143 = .ok (.bipush (-4), 2) := by decide +kernel
theorem dX8_next_145 : decode cX8_next 145 = .ok (.if_icmp .ne 154, 3) := by decide +kernel
theorem dX8_next_148 : decode cX8_next 148 = .ok (.aload_n 0, 1) := by decide +kernel
theorem dX8_next_149 : decode cX8_next 149 = .ok (.iconst 1, 1) := by decide +kernel
theorem dX8_next_150 : decode cX8_next 150 = .ok (.invokevirtual 105, 3) := by decide +kernel
theorem dX8_next_153 : decode cX8_next 153 = .ok (.goto 146, 3) := by decide +kernel
theorem dX8_next_156 : decode cX8_next 156 = .ok (.iload_n 1, 1) := by decide +kernel
theorem dX8_next_157 : decode cX8_next 157 = .ok (.i2l, 1) := by decide +kernel
theorem dX8_next_158 : decode cX8_next 158 = .ok (.ldc2_w 109, 3) := by decide +kernel
theorem dX8_next_161 : decode cX8_next 161 = .ok (.ldc2_w 111, 3) := by decide +kernel
theorem dX8_next_164 : decode cX8_next 164 = .ok (.invokestatic 71, 3) := by decide +kernel
theorem dX8_next_167 : decode cX8_next 167 = .ok (.ifCond .eq 106, 3) := by decide +kernel
theorem dX8_next_170 : decode cX8_next 170 = .ok (.aload_n 0, 1) := by decide +kernel
theorem dX8_next_171 : decode cX8_next 171 = .ok (.aload_n 0, 1) := by decide +kernel
theorem dX8_next_172 : decode cX8_next 172 = .ok (.getfield 88, 3) := by decide +kernel
theorem dX8_next_175 : decode cX8_next 175 = .ok (.invokevirtual 84, 3) := by decide +kernel
theorem dX8_next_178 : decode cX8_next 178 = .ok (.i2l, 1) := by decide +kernel
theorem dX8_next_179 : decode cX8_next 179 = .ok (.ldc2_w 109, 3) := by decide +kernel
theorem dX8_next_182 : decode cX8_next 182 = .ok (.ldc2_w 111, 3) := by decide +kernel
theorem dX8_next_185 : decode cX8_next 185 = .ok (.invokestatic 71, 3) := by decide +kernel
theorem dX8_next_188 : decode cX8_next 188 = .ok (.ifCond .eq 59, 3) := by decide +kernel
theorem dX8_next_191 : decode cX8_next 191 = .ok (.aload_n 0, 1) := by decide +kernel
theorem dX8_next_192 : decode cX8_next 192 = .ok (.aload_n 0, 1) := by decide +kernel
theorem dX8_next_193 : decode cX8_next 193 = .ok (.getfield 88, 3) := by decide +kernel
theorem dX8_next_196 : decode cX8_next 196 = .ok (.aload_n 0, 1) := by decide +kernel
theorem dX8_next_197 : decode cX8_next 197 = .ok (.getfield 78, 3) := by decide +kernel
theorem dX8_next_200 : decode cX8_next 200 = .ok (.isub, 1) := by decide +kernel
theorem dX8_next_201 : decode cX8_next 201 = .ok (.iconst 2, 1) := by decide +kernel
theorem dX8_next_202 : decode cX8_next 202 = .ok (.if_icmp .ge 25, 3) := by decide +kernel
theorem dX8_next_205 : decode cX8_next 205 = .ok (.bipush 10, 2) := by decide +kernel
theorem dX8_next_207 : decode cX8_next 207 = .ok (.aload_n 0, 1) := by decide +kernel
theorem dX8_next_208 : decode cX8_next 208 = .ok (.getfield 91, 3) := by decide +kernel
theorem dX8_next_211 : decode cX8_next 211 = .ok (.imul, 1) := by decide +kernel
theorem dX8_next_212 : decode cX8_next 212 = .ok (.aload_n 0, 1) := by decide +kernel
theorem dX8_next_213 : decode cX8_next 213 = .ok (.aload_n 0, 1) := by decide +kernel
theorem dX8_next_214 : decode cX8_next 214 = .ok (.getfield 88, 3) := by decide +kernel
theorem dX8_next_217 : decode cX8_next 217 = .ok (.invokevirtual 84, 3) := by decide +kernel
theorem dX8_next_220 : decode cX8_next 220 = .ok (.iadd, 1) := by decide +kernel
theorem dX8_next_221 : decode cX8_next 221 = .ok (.bipush 48, 2) := by decide +kernel
theorem dX8_next_223 : decode cX8_next 223 = .ok (.isub, 1) := by decide +kernel
theorem dX8_next_224 : decode cX8_next 224 = .ok (.goto 7, 3) := by decide +kernel
theorem dX8_next_227 : decode cX8_next 227 = .ok (.aload_n 0, 1) := by decide +kernel
theorem dX8_next_228 : decode cX8_next 228 = .ok (.getfield 91, 3) := by decide +kernel
theorem dX8_next_231 : decode cX8_next 231 = .ok (.putfield 91, 3) := by decide +kernel
theorem dX8_next_234 : decode cX8_next 234 = .ok (.aload_n 0, 1) := by decide +kernel
theorem dX8_next_235 : decode cX8_next 235 = .ok (.dup, 1) := by decide +kernel
theorem dX8_next_236 : decode cX8_next 236 = .ok (.getfield 88, 3) := by decide +kernel
theorem dX8_next_239 : decode cX8_next 239 = .ok (.iconst 1, 1) := by decide +kernel
theorem dX8_next_240 : decode cX8_next 240 = .ok (.iadd, 1) := by decide +kernel
theorem dX8_next_241 : decode cX8_next 241 = .ok (.putfield 88, 3) := by decide +kernel
theorem dX8_next_244 : decode cX8_next 244 = .ok (.goto (-74), 3) := by decide +kernel
theorem dX8_next_247 : decode cX8_next 247 = .ok (.aload_n 0, 1) := by decide +kernel
theorem dX8_next_248 : decode cX8_next 248 = .ok (.iconst 2, 1) := by decide +kernel
theorem dX8_next_249 : decode cX8_next 249 = .ok (.putfield 94, 3) := by decide +kernel
theorem dX8_next_252 : decode cX8_next 252 = .ok (.aload_n 0, 1) := by decide +kernel
theorem dX8_next_253 : decode cX8_next 253 = .ok (.getfield 88, 3) := by decide +kernel
theorem dX8_next_256 : decode cX8_next 256 = .ok (.aload_n 0, 1) := by decide +kernel
theorem dX8_next_257 : decode cX8_next 257 = .ok (.getfield 78, 3) := by decide +kernel
theorem dX8_next_260 : decode cX8_next 260 = .ok (.isub, 1) := by decide +kernel
theorem dX8_next_261 : decode cX8_next 261 = .ok (.iconst 2, 1) := by decide +kernel
theorem dX8_next_262 : decode cX8_next 262 = .ok (.if_icmp .le 37, 3) := by decide +kernel
theorem dX8_next_265 : decode cX8_next 265 = .ok (.aload_n 0, 1) := by decide +kernel
theorem dX8_next_266 : decode cX8_next 266 = .ok (.iconst 1, 1) := by decide +kernel
theorem dX8_next_267 : decode cX8_next 267 = .ok (.invokevirtual 105, 3) := by decide +kernel
theorem dX8_next_270 : decode cX8_next 270 = .ok (.goto 29, 3) := by decide +kernel
theorem dX8_next_273 : decode cX8_next 273 = .ok (.aload_n 0, 1) := by decide +kernel
theorem dX8_next_274 : decode cX8_next 274 = .ok (.iconst 3, 1) := by decide +kernel
theorem dX8_next_275 : decode cX8_next 275 = .ok (.putfield 94, 3) := by decide +kernel
theorem dX8_next_278 : decode cX8_next 278 = .ok (.aload_n 0, 1) := by decide +kernel
theorem dX8_next_279 : decode cX8_next 279 = .ok (.dup, 1) := by decide +kernel
theorem dX8_next_280 : decode cX8_next 280 = .ok (.getfield 88, 3) := by decide +kernel
theorem dX8_next_283 : decode cX8_next 283 = .ok (.iconst 1, 1) := by decide +kernel
theorem dX8_next_284 : decode cX8_next 284 = .ok (.iadd, 1) := by decide +kernel
theorem dX8_next_285 : decode cX8_next 285 = .ok (.putfield 88, 3) := by decide +kernel
theorem dX8_next_288 : decode cX8_next 288 = .ok (.iload_n 1, 1) := by decide +kernel
theorem dX8_next_289 : decode cX8_next 289 = .ok (.bipush 59, 2) := by decide +kernel
theorem dX8_next_291 : decode cX8_next 291 = .ok (.if_icmp .eq 8, 3) := by decide +kernel
theorem dX8_next_294 : decode cX8_next 294 = .ok (.aload_n 0, 1) := by decide +kernel
theorem dX8_next_295 : decode cX8_next 295 = .ok (.iconst 1, 1) := by decide +kernel
theorem dX8_next_296 : decode cX8_next 296 = .ok (.invokevirtual 105, 3) := by decide +kernel
theorem dX8_next_299 : decode cX8_next 299 = .ok (.return_, 1) := by decide +kernel
theorem dX8_number_0 : decode cX8_number 0 = .ok (.aload_n 0, 1) := by decide +kernel
theorem dX8_number_1 : decode cX8_number 1 = .ok (.getfield 75, 3) := by decide +kernel
theorem dX8_number_4 : decode cX8_number 4 = .ok (.ifCond .ne 16, 3) := by decide +kernel
theorem dX8_number_7 : decode cX8_number 7 = .ok (.aload_n 0, 1) := by decide +kernel
theorem dX8_number_8 : decode cX8_number 8 = .ok (.getfield 94, 3) := by decide +kernel
theorem dX8_number_11 : decode cX8_number 11 = .ok (.iconst 2, 1) := by decide +kernel
theorem dX8_number_12 : decode cX8_number 12 = .ok (.if_icmp .eq 8, 3) := by decide +kernel
theorem dX8_number_15 : decode cX8_number 15 = .ok (.aload_n 0, 1) := by decide +kernel
theorem dX8_number_16 : decode cX8_number 16 = .ok (.iconst 2, 1) := by decide +kernel
theorem dX8_number_17 : decode cX8_number 17 = .ok (.invokevirtual 105, 3) := by decide +kernel
theorem dX8_number_20 : decode cX8_number 20 = .ok (.aload_n 0, 1) := by decide +kernel
theorem dX8_number_21 : decode cX8_number 21 = .ok (.getfield 75, 3) := by decide +kernel
theorem dX8_number_24 : decode cX8_number 24 = .ok (.ifCond .ne 23, 3) := by decide +kernel
theorem dX8_number_27 : decode cX8_number 27 = .ok (.aload_n 0, 1) := by decide +kernel
theorem dX8_number_28 : decode cX8_number 28 = .ok (.getfield 91, 3) := by decide +kernel
theorem dX8_number_31 : decode cX8_number 31 = .ok (.i2l, 1) := by decide +kernel
theorem dX8_number_32 : decode cX8_number 32 = .ok (.iload_n 1, 1) := by decide +kernel
theorem dX8_number_33 : decode cX8_number 33 = .ok (.i2l, 1) := by decide +kernel
theorem dX8_number_34 : decode cX8_number 34 = .ok (.iload_n 2, 1) := by decide +kernel
theorem dX8_number_35 : decode cX8_number 35 = .ok (.i2l, 1) := by decide +kernel
theorem dX8_number_36 : decode cX8_number 36 = .ok (.invokestatic 71, 3) := by decide +kernel
theorem dX8_number_39 : decode cX8_number 39 = .ok (.ifCond .ne 8, 3) := by decide +kernel
theorem dX8_number_42 : decode cX8_number 42 = .ok (.aload_n 0, 1) := by decide +kernel
theorem dX8_number_43 : decode cX8_number 43 = .ok (.iconst 3, 1) := by decide +kernel
theorem dX8_number_44 : decode cX8_number 44 = .ok (.invokevirtual 105, 3) := by decide +kernel
theorem dX8_number_47 : decode cX8_number 47 = .ok (.aload_n 0, 1) := by decide +kernel
theorem dX8_number_48 : decode cX8_number 48 = .ok (.getfield 75, 3) := by decide +kernel
theorem dX8_number_51 : decode cX8_number 51 = .ok (.ifCond .ne 10, 3) := by decide +kernel
theorem dX8_number_54 : decode cX8_number 54 = .ok (.aload_n 0, 1) := by decide +kernel
theorem dX8_number_55 : decode cX8_number 55 = .ok (.getfield 91, 3) := by decide +kernel
theorem dX8_number_58 : decode cX8_number 58 = .ok (.goto 4, 3) := by decide +kernel
theorem dX8_number_61 : decode cX8_number 61 = .ok (.iload_n 1, 1) := by decide +kernel
theorem dX8_number_62 : decode cX8_number 62 = .ok (.ireturn, 1) := by decide +kernel
theorem dX8_told_0 : decode cX8_told 0 = .ok (.aload_n 0, 1) := by decide +kernel
theorem dX8_told_1 : decode cX8_told 1 = .ok (.getfield 75, 3) := by decide +kernel
theorem dX8_told_4 : decode cX8_told 4 = .ok (.ifCond .ne 20, 3) := by decide +kernel
theorem dX8_told_7 : decode cX8_told 7 = .ok (.aload_n 0, 1) := by decide +kernel
theorem dX8_told_8 : decode cX8_told 8 = .ok (.getfield 113, 3) := by decide +kernel
theorem dX8_told_11 : decode cX8_told 11 = .ok (.iload_n 1, 1) := by decide +kernel
theorem dX8_told_12 : decode cX8_told 12 = .ok (.ishr, 1) := by decide +kernel
theorem dX8_told_13 : decode cX8_told 13 = .ok (.iconst 1, 1) := by decide +kernel
theorem dX8_told_14 : decode cX8_told 14 = .ok (.iand, 1) := by decide +kernel
theorem dX8_told_15 : decode cX8_told 15 = .ok (.iconst 1, 1) := by decide +kernel
theorem dX8_told_16 : decode cX8_told 16 = .ok (.if_icmp .ne 8, 3) := by decide +kernel
theorem dX8_told_19 : decode cX8_told 19 = .ok (.aload_n 0, 1) := by decide +kernel
theorem dX8_told_20 : decode cX8_told 20 = .ok (.iconst 4, 1) := by decide +kernel
theorem dX8_told_21 : decode cX8_told 21 = .ok (.invokevirtual 105, 3) := by decide +kernel
theorem dX8_told_24 : decode cX8_told 24 = .ok (.aload_n 0, 1) := by decide +kernel
theorem dX8_told_25 : decode cX8_told 25 = .ok (.dup, 1) := by decide +kernel
theorem dX8_told_26 : decode cX8_told 26 = .ok (.getfield 113, 3) := by decide +kernel
theorem dX8_told_29 : decode cX8_told 29 = .ok (.aload_n 0, 1) := by decide +kernel
theorem dX8_told_30 : decode cX8_told 30 = .ok (.getfield 75, 3) := by decide +kernel
theorem dX8_told_33 : decode cX8_told 33 = .ok (.ifCond .ne 9, 3) := by decide +kernel
theorem dX8_told_36 : decode cX8_told 36 = .ok (.iconst 1, 1) := by decide +kernel
theorem dX8_told_37 : decode cX8_told 37 = .ok (.iload_n 1, 1) := by decide +kernel
theorem dX8_told_38 : decode cX8_told 38 = .ok (.ishl, 1) := by decide +kernel
theorem dX8_told_39 : decode cX8_told 39 = .ok (.goto 4, 3) := by decide +kernel
theorem dX8_told_42 : decode cX8_told 42 = .ok (.iconst 0, 1) := by decide +kernel
theorem dX8_told_43 : decode cX8_told 43 = .ok (.ior, 1) := by decide +kernel
theorem dX8_told_44 : decode cX8_told 44 = .ok (.putfield 113, 3) := by decide +kernel
theorem dX8_told_47 : decode cX8_told 47 = .ok (.return_, 1) := by decide +kernel
theorem dX8_readLine_0 : decode cX8_readLine 0 = .ok (.aload_n 0, 1) := by decide +kernel
theorem dX8_readLine_1 : decode cX8_readLine 1 = .ok (.getfield 91, 3) := by decide +kernel
theorem dX8_readLine_4 : decode cX8_readLine 4 = .ok (.istore_n 1, 1) := by decide +kernel
theorem dX8_readLine_5 : decode cX8_readLine 5 = .ok (.aload_n 0, 1) := by decide +kernel
theorem dX8_readLine_6 : decode cX8_readLine 6 = .ok (.getfield 94, 3) := by decide +kernel
theorem dX8_readLine_9 : decode cX8_readLine 9 = .ok (.iconst 1, 1) := by decide +kernel
theorem dX8_readLine_10 : decode cX8_readLine 10 = .ok (.if_icmp .eq 9, 3) := by decide +kernel
theorem dX8_readLine_13 : decode cX8_readLine 13 = .ok (.aload_n 0, 1) := by decide +kernel
theorem dX8_readLine_14 : decode cX8_readLine 14 = .ok (.iconst 2, 1) := by decide +kernel
theorem dX8_readLine_15 : decode cX8_readLine 15 = .ok (.invokevirtual 105, 3) := by decide +kernel
theorem dX8_readLine_18 : decode cX8_readLine 18 = .ok (.return_, 1) := by decide +kernel
theorem dX8_readLine_19 : decode cX8_readLine 19 = .ok (.iload_n 1, 1) := by decide +kernel
theorem dX8_readLine_20 : decode cX8_readLine 20 = .ok (.iconst 2, 1) := by decide +kernel
theorem dX8_readLine_21 : decode cX8_readLine 21 = .ok (.if_icmp .ge 9, 3) := by decide +kernel
theorem dX8_readLine_24 : decode cX8_readLine 24 = .ok (.iconst 4, 1) := by decide +kernel
theorem dX8_readLine_25 : decode cX8_readLine 25 = .ok (.iload_n 1, 1) := by decide +kernel
theorem dX8_readLine_26 : decode cX8_readLine 26 = .ok (.imul, 1) := by decide +kernel
theorem dX8_readLine_27 : decode cX8_readLine 27 = .ok (.goto 6, 3) := by decide +kernel
theorem dX8_readLine_30 : decode cX8_readLine 30 = .ok (.iload_n 1, 1) := by decide +kernel
theorem dX8_readLine_31 : decode cX8_readLine 31 = .ok (.iconst 5, 1) := by decide +kernel
theorem dX8_readLine_32 : decode cX8_readLine 32 = .ok (.iadd, 1) := by decide +kernel
theorem dX8_readLine_33 : decode cX8_readLine 33 = .ok (.istore_n 2, 1) := by decide +kernel
theorem dX8_readLine_34 : decode cX8_readLine 34 = .ok (.iload_n 1, 1) := by decide +kernel
theorem dX8_readLine_35 : decode cX8_readLine 35 = .ok (.iconst 1, 1) := by decide +kernel
theorem dX8_readLine_36 : decode cX8_readLine 36 = .ok (.if_icmp .le 8, 3) := by decide +kernel
theorem dX8_readLine_39 : decode cX8_readLine 39 = .ok (.aload_n 0, 1) := by decide +kernel
theorem dX8_readLine_40 : decode cX8_readLine 40 = .ok (.iload_n 2, 1) := by decide +kernel
theorem dX8_readLine_41 : decode cX8_readLine 41 = .ok (.invokevirtual 116, 3) := by decide +kernel
theorem dX8_readLine_44 : decode cX8_readLine 44 = .ok (.aload_n 0, 1) := by decide +kernel
theorem dX8_readLine_45 : decode cX8_readLine 45 = .ok (.invokevirtual 119, 3) := by decide +kernel
theorem dX8_readLine_48 : decode cX8_readLine 48 = .ok (.iload_n 1, 1) := by decide +kernel
theorem dX8_readLine_49 : decode cX8_readLine 49 = .ok (.iconst 2, 1) := by decide +kernel
theorem dX8_readLine_50 : decode cX8_readLine 50 = .ok (.if_icmp .ge 29, 3) := by decide +kernel
theorem dX8_readLine_53 : decode cX8_readLine 53 = .ok (.iload_n 2, 1) := by decide +kernel
theorem dX8_readLine_54 : decode cX8_readLine 54 = .ok (.aload_n 0, 1) := by decide +kernel
theorem dX8_readLine_55 : decode cX8_readLine 55 = .ok (.iconst 0, 1) := by decide +kernel
theorem dX8_readLine_56 : decode cX8_readLine 56 = .ok (.iload_n 1, 1) := by decide +kernel
theorem dX8_readLine_57 : decode cX8_readLine 57 = .ok (.ifCond .ne 7, 3) := by decide +kernel
theorem dX8_readLine_60 : decode cX8_readLine 60 = .ok (.iconst 3, 1) := by decide +kernel
theorem dX8_readLine_61 : decode cX8_readLine 61 = .ok (.goto 4, 3) := by decide +kernel
theorem dX8_readLine_64 : decode cX8_readLine 64 = .ok (.iconst 2, 1) := by decide +kernel
theorem dX8_readLine_65 : decode cX8_readLine 65 = .ok (.invokevirtual 122, 3) := by decide +kernel
theorem dX8_readLine_68 : decode cX8_readLine 68 = .ok (.iadd, 1) := by decide +kernel
theorem dX8_readLine_69 : decode cX8_readLine 69 = .ok (.istore_n 2, 1) := by decide +kernel
theorem dX8_readLine_70 : decode cX8_readLine 70 = .ok (.aload_n 0, 1) := by decide +kernel
theorem dX8_readLine_71 : decode cX8_readLine 71 = .ok (.iload_n 2, 1) := by decide +kernel
theorem dX8_readLine_72 : decode cX8_readLine 72 = .ok (.invokevirtual 116, 3) := by decide +kernel
theorem dX8_readLine_75 : decode cX8_readLine 75 = .ok (.aload_n 0, 1) := by decide +kernel
theorem dX8_readLine_76 : decode cX8_readLine 76 = .ok (.invokevirtual 119, 3) := by decide +kernel
theorem dX8_readLine_79 : decode cX8_readLine 79 = .ok (.aload_n 0, 1) := by decide +kernel
theorem dX8_readLine_80 : decode cX8_readLine 80 = .ok (.getfield 31, 3) := by decide +kernel
theorem dX8_readLine_83 : decode cX8_readLine 83 = .ok (.iload_n 2, 1) := by decide +kernel
theorem dX8_readLine_84 : decode cX8_readLine 84 = .ok (.aload_n 0, 1) := by decide +kernel
theorem dX8_readLine_85 : decode cX8_readLine 85 = .ok (.aload_n 0, 1) := by decide +kernel
theorem dX8_readLine_86 : decode cX8_readLine 86 = .ok (.getfield 22, 3) := by decide +kernel
theorem dX8_readLine_89 : decode cX8_readLine 89 = .ok (.iload_n 2, 1) := by decide +kernel
theorem dX8_readLine_90 : decode cX8_readLine 90 = .ok (.iaload, 1) := by decide +kernel
theorem dX8_readLine_91 : decode cX8_readLine 91 = .ok (.aload_n 0, 1) := by decide +kernel
theorem dX8_readLine_92 : decode cX8_readLine 92 = .ok (.getfield 25, 3) := by decide +kernel
theorem dX8_readLine_95 : decode cX8_readLine 95 = .ok (.iload_n 2, 1) := by decide +kernel
theorem dX8_readLine_96 : decode cX8_readLine 96 = .ok (.iaload, 1) := by decide +kernel
theorem dX8_readLine_97 : decode cX8_readLine 97 = .ok (.invokevirtual 122, 3) := by decide +kernel
theorem dX8_readLine_100 : decode cX8_readLine 100 = .ok (.iastore, 1) := by decide +kernel
theorem dX8_readLine_101 : decode cX8_readLine 101 = .ok (.aload_n 0, 1) := by decide +kernel
theorem dX8_readLine_102 : decode cX8_readLine 102 = .ok (.invokevirtual 119, 3) := by decide +kernel
theorem dX8_readLine_105 : decode cX8_readLine 105 = .ok (.aload_n 0, 1) := by decide +kernel
theorem dX8_readLine_106 : decode cX8_readLine 106 = .ok (.getfield 75, 3) := by decide +kernel
theorem dX8_readLine_109 : decode cX8_readLine 109 = .ok (.ifCond .ne 16, 3) := by decide +kernel
theorem dX8_readLine_112 : decode cX8_readLine 112 = .ok (.aload_n 0, 1) := by decide +kernel
theorem dX8_readLine_113 : decode cX8_readLine 113 = .ok (.getfield 94, 3) := by decide +kernel
theorem dX8_readLine_116 : decode cX8_readLine 116 = .ok (.iconst 3, 1) := by decide +kernel
theorem dX8_readLine_117 : decode cX8_readLine 117 = .ok (.if_icmp .eq 8, 3) := by decide +kernel
theorem dX8_readLine_120 : decode cX8_readLine 120 = .ok (.aload_n 0, 1) := by decide +kernel
theorem dX8_readLine_121 : decode cX8_readLine 121 = .ok (.iconst 2, 1) := by decide +kernel
theorem dX8_readLine_122 : decode cX8_readLine 122 = .ok (.invokevirtual 105, 3) := by decide +kernel
theorem dX8_readLine_125 : decode cX8_readLine 125 = .ok (.aload_n 0, 1) := by decide +kernel
theorem dX8_readLine_126 : decode cX8_readLine 126 = .ok (.invokevirtual 119, 3) := by decide +kernel
theorem dX8_readLine_129 : decode cX8_readLine 129 = .ok (.return_, 1) := by decide +kernel
theorem dX8_text_0 : decode cX8_text 0 = .ok (.aload_n 0, 1) := by decide +kernel
theorem dX8_text_1 : decode cX8_text 1 = .ok (.iconst 0, 1) := by decide +kernel
theorem dX8_text_2 : decode cX8_text 2 = .ok (.putfield 75, 3) := by decide +kernel
theorem dX8_text_5 : decode cX8_text 5 = .ok (.aload_n 0, 1) := by decide +kernel
theorem dX8_text_6 : decode cX8_text 6 = .ok (.iconst 0, 1) := by decide +kernel
theorem dX8_text_7 : decode cX8_text 7 = .ok (.putfield 88, 3) := by decide +kernel
theorem dX8_text_10 : decode cX8_text 10 = .ok (.aload_n 0, 1) := by decide +kernel
theorem dX8_text_11 : decode cX8_text 11 = .ok (.iconst 0, 1) := by decide +kernel
theorem dX8_text_12 : decode cX8_text 12 = .ok (.putfield 113, 3) := by decide +kernel
theorem dX8_text_15 : decode cX8_text 15 = .ok (.iconst 0, 1) := by decide +kernel
theorem dX8_text_16 : decode cX8_text 16 = .ok (.istore_n 1, 1) := by decide +kernel
theorem dX8_text_17 : decode cX8_text 17 = .ok (.iconst 0, 1) := by decide +kernel
theorem dX8_text_18 : decode cX8_text 18 = .ok (.istore_n 2, 1) := by decide +kernel
theorem dX8_text_19 : decode cX8_text 19 = .ok (.iload_n 2, 1) := by decide +kernel
theorem dX8_text_20 : decode cX8_text 20 = .ok (.bipush 18, 2) := by decide +kernel
theorem dX8_text_22 : decode cX8_text 22 = .ok (.if_icmp .ge 21, 3) := by decide +kernel
theorem dX8_text_25 : decode cX8_text 25 = .ok (.aload_n 0, 1) := by decide +kernel
theorem dX8_text_26 : decode cX8_text 26 = .ok (.getfield 31, 3) := by decide +kernel
theorem dX8_text_29 : decode cX8_text 29 = .ok (.iload_n 2, 1) := by decide +kernel
theorem dX8_text_30 : decode cX8_text 30 = .ok (.aload_n 0, 1) := by decide +kernel
theorem dX8_text_31 : decode cX8_text 31 = .ok (.getfield 19, 3) := by decide +kernel
theorem dX8_text_34 : decode cX8_text 34 = .ok (.iload_n 2, 1) := by decide +kernel
theorem dX8_text_35 : decode cX8_text 35 = .ok (.iaload, 1) := by decide +kernel
theorem dX8_text_36 : decode cX8_text 36 = .ok (.iastore, 1) := by decide +kernel
theorem dX8_text_37 : decode cX8_text 37 = .ok (.iinc 2 1, 3) := by decide +kernel
theorem dX8_text_40 : decode cX8_text 40 = .ok (.goto (-21), 3) := by decide +kernel
theorem dX8_text_43 : decode cX8_text 43 = .ok (.aload_n 0, 1) := by decide +kernel
theorem dX8_text_44 : decode cX8_text 44 = .ok (.invokevirtual 119, 3) := by decide +kernel
theorem dX8_text_47 : decode cX8_text 47 = .ok (.aload_n 0, 1) := by decide +kernel
theorem dX8_text_48 : decode cX8_text 48 = .ok (.getfield 75, 3) := by decide +kernel
theorem dX8_text_51 : decode cX8_text 51 = .ok (.ifCond .ne 20, 3) := by decide +kernel
theorem dX8_text_54 : decode cX8_text 54 = .ok (.aload_n 0, 1) := by decide +kernel
theorem dX8_text_55 : decode cX8_text 55 = .ok (.getfield 94, 3) := by decide +kernel
theorem dX8_text_58 : decode cX8_text 58 = .ok (.ifCond .eq 13, 3) := by decide +kernel
theorem dX8_text_61 : decode cX8_text 61 = .ok (.aload_n 0, 1) := by decide +kernel
theorem dX8_text_62 : decode cX8_text 62 = .ok (.invokevirtual 125, 3) := by decide +kernel
theorem dX8_text_65 : decode cX8_text 65 = .ok (.iinc 1 1, 3) := by decide +kernel
theorem dX8_text_68 : decode cX8_text 68 = .ok (.goto (-21), 3) := by decide +kernel
theorem dX8_text_71 : decode cX8_text 71 = .ok (.aload_n 0, 1) := by decide +kernel
theorem dX8_text_72 : decode cX8_text 72 = .ok (.iconst 0, 1) := by decide +kernel
theorem dX8_text_73 : decode cX8_text 73 = .ok (.putfield 67, 3) := by decide +kernel
theorem dX8_text_76 : decode cX8_text 76 = .ok (.aload_n 0, 1) := by decide +kernel
theorem dX8_text_77 : decode cX8_text 77 = .ok (.aload_n 0, 1) := by decide +kernel
theorem dX8_text_78 : decode cX8_text 78 = .ok (.getfield 75, 3) := by decide +kernel
theorem dX8_text_81 : decode cX8_text 81 = .ok (.putfield 128, 3) := by decide +kernel
theorem dX8_text_84 : decode cX8_text 84 = .ok (.aload_n 0, 1) := by decide +kernel
theorem dX8_text_85 : decode cX8_text 85 = .ok (.getfield 75, 3) := by decide +kernel
theorem dX8_text_88 : decode cX8_text 88 = .ok (.ifCond .le 11, 3) := by decide +kernel
theorem dX8_text_91 : decode cX8_text 91 = .ok (.bipush (-10), 2) := by decide +kernel
theorem dX8_text_93 : decode cX8_text 93 = .ok (.aload_n 0, 1) := by decide +kernel
theorem dX8_text_94 : decode cX8_text 94 = .ok (.getfield 81, 3) := by decide +kernel
theorem dX8_text_97 : decode cX8_text 97 = .ok (.isub, 1) := by decide +kernel
theorem dX8_text_98 : decode cX8_text 98 = .ok (.ireturn, 1) := by decide +kernel
theorem dX8_text_99 : decode cX8_text 99 = .ok (.iconst 0, 1) := by decide +kernel
theorem dX8_text_100 : decode cX8_text 100 = .ok (.istore_n 2, 1) := by decide +kernel
theorem dX8_text_101 : decode cX8_text 101 = .ok (.iload_n 2, 1) := by decide +kernel
theorem dX8_text_102 : decode cX8_text 102 = .ok (.bipush 18, 2) := by decide +kernel
theorem dX8_text_104 : decode cX8_text 104 = .ok (.if_icmp .ge 21, 3) := by decide +kernel
theorem dX8_text_107 : decode cX8_text 107 = .ok (.aload_n 0, 1) := by decide +kernel
theorem dX8_text_108 : decode cX8_text 108 = .ok (.getfield 28, 3) := by decide +kernel
theorem dX8_text_111 : decode cX8_text 111 = .ok (.iload_n 2, 1) := by decide +kernel
theorem dX8_text_112 : decode cX8_text 112 = .ok (.aload_n 0, 1) := by decide +kernel
theorem dX8_text_113 : decode cX8_text 113 = .ok (.getfield 31, 3) := by decide +kernel
theorem dX8_text_116 : decode cX8_text 116 = .ok (.iload_n 2, 1) := by decide +kernel
theorem dX8_text_117 : decode cX8_text 117 = .ok (.iaload, 1) := by decide +kernel
theorem dX8_text_118 : decode cX8_text 118 = .ok (.iastore, 1) := by decide +kernel
theorem dX8_text_119 : decode cX8_text 119 = .ok (.iinc 2 1, 3) := by decide +kernel
theorem dX8_text_122 : decode cX8_text 122 = .ok (.goto (-21), 3) := by decide +kernel
theorem dX8_text_125 : decode cX8_text 125 = .ok (.iload_n 1, 1) := by decide +kernel
theorem dX8_text_126 : decode cX8_text 126 = .ok (.ireturn, 1) := by decide +kernel
theorem dX8_fault_0 : decode cX8_fault 0 = .ok (.aload_n 0, 1) := by decide +kernel
theorem dX8_fault_1 : decode cX8_fault 1 = .ok (.getfield 128, 3) := by decide +kernel
theorem dX8_fault_4 : decode cX8_fault 4 = .ok (.ireturn, 1) := by decide +kernel
theorem dX8_rule_0 : decode cX8_rule 0 = .ok (.iload_n 1, 1) := by decide +kernel
theorem dX8_rule_1 : decode cX8_rule 1 = .ok (.i2l, 1) := by decide +kernel
theorem dX8_rule_2 : decode cX8_rule 2 = .ok (.lconst 0, 1) := by decide +kernel
theorem dX8_rule_3 : decode cX8_rule 3 = .ok (.ldc2_w 131, 3) := by decide +kernel
theorem dX8_rule_6 : decode cX8_rule 6 = .ok (.invokestatic 71, 3) := by decide +kernel
theorem dX8_rule_9 : decode cX8_rule 9 = .ok (.ifCond .eq 12, 3) := by decide +kernel
theorem dX8_rule_12 : decode cX8_rule 12 = .ok (.aload_n 0, 1) := by decide +kernel
theorem dX8_rule_13 : decode cX8_rule 13 = .ok (.getfield 28, 3) := by decide +kernel
theorem dX8_rule_16 : decode cX8_rule 16 = .ok (.iload_n 1, 1) := by decide +kernel
theorem dX8_rule_17 : decode cX8_rule 17 = .ok (.iaload, 1) := by decide +kernel
theorem dX8_rule_18 : decode cX8_rule 18 = .ok (.goto 4, 3) := by decide +kernel
theorem dX8_rule_21 : decode cX8_rule 21 = .ok (.iconst (-1), 1) := by decide +kernel
theorem dX8_rule_22 : decode cX8_rule 22 = .ok (.ireturn, 1) := by decide +kernel
theorem dX8_isNumber_0 : decode cX8_isNumber 0 = .ok (.iload_n 0, 1) := by decide +kernel
theorem dX8_isNumber_1 : decode cX8_isNumber 1 = .ok (.i2l, 1) := by decide +kernel
theorem dX8_isNumber_2 : decode cX8_isNumber 2 = .ok (.lconst 0, 1) := by decide +kernel
theorem dX8_isNumber_3 : decode cX8_isNumber 3 = .ok (.ldc2_w 133, 3) := by decide +kernel
theorem dX8_isNumber_6 : decode cX8_isNumber 6 = .ok (.invokestatic 71, 3) := by decide +kernel
theorem dX8_isNumber_9 : decode cX8_isNumber 9 = .ok (.ireturn, 1) := by decide +kernel
theorem dX8_isWay_0 : decode cX8_isWay 0 = .ok (.iload_n 1, 1) := by decide +kernel
theorem dX8_isWay_1 : decode cX8_isWay 1 = .ok (.invokestatic 135, 3) := by decide +kernel
theorem dX8_isWay_4 : decode cX8_isWay 4 = .ok (.ifCond .eq 16, 3) := by decide +kernel
theorem dX8_isWay_7 : decode cX8_isWay 7 = .ok (.aload_n 0, 1) := by decide +kernel
theorem dX8_isWay_8 : decode cX8_isWay 8 = .ok (.getfield 37, 3) := by decide +kernel
theorem dX8_isWay_11 : decode cX8_isWay 11 = .ok (.iload_n 1, 1) := by decide +kernel
theorem dX8_isWay_12 : decode cX8_isWay 12 = .ok (.iaload, 1) := by decide +kernel
theorem dX8_isWay_13 : decode cX8_isWay 13 = .ok (.ifCond .le 7, 3) := by decide +kernel
theorem dX8_isWay_16 : decode cX8_isWay 16 = .ok (.iconst 1, 1) := by decide +kernel
theorem dX8_isWay_17 : decode cX8_isWay 17 = .ok (.goto 4, 3) := by decide +kernel
theorem dX8_isWay_20 : decode cX8_isWay 20 = .ok (.iconst 0, 1) := by decide +kernel
theorem dX8_isWay_21 : decode cX8_isWay 21 = .ok (.ireturn, 1) := by decide +kernel
theorem dX8_isTenth_0 : decode cX8_isTenth 0 = .ok (.aload_n 0, 1) := by decide +kernel
theorem dX8_isTenth_1 : decode cX8_isTenth 1 = .ok (.iload_n 1, 1) := by decide +kernel
theorem dX8_isTenth_2 : decode cX8_isTenth 2 = .ok (.invokevirtual 139, 3) := by decide +kernel
theorem dX8_isTenth_5 : decode cX8_isTenth 5 = .ok (.ifCond .eq 25, 3) := by decide +kernel
theorem dX8_isTenth_8 : decode cX8_isTenth 8 = .ok (.iload_n 2, 1) := by decide +kernel
theorem dX8_isTenth_9 : decode cX8_isTenth 9 = .ok (.i2l, 1) := by decide +kernel
theorem dX8_isTenth_10 : decode cX8_isTenth 10 = .ok (.lconst 0, 1) := by decide +kernel
theorem dX8_isTenth_11 : decode cX8_isTenth 11 = .ok (.aload_n 0, 1) := by decide +kernel
theorem dX8_isTenth_12 : decode cX8_isTenth 12 = .ok (.getfield 37, 3) := by decide +kernel
theorem dX8_isTenth_15 : decode cX8_isTenth 15 = .ok (.iload_n 1, 1) := by decide +kernel
theorem dX8_isTenth_16 : decode cX8_isTenth 16 = .ok (.iaload, 1) := by decide +kernel
theorem dX8_isTenth_17 : decode cX8_isTenth 17 = .ok (.iconst 1, 1) := by decide +kernel
theorem dX8_isTenth_18 : decode cX8_isTenth 18 = .ok (.isub, 1) := by decide +kernel
theorem dX8_isTenth_19 : decode cX8_isTenth 19 = .ok (.i2l, 1) := by decide +kernel
theorem dX8_isTenth_20 : decode cX8_isTenth 20 = .ok (.invokestatic 71, 3) := by decide +kernel
theorem dX8_isTenth_23 : decode cX8_isTenth 23 = .ok (.ifCond .eq 7, 3) := by decide +kernel
theorem dX8_isTenth_26 : decode cX8_isTenth 26 = .ok (.iconst 1, 1) := by decide +kernel
theorem dX8_isTenth_27 : decode cX8_isTenth 27 = .ok (.goto 4, 3) := by decide +kernel
theorem dX8_isTenth_30 : decode cX8_isTenth 30 = .ok (.iconst 0, 1) := by decide +kernel
theorem dX8_isTenth_31 : decode cX8_isTenth 31 = .ok (.ireturn, 1) := by decide +kernel
theorem dX8_isPart_0 : decode cX8_isPart 0 = .ok (.iload_n 0, 1) := by decide +kernel
theorem dX8_isPart_1 : decode cX8_isPart 1 = .ok (.i2l, 1) := by decide +kernel
theorem dX8_isPart_2 : decode cX8_isPart 2 = .ok (.lconst 0, 1) := by decide +kernel
theorem dX8_isPart_3 : decode cX8_isPart 3 = .ok (.ldc2_w 142, 3) := by decide +kernel
theorem dX8_isPart_6 : decode cX8_isPart 6 = .ok (.invokestatic 71, 3) := by decide +kernel
theorem dX8_isPart_9 : decode cX8_isPart 9 = .ok (.ireturn, 1) := by decide +kernel
theorem dX8_clear_0 : decode cX8_clear 0 = .ok (.iconst 0, 1) := by decide +kernel
theorem dX8_clear_1 : decode cX8_clear 1 = .ok (.istore_n 2, 1) := by decide +kernel
theorem dX8_clear_2 : decode cX8_clear 2 = .ok (.iload_n 2, 1) := by decide +kernel
theorem dX8_clear_3 : decode cX8_clear 3 = .ok (.bipush 64, 2) := by decide +kernel
theorem dX8_clear_5 : decode cX8_clear 5 = .ok (.if_icmp .ge 21, 3) := by decide +kernel
theorem dX8_clear_8 : decode cX8_clear 8 = .ok (.aload_n 0, 1) := by decide +kernel
theorem dX8_clear_9 : decode cX8_clear 9 = .ok (.getfield 34, 3) := by decide +kernel
theorem dX8_clear_12 : decode cX8_clear 12 = .ok (.bipush 64, 2) := by decide +kernel
theorem dX8_clear_14 : decode cX8_clear 14 = .ok (.iload_n 1, 1) := by decide +kernel
theorem dX8_clear_15 : decode cX8_clear 15 = .ok (.imul, 1) := by decide +kernel
theorem dX8_clear_16 : decode cX8_clear 16 = .ok (.iload_n 2, 1) := by decide +kernel
theorem dX8_clear_17 : decode cX8_clear 17 = .ok (.iadd, 1) := by decide +kernel
theorem dX8_clear_18 : decode cX8_clear 18 = .ok (.iconst 0, 1) := by decide +kernel
theorem dX8_clear_19 : decode cX8_clear 19 = .ok (.iastore, 1) := by decide +kernel
theorem dX8_clear_20 : decode cX8_clear 20 = .ok (.iinc 2 1, 3) := by decide +kernel
theorem dX8_clear_23 : decode cX8_clear 23 = .ok (.goto (-21), 3) := by decide +kernel
theorem dX8_clear_26 : decode cX8_clear 26 = .ok (.return_, 1) := by decide +kernel
theorem dX8_way_0 : decode cX8_way 0 = .ok (.iload_n 1, 1) := by decide +kernel
theorem dX8_way_1 : decode cX8_way 1 = .ok (.invokestatic 135, 3) := by decide +kernel
theorem dX8_way_4 : decode cX8_way 4 = .ok (.ifCond .eq 29, 3) := by decide +kernel
theorem dX8_way_7 : decode cX8_way 7 = .ok (.iload_n 2, 1) := by decide +kernel
theorem dX8_way_8 : decode cX8_way 8 = .ok (.i2l, 1) := by decide +kernel
theorem dX8_way_9 : decode cX8_way 9 = .ok (.ldc2_w 144, 3) := by decide +kernel
theorem dX8_way_12 : decode cX8_way 12 = .ok (.ldc2_w 146, 3) := by decide +kernel
theorem dX8_way_15 : decode cX8_way 15 = .ok (.invokestatic 71, 3) := by decide +kernel
theorem dX8_way_18 : decode cX8_way 18 = .ok (.ifCond .eq 15, 3) := by decide +kernel
theorem dX8_way_21 : decode cX8_way 21 = .ok (.iload_n 3, 1) := by decide +kernel
theorem dX8_way_22 : decode cX8_way 22 = .ok (.i2l, 1) := by decide +kernel
theorem dX8_way_23 : decode cX8_way 23 = .ok (.lconst 1, 1) := by decide +kernel
theorem dX8_way_24 : decode cX8_way 24 = .ok (.ldc2_w 144, 3) := by decide +kernel
theorem dX8_way_27 : decode cX8_way 27 = .ok (.invokestatic 71, 3) := by decide +kernel
theorem dX8_way_30 : decode cX8_way 30 = .ok (.ifCond .ne 5, 3) := by decide +kernel
theorem dX8_way_33 : decode cX8_way 33 = .ok (.iconst (-1), 1) := by decide +kernel
theorem dX8_way_34 : decode cX8_way 34 = .ok (.ireturn, 1) := by decide +kernel
theorem dX8_way_35 : decode cX8_way 35 = .ok (.aload_n 0, 1) := by decide +kernel
theorem dX8_way_36 : decode cX8_way 36 = .ok (.getfield 37, 3) := by decide +kernel
theorem dX8_way_39 : decode cX8_way 39 = .ok (.iload_n 1, 1) := by decide +kernel
theorem dX8_way_40 : decode cX8_way 40 = .ok (.iaload, 1) := by decide +kernel
theorem dX8_way_41 : decode cX8_way 41 = .ok (.istore 4, 2) := by decide +kernel
theorem dX8_way_43 : decode cX8_way 43 = .ok (.aload_n 0, 1) := by decide +kernel
theorem dX8_way_44 : decode cX8_way 44 = .ok (.iload_n 1, 1) := by decide +kernel
theorem dX8_way_45 : decode cX8_way 45 = .ok (.invokevirtual 148, 3) := by decide +kernel
theorem dX8_way_48 : decode cX8_way 48 = .ok (.aload_n 0, 1) := by decide +kernel
theorem dX8_way_49 : decode cX8_way 49 = .ok (.getfield 37, 3) := by decide +kernel
theorem dX8_way_52 : decode cX8_way 52 = .ok (.iload_n 1, 1) := by decide +kernel
theorem dX8_way_53 : decode cX8_way 53 = .ok (.iload_n 2, 1) := by decide +kernel
theorem dX8_way_54 : decode cX8_way 54 = .ok (.iastore, 1) := by decide +kernel
theorem dX8_way_55 : decode cX8_way 55 = .ok (.aload_n 0, 1) := by decide +kernel
theorem dX8_way_56 : decode cX8_way 56 = .ok (.getfield 40, 3) := by decide +kernel
theorem dX8_way_59 : decode cX8_way 59 = .ok (.iload_n 1, 1) := by decide +kernel
theorem dX8_way_60 : decode cX8_way 60 = .ok (.iload_n 3, 1) := by decide +kernel
theorem dX8_way_61 : decode cX8_way 61 = .ok (.iastore, 1) := by decide +kernel
theorem dX8_way_62 : decode cX8_way 62 = .ok (.iload 4, 2) := by decide +kernel
theorem dX8_way_64 : decode cX8_way 64 = .ok (.ireturn, 1) := by decide +kernel
theorem dX8_put_0 : decode cX8_put 0 = .ok (.aload_n 0, 1) := by decide +kernel
theorem dX8_put_1 : decode cX8_put 1 = .ok (.iload_n 1, 1) := by decide +kernel
theorem dX8_put_2 : decode cX8_put 2 = .ok (.iload_n 2, 1) := by decide +kernel
theorem dX8_put_3 : decode cX8_put 3 = .ok (.invokevirtual 151, 3) := by decide +kernel
theorem dX8_put_6 : decode cX8_put 6 = .ok (.ifCond .eq 40, 3) := by decide +kernel
theorem dX8_put_9 : decode cX8_put 9 = .ok (.iload_n 3, 1) := by decide +kernel
theorem dX8_put_10 : decode cX8_put 10 = .ok (.invokestatic 155, 3) := by decide +kernel
theorem dX8_put_13 : decode cX8_put 13 = .ok (.ifCond .eq 33, 3) := by decide +kernel
theorem dX8_put_16 : decode cX8_put 16 = .ok (.iload 4, 2) := by decide +kernel
theorem dX8_put_18 : decode cX8_put 18 = .ok (.i2l, 1) := by decide +kernel
theorem dX8_put_19 : decode cX8_put 19 = .ok (.ldc2_w 158, 3) := by decide +kernel
theorem dX8_put_22 : decode cX8_put 22 = .ok (.ldc2_w 160, 3) := by decide +kernel
theorem dX8_put_25 : decode cX8_put 25 = .ok (.invokestatic 71, 3) := by decide +kernel
theorem dX8_put_28 : decode cX8_put 28 = .ok (.ifCond .eq 18, 3) := by decide +kernel
theorem dX8_put_31 : decode cX8_put 31 = .ok (.iload 5, 2) := by decide +kernel
theorem dX8_put_33 : decode cX8_put 33 = .ok (.i2l, 1) := by decide +kernel
theorem dX8_put_34 : decode cX8_put 34 = .ok (.ldc2_w 158, 3) := by decide +kernel
theorem dX8_put_37 : decode cX8_put 37 = .ok (.ldc2_w 160, 3) := by decide +kernel
theorem dX8_put_40 : decode cX8_put 40 = .ok (.invokestatic 71, 3) := by decide +kernel
theorem dX8_put_43 : decode cX8_put 43 = .ok (.ifCond .ne 5, 3) := by decide +kernel
theorem dX8_put_46 : decode cX8_put 46 = .ok (.iconst (-1), 1) := by decide +kernel
theorem dX8_put_47 : decode cX8_put 47 = .ok (.ireturn, 1) := by decide +kernel
theorem dX8_put_48 : decode cX8_put 48 = .ok (.aload_n 0, 1) := by decide +kernel
theorem dX8_put_49 : decode cX8_put 49 = .ok (.getfield 34, 3) := by decide +kernel
theorem dX8_put_52 : decode cX8_put 52 = .ok (.bipush 64, 2) := by decide +kernel
theorem dX8_put_54 : decode cX8_put 54 = .ok (.iload_n 1, 1) := by decide +kernel
theorem dX8_put_55 : decode cX8_put 55 = .ok (.imul, 1) := by decide +kernel
theorem dX8_put_56 : decode cX8_put 56 = .ok (.bipush 8, 2) := by decide +kernel
theorem dX8_put_58 : decode cX8_put 58 = .ok (.iload_n 2, 1) := by decide +kernel
theorem dX8_put_59 : decode cX8_put 59 = .ok (.imul, 1) := by decide +kernel
theorem dX8_put_60 : decode cX8_put 60 = .ok (.iadd, 1) := by decide +kernel
theorem dX8_put_61 : decode cX8_put 61 = .ok (.iconst 2, 1) := by decide +kernel
theorem dX8_put_62 : decode cX8_put 62 = .ok (.iload_n 3, 1) := by decide +kernel
theorem dX8_put_63 : decode cX8_put 63 = .ok (.imul, 1) := by decide +kernel
theorem dX8_put_64 : decode cX8_put 64 = .ok (.iadd, 1) := by decide +kernel
theorem dX8_put_65 : decode cX8_put 65 = .ok (.iload 4, 2) := by decide +kernel
theorem dX8_put_67 : decode cX8_put 67 = .ok (.iastore, 1) := by decide +kernel
theorem dX8_put_68 : decode cX8_put 68 = .ok (.aload_n 0, 1) := by decide +kernel
theorem dX8_put_69 : decode cX8_put 69 = .ok (.getfield 34, 3) := by decide +kernel
theorem dX8_put_72 : decode cX8_put 72 = .ok (.bipush 64, 2) := by decide +kernel
theorem dX8_put_74 : decode cX8_put 74 = .ok (.iload_n 1, 1) := by decide +kernel
theorem dX8_put_75 : decode cX8_put 75 = .ok (.imul, 1) := by decide +kernel
theorem dX8_put_76 : decode cX8_put 76 = .ok (.bipush 8, 2) := by decide +kernel
theorem dX8_put_78 : decode cX8_put 78 = .ok (.iload_n 2, 1) := by decide +kernel
theorem dX8_put_79 : decode cX8_put 79 = .ok (.imul, 1) := by decide +kernel
theorem dX8_put_80 : decode cX8_put 80 = .ok (.iadd, 1) := by decide +kernel
theorem dX8_put_81 : decode cX8_put 81 = .ok (.iconst 2, 1) := by decide +kernel
theorem dX8_put_82 : decode cX8_put 82 = .ok (.iload_n 3, 1) := by decide +kernel
theorem dX8_put_83 : decode cX8_put 83 = .ok (.imul, 1) := by decide +kernel
theorem dX8_put_84 : decode cX8_put 84 = .ok (.iadd, 1) := by decide +kernel
theorem dX8_put_85 : decode cX8_put 85 = .ok (.iconst 1, 1) := by decide +kernel
theorem dX8_put_86 : decode cX8_put 86 = .ok (.iadd, 1) := by decide +kernel
theorem dX8_put_87 : decode cX8_put 87 = .ok (.iload 5, 2) := by decide +kernel
theorem dX8_put_89 : decode cX8_put 89 = .ok (.iastore, 1) := by decide +kernel
theorem dX8_put_90 : decode cX8_put 90 = .ok (.iconst 1, 1) := by decide +kernel
theorem dX8_put_91 : decode cX8_put 91 = .ok (.ireturn, 1) := by decide +kernel
theorem dX8_its_0 : decode cX8_its 0 = .ok (.aload_n 0, 1) := by decide +kernel
theorem dX8_its_1 : decode cX8_its 1 = .ok (.getfield 34, 3) := by decide +kernel
theorem dX8_its_4 : decode cX8_its 4 = .ok (.bipush 64, 2) := by decide +kernel
theorem dX8_its_6 : decode cX8_its 6 = .ok (.iload_n 1, 1) := by decide +kernel
theorem dX8_its_7 : decode cX8_its 7 = .ok (.imul, 1) := by decide +kernel
theorem dX8_its_8 : decode cX8_its 8 = .ok (.bipush 8, 2) := by decide +kernel
theorem dX8_its_10 : decode cX8_its 10 = .ok (.iload_n 2, 1) := by decide +kernel
theorem dX8_its_11 : decode cX8_its 11 = .ok (.imul, 1) := by decide +kernel
theorem dX8_its_12 : decode cX8_its 12 = .ok (.iadd, 1) := by decide +kernel
theorem dX8_its_13 : decode cX8_its 13 = .ok (.iconst 2, 1) := by decide +kernel
theorem dX8_its_14 : decode cX8_its 14 = .ok (.iload_n 3, 1) := by decide +kernel
theorem dX8_its_15 : decode cX8_its 15 = .ok (.imul, 1) := by decide +kernel
theorem dX8_its_16 : decode cX8_its 16 = .ok (.iadd, 1) := by decide +kernel
theorem dX8_its_17 : decode cX8_its 17 = .ok (.iload 4, 2) := by decide +kernel
theorem dX8_its_19 : decode cX8_its 19 = .ok (.iadd, 1) := by decide +kernel
theorem dX8_its_20 : decode cX8_its 20 = .ok (.iaload, 1) := by decide +kernel
theorem dX8_its_21 : decode cX8_its 21 = .ok (.ireturn, 1) := by decide +kernel
theorem dX8_at_0 : decode cX8_at 0 = .ok (.aload_n 0, 1) := by decide +kernel
theorem dX8_at_1 : decode cX8_at 1 = .ok (.iload_n 1, 1) := by decide +kernel
theorem dX8_at_2 : decode cX8_at 2 = .ok (.iload_n 2, 1) := by decide +kernel
theorem dX8_at_3 : decode cX8_at 3 = .ok (.invokevirtual 151, 3) := by decide +kernel
theorem dX8_at_6 : decode cX8_at 6 = .ok (.ifCond .eq 33, 3) := by decide +kernel
theorem dX8_at_9 : decode cX8_at 9 = .ok (.iload_n 3, 1) := by decide +kernel
theorem dX8_at_10 : decode cX8_at 10 = .ok (.invokestatic 155, 3) := by decide +kernel
theorem dX8_at_13 : decode cX8_at 13 = .ok (.ifCond .eq 26, 3) := by decide +kernel
theorem dX8_at_16 : decode cX8_at 16 = .ok (.iload 4, 2) := by decide +kernel
theorem dX8_at_18 : decode cX8_at 18 = .ok (.i2l, 1) := by decide +kernel
theorem dX8_at_19 : decode cX8_at 19 = .ok (.lconst 0, 1) := by decide +kernel
theorem dX8_at_20 : decode cX8_at 20 = .ok (.lconst 1, 1) := by decide +kernel
theorem dX8_at_21 : decode cX8_at 21 = .ok (.invokestatic 71, 3) := by decide +kernel
theorem dX8_at_24 : decode cX8_at 24 = .ok (.ifCond .eq 15, 3) := by decide +kernel
theorem dX8_at_27 : decode cX8_at 27 = .ok (.aload_n 0, 1) := by decide +kernel
theorem dX8_at_28 : decode cX8_at 28 = .ok (.iload_n 1, 1) := by decide +kernel
theorem dX8_at_29 : decode cX8_at 29 = .ok (.iload_n 2, 1) := by decide +kernel
theorem dX8_at_30 : decode cX8_at 30 = .ok (.iload_n 3, 1) := by decide +kernel
theorem dX8_at_31 : decode cX8_at 31 = .ok (.iload 4, 2) := by decide +kernel
theorem dX8_at_33 : decode cX8_at 33 = .ok (.invokevirtual 162, 3) := by decide +kernel
theorem dX8_at_36 : decode cX8_at 36 = .ok (.goto 6, 3) := by decide +kernel
theorem dX8_at_39 : decode cX8_at 39 = .ok (.sipush (-1000), 3) := by decide +kernel
theorem dX8_at_42 : decode cX8_at 42 = .ok (.ireturn, 1) := by decide +kernel
theorem dX8_of_0 : decode cX8_of 0 = .ok (.aload_n 0, 1) := by decide +kernel
theorem dX8_of_1 : decode cX8_of 1 = .ok (.iload_n 1, 1) := by decide +kernel
theorem dX8_of_2 : decode cX8_of 2 = .ok (.invokevirtual 139, 3) := by decide +kernel
theorem dX8_of_5 : decode cX8_of 5 = .ok (.ifCond .eq 35, 3) := by decide +kernel
theorem dX8_of_8 : decode cX8_of 8 = .ok (.iload_n 2, 1) := by decide +kernel
theorem dX8_of_9 : decode cX8_of 9 = .ok (.i2l, 1) := by decide +kernel
theorem dX8_of_10 : decode cX8_of 10 = .ok (.lconst 0, 1) := by decide +kernel
theorem dX8_of_11 : decode cX8_of 11 = .ok (.lconst 1, 1) := by decide +kernel
theorem dX8_of_12 : decode cX8_of 12 = .ok (.invokestatic 71, 3) := by decide +kernel
theorem dX8_of_15 : decode cX8_of 15 = .ok (.ifCond .eq 25, 3) := by decide +kernel
theorem dX8_of_18 : decode cX8_of 18 = .ok (.iload_n 2, 1) := by decide +kernel
theorem dX8_of_19 : decode cX8_of 19 = .ok (.ifCond .ne 12, 3) := by decide +kernel
theorem dX8_of_22 : decode cX8_of 22 = .ok (.aload_n 0, 1) := by decide +kernel
theorem dX8_of_23 : decode cX8_of 23 = .ok (.getfield 37, 3) := by decide +kernel
theorem dX8_of_26 : decode cX8_of 26 = .ok (.iload_n 1, 1) := by decide +kernel
theorem dX8_of_27 : decode cX8_of 27 = .ok (.iaload, 1) := by decide +kernel
theorem dX8_of_28 : decode cX8_of 28 = .ok (.goto 13, 3) := by decide +kernel
theorem dX8_of_31 : decode cX8_of 31 = .ok (.aload_n 0, 1) := by decide +kernel
theorem dX8_of_32 : decode cX8_of 32 = .ok (.getfield 40, 3) := by decide +kernel
theorem dX8_of_35 : decode cX8_of 35 = .ok (.iload_n 1, 1) := by decide +kernel
theorem dX8_of_36 : decode cX8_of 36 = .ok (.iaload, 1) := by decide +kernel
theorem dX8_of_37 : decode cX8_of 37 = .ok (.goto 4, 3) := by decide +kernel
theorem dX8_of_40 : decode cX8_of 40 = .ok (.iconst (-1), 1) := by decide +kernel
theorem dX8_of_41 : decode cX8_of 41 = .ok (.ireturn, 1) := by decide +kernel
theorem dX8_copy_0 : decode cX8_copy 0 = .ok (.aload_n 0, 1) := by decide +kernel
theorem dX8_copy_1 : decode cX8_copy 1 = .ok (.iload_n 1, 1) := by decide +kernel
theorem dX8_copy_2 : decode cX8_copy 2 = .ok (.invokevirtual 139, 3) := by decide +kernel
theorem dX8_copy_5 : decode cX8_copy 5 = .ok (.ifCond .eq 10, 3) := by decide +kernel
theorem dX8_copy_8 : decode cX8_copy 8 = .ok (.iload_n 2, 1) := by decide +kernel
theorem dX8_copy_9 : decode cX8_copy 9 = .ok (.invokestatic 135, 3) := by decide +kernel
theorem dX8_copy_12 : decode cX8_copy 12 = .ok (.ifCond .ne 5, 3) := by decide +kernel
theorem dX8_copy_15 : decode cX8_copy 15 = .ok (.iconst (-1), 1) := by decide +kernel
theorem dX8_copy_16 : decode cX8_copy 16 = .ok (.ireturn, 1) := by decide +kernel
theorem dX8_copy_17 : decode cX8_copy 17 = .ok (.iconst 0, 1) := by decide +kernel
theorem dX8_copy_18 : decode cX8_copy 18 = .ok (.istore_n 3, 1) := by decide +kernel
theorem dX8_copy_19 : decode cX8_copy 19 = .ok (.iload_n 3, 1) := by decide +kernel
theorem dX8_copy_20 : decode cX8_copy 20 = .ok (.bipush 64, 2) := by decide +kernel
theorem dX8_copy_22 : decode cX8_copy 22 = .ok (.if_icmp .ge 31, 3) := by decide +kernel
theorem dX8_copy_25 : decode cX8_copy 25 = .ok (.aload_n 0, 1) := by decide +kernel
theorem dX8_copy_26 : decode cX8_copy 26 = .ok (.getfield 34, 3) := by decide +kernel
theorem dX8_copy_29 : decode cX8_copy 29 = .ok (.bipush 64, 2) := by decide +kernel
theorem dX8_copy_31 : decode cX8_copy 31 = .ok (.iload_n 2, 1) := by decide +kernel
theorem dX8_copy_32 : decode cX8_copy 32 = .ok (.imul, 1) := by decide +kernel
theorem dX8_copy_33 : decode cX8_copy 33 = .ok (.iload_n 3, 1) := by decide +kernel
theorem dX8_copy_34 : decode cX8_copy 34 = .ok (.iadd, 1) := by decide +kernel
theorem dX8_copy_35 : decode cX8_copy 35 = .ok (.aload_n 0, 1) := by decide +kernel
theorem dX8_copy_36 : decode cX8_copy 36 = .ok (.getfield 34, 3) := by decide +kernel
theorem dX8_copy_39 : decode cX8_copy 39 = .ok (.bipush 64, 2) := by decide +kernel
theorem dX8_copy_41 : decode cX8_copy 41 = .ok (.iload_n 1, 1) := by decide +kernel
theorem dX8_copy_42 : decode cX8_copy 42 = .ok (.imul, 1) := by decide +kernel
theorem dX8_copy_43 : decode cX8_copy 43 = .ok (.iload_n 3, 1) := by decide +kernel
theorem dX8_copy_44 : decode cX8_copy 44 = .ok (.iadd, 1) := by decide +kernel
theorem dX8_copy_45 : decode cX8_copy 45 = .ok (.iaload, 1) := by decide +kernel
theorem dX8_copy_46 : decode cX8_copy 46 = .ok (.iastore, 1) := by decide +kernel
theorem dX8_copy_47 : decode cX8_copy 47 = .ok (.iinc 3 1, 3) := by decide +kernel
theorem dX8_copy_50 : decode cX8_copy 50 = .ok (.goto (-31), 3) := by decide +kernel
theorem dX8_copy_53 : decode cX8_copy 53 = .ok (.aload_n 0, 1) := by decide +kernel
theorem dX8_copy_54 : decode cX8_copy 54 = .ok (.getfield 37, 3) := by decide +kernel
theorem dX8_copy_57 : decode cX8_copy 57 = .ok (.iload_n 2, 1) := by decide +kernel
theorem dX8_copy_58 : decode cX8_copy 58 = .ok (.aload_n 0, 1) := by decide +kernel
theorem dX8_copy_59 : decode cX8_copy 59 = .ok (.getfield 37, 3) := by decide +kernel
theorem dX8_copy_62 : decode cX8_copy 62 = .ok (.iload_n 1, 1) := by decide +kernel
theorem dX8_copy_63 : decode cX8_copy 63 = .ok (.iaload, 1) := by decide +kernel
theorem dX8_copy_64 : decode cX8_copy 64 = .ok (.iastore, 1) := by decide +kernel
theorem dX8_copy_65 : decode cX8_copy 65 = .ok (.aload_n 0, 1) := by decide +kernel
theorem dX8_copy_66 : decode cX8_copy 66 = .ok (.getfield 40, 3) := by decide +kernel
theorem dX8_copy_69 : decode cX8_copy 69 = .ok (.iload_n 2, 1) := by decide +kernel
theorem dX8_copy_70 : decode cX8_copy 70 = .ok (.aload_n 0, 1) := by decide +kernel
theorem dX8_copy_71 : decode cX8_copy 71 = .ok (.getfield 40, 3) := by decide +kernel
theorem dX8_copy_74 : decode cX8_copy 74 = .ok (.iload_n 1, 1) := by decide +kernel
theorem dX8_copy_75 : decode cX8_copy 75 = .ok (.iaload, 1) := by decide +kernel
theorem dX8_copy_76 : decode cX8_copy 76 = .ok (.iastore, 1) := by decide +kernel
theorem dX8_copy_77 : decode cX8_copy 77 = .ok (.iconst 1, 1) := by decide +kernel
theorem dX8_copy_78 : decode cX8_copy 78 = .ok (.ireturn, 1) := by decide +kernel
theorem dX8_whole_0 : decode cX8_whole 0 = .ok (.aload_n 0, 1) := by decide +kernel
theorem dX8_whole_1 : decode cX8_whole 1 = .ok (.getfield 28, 3) := by decide +kernel
theorem dX8_whole_4 : decode cX8_whole 4 = .ok (.iconst 0, 1) := by decide +kernel
theorem dX8_whole_5 : decode cX8_whole 5 = .ok (.iaload, 1) := by decide +kernel
theorem dX8_whole_6 : decode cX8_whole 6 = .ok (.aload_n 0, 1) := by decide +kernel
theorem dX8_whole_7 : decode cX8_whole 7 = .ok (.getfield 28, 3) := by decide +kernel
theorem dX8_whole_10 : decode cX8_whole 10 = .ok (.iconst 1, 1) := by decide +kernel
theorem dX8_whole_11 : decode cX8_whole 11 = .ok (.iaload, 1) := by decide +kernel
theorem dX8_whole_12 : decode cX8_whole 12 = .ok (.iadd, 1) := by decide +kernel
theorem dX8_whole_13 : decode cX8_whole 13 = .ok (.aload_n 0, 1) := by decide +kernel
theorem dX8_whole_14 : decode cX8_whole 14 = .ok (.getfield 28, 3) := by decide +kernel
theorem dX8_whole_17 : decode cX8_whole 17 = .ok (.iconst 2, 1) := by decide +kernel
theorem dX8_whole_18 : decode cX8_whole 18 = .ok (.iaload, 1) := by decide +kernel
theorem dX8_whole_19 : decode cX8_whole 19 = .ok (.iadd, 1) := by decide +kernel
theorem dX8_whole_20 : decode cX8_whole 20 = .ok (.aload_n 0, 1) := by decide +kernel
theorem dX8_whole_21 : decode cX8_whole 21 = .ok (.getfield 28, 3) := by decide +kernel
theorem dX8_whole_24 : decode cX8_whole 24 = .ok (.iconst 3, 1) := by decide +kernel
theorem dX8_whole_25 : decode cX8_whole 25 = .ok (.iaload, 1) := by decide +kernel
theorem dX8_whole_26 : decode cX8_whole 26 = .ok (.iadd, 1) := by decide +kernel
theorem dX8_whole_27 : decode cX8_whole 27 = .ok (.ireturn, 1) := by decide +kernel
theorem dX8_middle_0 : decode cX8_middle 0 = .ok (.aload_n 0, 1) := by decide +kernel
theorem dX8_middle_1 : decode cX8_middle 1 = .ok (.invokevirtual 166, 3) := by decide +kernel
theorem dX8_middle_4 : decode cX8_middle 4 = .ok (.iload_n 2, 1) := by decide +kernel
theorem dX8_middle_5 : decode cX8_middle 5 = .ok (.ifCond .ne 23, 3) := by decide +kernel
theorem dX8_middle_8 : decode cX8_middle 8 = .ok (.aload_n 0, 1) := by decide +kernel
theorem dX8_middle_9 : decode cX8_middle 9 = .ok (.getfield 28, 3) := by decide +kernel
theorem dX8_middle_12 : decode cX8_middle 12 = .ok (.bipush 8, 2) := by decide +kernel
theorem dX8_middle_14 : decode cX8_middle 14 = .ok (.iaload, 1) := by decide +kernel
theorem dX8_middle_15 : decode cX8_middle 15 = .ok (.iload_n 1, 1) := by decide +kernel
theorem dX8_middle_16 : decode cX8_middle 16 = .ok (.imul, 1) := by decide +kernel
theorem dX8_middle_17 : decode cX8_middle 17 = .ok (.aload_n 0, 1) := by decide +kernel
theorem dX8_middle_18 : decode cX8_middle 18 = .ok (.getfield 28, 3) := by decide +kernel
theorem dX8_middle_21 : decode cX8_middle 21 = .ok (.bipush 10, 2) := by decide +kernel
theorem dX8_middle_23 : decode cX8_middle 23 = .ok (.iaload, 1) := by decide +kernel
theorem dX8_middle_24 : decode cX8_middle 24 = .ok (.isub, 1) := by decide +kernel
theorem dX8_middle_25 : decode cX8_middle 25 = .ok (.goto 32, 3) := by decide +kernel
theorem dX8_middle_28 : decode cX8_middle 28 = .ok (.aload_n 0, 1) := by decide +kernel
theorem dX8_middle_29 : decode cX8_middle 29 = .ok (.getfield 28, 3) := by decide +kernel
theorem dX8_middle_32 : decode cX8_middle 32 = .ok (.bipush 11, 2) := by decide +kernel
theorem dX8_middle_34 : decode cX8_middle 34 = .ok (.iaload, 1) := by decide +kernel
theorem dX8_middle_35 : decode cX8_middle 35 = .ok (.aload_n 0, 1) := by decide +kernel
theorem dX8_middle_36 : decode cX8_middle 36 = .ok (.getfield 28, 3) := by decide +kernel
theorem dX8_middle_39 : decode cX8_middle 39 = .ok (.bipush 7, 2) := by decide +kernel
theorem dX8_middle_41 : decode cX8_middle 41 = .ok (.iaload, 1) := by decide +kernel
theorem dX8_middle_42 : decode cX8_middle 42 = .ok (.iload_n 1, 1) := by decide +kernel
theorem dX8_middle_43 : decode cX8_middle 43 = .ok (.imul, 1) := by decide +kernel
theorem dX8_middle_44 : decode cX8_middle 44 = .ok (.iadd, 1) := by decide +kernel
theorem dX8_middle_45 : decode cX8_middle 45 = .ok (.aload_n 0, 1) := by decide +kernel
theorem dX8_middle_46 : decode cX8_middle 46 = .ok (.getfield 28, 3) := by decide +kernel
theorem dX8_middle_49 : decode cX8_middle 49 = .ok (.bipush 9, 2) := by decide +kernel
theorem dX8_middle_51 : decode cX8_middle 51 = .ok (.iaload, 1) := by decide +kernel
theorem dX8_middle_52 : decode cX8_middle 52 = .ok (.iload_n 1, 1) := by decide +kernel
theorem dX8_middle_53 : decode cX8_middle 53 = .ok (.imul, 1) := by decide +kernel
theorem dX8_middle_54 : decode cX8_middle 54 = .ok (.iload_n 1, 1) := by decide +kernel
theorem dX8_middle_55 : decode cX8_middle 55 = .ok (.imul, 1) := by decide +kernel
theorem dX8_middle_56 : decode cX8_middle 56 = .ok (.isub, 1) := by decide +kernel
theorem dX8_middle_57 : decode cX8_middle 57 = .ok (.imul, 1) := by decide +kernel
theorem dX8_middle_58 : decode cX8_middle 58 = .ok (.ireturn, 1) := by decide +kernel
theorem dX8_placeOf_0 : decode cX8_placeOf 0 = .ok (.iconst 0, 1) := by decide +kernel
theorem dX8_placeOf_1 : decode cX8_placeOf 1 = .ok (.istore 5, 2) := by decide +kernel
theorem dX8_placeOf_3 : decode cX8_placeOf 3 = .ok (.iconst 0, 1) := by decide +kernel
theorem dX8_placeOf_4 : decode cX8_placeOf 4 = .ok (.istore 6, 2) := by decide +kernel
theorem dX8_placeOf_6 : decode cX8_placeOf 6 = .ok (.iload 6, 2) := by decide +kernel
theorem dX8_placeOf_8 : decode cX8_placeOf 8 = .ok (.iconst 4, 1) := by decide +kernel
theorem dX8_placeOf_9 : decode cX8_placeOf 9 = .ok (.if_icmp .ge 32, 3) := by decide +kernel
theorem dX8_placeOf_12 : decode cX8_placeOf 12 = .ok (.iload 5, 2) := by decide +kernel
theorem dX8_placeOf_14 : decode cX8_placeOf 14 = .ok (.aload_n 0, 1) := by decide +kernel
theorem dX8_placeOf_15 : decode cX8_placeOf 15 = .ok (.getfield 28, 3) := by decide +kernel
theorem dX8_placeOf_18 : decode cX8_placeOf 18 = .ok (.iload 6, 2) := by decide +kernel
theorem dX8_placeOf_20 : decode cX8_placeOf 20 = .ok (.iaload, 1) := by decide +kernel
theorem dX8_placeOf_21 : decode cX8_placeOf 21 = .ok (.aload_n 0, 1) := by decide +kernel
theorem dX8_placeOf_22 : decode cX8_placeOf 22 = .ok (.iload_n 1, 1) := by decide +kernel
theorem dX8_placeOf_23 : decode cX8_placeOf 23 = .ok (.iload_n 2, 1) := by decide +kernel
theorem dX8_placeOf_24 : decode cX8_placeOf 24 = .ok (.iload 6, 2) := by decide +kernel
theorem dX8_placeOf_26 : decode cX8_placeOf 26 = .ok (.iload 4, 2) := by decide +kernel
theorem dX8_placeOf_28 : decode cX8_placeOf 28 = .ok (.invokevirtual 162, 3) := by decide +kernel
theorem dX8_placeOf_31 : decode cX8_placeOf 31 = .ok (.imul, 1) := by decide +kernel
theorem dX8_placeOf_32 : decode cX8_placeOf 32 = .ok (.iadd, 1) := by decide +kernel
theorem dX8_placeOf_33 : decode cX8_placeOf 33 = .ok (.istore 5, 2) := by decide +kernel
theorem dX8_placeOf_35 : decode cX8_placeOf 35 = .ok (.iinc 6 1, 3) := by decide +kernel
theorem dX8_placeOf_38 : decode cX8_placeOf 38 = .ok (.goto (-32), 3) := by decide +kernel
theorem dX8_placeOf_41 : decode cX8_placeOf 41 = .ok (.aload_n 0, 1) := by decide +kernel
theorem dX8_placeOf_42 : decode cX8_placeOf 42 = .ok (.iload_n 2, 1) := by decide +kernel
theorem dX8_placeOf_43 : decode cX8_placeOf 43 = .ok (.iload 4, 2) := by decide +kernel
theorem dX8_placeOf_45 : decode cX8_placeOf 45 = .ok (.invokevirtual 170, 3) := by decide +kernel
theorem dX8_placeOf_48 : decode cX8_placeOf 48 = .ok (.aload_n 0, 1) := by decide +kernel
theorem dX8_placeOf_49 : decode cX8_placeOf 49 = .ok (.invokevirtual 166, 3) := by decide +kernel
theorem dX8_placeOf_52 : decode cX8_placeOf 52 = .ok (.aload_n 0, 1) := by decide +kernel
theorem dX8_placeOf_53 : decode cX8_placeOf 53 = .ok (.iload_n 1, 1) := by decide +kernel
theorem dX8_placeOf_54 : decode cX8_placeOf 54 = .ok (.iload_n 2, 1) := by decide +kernel
theorem dX8_placeOf_55 : decode cX8_placeOf 55 = .ok (.iload_n 3, 1) := by decide +kernel
theorem dX8_placeOf_56 : decode cX8_placeOf 56 = .ok (.iload 4, 2) := by decide +kernel
theorem dX8_placeOf_58 : decode cX8_placeOf 58 = .ok (.invokevirtual 162, 3) := by decide +kernel
theorem dX8_placeOf_61 : decode cX8_placeOf 61 = .ok (.imul, 1) := by decide +kernel
theorem dX8_placeOf_62 : decode cX8_placeOf 62 = .ok (.iadd, 1) := by decide +kernel
theorem dX8_placeOf_63 : decode cX8_placeOf 63 = .ok (.iload 5, 2) := by decide +kernel
theorem dX8_placeOf_65 : decode cX8_placeOf 65 = .ok (.isub, 1) := by decide +kernel
theorem dX8_placeOf_66 : decode cX8_placeOf 66 = .ok (.ireturn, 1) := by decide +kernel
theorem dX8_place_0 : decode cX8_place 0 = .ok (.aload_n 0, 1) := by decide +kernel
theorem dX8_place_1 : decode cX8_place 1 = .ok (.iload_n 1, 1) := by decide +kernel
theorem dX8_place_2 : decode cX8_place 2 = .ok (.iload_n 2, 1) := by decide +kernel
theorem dX8_place_3 : decode cX8_place 3 = .ok (.invokevirtual 151, 3) := by decide +kernel
theorem dX8_place_6 : decode cX8_place 6 = .ok (.ifCond .eq 33, 3) := by decide +kernel
theorem dX8_place_9 : decode cX8_place 9 = .ok (.iload_n 3, 1) := by decide +kernel
theorem dX8_place_10 : decode cX8_place 10 = .ok (.invokestatic 155, 3) := by decide +kernel
theorem dX8_place_13 : decode cX8_place 13 = .ok (.ifCond .eq 26, 3) := by decide +kernel
theorem dX8_place_16 : decode cX8_place 16 = .ok (.iload 4, 2) := by decide +kernel
theorem dX8_place_18 : decode cX8_place 18 = .ok (.i2l, 1) := by decide +kernel
theorem dX8_place_19 : decode cX8_place 19 = .ok (.lconst 0, 1) := by decide +kernel
theorem dX8_place_20 : decode cX8_place 20 = .ok (.lconst 1, 1) := by decide +kernel
theorem dX8_place_21 : decode cX8_place 21 = .ok (.invokestatic 71, 3) := by decide +kernel
theorem dX8_place_24 : decode cX8_place 24 = .ok (.ifCond .eq 15, 3) := by decide +kernel
theorem dX8_place_27 : decode cX8_place 27 = .ok (.aload_n 0, 1) := by decide +kernel
theorem dX8_place_28 : decode cX8_place 28 = .ok (.iload_n 1, 1) := by decide +kernel
theorem dX8_place_29 : decode cX8_place 29 = .ok (.iload_n 2, 1) := by decide +kernel
theorem dX8_place_30 : decode cX8_place 30 = .ok (.iload_n 3, 1) := by decide +kernel
theorem dX8_place_31 : decode cX8_place 31 = .ok (.iload 4, 2) := by decide +kernel
theorem dX8_place_33 : decode cX8_place 33 = .ok (.invokevirtual 173, 3) := by decide +kernel
theorem dX8_place_36 : decode cX8_place 36 = .ok (.goto 5, 3) := by decide +kernel
theorem dX8_place_39 : decode cX8_place 39 = .ok (.ldc 176, 2) := by decide +kernel
theorem dX8_place_41 : decode cX8_place 41 = .ok (.ireturn, 1) := by decide +kernel
theorem dX8_isNear_0 : decode cX8_isNear 0 = .ok (.aload_n 0, 1) := by decide +kernel
theorem dX8_isNear_1 : decode cX8_isNear 1 = .ok (.iload_n 1, 1) := by decide +kernel
theorem dX8_isNear_2 : decode cX8_isNear 2 = .ok (.iload_n 2, 1) := by decide +kernel
theorem dX8_isNear_3 : decode cX8_isNear 3 = .ok (.iload_n 3, 1) := by decide +kernel
theorem dX8_isNear_4 : decode cX8_isNear 4 = .ok (.iconst 0, 1) := by decide +kernel
theorem dX8_isNear_5 : decode cX8_isNear 5 = .ok (.invokevirtual 173, 3) := by decide +kernel
theorem dX8_isNear_8 : decode cX8_isNear 8 = .ok (.istore 4, 2) := by decide +kernel
theorem dX8_isNear_10 : decode cX8_isNear 10 = .ok (.iload 4, 2) := by decide +kernel
theorem dX8_isNear_12 : decode cX8_isNear 12 = .ok (.i2l, 1) := by decide +kernel
theorem dX8_isNear_13 : decode cX8_isNear 13 = .ok (.aload_n 0, 1) := by decide +kernel
theorem dX8_isNear_14 : decode cX8_isNear 14 = .ok (.invokevirtual 166, 3) := by decide +kernel
theorem dX8_isNear_17 : decode cX8_isNear 17 = .ok (.ineg, 1) := by decide +kernel
theorem dX8_isNear_18 : decode cX8_isNear 18 = .ok (.aload_n 0, 1) := by decide +kernel
theorem dX8_isNear_19 : decode cX8_isNear 19 = .ok (.getfield 28, 3) := by decide +kernel
theorem dX8_isNear_22 : decode cX8_isNear 22 = .ok (.bipush 12, 2) := by decide +kernel
theorem dX8_isNear_24 : decode cX8_isNear 24 = .ok (.iaload, 1) := by decide +kernel
theorem dX8_isNear_25 : decode cX8_isNear 25 = .ok (.imul, 1) := by decide +kernel
theorem dX8_isNear_26 : decode cX8_isNear 26 = .ok (.i2l, 1) := by decide +kernel
theorem dX8_isNear_27 : decode cX8_isNear 27 = .ok (.aload_n 0, 1) := by decide +kernel
theorem dX8_isNear_28 : decode cX8_isNear 28 = .ok (.invokevirtual 166, 3) := by decide +kernel
theorem dX8_isNear_31 : decode cX8_isNear 31 = .ok (.aload_n 0, 1) := by decide +kernel
theorem dX8_isNear_32 : decode cX8_isNear 32 = .ok (.getfield 28, 3) := by decide +kernel
theorem dX8_isNear_35 : decode cX8_isNear 35 = .ok (.bipush 12, 2) := by decide +kernel
theorem dX8_isNear_37 : decode cX8_isNear 37 = .ok (.iaload, 1) := by decide +kernel
theorem dX8_isNear_38 : decode cX8_isNear 38 = .ok (.imul, 1) := by decide +kernel
theorem dX8_isNear_39 : decode cX8_isNear 39 = .ok (.i2l, 1) := by decide +kernel
theorem dX8_isNear_40 : decode cX8_isNear 40 = .ok (.invokestatic 71, 3) := by decide +kernel
theorem dX8_isNear_43 : decode cX8_isNear 43 = .ok (.ireturn, 1) := by decide +kernel
theorem dX8_near_0 : decode cX8_near 0 = .ok (.aload_n 0, 1) := by decide +kernel
theorem dX8_near_1 : decode cX8_near 1 = .ok (.iload_n 1, 1) := by decide +kernel
theorem dX8_near_2 : decode cX8_near 2 = .ok (.iload_n 2, 1) := by decide +kernel
theorem dX8_near_3 : decode cX8_near 3 = .ok (.invokevirtual 151, 3) := by decide +kernel
theorem dX8_near_6 : decode cX8_near 6 = .ok (.ifCond .eq 28, 3) := by decide +kernel
theorem dX8_near_9 : decode cX8_near 9 = .ok (.iload_n 3, 1) := by decide +kernel
theorem dX8_near_10 : decode cX8_near 10 = .ok (.invokestatic 155, 3) := by decide +kernel
theorem dX8_near_13 : decode cX8_near 13 = .ok (.ifCond .eq 21, 3) := by decide +kernel
theorem dX8_near_16 : decode cX8_near 16 = .ok (.aload_n 0, 1) := by decide +kernel
theorem dX8_near_17 : decode cX8_near 17 = .ok (.iload_n 1, 1) := by decide +kernel
theorem dX8_near_18 : decode cX8_near 18 = .ok (.iload_n 2, 1) := by decide +kernel
theorem dX8_near_19 : decode cX8_near 19 = .ok (.iload_n 3, 1) := by decide +kernel
theorem dX8_near_20 : decode cX8_near 20 = .ok (.invokevirtual 177, 3) := by decide +kernel
theorem dX8_near_23 : decode cX8_near 23 = .ok (.ifCond .eq 7, 3) := by decide +kernel
theorem dX8_near_26 : decode cX8_near 26 = .ok (.iconst 1, 1) := by decide +kernel
theorem dX8_near_27 : decode cX8_near 27 = .ok (.goto 8, 3) := by decide +kernel
theorem dX8_near_30 : decode cX8_near 30 = .ok (.iconst 0, 1) := by decide +kernel
theorem dX8_near_31 : decode cX8_near 31 = .ok (.goto 4, 3) := by decide +kernel
theorem dX8_near_34 : decode cX8_near 34 = .ok (.iconst (-1), 1) := by decide +kernel
theorem dX8_near_35 : decode cX8_near 35 = .ok (.ireturn, 1) := by decide +kernel
theorem dX8_getsAcross_0 : decode cX8_getsAcross 0 = .ok (.iconst 1, 1) := by decide +kernel
theorem dX8_getsAcross_1 : decode cX8_getsAcross 1 = .ok (.istore_n 2, 1) := by decide +kernel
theorem dX8_getsAcross_2 : decode cX8_getsAcross 2 = .ok (.iconst 0, 1) := by decide +kernel
theorem dX8_getsAcross_3 : decode cX8_getsAcross 3 = .ok (.istore_n 3, 1) := by decide +kernel
theorem dX8_getsAcross_4 : decode cX8_getsAcross 4 = .ok (.iload_n 3, 1) := by decide +kernel
theorem dX8_getsAcross_5 : decode cX8_getsAcross 5 = .ok (.iconst 4, 1) := by decide +kernel
theorem dX8_getsAcross_6 : decode cX8_getsAcross 6 = .ok (.if_icmp .ge 48, 3) := by decide +kernel
theorem dX8_getsAcross_9 : decode cX8_getsAcross 9 = .ok (.iload_n 2, 1) := by decide +kernel
theorem dX8_getsAcross_10 : decode cX8_getsAcross 10 = .ok (.ifCond .eq 36, 3) := by decide +kernel
theorem dX8_getsAcross_13 : decode cX8_getsAcross 13 = .ok (.aload_n 0, 1) := by decide +kernel
theorem dX8_getsAcross_14 : decode cX8_getsAcross 14 = .ok (.iload_n 1, 1) := by decide +kernel
theorem dX8_getsAcross_15 : decode cX8_getsAcross 15 = .ok (.iconst 0, 1) := by decide +kernel
theorem dX8_getsAcross_16 : decode cX8_getsAcross 16 = .ok (.iload_n 3, 1) := by decide +kernel
theorem dX8_getsAcross_17 : decode cX8_getsAcross 17 = .ok (.iconst 0, 1) := by decide +kernel
theorem dX8_getsAcross_18 : decode cX8_getsAcross 18 = .ok (.invokevirtual 173, 3) := by decide +kernel
theorem dX8_getsAcross_21 : decode cX8_getsAcross 21 = .ok (.ifCond .ge 25, 3) := by decide +kernel
theorem dX8_getsAcross_24 : decode cX8_getsAcross 24 = .ok (.aload_n 0, 1) := by decide +kernel
theorem dX8_getsAcross_25 : decode cX8_getsAcross 25 = .ok (.iload_n 1, 1) := by decide +kernel
theorem dX8_getsAcross_26 : decode cX8_getsAcross 26 = .ok (.aload_n 0, 1) := by decide +kernel
theorem dX8_getsAcross_27 : decode cX8_getsAcross 27 = .ok (.getfield 37, 3) := by decide +kernel
theorem dX8_getsAcross_30 : decode cX8_getsAcross 30 = .ok (.iload_n 1, 1) := by decide +kernel
theorem dX8_getsAcross_31 : decode cX8_getsAcross 31 = .ok (.iaload, 1) := by decide +kernel
theorem dX8_getsAcross_32 : decode cX8_getsAcross 32 = .ok (.iconst 1, 1) := by decide +kernel
theorem dX8_getsAcross_33 : decode cX8_getsAcross 33 = .ok (.isub, 1) := by decide +kernel
theorem dX8_getsAcross_34 : decode cX8_getsAcross 34 = .ok (.iload_n 3, 1) := by decide +kernel
theorem dX8_getsAcross_35 : decode cX8_getsAcross 35 = .ok (.iconst 0, 1) := by decide +kernel
theorem dX8_getsAcross_36 : decode cX8_getsAcross 36 = .ok (.invokevirtual 173, 3) := by decide +kernel
theorem dX8_getsAcross_39 : decode cX8_getsAcross 39 = .ok (.ifCond .le 7, 3) := by decide +kernel
theorem dX8_getsAcross_42 : decode cX8_getsAcross 42 = .ok (.iconst 1, 1) := by decide +kernel
theorem dX8_getsAcross_43 : decode cX8_getsAcross 43 = .ok (.goto 4, 3) := by decide +kernel
theorem dX8_getsAcross_46 : decode cX8_getsAcross 46 = .ok (.iconst 0, 1) := by decide +kernel
theorem dX8_getsAcross_47 : decode cX8_getsAcross 47 = .ok (.istore_n 2, 1) := by decide +kernel
theorem dX8_getsAcross_48 : decode cX8_getsAcross 48 = .ok (.iinc 3 1, 3) := by decide +kernel
theorem dX8_getsAcross_51 : decode cX8_getsAcross 51 = .ok (.goto (-47), 3) := by decide +kernel
theorem dX8_getsAcross_54 : decode cX8_getsAcross 54 = .ok (.iload_n 2, 1) := by decide +kernel
theorem dX8_getsAcross_55 : decode cX8_getsAcross 55 = .ok (.ireturn, 1) := by decide +kernel
theorem dX8_lowestOf_0 : decode cX8_lowestOf 0 = .ok (.bipush (-4), 2) := by decide +kernel
theorem dX8_lowestOf_2 : decode cX8_lowestOf 2 = .ok (.istore_n 2, 1) := by decide +kernel
theorem dX8_lowestOf_3 : decode cX8_lowestOf 3 = .ok (.iconst 0, 1) := by decide +kernel
theorem dX8_lowestOf_4 : decode cX8_lowestOf 4 = .ok (.istore_n 3, 1) := by decide +kernel
theorem dX8_lowestOf_5 : decode cX8_lowestOf 5 = .ok (.iconst 0, 1) := by decide +kernel
theorem dX8_lowestOf_6 : decode cX8_lowestOf 6 = .ok (.istore 4, 2) := by decide +kernel
theorem dX8_lowestOf_8 : decode cX8_lowestOf 8 = .ok (.iload 4, 2) := by decide +kernel
theorem dX8_lowestOf_10 : decode cX8_lowestOf 10 = .ok (.aload_n 0, 1) := by decide +kernel
theorem dX8_lowestOf_11 : decode cX8_lowestOf 11 = .ok (.getfield 37, 3) := by decide +kernel
theorem dX8_lowestOf_14 : decode cX8_lowestOf 14 = .ok (.iload_n 1, 1) := by decide +kernel
theorem dX8_lowestOf_15 : decode cX8_lowestOf 15 = .ok (.iaload, 1) := by decide +kernel
theorem dX8_lowestOf_16 : decode cX8_lowestOf 16 = .ok (.if_icmp .ge 71, 3) := by decide +kernel
theorem dX8_lowestOf_19 : decode cX8_lowestOf 19 = .ok (.iconst 0, 1) := by decide +kernel
theorem dX8_lowestOf_20 : decode cX8_lowestOf 20 = .ok (.istore 5, 2) := by decide +kernel
theorem dX8_lowestOf_22 : decode cX8_lowestOf 22 = .ok (.iload 5, 2) := by decide +kernel
theorem dX8_lowestOf_24 : decode cX8_lowestOf 24 = .ok (.iconst 4, 1) := by decide +kernel
theorem dX8_lowestOf_25 : decode cX8_lowestOf 25 = .ok (.if_icmp .ge 56, 3) := by decide +kernel
theorem dX8_lowestOf_28 : decode cX8_lowestOf 28 = .ok (.aload_n 0, 1) := by decide +kernel
theorem dX8_lowestOf_29 : decode cX8_lowestOf 29 = .ok (.iload_n 1, 1) := by decide +kernel
theorem dX8_lowestOf_30 : decode cX8_lowestOf 30 = .ok (.iload 4, 2) := by decide +kernel
theorem dX8_lowestOf_32 : decode cX8_lowestOf 32 = .ok (.iload 5, 2) := by decide +kernel
theorem dX8_lowestOf_34 : decode cX8_lowestOf 34 = .ok (.invokevirtual 177, 3) := by decide +kernel
theorem dX8_lowestOf_37 : decode cX8_lowestOf 37 = .ok (.ifCond .eq 38, 3) := by decide +kernel
theorem dX8_lowestOf_40 : decode cX8_lowestOf 40 = .ok (.aload_n 0, 1) := by decide +kernel
theorem dX8_lowestOf_41 : decode cX8_lowestOf 41 = .ok (.iload_n 1, 1) := by decide +kernel
theorem dX8_lowestOf_42 : decode cX8_lowestOf 42 = .ok (.iload 4, 2) := by decide +kernel
theorem dX8_lowestOf_44 : decode cX8_lowestOf 44 = .ok (.iload 5, 2) := by decide +kernel
theorem dX8_lowestOf_46 : decode cX8_lowestOf 46 = .ok (.iconst 1, 1) := by decide +kernel
theorem dX8_lowestOf_47 : decode cX8_lowestOf 47 = .ok (.invokevirtual 173, 3) := by decide +kernel
theorem dX8_lowestOf_50 : decode cX8_lowestOf 50 = .ok (.istore 6, 2) := by decide +kernel
theorem dX8_lowestOf_52 : decode cX8_lowestOf 52 = .ok (.iload_n 2, 1) := by decide +kernel
theorem dX8_lowestOf_53 : decode cX8_lowestOf 53 = .ok (.bipush (-4), 2) := by decide +kernel
theorem dX8_lowestOf_55 : decode cX8_lowestOf 55 = .ok (.if_icmp .eq 9, 3) := by decide +kernel
theorem dX8_lowestOf_58 : decode cX8_lowestOf 58 = .ok (.iload 6, 2) := by decide +kernel
theorem dX8_lowestOf_60 : decode cX8_lowestOf 60 = .ok (.iload_n 3, 1) := by decide +kernel
theorem dX8_lowestOf_61 : decode cX8_lowestOf 61 = .ok (.if_icmp .ge 14, 3) := by decide +kernel
theorem dX8_lowestOf_64 : decode cX8_lowestOf 64 = .ok (.iconst 4, 1) := by decide +kernel
theorem dX8_lowestOf_65 : decode cX8_lowestOf 65 = .ok (.iload 4, 2) := by decide +kernel
theorem dX8_lowestOf_67 : decode cX8_lowestOf 67 = .ok (.imul, 1) := by decide +kernel
theorem dX8_lowestOf_68 : decode cX8_lowestOf 68 = .ok (.iload 5, 2) := by decide +kernel
theorem dX8_lowestOf_70 : decode cX8_lowestOf 70 = .ok (.iadd, 1) := by decide +kernel
theorem dX8_lowestOf_71 : decode cX8_lowestOf 71 = .ok (.istore_n 2, 1) := by decide +kernel
theorem dX8_lowestOf_72 : decode cX8_lowestOf 72 = .ok (.iload 6, 2) := by decide +kernel
theorem dX8_lowestOf_74 : decode cX8_lowestOf 74 = .ok (.istore_n 3, 1) := by decide +kernel
theorem dX8_lowestOf_75 : decode cX8_lowestOf 75 = .ok (.iinc 5 1, 3) := by decide +kernel
theorem dX8_lowestOf_78 : decode cX8_lowestOf 78 = .ok (.goto (-56), 3) := by decide +kernel
theorem dX8_lowestOf_81 : decode cX8_lowestOf 81 = .ok (.iinc 4 1, 3) := by decide +kernel
theorem dX8_lowestOf_84 : decode cX8_lowestOf 84 = .ok (.goto (-76), 3) := by decide +kernel
theorem dX8_lowestOf_87 : decode cX8_lowestOf 87 = .ok (.iload_n 2, 1) := by decide +kernel
theorem dX8_lowestOf_88 : decode cX8_lowestOf 88 = .ok (.ireturn, 1) := by decide +kernel
theorem dX8_highOf_0 : decode cX8_highOf 0 = .ok (.aload_n 0, 1) := by decide +kernel
theorem dX8_highOf_1 : decode cX8_highOf 1 = .ok (.iload_n 1, 1) := by decide +kernel
theorem dX8_highOf_2 : decode cX8_highOf 2 = .ok (.invokevirtual 181, 3) := by decide +kernel
theorem dX8_highOf_5 : decode cX8_highOf 5 = .ok (.ifCond .ne 6, 3) := by decide +kernel
theorem dX8_highOf_8 : decode cX8_highOf 8 = .ok (.bipush (-4), 2) := by decide +kernel
theorem dX8_highOf_10 : decode cX8_highOf 10 = .ok (.ireturn, 1) := by decide +kernel
theorem dX8_highOf_11 : decode cX8_highOf 11 = .ok (.aload_n 0, 1) := by decide +kernel
theorem dX8_highOf_12 : decode cX8_highOf 12 = .ok (.iload_n 1, 1) := by decide +kernel
theorem dX8_highOf_13 : decode cX8_highOf 13 = .ok (.invokevirtual 184, 3) := by decide +kernel
theorem dX8_highOf_16 : decode cX8_highOf 16 = .ok (.istore_n 2, 1) := by decide +kernel
theorem dX8_highOf_17 : decode cX8_highOf 17 = .ok (.iload_n 2, 1) := by decide +kernel
theorem dX8_highOf_18 : decode cX8_highOf 18 = .ok (.bipush (-4), 2) := by decide +kernel
theorem dX8_highOf_20 : decode cX8_highOf 20 = .ok (.if_icmp .ne 7, 3) := by decide +kernel
theorem dX8_highOf_23 : decode cX8_highOf 23 = .ok (.sipush 999, 3) := by decide +kernel
theorem dX8_highOf_26 : decode cX8_highOf 26 = .ok (.ireturn, 1) := by decide +kernel
theorem dX8_highOf_27 : decode cX8_highOf 27 = .ok (.aload_n 0, 1) := by decide +kernel
theorem dX8_highOf_28 : decode cX8_highOf 28 = .ok (.iload_n 1, 1) := by decide +kernel
theorem dX8_highOf_29 : decode cX8_highOf 29 = .ok (.iload_n 2, 1) := by decide +kernel
theorem dX8_highOf_30 : decode cX8_highOf 30 = .ok (.iconst 4, 1) := by decide +kernel
theorem dX8_highOf_31 : decode cX8_highOf 31 = .ok (.idiv, 1) := by decide +kernel
theorem dX8_highOf_32 : decode cX8_highOf 32 = .ok (.iload_n 2, 1) := by decide +kernel
theorem dX8_highOf_33 : decode cX8_highOf 33 = .ok (.iconst 4, 1) := by decide +kernel
theorem dX8_highOf_34 : decode cX8_highOf 34 = .ok (.irem, 1) := by decide +kernel
theorem dX8_highOf_35 : decode cX8_highOf 35 = .ok (.iconst 1, 1) := by decide +kernel
theorem dX8_highOf_36 : decode cX8_highOf 36 = .ok (.invokevirtual 173, 3) := by decide +kernel
theorem dX8_highOf_39 : decode cX8_highOf 39 = .ok (.istore_n 3, 1) := by decide +kernel
theorem dX8_highOf_40 : decode cX8_highOf 40 = .ok (.iload_n 3, 1) := by decide +kernel
theorem dX8_highOf_41 : decode cX8_highOf 41 = .ok (.ifCond .ge 8, 3) := by decide +kernel
theorem dX8_highOf_44 : decode cX8_highOf 44 = .ok (.bipush (-4), 2) := by decide +kernel
theorem dX8_highOf_46 : decode cX8_highOf 46 = .ok (.goto 27, 3) := by decide +kernel
theorem dX8_highOf_49 : decode cX8_highOf 49 = .ok (.iload_n 3, 1) := by decide +kernel
theorem dX8_highOf_50 : decode cX8_highOf 50 = .ok (.aload_n 0, 1) := by decide +kernel
theorem dX8_highOf_51 : decode cX8_highOf 51 = .ok (.invokevirtual 166, 3) := by decide +kernel
theorem dX8_highOf_54 : decode cX8_highOf 54 = .ok (.idiv, 1) := by decide +kernel
theorem dX8_highOf_55 : decode cX8_highOf 55 = .ok (.sipush 999, 3) := by decide +kernel
theorem dX8_highOf_58 : decode cX8_highOf 58 = .ok (.if_icmp .le 9, 3) := by decide +kernel
theorem dX8_highOf_61 : decode cX8_highOf 61 = .ok (.sipush 999, 3) := by decide +kernel
theorem dX8_highOf_64 : decode cX8_highOf 64 = .ok (.goto 9, 3) := by decide +kernel
theorem dX8_highOf_67 : decode cX8_highOf 67 = .ok (.iload_n 3, 1) := by decide +kernel
theorem dX8_highOf_68 : decode cX8_highOf 68 = .ok (.aload_n 0, 1) := by decide +kernel
theorem dX8_highOf_69 : decode cX8_highOf 69 = .ok (.invokevirtual 166, 3) := by decide +kernel
theorem dX8_highOf_72 : decode cX8_highOf 72 = .ok (.idiv, 1) := by decide +kernel
theorem dX8_highOf_73 : decode cX8_highOf 73 = .ok (.ireturn, 1) := by decide +kernel
theorem dX8_high_0 : decode cX8_high 0 = .ok (.aload_n 0, 1) := by decide +kernel
theorem dX8_high_1 : decode cX8_high 1 = .ok (.iload_n 1, 1) := by decide +kernel
theorem dX8_high_2 : decode cX8_high 2 = .ok (.invokevirtual 139, 3) := by decide +kernel
theorem dX8_high_5 : decode cX8_high 5 = .ok (.ifCond .eq 11, 3) := by decide +kernel
theorem dX8_high_8 : decode cX8_high 8 = .ok (.aload_n 0, 1) := by decide +kernel
theorem dX8_high_9 : decode cX8_high 9 = .ok (.iload_n 1, 1) := by decide +kernel
theorem dX8_high_10 : decode cX8_high 10 = .ok (.invokevirtual 187, 3) := by decide +kernel
theorem dX8_high_13 : decode cX8_high 13 = .ok (.goto 4, 3) := by decide +kernel
theorem dX8_high_16 : decode cX8_high 16 = .ok (.iconst (-1), 1) := by decide +kernel
theorem dX8_high_17 : decode cX8_high 17 = .ok (.ireturn, 1) := by decide +kernel
theorem dX8_lowest_0 : decode cX8_lowest 0 = .ok (.aload_n 0, 1) := by decide +kernel
theorem dX8_lowest_1 : decode cX8_lowest 1 = .ok (.iload_n 1, 1) := by decide +kernel
theorem dX8_lowest_2 : decode cX8_lowest 2 = .ok (.invokevirtual 139, 3) := by decide +kernel
theorem dX8_lowest_5 : decode cX8_lowest 5 = .ok (.ifCond .ne 5, 3) := by decide +kernel
theorem dX8_lowest_8 : decode cX8_lowest 8 = .ok (.iconst (-1), 1) := by decide +kernel
theorem dX8_lowest_9 : decode cX8_lowest 9 = .ok (.ireturn, 1) := by decide +kernel
theorem dX8_lowest_10 : decode cX8_lowest 10 = .ok (.aload_n 0, 1) := by decide +kernel
theorem dX8_lowest_11 : decode cX8_lowest 11 = .ok (.iload_n 1, 1) := by decide +kernel
theorem dX8_lowest_12 : decode cX8_lowest 12 = .ok (.invokevirtual 187, 3) := by decide +kernel
theorem dX8_lowest_15 : decode cX8_lowest 15 = .ok (.bipush (-4), 2) := by decide +kernel
theorem dX8_lowest_17 : decode cX8_lowest 17 = .ok (.if_icmp .ne 8, 3) := by decide +kernel
theorem dX8_lowest_20 : decode cX8_lowest 20 = .ok (.bipush (-4), 2) := by decide +kernel
theorem dX8_lowest_22 : decode cX8_lowest 22 = .ok (.goto 8, 3) := by decide +kernel
theorem dX8_lowest_25 : decode cX8_lowest 25 = .ok (.aload_n 0, 1) := by decide +kernel
theorem dX8_lowest_26 : decode cX8_lowest 26 = .ok (.iload_n 1, 1) := by decide +kernel
theorem dX8_lowest_27 : decode cX8_lowest 27 = .ok (.invokevirtual 184, 3) := by decide +kernel
theorem dX8_lowest_30 : decode cX8_lowest 30 = .ok (.ireturn, 1) := by decide +kernel
theorem dX8_under_0 : decode cX8_under 0 = .ok (.aload_n 0, 1) := by decide +kernel
theorem dX8_under_1 : decode cX8_under 1 = .ok (.iload_n 1, 1) := by decide +kernel
theorem dX8_under_2 : decode cX8_under 2 = .ok (.invokevirtual 139, 3) := by decide +kernel
theorem dX8_under_5 : decode cX8_under 5 = .ok (.ifCond .ne 6, 3) := by decide +kernel
theorem dX8_under_8 : decode cX8_under 8 = .ok (.ldc 176, 2) := by decide +kernel
theorem dX8_under_10 : decode cX8_under 10 = .ok (.ireturn, 1) := by decide +kernel
theorem dX8_under_11 : decode cX8_under 11 = .ok (.ldc 176, 2) := by decide +kernel
theorem dX8_under_13 : decode cX8_under 13 = .ok (.istore_n 2, 1) := by decide +kernel
theorem dX8_under_14 : decode cX8_under 14 = .ok (.iconst 0, 1) := by decide +kernel
theorem dX8_under_15 : decode cX8_under 15 = .ok (.istore_n 3, 1) := by decide +kernel
theorem dX8_under_16 : decode cX8_under 16 = .ok (.iload_n 3, 1) := by decide +kernel
theorem dX8_under_17 : decode cX8_under 17 = .ok (.aload_n 0, 1) := by decide +kernel
theorem dX8_under_18 : decode cX8_under 18 = .ok (.getfield 37, 3) := by decide +kernel
theorem dX8_under_21 : decode cX8_under 21 = .ok (.iload_n 1, 1) := by decide +kernel
theorem dX8_under_22 : decode cX8_under 22 = .ok (.iaload, 1) := by decide +kernel
theorem dX8_under_23 : decode cX8_under 23 = .ok (.if_icmp .ge 76, 3) := by decide +kernel
theorem dX8_under_26 : decode cX8_under 26 = .ok (.iconst 0, 1) := by decide +kernel
theorem dX8_under_27 : decode cX8_under 27 = .ok (.istore 4, 2) := by decide +kernel
theorem dX8_under_29 : decode cX8_under 29 = .ok (.iconst 0, 1) := by decide +kernel
theorem dX8_under_30 : decode cX8_under 30 = .ok (.istore 5, 2) := by decide +kernel
theorem dX8_under_32 : decode cX8_under 32 = .ok (.iload 5, 2) := by decide +kernel
theorem dX8_under_34 : decode cX8_under 34 = .ok (.iconst 4, 1) := by decide +kernel
theorem dX8_under_35 : decode cX8_under 35 = .ok (.if_icmp .ge 32, 3) := by decide +kernel
theorem dX8_under_38 : decode cX8_under 38 = .ok (.iload 4, 2) := by decide +kernel
theorem dX8_under_40 : decode cX8_under 40 = .ok (.ifCond .ne 14, 3) := by decide +kernel
theorem dX8_under_43 : decode cX8_under 43 = .ok (.aload_n 0, 1) := by decide +kernel
theorem dX8_under_44 : decode cX8_under 44 = .ok (.iload_n 1, 1) := by decide +kernel
theorem dX8_under_45 : decode cX8_under 45 = .ok (.iload_n 3, 1) := by decide +kernel
theorem dX8_under_46 : decode cX8_under 46 = .ok (.iload 5, 2) := by decide +kernel
theorem dX8_under_48 : decode cX8_under 48 = .ok (.invokevirtual 177, 3) := by decide +kernel
theorem dX8_under_51 : decode cX8_under 51 = .ok (.ifCond .eq 7, 3) := by decide +kernel
theorem dX8_under_54 : decode cX8_under 54 = .ok (.iconst 1, 1) := by decide +kernel
theorem dX8_under_55 : decode cX8_under 55 = .ok (.goto 4, 3) := by decide +kernel
theorem dX8_under_58 : decode cX8_under 58 = .ok (.iconst 0, 1) := by decide +kernel
theorem dX8_under_59 : decode cX8_under 59 = .ok (.istore 4, 2) := by decide +kernel
theorem dX8_under_61 : decode cX8_under 61 = .ok (.iinc 5 1, 3) := by decide +kernel
theorem dX8_under_64 : decode cX8_under 64 = .ok (.goto (-32), 3) := by decide +kernel
theorem dX8_under_67 : decode cX8_under 67 = .ok (.iload 4, 2) := by decide +kernel
theorem dX8_under_69 : decode cX8_under 69 = .ok (.ifCond .eq 22, 3) := by decide +kernel
theorem dX8_under_72 : decode cX8_under 72 = .ok (.aload_n 0, 1) := by decide +kernel
theorem dX8_under_73 : decode cX8_under 73 = .ok (.iload_n 3, 1) := by decide +kernel
theorem dX8_under_74 : decode cX8_under 74 = .ok (.iconst 1, 1) := by decide +kernel
theorem dX8_under_75 : decode cX8_under 75 = .ok (.invokevirtual 170, 3) := by decide +kernel
theorem dX8_under_78 : decode cX8_under 78 = .ok (.iload_n 2, 1) := by decide +kernel
theorem dX8_under_79 : decode cX8_under 79 = .ok (.if_icmp .le 12, 3) := by decide +kernel
theorem dX8_under_82 : decode cX8_under 82 = .ok (.aload_n 0, 1) := by decide +kernel
theorem dX8_under_83 : decode cX8_under 83 = .ok (.iload_n 3, 1) := by decide +kernel
theorem dX8_under_84 : decode cX8_under 84 = .ok (.iconst 1, 1) := by decide +kernel
theorem dX8_under_85 : decode cX8_under 85 = .ok (.invokevirtual 170, 3) := by decide +kernel
theorem dX8_under_88 : decode cX8_under 88 = .ok (.goto 4, 3) := by decide +kernel
theorem dX8_under_91 : decode cX8_under 91 = .ok (.iload_n 2, 1) := by decide +kernel
theorem dX8_under_92 : decode cX8_under 92 = .ok (.istore_n 2, 1) := by decide +kernel
theorem dX8_under_93 : decode cX8_under 93 = .ok (.iinc 3 1, 3) := by decide +kernel
theorem dX8_under_96 : decode cX8_under 96 = .ok (.goto (-80), 3) := by decide +kernel
theorem dX8_under_99 : decode cX8_under 99 = .ok (.aload_n 0, 1) := by decide +kernel
theorem dX8_under_100 : decode cX8_under 100 = .ok (.iload_n 1, 1) := by decide +kernel
theorem dX8_under_101 : decode cX8_under 101 = .ok (.invokevirtual 187, 3) := by decide +kernel
theorem dX8_under_104 : decode cX8_under 104 = .ok (.istore_n 3, 1) := by decide +kernel
theorem dX8_under_105 : decode cX8_under 105 = .ok (.iload_n 3, 1) := by decide +kernel
theorem dX8_under_106 : decode cX8_under 106 = .ok (.bipush (-4), 2) := by decide +kernel
theorem dX8_under_108 : decode cX8_under 108 = .ok (.if_icmp .eq 9, 3) := by decide +kernel
theorem dX8_under_111 : decode cX8_under 111 = .ok (.iload_n 2, 1) := by decide +kernel
theorem dX8_under_112 : decode cX8_under 112 = .ok (.ldc 176, 2) := by decide +kernel
theorem dX8_under_114 : decode cX8_under 114 = .ok (.if_icmp .ne 8, 3) := by decide +kernel
theorem dX8_under_117 : decode cX8_under 117 = .ok (.ldc 190, 2) := by decide +kernel
theorem dX8_under_119 : decode cX8_under 119 = .ok (.goto 11, 3) := by decide +kernel
theorem dX8_under_122 : decode cX8_under 122 = .ok (.iload_n 2, 1) := by decide +kernel
theorem dX8_under_123 : decode cX8_under 123 = .ok (.aload_n 0, 1) := by decide +kernel
theorem dX8_under_124 : decode cX8_under 124 = .ok (.invokevirtual 166, 3) := by decide +kernel
theorem dX8_under_127 : decode cX8_under 127 = .ok (.iload_n 3, 1) := by decide +kernel
theorem dX8_under_128 : decode cX8_under 128 = .ok (.imul, 1) := by decide +kernel
theorem dX8_under_129 : decode cX8_under 129 = .ok (.isub, 1) := by decide +kernel
theorem dX8_under_130 : decode cX8_under 130 = .ok (.ireturn, 1) := by decide +kernel
theorem dX8_overAt_0 : decode cX8_overAt 0 = .ok (.iconst 0, 1) := by decide +kernel
theorem dX8_overAt_1 : decode cX8_overAt 1 = .ok (.istore_n 3, 1) := by decide +kernel
theorem dX8_overAt_2 : decode cX8_overAt 2 = .ok (.aload_n 0, 1) := by decide +kernel
theorem dX8_overAt_3 : decode cX8_overAt 3 = .ok (.iload_n 1, 1) := by decide +kernel
theorem dX8_overAt_4 : decode cX8_overAt 4 = .ok (.iload_n 3, 1) := by decide +kernel
theorem dX8_overAt_5 : decode cX8_overAt 5 = .ok (.iload_n 2, 1) := by decide +kernel
theorem dX8_overAt_6 : decode cX8_overAt 6 = .ok (.iconst 0, 1) := by decide +kernel
theorem dX8_overAt_7 : decode cX8_overAt 7 = .ok (.invokevirtual 173, 3) := by decide +kernel
theorem dX8_overAt_10 : decode cX8_overAt 10 = .ok (.ifCond .ge 9, 3) := by decide +kernel
theorem dX8_overAt_13 : decode cX8_overAt 13 = .ok (.iinc 3 1, 3) := by decide +kernel
theorem dX8_overAt_16 : decode cX8_overAt 16 = .ok (.goto (-14), 3) := by decide +kernel
theorem dX8_overAt_19 : decode cX8_overAt 19 = .ok (.iload_n 3, 1) := by decide +kernel
theorem dX8_overAt_20 : decode cX8_overAt 20 = .ok (.ireturn, 1) := by decide +kernel
theorem dX8_order_0 : decode cX8_order 0 = .ok (.aload_n 0, 1) := by decide +kernel
theorem dX8_order_1 : decode cX8_order 1 = .ok (.iload_n 1, 1) := by decide +kernel
theorem dX8_order_2 : decode cX8_order 2 = .ok (.invokevirtual 139, 3) := by decide +kernel
theorem dX8_order_5 : decode cX8_order 5 = .ok (.ifCond .ne 5, 3) := by decide +kernel
theorem dX8_order_8 : decode cX8_order 8 = .ok (.iconst (-1), 1) := by decide +kernel
theorem dX8_order_9 : decode cX8_order 9 = .ok (.ireturn, 1) := by decide +kernel
theorem dX8_order_10 : decode cX8_order 10 = .ok (.aload_n 0, 1) := by decide +kernel
theorem dX8_order_11 : decode cX8_order 11 = .ok (.iload_n 1, 1) := by decide +kernel
theorem dX8_order_12 : decode cX8_order 12 = .ok (.invokevirtual 181, 3) := by decide +kernel
theorem dX8_order_15 : decode cX8_order 15 = .ok (.ifCond .ne 6, 3) := by decide +kernel
theorem dX8_order_18 : decode cX8_order 18 = .ok (.bipush (-4), 2) := by decide +kernel
theorem dX8_order_20 : decode cX8_order 20 = .ok (.ireturn, 1) := by decide +kernel
theorem dX8_order_21 : decode cX8_order 21 = .ok (.iconst 0, 1) := by decide +kernel
theorem dX8_order_22 : decode cX8_order 22 = .ok (.istore_n 2, 1) := by decide +kernel
theorem dX8_order_23 : decode cX8_order 23 = .ok (.iconst 0, 1) := by decide +kernel
theorem dX8_order_24 : decode cX8_order 24 = .ok (.istore_n 3, 1) := by decide +kernel
theorem dX8_order_25 : decode cX8_order 25 = .ok (.iload_n 3, 1) := by decide +kernel
theorem dX8_order_26 : decode cX8_order 26 = .ok (.aload_n 0, 1) := by decide +kernel
theorem dX8_order_27 : decode cX8_order 27 = .ok (.getfield 37, 3) := by decide +kernel
theorem dX8_order_30 : decode cX8_order 30 = .ok (.iload_n 1, 1) := by decide +kernel
theorem dX8_order_31 : decode cX8_order 31 = .ok (.iaload, 1) := by decide +kernel
theorem dX8_order_32 : decode cX8_order 32 = .ok (.if_icmp .ge 46, 3) := by decide +kernel
theorem dX8_order_35 : decode cX8_order 35 = .ok (.iconst 0, 1) := by decide +kernel
theorem dX8_order_36 : decode cX8_order 36 = .ok (.istore 4, 2) := by decide +kernel
theorem dX8_order_38 : decode cX8_order 38 = .ok (.iload 4, 2) := by decide +kernel
theorem dX8_order_40 : decode cX8_order 40 = .ok (.iconst 4, 1) := by decide +kernel
theorem dX8_order_41 : decode cX8_order 41 = .ok (.if_icmp .ge 31, 3) := by decide +kernel
theorem dX8_order_44 : decode cX8_order 44 = .ok (.aload_n 0, 1) := by decide +kernel
theorem dX8_order_45 : decode cX8_order 45 = .ok (.iload_n 1, 1) := by decide +kernel
theorem dX8_order_46 : decode cX8_order 46 = .ok (.iload 4, 2) := by decide +kernel
theorem dX8_order_48 : decode cX8_order 48 = .ok (.invokevirtual 191, 3) := by decide +kernel
theorem dX8_order_51 : decode cX8_order 51 = .ok (.iload_n 3, 1) := by decide +kernel
theorem dX8_order_52 : decode cX8_order 52 = .ok (.if_icmp .ne 12, 3) := by decide +kernel
theorem dX8_order_55 : decode cX8_order 55 = .ok (.iconst 4, 1) := by decide +kernel
theorem dX8_order_56 : decode cX8_order 56 = .ok (.iload_n 2, 1) := by decide +kernel
theorem dX8_order_57 : decode cX8_order 57 = .ok (.imul, 1) := by decide +kernel
theorem dX8_order_58 : decode cX8_order 58 = .ok (.iload 4, 2) := by decide +kernel
theorem dX8_order_60 : decode cX8_order 60 = .ok (.iadd, 1) := by decide +kernel
theorem dX8_order_61 : decode cX8_order 61 = .ok (.goto 4, 3) := by decide +kernel
theorem dX8_order_64 : decode cX8_order 64 = .ok (.iload_n 2, 1) := by decide +kernel
theorem dX8_order_65 : decode cX8_order 65 = .ok (.istore_n 2, 1) := by decide +kernel
theorem dX8_order_66 : decode cX8_order 66 = .ok (.iinc 4 1, 3) := by decide +kernel
theorem dX8_order_69 : decode cX8_order 69 = .ok (.goto (-31), 3) := by decide +kernel
theorem dX8_order_72 : decode cX8_order 72 = .ok (.iinc 3 1, 3) := by decide +kernel
theorem dX8_order_75 : decode cX8_order 75 = .ok (.goto (-50), 3) := by decide +kernel
theorem dX8_order_78 : decode cX8_order 78 = .ok (.iload_n 2, 1) := by decide +kernel
theorem dX8_order_79 : decode cX8_order 79 = .ok (.ireturn, 1) := by decide +kernel
theorem dX8_size_0 : decode cX8_size 0 = .ok (.iload_n 0, 1) := by decide +kernel
theorem dX8_size_1 : decode cX8_size 1 = .ok (.ifCond .ge 8, 3) := by decide +kernel
theorem dX8_size_4 : decode cX8_size 4 = .ok (.iload_n 0, 1) := by decide +kernel
theorem dX8_size_5 : decode cX8_size 5 = .ok (.ineg, 1) := by decide +kernel
theorem dX8_size_6 : decode cX8_size 6 = .ok (.goto 4, 3) := by decide +kernel
theorem dX8_size_9 : decode cX8_size 9 = .ok (.iload_n 0, 1) := by decide +kernel
theorem dX8_size_10 : decode cX8_size 10 = .ok (.ireturn, 1) := by decide +kernel
theorem dX8_isBent_0 : decode cX8_isBent 0 = .ok (.iconst 0, 1) := by decide +kernel
theorem dX8_isBent_1 : decode cX8_isBent 1 = .ok (.istore_n 2, 1) := by decide +kernel
theorem dX8_isBent_2 : decode cX8_isBent 2 = .ok (.iconst 0, 1) := by decide +kernel
theorem dX8_isBent_3 : decode cX8_isBent 3 = .ok (.istore_n 3, 1) := by decide +kernel
theorem dX8_isBent_4 : decode cX8_isBent 4 = .ok (.iload_n 3, 1) := by decide +kernel
theorem dX8_isBent_5 : decode cX8_isBent 5 = .ok (.aload_n 0, 1) := by decide +kernel
theorem dX8_isBent_6 : decode cX8_isBent 6 = .ok (.getfield 37, 3) := by decide +kernel
theorem dX8_isBent_9 : decode cX8_isBent 9 = .ok (.iload_n 1, 1) := by decide +kernel
theorem dX8_isBent_10 : decode cX8_isBent 10 = .ok (.iaload, 1) := by decide +kernel
theorem dX8_isBent_11 : decode cX8_isBent 11 = .ok (.if_icmp .ge 99, 3) := by decide +kernel
theorem dX8_isBent_14 : decode cX8_isBent 14 = .ok (.iconst 0, 1) := by decide +kernel
theorem dX8_isBent_15 : decode cX8_isBent 15 = .ok (.istore 4, 2) := by decide +kernel
theorem dX8_isBent_17 : decode cX8_isBent 17 = .ok (.iload 4, 2) := by decide +kernel
theorem dX8_isBent_19 : decode cX8_isBent 19 = .ok (.iconst 3, 1) := by decide +kernel
theorem dX8_isBent_20 : decode cX8_isBent 20 = .ok (.if_icmp .ge 84, 3) := by decide +kernel
theorem dX8_isBent_23 : decode cX8_isBent 23 = .ok (.aload_n 0, 1) := by decide +kernel
theorem dX8_isBent_24 : decode cX8_isBent 24 = .ok (.iload_n 1, 1) := by decide +kernel
theorem dX8_isBent_25 : decode cX8_isBent 25 = .ok (.iload_n 3, 1) := by decide +kernel
theorem dX8_isBent_26 : decode cX8_isBent 26 = .ok (.iload 4, 2) := by decide +kernel
theorem dX8_isBent_28 : decode cX8_isBent 28 = .ok (.iconst 0, 1) := by decide +kernel
theorem dX8_isBent_29 : decode cX8_isBent 29 = .ok (.invokevirtual 162, 3) := by decide +kernel
theorem dX8_isBent_32 : decode cX8_isBent 32 = .ok (.aload_n 0, 1) := by decide +kernel
theorem dX8_isBent_33 : decode cX8_isBent 33 = .ok (.iload_n 1, 1) := by decide +kernel
theorem dX8_isBent_34 : decode cX8_isBent 34 = .ok (.iload_n 3, 1) := by decide +kernel
theorem dX8_isBent_35 : decode cX8_isBent 35 = .ok (.iload 4, 2) := by decide +kernel
theorem dX8_isBent_37 : decode cX8_isBent 37 = .ok (.iconst 1, 1) := by decide +kernel
theorem dX8_isBent_38 : decode cX8_isBent 38 = .ok (.iadd, 1) := by decide +kernel
theorem dX8_isBent_39 : decode cX8_isBent 39 = .ok (.iconst 0, 1) := by decide +kernel
theorem dX8_isBent_40 : decode cX8_isBent 40 = .ok (.invokevirtual 162, 3) := by decide +kernel
theorem dX8_isBent_43 : decode cX8_isBent 43 = .ok (.isub, 1) := by decide +kernel
theorem dX8_isBent_44 : decode cX8_isBent 44 = .ok (.invokestatic 194, 3) := by decide +kernel
theorem dX8_isBent_47 : decode cX8_isBent 47 = .ok (.aload_n 0, 1) := by decide +kernel
theorem dX8_isBent_48 : decode cX8_isBent 48 = .ok (.iload_n 1, 1) := by decide +kernel
theorem dX8_isBent_49 : decode cX8_isBent 49 = .ok (.iload_n 3, 1) := by decide +kernel
theorem dX8_isBent_50 : decode cX8_isBent 50 = .ok (.iload 4, 2) := by decide +kernel
theorem dX8_isBent_52 : decode cX8_isBent 52 = .ok (.iconst 1, 1) := by decide +kernel
theorem dX8_isBent_53 : decode cX8_isBent 53 = .ok (.invokevirtual 162, 3) := by decide +kernel
theorem dX8_isBent_56 : decode cX8_isBent 56 = .ok (.aload_n 0, 1) := by decide +kernel
theorem dX8_isBent_57 : decode cX8_isBent 57 = .ok (.iload_n 1, 1) := by decide +kernel
theorem dX8_isBent_58 : decode cX8_isBent 58 = .ok (.iload_n 3, 1) := by decide +kernel
theorem dX8_isBent_59 : decode cX8_isBent 59 = .ok (.iload 4, 2) := by decide +kernel
theorem dX8_isBent_61 : decode cX8_isBent 61 = .ok (.iconst 1, 1) := by decide +kernel
theorem dX8_isBent_62 : decode cX8_isBent 62 = .ok (.iadd, 1) := by decide +kernel
theorem dX8_isBent_63 : decode cX8_isBent 63 = .ok (.iconst 1, 1) := by decide +kernel
theorem dX8_isBent_64 : decode cX8_isBent 64 = .ok (.invokevirtual 162, 3) := by decide +kernel
theorem dX8_isBent_67 : decode cX8_isBent 67 = .ok (.isub, 1) := by decide +kernel
theorem dX8_isBent_68 : decode cX8_isBent 68 = .ok (.invokestatic 194, 3) := by decide +kernel
theorem dX8_isBent_71 : decode cX8_isBent 71 = .ok (.iadd, 1) := by decide +kernel
theorem dX8_isBent_72 : decode cX8_isBent 72 = .ok (.istore 5, 2) := by decide +kernel
theorem dX8_isBent_74 : decode cX8_isBent 74 = .ok (.iload_n 2, 1) := by decide +kernel
theorem dX8_isBent_75 : decode cX8_isBent 75 = .ok (.ifCond .ne 17, 3) := by decide +kernel
theorem dX8_isBent_78 : decode cX8_isBent 78 = .ok (.iload 5, 2) := by decide +kernel
theorem dX8_isBent_80 : decode cX8_isBent 80 = .ok (.aload_n 0, 1) := by decide +kernel
theorem dX8_isBent_81 : decode cX8_isBent 81 = .ok (.getfield 28, 3) := by decide +kernel
theorem dX8_isBent_84 : decode cX8_isBent 84 = .ok (.iconst 4, 1) := by decide +kernel
theorem dX8_isBent_85 : decode cX8_isBent 85 = .ok (.iload 4, 2) := by decide +kernel
theorem dX8_isBent_87 : decode cX8_isBent 87 = .ok (.iadd, 1) := by decide +kernel
theorem dX8_isBent_88 : decode cX8_isBent 88 = .ok (.iaload, 1) := by decide +kernel
theorem dX8_isBent_89 : decode cX8_isBent 89 = .ok (.if_icmp .le 7, 3) := by decide +kernel
theorem dX8_isBent_92 : decode cX8_isBent 92 = .ok (.iconst 1, 1) := by decide +kernel
theorem dX8_isBent_93 : decode cX8_isBent 93 = .ok (.goto 4, 3) := by decide +kernel
theorem dX8_isBent_96 : decode cX8_isBent 96 = .ok (.iconst 0, 1) := by decide +kernel
theorem dX8_isBent_97 : decode cX8_isBent 97 = .ok (.istore_n 2, 1) := by decide +kernel
theorem dX8_isBent_98 : decode cX8_isBent 98 = .ok (.iinc 4 1, 3) := by decide +kernel
theorem dX8_isBent_101 : decode cX8_isBent 101 = .ok (.goto (-84), 3) := by decide +kernel
theorem dX8_isBent_104 : decode cX8_isBent 104 = .ok (.iinc 3 1, 3) := by decide +kernel
theorem dX8_isBent_107 : decode cX8_isBent 107 = .ok (.goto (-103), 3) := by decide +kernel
theorem dX8_isBent_110 : decode cX8_isBent 110 = .ok (.iload_n 2, 1) := by decide +kernel
theorem dX8_isBent_111 : decode cX8_isBent 111 = .ok (.ireturn, 1) := by decide +kernel
theorem dX8_isQuick_0 : decode cX8_isQuick 0 = .ok (.iconst 0, 1) := by decide +kernel
theorem dX8_isQuick_1 : decode cX8_isQuick 1 = .ok (.istore_n 2, 1) := by decide +kernel
theorem dX8_isQuick_2 : decode cX8_isQuick 2 = .ok (.bipush 8, 2) := by decide +kernel
theorem dX8_isQuick_4 : decode cX8_isQuick 4 = .ok (.istore_n 3, 1) := by decide +kernel
theorem dX8_isQuick_5 : decode cX8_isQuick 5 = .ok (.iload_n 3, 1) := by decide +kernel
theorem dX8_isQuick_6 : decode cX8_isQuick 6 = .ok (.bipush 8, 2) := by decide +kernel
theorem dX8_isQuick_8 : decode cX8_isQuick 8 = .ok (.aload_n 0, 1) := by decide +kernel
theorem dX8_isQuick_9 : decode cX8_isQuick 9 = .ok (.getfield 37, 3) := by decide +kernel
theorem dX8_isQuick_12 : decode cX8_isQuick 12 = .ok (.iload_n 1, 1) := by decide +kernel
theorem dX8_isQuick_13 : decode cX8_isQuick 13 = .ok (.iaload, 1) := by decide +kernel
theorem dX8_isQuick_14 : decode cX8_isQuick 14 = .ok (.imul, 1) := by decide +kernel
theorem dX8_isQuick_15 : decode cX8_isQuick 15 = .ok (.if_icmp .ge 58, 3) := by decide +kernel
theorem dX8_isQuick_18 : decode cX8_isQuick 18 = .ok (.iload_n 2, 1) := by decide +kernel
theorem dX8_isQuick_19 : decode cX8_isQuick 19 = .ok (.ifCond .ne 42, 3) := by decide +kernel
theorem dX8_isQuick_22 : decode cX8_isQuick 22 = .ok (.aload_n 0, 1) := by decide +kernel
theorem dX8_isQuick_23 : decode cX8_isQuick 23 = .ok (.getfield 34, 3) := by decide +kernel
theorem dX8_isQuick_26 : decode cX8_isQuick 26 = .ok (.bipush 64, 2) := by decide +kernel
theorem dX8_isQuick_28 : decode cX8_isQuick 28 = .ok (.iload_n 1, 1) := by decide +kernel
theorem dX8_isQuick_29 : decode cX8_isQuick 29 = .ok (.imul, 1) := by decide +kernel
theorem dX8_isQuick_30 : decode cX8_isQuick 30 = .ok (.iload_n 3, 1) := by decide +kernel
theorem dX8_isQuick_31 : decode cX8_isQuick 31 = .ok (.iadd, 1) := by decide +kernel
theorem dX8_isQuick_32 : decode cX8_isQuick 32 = .ok (.iaload, 1) := by decide +kernel
theorem dX8_isQuick_33 : decode cX8_isQuick 33 = .ok (.aload_n 0, 1) := by decide +kernel
theorem dX8_isQuick_34 : decode cX8_isQuick 34 = .ok (.getfield 34, 3) := by decide +kernel
theorem dX8_isQuick_37 : decode cX8_isQuick 37 = .ok (.bipush 64, 2) := by decide +kernel
theorem dX8_isQuick_39 : decode cX8_isQuick 39 = .ok (.iload_n 1, 1) := by decide +kernel
theorem dX8_isQuick_40 : decode cX8_isQuick 40 = .ok (.imul, 1) := by decide +kernel
theorem dX8_isQuick_41 : decode cX8_isQuick 41 = .ok (.iload_n 3, 1) := by decide +kernel
theorem dX8_isQuick_42 : decode cX8_isQuick 42 = .ok (.iadd, 1) := by decide +kernel
theorem dX8_isQuick_43 : decode cX8_isQuick 43 = .ok (.bipush 8, 2) := by decide +kernel
theorem dX8_isQuick_45 : decode cX8_isQuick 45 = .ok (.isub, 1) := by decide +kernel
theorem dX8_isQuick_46 : decode cX8_isQuick 46 = .ok (.iaload, 1) := by decide +kernel
theorem dX8_isQuick_47 : decode cX8_isQuick 47 = .ok (.isub, 1) := by decide +kernel
theorem dX8_isQuick_48 : decode cX8_isQuick 48 = .ok (.invokestatic 194, 3) := by decide +kernel
theorem dX8_isQuick_51 : decode cX8_isQuick 51 = .ok (.aload_n 0, 1) := by decide +kernel
theorem dX8_isQuick_52 : decode cX8_isQuick 52 = .ok (.getfield 28, 3) := by decide +kernel
theorem dX8_isQuick_55 : decode cX8_isQuick 55 = .ok (.bipush 13, 2) := by decide +kernel
theorem dX8_isQuick_57 : decode cX8_isQuick 57 = .ok (.iaload, 1) := by decide +kernel
theorem dX8_isQuick_58 : decode cX8_isQuick 58 = .ok (.if_icmp .le 7, 3) := by decide +kernel
theorem dX8_isQuick_61 : decode cX8_isQuick 61 = .ok (.iconst 1, 1) := by decide +kernel
theorem dX8_isQuick_62 : decode cX8_isQuick 62 = .ok (.goto 4, 3) := by decide +kernel
theorem dX8_isQuick_65 : decode cX8_isQuick 65 = .ok (.iconst 0, 1) := by decide +kernel
theorem dX8_isQuick_66 : decode cX8_isQuick 66 = .ok (.istore_n 2, 1) := by decide +kernel
theorem dX8_isQuick_67 : decode cX8_isQuick 67 = .ok (.iinc 3 1, 3) := by decide +kernel
theorem dX8_isQuick_70 : decode cX8_isQuick 70 = .ok (.goto (-65), 3) := by decide +kernel
theorem dX8_isQuick_73 : decode cX8_isQuick 73 = .ok (.iload_n 2, 1) := by decide +kernel
theorem dX8_isQuick_74 : decode cX8_isQuick 74 = .ok (.ireturn, 1) := by decide +kernel
theorem dX8_landsOn_0 : decode cX8_landsOn 0 = .ok (.iconst 0, 1) := by decide +kernel
theorem dX8_landsOn_1 : decode cX8_landsOn 1 = .ok (.istore_n 2, 1) := by decide +kernel
theorem dX8_landsOn_2 : decode cX8_landsOn 2 = .ok (.iconst 1, 1) := by decide +kernel
theorem dX8_landsOn_3 : decode cX8_landsOn 3 = .ok (.istore_n 3, 1) := by decide +kernel
theorem dX8_landsOn_4 : decode cX8_landsOn 4 = .ok (.iload_n 3, 1) := by decide +kernel
theorem dX8_landsOn_5 : decode cX8_landsOn 5 = .ok (.iconst 4, 1) := by decide +kernel
theorem dX8_landsOn_6 : decode cX8_landsOn 6 = .ok (.if_icmp .ge 48, 3) := by decide +kernel
theorem dX8_landsOn_9 : decode cX8_landsOn 9 = .ok (.aload_n 0, 1) := by decide +kernel
theorem dX8_landsOn_10 : decode cX8_landsOn 10 = .ok (.iload_n 1, 1) := by decide +kernel
theorem dX8_landsOn_11 : decode cX8_landsOn 11 = .ok (.aload_n 0, 1) := by decide +kernel
theorem dX8_landsOn_12 : decode cX8_landsOn 12 = .ok (.getfield 37, 3) := by decide +kernel
theorem dX8_landsOn_15 : decode cX8_landsOn 15 = .ok (.iload_n 1, 1) := by decide +kernel
theorem dX8_landsOn_16 : decode cX8_landsOn 16 = .ok (.iaload, 1) := by decide +kernel
theorem dX8_landsOn_17 : decode cX8_landsOn 17 = .ok (.iconst 1, 1) := by decide +kernel
theorem dX8_landsOn_18 : decode cX8_landsOn 18 = .ok (.isub, 1) := by decide +kernel
theorem dX8_landsOn_19 : decode cX8_landsOn 19 = .ok (.iload_n 3, 1) := by decide +kernel
theorem dX8_landsOn_20 : decode cX8_landsOn 20 = .ok (.iconst 1, 1) := by decide +kernel
theorem dX8_landsOn_21 : decode cX8_landsOn 21 = .ok (.invokevirtual 162, 3) := by decide +kernel
theorem dX8_landsOn_24 : decode cX8_landsOn 24 = .ok (.aload_n 0, 1) := by decide +kernel
theorem dX8_landsOn_25 : decode cX8_landsOn 25 = .ok (.iload_n 1, 1) := by decide +kernel
theorem dX8_landsOn_26 : decode cX8_landsOn 26 = .ok (.aload_n 0, 1) := by decide +kernel
theorem dX8_landsOn_27 : decode cX8_landsOn 27 = .ok (.getfield 37, 3) := by decide +kernel
theorem dX8_landsOn_30 : decode cX8_landsOn 30 = .ok (.iload_n 1, 1) := by decide +kernel
theorem dX8_landsOn_31 : decode cX8_landsOn 31 = .ok (.iaload, 1) := by decide +kernel
theorem dX8_landsOn_32 : decode cX8_landsOn 32 = .ok (.iconst 1, 1) := by decide +kernel
theorem dX8_landsOn_33 : decode cX8_landsOn 33 = .ok (.isub, 1) := by decide +kernel
theorem dX8_landsOn_34 : decode cX8_landsOn 34 = .ok (.iload_n 2, 1) := by decide +kernel
theorem dX8_landsOn_35 : decode cX8_landsOn 35 = .ok (.iconst 1, 1) := by decide +kernel
theorem dX8_landsOn_36 : decode cX8_landsOn 36 = .ok (.invokevirtual 162, 3) := by decide +kernel
theorem dX8_landsOn_39 : decode cX8_landsOn 39 = .ok (.if_icmp .gt 7, 3) := by decide +kernel
theorem dX8_landsOn_42 : decode cX8_landsOn 42 = .ok (.iload_n 3, 1) := by decide +kernel
theorem dX8_landsOn_43 : decode cX8_landsOn 43 = .ok (.goto 4, 3) := by decide +kernel
theorem dX8_landsOn_46 : decode cX8_landsOn 46 = .ok (.iload_n 2, 1) := by decide +kernel
theorem dX8_landsOn_47 : decode cX8_landsOn 47 = .ok (.istore_n 2, 1) := by decide +kernel
theorem dX8_landsOn_48 : decode cX8_landsOn 48 = .ok (.iinc 3 1, 3) := by decide +kernel
theorem dX8_landsOn_51 : decode cX8_landsOn 51 = .ok (.goto (-47), 3) := by decide +kernel
theorem dX8_landsOn_54 : decode cX8_landsOn 54 = .ok (.iload_n 2, 1) := by decide +kernel
theorem dX8_landsOn_55 : decode cX8_landsOn 55 = .ok (.ireturn, 1) := by decide +kernel
theorem dX8_doesBear_0 : decode cX8_doesBear 0 = .ok (.iload_n 0, 1) := by decide +kernel
theorem dX8_doesBear_1 : decode cX8_doesBear 1 = .ok (.iconst 2, 1) := by decide +kernel
theorem dX8_doesBear_2 : decode cX8_doesBear 2 = .ok (.if_icmp .eq 18, 3) := by decide +kernel
theorem dX8_doesBear_5 : decode cX8_doesBear 5 = .ok (.iload_n 1, 1) := by decide +kernel
theorem dX8_doesBear_6 : decode cX8_doesBear 6 = .ok (.iconst 3, 1) := by decide +kernel
theorem dX8_doesBear_7 : decode cX8_doesBear 7 = .ok (.if_icmp .eq 13, 3) := by decide +kernel
theorem dX8_doesBear_10 : decode cX8_doesBear 10 = .ok (.iload_n 0, 1) := by decide +kernel
theorem dX8_doesBear_11 : decode cX8_doesBear 11 = .ok (.iconst 1, 1) := by decide +kernel
theorem dX8_doesBear_12 : decode cX8_doesBear 12 = .ok (.if_icmp .ne 12, 3) := by decide +kernel
theorem dX8_doesBear_15 : decode cX8_doesBear 15 = .ok (.iload_n 1, 1) := by decide +kernel
theorem dX8_doesBear_16 : decode cX8_doesBear 16 = .ok (.iconst 2, 1) := by decide +kernel
theorem dX8_doesBear_17 : decode cX8_doesBear 17 = .ok (.if_icmp .ne 7, 3) := by decide +kernel
theorem dX8_doesBear_20 : decode cX8_doesBear 20 = .ok (.iconst 1, 1) := by decide +kernel
theorem dX8_doesBear_21 : decode cX8_doesBear 21 = .ok (.goto 4, 3) := by decide +kernel
theorem dX8_doesBear_24 : decode cX8_doesBear 24 = .ok (.iconst 0, 1) := by decide +kernel
theorem dX8_doesBear_25 : decode cX8_doesBear 25 = .ok (.ireturn, 1) := by decide +kernel
theorem dX8_barredBy_0 : decode cX8_barredBy 0 = .ok (.aload_n 0, 1) := by decide +kernel
theorem dX8_barredBy_1 : decode cX8_barredBy 1 = .ok (.iload_n 1, 1) := by decide +kernel
theorem dX8_barredBy_2 : decode cX8_barredBy 2 = .ok (.invokevirtual 197, 3) := by decide +kernel
theorem dX8_barredBy_5 : decode cX8_barredBy 5 = .ok (.ifCond .eq 7, 3) := by decide +kernel
theorem dX8_barredBy_8 : decode cX8_barredBy 8 = .ok (.iconst 1, 1) := by decide +kernel
theorem dX8_barredBy_9 : decode cX8_barredBy 9 = .ok (.goto 53, 3) := by decide +kernel
theorem dX8_barredBy_12 : decode cX8_barredBy 12 = .ok (.aload_n 0, 1) := by decide +kernel
theorem dX8_barredBy_13 : decode cX8_barredBy 13 = .ok (.iload_n 1, 1) := by decide +kernel
theorem dX8_barredBy_14 : decode cX8_barredBy 14 = .ok (.invokevirtual 200, 3) := by decide +kernel
theorem dX8_barredBy_17 : decode cX8_barredBy 17 = .ok (.ifCond .eq 7, 3) := by decide +kernel
theorem dX8_barredBy_20 : decode cX8_barredBy 20 = .ok (.iconst 2, 1) := by decide +kernel
theorem dX8_barredBy_21 : decode cX8_barredBy 21 = .ok (.goto 41, 3) := by decide +kernel
theorem dX8_barredBy_24 : decode cX8_barredBy 24 = .ok (.iload_n 2, 1) := by decide +kernel
theorem dX8_barredBy_25 : decode cX8_barredBy 25 = .ok (.aload_n 0, 1) := by decide +kernel
theorem dX8_barredBy_26 : decode cX8_barredBy 26 = .ok (.getfield 28, 3) := by decide +kernel
theorem dX8_barredBy_29 : decode cX8_barredBy 29 = .ok (.bipush 14, 2) := by decide +kernel
theorem dX8_barredBy_31 : decode cX8_barredBy 31 = .ok (.iaload, 1) := by decide +kernel
theorem dX8_barredBy_32 : decode cX8_barredBy 32 = .ok (.if_icmp .le 7, 3) := by decide +kernel
theorem dX8_barredBy_35 : decode cX8_barredBy 35 = .ok (.iconst 3, 1) := by decide +kernel
theorem dX8_barredBy_36 : decode cX8_barredBy 36 = .ok (.goto 26, 3) := by decide +kernel
theorem dX8_barredBy_39 : decode cX8_barredBy 39 = .ok (.aload_n 0, 1) := by decide +kernel
theorem dX8_barredBy_40 : decode cX8_barredBy 40 = .ok (.getfield 28, 3) := by decide +kernel
theorem dX8_barredBy_43 : decode cX8_barredBy 43 = .ok (.bipush 15, 2) := by decide +kernel
theorem dX8_barredBy_45 : decode cX8_barredBy 45 = .ok (.iaload, 1) := by decide +kernel
theorem dX8_barredBy_46 : decode cX8_barredBy 46 = .ok (.aload_n 0, 1) := by decide +kernel
theorem dX8_barredBy_47 : decode cX8_barredBy 47 = .ok (.iload_n 1, 1) := by decide +kernel
theorem dX8_barredBy_48 : decode cX8_barredBy 48 = .ok (.invokevirtual 203, 3) := by decide +kernel
theorem dX8_barredBy_51 : decode cX8_barredBy 51 = .ok (.invokestatic 206, 3) := by decide +kernel
theorem dX8_barredBy_54 : decode cX8_barredBy 54 = .ok (.ifCond .eq 7, 3) := by decide +kernel
theorem dX8_barredBy_57 : decode cX8_barredBy 57 = .ok (.iconst 0, 1) := by decide +kernel
theorem dX8_barredBy_58 : decode cX8_barredBy 58 = .ok (.goto 4, 3) := by decide +kernel
theorem dX8_barredBy_61 : decode cX8_barredBy 61 = .ok (.iconst 4, 1) := by decide +kernel
theorem dX8_barredBy_62 : decode cX8_barredBy 62 = .ok (.ireturn, 1) := by decide +kernel
theorem dX8_barred_0 : decode cX8_barred 0 = .ok (.aload_n 0, 1) := by decide +kernel
theorem dX8_barred_1 : decode cX8_barred 1 = .ok (.iload_n 1, 1) := by decide +kernel
theorem dX8_barred_2 : decode cX8_barred 2 = .ok (.invokevirtual 139, 3) := by decide +kernel
theorem dX8_barred_5 : decode cX8_barred 5 = .ok (.ifCond .eq 17, 3) := by decide +kernel
theorem dX8_barred_8 : decode cX8_barred 8 = .ok (.aload_n 0, 1) := by decide +kernel
theorem dX8_barred_9 : decode cX8_barred 9 = .ok (.iload_n 1, 1) := by decide +kernel
theorem dX8_barred_10 : decode cX8_barred 10 = .ok (.aload_n 0, 1) := by decide +kernel
theorem dX8_barred_11 : decode cX8_barred 11 = .ok (.getfield 40, 3) := by decide +kernel
theorem dX8_barred_14 : decode cX8_barred 14 = .ok (.iload_n 1, 1) := by decide +kernel
theorem dX8_barred_15 : decode cX8_barred 15 = .ok (.iaload, 1) := by decide +kernel
theorem dX8_barred_16 : decode cX8_barred 16 = .ok (.invokevirtual 209, 3) := by decide +kernel
theorem dX8_barred_19 : decode cX8_barred 19 = .ok (.goto 4, 3) := by decide +kernel
theorem dX8_barred_22 : decode cX8_barred 22 = .ok (.iconst (-1), 1) := by decide +kernel
theorem dX8_barred_23 : decode cX8_barred 23 = .ok (.ireturn, 1) := by decide +kernel
theorem dX8_pits_0 : decode cX8_pits 0 = .ok (.aload_n 0, 1) := by decide +kernel
theorem dX8_pits_1 : decode cX8_pits 1 = .ok (.iload_n 1, 1) := by decide +kernel
theorem dX8_pits_2 : decode cX8_pits 2 = .ok (.invokevirtual 139, 3) := by decide +kernel
theorem dX8_pits_5 : decode cX8_pits 5 = .ok (.ifCond .ne 5, 3) := by decide +kernel
theorem dX8_pits_8 : decode cX8_pits 8 = .ok (.iconst (-1), 1) := by decide +kernel
theorem dX8_pits_9 : decode cX8_pits 9 = .ok (.ireturn, 1) := by decide +kernel
theorem dX8_pits_10 : decode cX8_pits 10 = .ok (.iconst 0, 1) := by decide +kernel
theorem dX8_pits_11 : decode cX8_pits 11 = .ok (.istore_n 2, 1) := by decide +kernel
theorem dX8_pits_12 : decode cX8_pits 12 = .ok (.iconst 0, 1) := by decide +kernel
theorem dX8_pits_13 : decode cX8_pits 13 = .ok (.istore_n 3, 1) := by decide +kernel
theorem dX8_pits_14 : decode cX8_pits 14 = .ok (.iload_n 3, 1) := by decide +kernel
theorem dX8_pits_15 : decode cX8_pits 15 = .ok (.iconst 3, 1) := by decide +kernel
theorem dX8_pits_16 : decode cX8_pits 16 = .ok (.if_icmp .ge 31, 3) := by decide +kernel
theorem dX8_pits_19 : decode cX8_pits 19 = .ok (.iload_n 2, 1) := by decide +kernel
theorem dX8_pits_20 : decode cX8_pits 20 = .ok (.iload_n 3, 1) := by decide +kernel
theorem dX8_pits_21 : decode cX8_pits 21 = .ok (.aload_n 0, 1) := by decide +kernel
theorem dX8_pits_22 : decode cX8_pits 22 = .ok (.iload_n 1, 1) := by decide +kernel
theorem dX8_pits_23 : decode cX8_pits 23 = .ok (.invokevirtual 203, 3) := by decide +kernel
theorem dX8_pits_26 : decode cX8_pits 26 = .ok (.invokestatic 206, 3) := by decide +kernel
theorem dX8_pits_29 : decode cX8_pits 29 = .ok (.ifCond .eq 9, 3) := by decide +kernel
theorem dX8_pits_32 : decode cX8_pits 32 = .ok (.iconst 1, 1) := by decide +kernel
theorem dX8_pits_33 : decode cX8_pits 33 = .ok (.iload_n 3, 1) := by decide +kernel
theorem dX8_pits_34 : decode cX8_pits 34 = .ok (.ishl, 1) := by decide +kernel
theorem dX8_pits_35 : decode cX8_pits 35 = .ok (.goto 4, 3) := by decide +kernel
theorem dX8_pits_38 : decode cX8_pits 38 = .ok (.iconst 0, 1) := by decide +kernel
theorem dX8_pits_39 : decode cX8_pits 39 = .ok (.ior, 1) := by decide +kernel
theorem dX8_pits_40 : decode cX8_pits 40 = .ok (.istore_n 2, 1) := by decide +kernel
theorem dX8_pits_41 : decode cX8_pits 41 = .ok (.iinc 3 1, 3) := by decide +kernel
theorem dX8_pits_44 : decode cX8_pits 44 = .ok (.goto (-30), 3) := by decide +kernel
theorem dX8_pits_47 : decode cX8_pits 47 = .ok (.iload_n 2, 1) := by decide +kernel
theorem dX8_pits_48 : decode cX8_pits 48 = .ok (.ireturn, 1) := by decide +kernel
theorem dX8_worthOf_0 : decode cX8_worthOf 0 = .ok (.aload_n 0, 1) := by decide +kernel
theorem dX8_worthOf_1 : decode cX8_worthOf 1 = .ok (.iload_n 1, 1) := by decide +kernel
theorem dX8_worthOf_2 : decode cX8_worthOf 2 = .ok (.iload_n 2, 1) := by decide +kernel
theorem dX8_worthOf_3 : decode cX8_worthOf 3 = .ok (.invokevirtual 209, 3) := by decide +kernel
theorem dX8_worthOf_6 : decode cX8_worthOf 6 = .ok (.ifCond .ne 11, 3) := by decide +kernel
theorem dX8_worthOf_9 : decode cX8_worthOf 9 = .ok (.aload_n 0, 1) := by decide +kernel
theorem dX8_worthOf_10 : decode cX8_worthOf 10 = .ok (.iload_n 1, 1) := by decide +kernel
theorem dX8_worthOf_11 : decode cX8_worthOf 11 = .ok (.invokevirtual 187, 3) := by decide +kernel
theorem dX8_worthOf_14 : decode cX8_worthOf 14 = .ok (.goto 5, 3) := by decide +kernel
theorem dX8_worthOf_17 : decode cX8_worthOf 17 = .ok (.bipush (-4), 2) := by decide +kernel
theorem dX8_worthOf_19 : decode cX8_worthOf 19 = .ok (.istore_n 3, 1) := by decide +kernel
theorem dX8_worthOf_20 : decode cX8_worthOf 20 = .ok (.iload_n 3, 1) := by decide +kernel
theorem dX8_worthOf_21 : decode cX8_worthOf 21 = .ok (.bipush (-4), 2) := by decide +kernel
theorem dX8_worthOf_23 : decode cX8_worthOf 23 = .ok (.if_icmp .ne 7, 3) := by decide +kernel
theorem dX8_worthOf_26 : decode cX8_worthOf 26 = .ok (.iconst (-1), 1) := by decide +kernel
theorem dX8_worthOf_27 : decode cX8_worthOf 27 = .ok (.goto 4, 3) := by decide +kernel
theorem dX8_worthOf_30 : decode cX8_worthOf 30 = .ok (.iload_n 3, 1) := by decide +kernel
theorem dX8_worthOf_31 : decode cX8_worthOf 31 = .ok (.ireturn, 1) := by decide +kernel
theorem dX8_worthOrNone_0 : decode cX8_worthOrNone 0 = .ok (.aload_n 0, 1) := by decide +kernel
theorem dX8_worthOrNone_1 : decode cX8_worthOrNone 1 = .ok (.iload_n 1, 1) := by decide +kernel
theorem dX8_worthOrNone_2 : decode cX8_worthOrNone 2 = .ok (.invokevirtual 139, 3) := by decide +kernel
theorem dX8_worthOrNone_5 : decode cX8_worthOrNone 5 = .ok (.ifCond .eq 17, 3) := by decide +kernel
theorem dX8_worthOrNone_8 : decode cX8_worthOrNone 8 = .ok (.aload_n 0, 1) := by decide +kernel
theorem dX8_worthOrNone_9 : decode cX8_worthOrNone 9 = .ok (.iload_n 1, 1) := by decide +kernel
theorem dX8_worthOrNone_10 : decode cX8_worthOrNone 10 = .ok (.aload_n 0, 1) := by decide +kernel
theorem dX8_worthOrNone_11 : decode cX8_worthOrNone 11 = .ok (.getfield 40, 3) := by decide +kernel
theorem dX8_worthOrNone_14 : decode cX8_worthOrNone 14 = .ok (.iload_n 1, 1) := by decide +kernel
theorem dX8_worthOrNone_15 : decode cX8_worthOrNone 15 = .ok (.iaload, 1) := by decide +kernel
theorem dX8_worthOrNone_16 : decode cX8_worthOrNone 16 = .ok (.invokevirtual 212, 3) := by decide +kernel
theorem dX8_worthOrNone_19 : decode cX8_worthOrNone 19 = .ok (.goto 4, 3) := by decide +kernel
theorem dX8_worthOrNone_22 : decode cX8_worthOrNone 22 = .ok (.iconst (-1), 1) := by decide +kernel
theorem dX8_worthOrNone_23 : decode cX8_worthOrNone 23 = .ok (.ireturn, 1) := by decide +kernel
theorem dX8_changed_0 : decode cX8_changed 0 = .ok (.iload_n 2, 1) := by decide +kernel
theorem dX8_changed_1 : decode cX8_changed 1 = .ok (.iconst 2, 1) := by decide +kernel
theorem dX8_changed_2 : decode cX8_changed 2 = .ok (.idiv, 1) := by decide +kernel
theorem dX8_changed_3 : decode cX8_changed 3 = .ok (.istore_n 3, 1) := by decide +kernel
theorem dX8_changed_4 : decode cX8_changed 4 = .ok (.iload_n 3, 1) := by decide +kernel
theorem dX8_changed_5 : decode cX8_changed 5 = .ok (.bipush 8, 2) := by decide +kernel
theorem dX8_changed_7 : decode cX8_changed 7 = .ok (.aload_n 0, 1) := by decide +kernel
theorem dX8_changed_8 : decode cX8_changed 8 = .ok (.getfield 37, 3) := by decide +kernel
theorem dX8_changed_11 : decode cX8_changed 11 = .ok (.iload_n 1, 1) := by decide +kernel
theorem dX8_changed_12 : decode cX8_changed 12 = .ok (.iaload, 1) := by decide +kernel
theorem dX8_changed_13 : decode cX8_changed 13 = .ok (.imul, 1) := by decide +kernel
theorem dX8_changed_14 : decode cX8_changed 14 = .ok (.if_icmp .ge 29, 3) := by decide +kernel
theorem dX8_changed_17 : decode cX8_changed 17 = .ok (.aload_n 0, 1) := by decide +kernel
theorem dX8_changed_18 : decode cX8_changed 18 = .ok (.getfield 34, 3) := by decide +kernel
theorem dX8_changed_21 : decode cX8_changed 21 = .ok (.bipush 64, 2) := by decide +kernel
theorem dX8_changed_23 : decode cX8_changed 23 = .ok (.iload_n 1, 1) := by decide +kernel
theorem dX8_changed_24 : decode cX8_changed 24 = .ok (.imul, 1) := by decide +kernel
theorem dX8_changed_25 : decode cX8_changed 25 = .ok (.iload_n 3, 1) := by decide +kernel
theorem dX8_changed_26 : decode cX8_changed 26 = .ok (.iadd, 1) := by decide +kernel
theorem dX8_changed_27 : decode cX8_changed 27 = .ok (.iaload, 1) := by decide +kernel
theorem dX8_changed_28 : decode cX8_changed 28 = .ok (.iload_n 2, 1) := by decide +kernel
theorem dX8_changed_29 : decode cX8_changed 29 = .ok (.iconst 2, 1) := by decide +kernel
theorem dX8_changed_30 : decode cX8_changed 30 = .ok (.irem, 1) := by decide +kernel
theorem dX8_changed_31 : decode cX8_changed 31 = .ok (.ifCond .ne 7, 3) := by decide +kernel
theorem dX8_changed_34 : decode cX8_changed 34 = .ok (.iconst 1, 1) := by decide +kernel
theorem dX8_changed_35 : decode cX8_changed 35 = .ok (.goto 4, 3) := by decide +kernel
theorem dX8_changed_38 : decode cX8_changed 38 = .ok (.iconst (-1), 1) := by decide +kernel
theorem dX8_changed_39 : decode cX8_changed 39 = .ok (.iadd, 1) := by decide +kernel
theorem dX8_changed_40 : decode cX8_changed 40 = .ok (.goto 5, 3) := by decide +kernel
theorem dX8_changed_43 : decode cX8_changed 43 = .ok (.bipush 99, 2) := by decide +kernel
theorem dX8_changed_45 : decode cX8_changed 45 = .ok (.istore 4, 2) := by decide +kernel
theorem dX8_changed_47 : decode cX8_changed 47 = .ok (.iload 4, 2) := by decide +kernel
theorem dX8_changed_49 : decode cX8_changed 49 = .ok (.i2l, 1) := by decide +kernel
theorem dX8_changed_50 : decode cX8_changed 50 = .ok (.ldc2_w 158, 3) := by decide +kernel
theorem dX8_changed_53 : decode cX8_changed 53 = .ok (.ldc2_w 160, 3) := by decide +kernel
theorem dX8_changed_56 : decode cX8_changed 56 = .ok (.invokestatic 71, 3) := by decide +kernel
theorem dX8_changed_59 : decode cX8_changed 59 = .ok (.ifCond .eq 12, 3) := by decide +kernel
theorem dX8_changed_62 : decode cX8_changed 62 = .ok (.bipush 64, 2) := by decide +kernel
theorem dX8_changed_64 : decode cX8_changed 64 = .ok (.iload_n 1, 1) := by decide +kernel
theorem dX8_changed_65 : decode cX8_changed 65 = .ok (.imul, 1) := by decide +kernel
theorem dX8_changed_66 : decode cX8_changed 66 = .ok (.iload_n 3, 1) := by decide +kernel
theorem dX8_changed_67 : decode cX8_changed 67 = .ok (.iadd, 1) := by decide +kernel
theorem dX8_changed_68 : decode cX8_changed 68 = .ok (.goto 5, 3) := by decide +kernel
theorem dX8_changed_71 : decode cX8_changed 71 = .ok (.bipush (-4), 2) := by decide +kernel
theorem dX8_changed_73 : decode cX8_changed 73 = .ok (.ireturn, 1) := by decide +kernel
theorem dX8_worthBy_0 : decode cX8_worthBy 0 = .ok (.aload_n 0, 1) := by decide +kernel
theorem dX8_worthBy_1 : decode cX8_worthBy 1 = .ok (.iload_n 1, 1) := by decide +kernel
theorem dX8_worthBy_2 : decode cX8_worthBy 2 = .ok (.iload_n 2, 1) := by decide +kernel
theorem dX8_worthBy_3 : decode cX8_worthBy 3 = .ok (.invokevirtual 215, 3) := by decide +kernel
theorem dX8_worthBy_6 : decode cX8_worthBy 6 = .ok (.istore_n 3, 1) := by decide +kernel
theorem dX8_worthBy_7 : decode cX8_worthBy 7 = .ok (.iload_n 2, 1) := by decide +kernel
theorem dX8_worthBy_8 : decode cX8_worthBy 8 = .ok (.iconst 2, 1) := by decide +kernel
theorem dX8_worthBy_9 : decode cX8_worthBy 9 = .ok (.irem, 1) := by decide +kernel
theorem dX8_worthBy_10 : decode cX8_worthBy 10 = .ok (.ifCond .ne 7, 3) := by decide +kernel
theorem dX8_worthBy_13 : decode cX8_worthBy 13 = .ok (.iconst 1, 1) := by decide +kernel
theorem dX8_worthBy_14 : decode cX8_worthBy 14 = .ok (.goto 4, 3) := by decide +kernel
theorem dX8_worthBy_17 : decode cX8_worthBy 17 = .ok (.iconst (-1), 1) := by decide +kernel
theorem dX8_worthBy_18 : decode cX8_worthBy 18 = .ok (.istore 4, 2) := by decide +kernel
theorem dX8_worthBy_20 : decode cX8_worthBy 20 = .ok (.aload_n 0, 1) := by decide +kernel
theorem dX8_worthBy_21 : decode cX8_worthBy 21 = .ok (.getfield 34, 3) := by decide +kernel
theorem dX8_worthBy_24 : decode cX8_worthBy 24 = .ok (.iload_n 3, 1) := by decide +kernel
theorem dX8_worthBy_25 : decode cX8_worthBy 25 = .ok (.dup2, 1) := by decide +kernel
theorem dX8_worthBy_26 : decode cX8_worthBy 26 = .ok (.iaload, 1) := by decide +kernel
theorem dX8_worthBy_27 : decode cX8_worthBy 27 = .ok (.iload 4, 2) := by decide +kernel
theorem dX8_worthBy_29 : decode cX8_worthBy 29 = .ok (.iadd, 1) := by decide +kernel
theorem dX8_worthBy_30 : decode cX8_worthBy 30 = .ok (.iastore, 1) := by decide +kernel
theorem dX8_worthBy_31 : decode cX8_worthBy 31 = .ok (.aload_n 0, 1) := by decide +kernel
theorem dX8_worthBy_32 : decode cX8_worthBy 32 = .ok (.iload_n 1, 1) := by decide +kernel
theorem dX8_worthBy_33 : decode cX8_worthBy 33 = .ok (.aload_n 0, 1) := by decide +kernel
theorem dX8_worthBy_34 : decode cX8_worthBy 34 = .ok (.getfield 40, 3) := by decide +kernel
theorem dX8_worthBy_37 : decode cX8_worthBy 37 = .ok (.iload_n 1, 1) := by decide +kernel
theorem dX8_worthBy_38 : decode cX8_worthBy 38 = .ok (.iaload, 1) := by decide +kernel
theorem dX8_worthBy_39 : decode cX8_worthBy 39 = .ok (.invokevirtual 212, 3) := by decide +kernel
theorem dX8_worthBy_42 : decode cX8_worthBy 42 = .ok (.istore 5, 2) := by decide +kernel
theorem dX8_worthBy_44 : decode cX8_worthBy 44 = .ok (.aload_n 0, 1) := by decide +kernel
theorem dX8_worthBy_45 : decode cX8_worthBy 45 = .ok (.getfield 34, 3) := by decide +kernel
theorem dX8_worthBy_48 : decode cX8_worthBy 48 = .ok (.iload_n 3, 1) := by decide +kernel
theorem dX8_worthBy_49 : decode cX8_worthBy 49 = .ok (.dup2, 1) := by decide +kernel
theorem dX8_worthBy_50 : decode cX8_worthBy 50 = .ok (.iaload, 1) := by decide +kernel
theorem dX8_worthBy_51 : decode cX8_worthBy 51 = .ok (.iload 4, 2) := by decide +kernel
theorem dX8_worthBy_53 : decode cX8_worthBy 53 = .ok (.isub, 1) := by decide +kernel
theorem dX8_worthBy_54 : decode cX8_worthBy 54 = .ok (.iastore, 1) := by decide +kernel
theorem dX8_worthBy_55 : decode cX8_worthBy 55 = .ok (.iload 5, 2) := by decide +kernel
theorem dX8_worthBy_57 : decode cX8_worthBy 57 = .ok (.ireturn, 1) := by decide +kernel
theorem dX8_worth_0 : decode cX8_worth 0 = .ok (.aload_n 0, 1) := by decide +kernel
theorem dX8_worth_1 : decode cX8_worth 1 = .ok (.iload_n 1, 1) := by decide +kernel
theorem dX8_worth_2 : decode cX8_worth 2 = .ok (.invokevirtual 139, 3) := by decide +kernel
theorem dX8_worth_5 : decode cX8_worth 5 = .ok (.ifCond .eq 17, 3) := by decide +kernel
theorem dX8_worth_8 : decode cX8_worth 8 = .ok (.iload_n 2, 1) := by decide +kernel
theorem dX8_worth_9 : decode cX8_worth 9 = .ok (.i2l, 1) := by decide +kernel
theorem dX8_worth_10 : decode cX8_worth 10 = .ok (.ldc2_w 218, 3) := by decide +kernel
theorem dX8_worth_13 : decode cX8_worth 13 = .ok (.ldc2_w 220, 3) := by decide +kernel
theorem dX8_worth_16 : decode cX8_worth 16 = .ok (.invokestatic 71, 3) := by decide +kernel
theorem dX8_worth_19 : decode cX8_worth 19 = .ok (.ifCond .ne 7, 3) := by decide +kernel
theorem dX8_worth_22 : decode cX8_worth 22 = .ok (.sipush (-1000), 3) := by decide +kernel
theorem dX8_worth_25 : decode cX8_worth 25 = .ok (.ireturn, 1) := by decide +kernel
theorem dX8_worth_26 : decode cX8_worth 26 = .ok (.iload_n 2, 1) := by decide +kernel
theorem dX8_worth_27 : decode cX8_worth 27 = .ok (.ifCond .ge 15, 3) := by decide +kernel
theorem dX8_worth_30 : decode cX8_worth 30 = .ok (.aload_n 0, 1) := by decide +kernel
theorem dX8_worth_31 : decode cX8_worth 31 = .ok (.iload_n 1, 1) := by decide +kernel
theorem dX8_worth_32 : decode cX8_worth 32 = .ok (.aload_n 0, 1) := by decide +kernel
theorem dX8_worth_33 : decode cX8_worth 33 = .ok (.getfield 40, 3) := by decide +kernel
theorem dX8_worth_36 : decode cX8_worth 36 = .ok (.iload_n 1, 1) := by decide +kernel
theorem dX8_worth_37 : decode cX8_worth 37 = .ok (.iaload, 1) := by decide +kernel
theorem dX8_worth_38 : decode cX8_worth 38 = .ok (.invokevirtual 212, 3) := by decide +kernel
theorem dX8_worth_41 : decode cX8_worth 41 = .ok (.ireturn, 1) := by decide +kernel
theorem dX8_worth_42 : decode cX8_worth 42 = .ok (.aload_n 0, 1) := by decide +kernel
theorem dX8_worth_43 : decode cX8_worth 43 = .ok (.iload_n 1, 1) := by decide +kernel
theorem dX8_worth_44 : decode cX8_worth 44 = .ok (.iload_n 2, 1) := by decide +kernel
theorem dX8_worth_45 : decode cX8_worth 45 = .ok (.invokevirtual 215, 3) := by decide +kernel
theorem dX8_worth_48 : decode cX8_worth 48 = .ok (.bipush (-4), 2) := by decide +kernel
theorem dX8_worth_50 : decode cX8_worth 50 = .ok (.if_icmp .ne 9, 3) := by decide +kernel
theorem dX8_worth_53 : decode cX8_worth 53 = .ok (.sipush (-1000), 3) := by decide +kernel
theorem dX8_worth_56 : decode cX8_worth 56 = .ok (.goto 9, 3) := by decide +kernel
theorem dX8_worth_59 : decode cX8_worth 59 = .ok (.aload_n 0, 1) := by decide +kernel
theorem dX8_worth_60 : decode cX8_worth 60 = .ok (.iload_n 1, 1) := by decide +kernel
theorem dX8_worth_61 : decode cX8_worth 61 = .ok (.iload_n 2, 1) := by decide +kernel
theorem dX8_worth_62 : decode cX8_worth 62 = .ok (.invokevirtual 222, 3) := by decide +kernel
theorem dX8_worth_65 : decode cX8_worth 65 = .ok (.ireturn, 1) := by decide +kernel
theorem dX8_betterOf_0 : decode cX8_betterOf 0 = .ok (.bipush (-4), 2) := by decide +kernel
theorem dX8_betterOf_2 : decode cX8_betterOf 2 = .ok (.istore_n 2, 1) := by decide +kernel
theorem dX8_betterOf_3 : decode cX8_betterOf 3 = .ok (.aload_n 0, 1) := by decide +kernel
theorem dX8_betterOf_4 : decode cX8_betterOf 4 = .ok (.iload_n 1, 1) := by decide +kernel
theorem dX8_betterOf_5 : decode cX8_betterOf 5 = .ok (.aload_n 0, 1) := by decide +kernel
theorem dX8_betterOf_6 : decode cX8_betterOf 6 = .ok (.getfield 40, 3) := by decide +kernel
theorem dX8_betterOf_9 : decode cX8_betterOf 9 = .ok (.iload_n 1, 1) := by decide +kernel
theorem dX8_betterOf_10 : decode cX8_betterOf 10 = .ok (.iaload, 1) := by decide +kernel
theorem dX8_betterOf_11 : decode cX8_betterOf 11 = .ok (.invokevirtual 212, 3) := by decide +kernel
theorem dX8_betterOf_14 : decode cX8_betterOf 14 = .ok (.istore_n 3, 1) := by decide +kernel
theorem dX8_betterOf_15 : decode cX8_betterOf 15 = .ok (.iconst 0, 1) := by decide +kernel
theorem dX8_betterOf_16 : decode cX8_betterOf 16 = .ok (.istore 4, 2) := by decide +kernel
theorem dX8_betterOf_18 : decode cX8_betterOf 18 = .ok (.iload 4, 2) := by decide +kernel
theorem dX8_betterOf_20 : decode cX8_betterOf 20 = .ok (.sipush 128, 3) := by decide +kernel
theorem dX8_betterOf_23 : decode cX8_betterOf 23 = .ok (.if_icmp .ge 56, 3) := by decide +kernel
theorem dX8_betterOf_26 : decode cX8_betterOf 26 = .ok (.aload_n 0, 1) := by decide +kernel
theorem dX8_betterOf_27 : decode cX8_betterOf 27 = .ok (.iload_n 1, 1) := by decide +kernel
theorem dX8_betterOf_28 : decode cX8_betterOf 28 = .ok (.iload 4, 2) := by decide +kernel
theorem dX8_betterOf_30 : decode cX8_betterOf 30 = .ok (.invokevirtual 215, 3) := by decide +kernel
theorem dX8_betterOf_33 : decode cX8_betterOf 33 = .ok (.bipush (-4), 2) := by decide +kernel
theorem dX8_betterOf_35 : decode cX8_betterOf 35 = .ok (.if_icmp .eq 38, 3) := by decide +kernel
theorem dX8_betterOf_38 : decode cX8_betterOf 38 = .ok (.aload_n 0, 1) := by decide +kernel
theorem dX8_betterOf_39 : decode cX8_betterOf 39 = .ok (.iload_n 1, 1) := by decide +kernel
theorem dX8_betterOf_40 : decode cX8_betterOf 40 = .ok (.iload 4, 2) := by decide +kernel
theorem dX8_betterOf_42 : decode cX8_betterOf 42 = .ok (.invokevirtual 222, 3) := by decide +kernel
theorem dX8_betterOf_45 : decode cX8_betterOf 45 = .ok (.istore 5, 2) := by decide +kernel
theorem dX8_betterOf_47 : decode cX8_betterOf 47 = .ok (.iload 5, 2) := by decide +kernel
theorem dX8_betterOf_49 : decode cX8_betterOf 49 = .ok (.iload_n 3, 1) := by decide +kernel
theorem dX8_betterOf_50 : decode cX8_betterOf 50 = .ok (.if_icmp .le 8, 3) := by decide +kernel
theorem dX8_betterOf_53 : decode cX8_betterOf 53 = .ok (.iload 4, 2) := by decide +kernel
theorem dX8_betterOf_55 : decode cX8_betterOf 55 = .ok (.goto 4, 3) := by decide +kernel
theorem dX8_betterOf_58 : decode cX8_betterOf 58 = .ok (.iload_n 2, 1) := by decide +kernel
theorem dX8_betterOf_59 : decode cX8_betterOf 59 = .ok (.istore_n 2, 1) := by decide +kernel
theorem dX8_betterOf_60 : decode cX8_betterOf 60 = .ok (.iload 5, 2) := by decide +kernel
theorem dX8_betterOf_62 : decode cX8_betterOf 62 = .ok (.iload_n 3, 1) := by decide +kernel
theorem dX8_betterOf_63 : decode cX8_betterOf 63 = .ok (.if_icmp .le 8, 3) := by decide +kernel
theorem dX8_betterOf_66 : decode cX8_betterOf 66 = .ok (.iload 5, 2) := by decide +kernel
theorem dX8_betterOf_68 : decode cX8_betterOf 68 = .ok (.goto 4, 3) := by decide +kernel
theorem dX8_betterOf_71 : decode cX8_betterOf 71 = .ok (.iload_n 3, 1) := by decide +kernel
theorem dX8_betterOf_72 : decode cX8_betterOf 72 = .ok (.istore_n 3, 1) := by decide +kernel
theorem dX8_betterOf_73 : decode cX8_betterOf 73 = .ok (.iinc 4 1, 3) := by decide +kernel
theorem dX8_betterOf_76 : decode cX8_betterOf 76 = .ok (.goto (-58), 3) := by decide +kernel
theorem dX8_betterOf_79 : decode cX8_betterOf 79 = .ok (.iload_n 2, 1) := by decide +kernel
theorem dX8_betterOf_80 : decode cX8_betterOf 80 = .ok (.ireturn, 1) := by decide +kernel
theorem dX8_better_0 : decode cX8_better 0 = .ok (.aload_n 0, 1) := by decide +kernel
theorem dX8_better_1 : decode cX8_better 1 = .ok (.iload_n 1, 1) := by decide +kernel
theorem dX8_better_2 : decode cX8_better 2 = .ok (.invokevirtual 139, 3) := by decide +kernel
theorem dX8_better_5 : decode cX8_better 5 = .ok (.ifCond .eq 11, 3) := by decide +kernel
theorem dX8_better_8 : decode cX8_better 8 = .ok (.aload_n 0, 1) := by decide +kernel
theorem dX8_better_9 : decode cX8_better 9 = .ok (.iload_n 1, 1) := by decide +kernel
theorem dX8_better_10 : decode cX8_better 10 = .ok (.invokevirtual 225, 3) := by decide +kernel
theorem dX8_better_13 : decode cX8_better 13 = .ok (.goto 4, 3) := by decide +kernel
theorem dX8_better_16 : decode cX8_better 16 = .ok (.iconst (-1), 1) := by decide +kernel
theorem dX8_better_17 : decode cX8_better 17 = .ok (.ireturn, 1) := by decide +kernel
theorem dX8_climb_0 : decode cX8_climb 0 = .ok (.aload_n 0, 1) := by decide +kernel
theorem dX8_climb_1 : decode cX8_climb 1 = .ok (.iload_n 1, 1) := by decide +kernel
theorem dX8_climb_2 : decode cX8_climb 2 = .ok (.invokevirtual 139, 3) := by decide +kernel
theorem dX8_climb_5 : decode cX8_climb 5 = .ok (.ifCond .eq 15, 3) := by decide +kernel
theorem dX8_climb_8 : decode cX8_climb 8 = .ok (.iload_n 2, 1) := by decide +kernel
theorem dX8_climb_9 : decode cX8_climb 9 = .ok (.i2l, 1) := by decide +kernel
theorem dX8_climb_10 : decode cX8_climb 10 = .ok (.lconst 1, 1) := by decide +kernel
theorem dX8_climb_11 : decode cX8_climb 11 = .ok (.ldc2_w 228, 3) := by decide +kernel
theorem dX8_climb_14 : decode cX8_climb 14 = .ok (.invokestatic 71, 3) := by decide +kernel
theorem dX8_climb_17 : decode cX8_climb 17 = .ok (.ifCond .ne 5, 3) := by decide +kernel
theorem dX8_climb_20 : decode cX8_climb 20 = .ok (.iconst (-1), 1) := by decide +kernel
theorem dX8_climb_21 : decode cX8_climb 21 = .ok (.ireturn, 1) := by decide +kernel
theorem dX8_climb_22 : decode cX8_climb 22 = .ok (.iconst 0, 1) := by decide +kernel
theorem dX8_climb_23 : decode cX8_climb 23 = .ok (.istore_n 3, 1) := by decide +kernel
theorem dX8_climb_24 : decode cX8_climb 24 = .ok (.iload_n 3, 1) := by decide +kernel
theorem dX8_climb_25 : decode cX8_climb 25 = .ok (.iload_n 2, 1) := by decide +kernel
theorem dX8_climb_26 : decode cX8_climb 26 = .ok (.if_icmp .ge 52, 3) := by decide +kernel
theorem dX8_climb_29 : decode cX8_climb 29 = .ok (.aload_n 0, 1) := by decide +kernel
theorem dX8_climb_30 : decode cX8_climb 30 = .ok (.iload_n 1, 1) := by decide +kernel
theorem dX8_climb_31 : decode cX8_climb 31 = .ok (.invokevirtual 225, 3) := by decide +kernel
theorem dX8_climb_34 : decode cX8_climb 34 = .ok (.istore 4, 2) := by decide +kernel
theorem dX8_climb_36 : decode cX8_climb 36 = .ok (.iload 4, 2) := by decide +kernel
theorem dX8_climb_38 : decode cX8_climb 38 = .ok (.bipush (-4), 2) := by decide +kernel
theorem dX8_climb_40 : decode cX8_climb 40 = .ok (.if_icmp .ne 5, 3) := by decide +kernel
theorem dX8_climb_43 : decode cX8_climb 43 = .ok (.iload_n 3, 1) := by decide +kernel
theorem dX8_climb_44 : decode cX8_climb 44 = .ok (.ireturn, 1) := by decide +kernel
theorem dX8_climb_45 : decode cX8_climb 45 = .ok (.aload_n 0, 1) := by decide +kernel
theorem dX8_climb_46 : decode cX8_climb 46 = .ok (.getfield 34, 3) := by decide +kernel
theorem dX8_climb_49 : decode cX8_climb 49 = .ok (.aload_n 0, 1) := by decide +kernel
theorem dX8_climb_50 : decode cX8_climb 50 = .ok (.iload_n 1, 1) := by decide +kernel
theorem dX8_climb_51 : decode cX8_climb 51 = .ok (.iload 4, 2) := by decide +kernel
theorem dX8_climb_53 : decode cX8_climb 53 = .ok (.invokevirtual 215, 3) := by decide +kernel
theorem dX8_climb_56 : decode cX8_climb 56 = .ok (.dup2, 1) := by decide +kernel
theorem dX8_climb_57 : decode cX8_climb 57 = .ok (.iaload, 1) := by decide +kernel
theorem dX8_climb_58 : decode cX8_climb 58 = .ok (.iload 4, 2) := by decide +kernel
theorem dX8_climb_60 : decode cX8_climb 60 = .ok (.iconst 2, 1) := by decide +kernel
theorem dX8_climb_61 : decode cX8_climb 61 = .ok (.irem, 1) := by decide +kernel
theorem dX8_climb_62 : decode cX8_climb 62 = .ok (.ifCond .ne 7, 3) := by decide +kernel
theorem dX8_climb_65 : decode cX8_climb 65 = .ok (.iconst 1, 1) := by decide +kernel
theorem dX8_climb_66 : decode cX8_climb 66 = .ok (.goto 4, 3) := by decide +kernel
theorem dX8_climb_69 : decode cX8_climb 69 = .ok (.iconst (-1), 1) := by decide +kernel
theorem dX8_climb_70 : decode cX8_climb 70 = .ok (.iadd, 1) := by decide +kernel
theorem dX8_climb_71 : decode cX8_climb 71 = .ok (.iastore, 1) := by decide +kernel
theorem dX8_climb_72 : decode cX8_climb 72 = .ok (.iinc 3 1, 3) := by decide +kernel
theorem dX8_climb_75 : decode cX8_climb 75 = .ok (.goto (-51), 3) := by decide +kernel
theorem dX8_climb_78 : decode cX8_climb 78 = .ok (.iload_n 2, 1) := by decide +kernel
theorem dX8_climb_79 : decode cX8_climb 79 = .ok (.ireturn, 1) := by decide +kernel
theorem dX8_around_0 : decode cX8_around 0 = .ok (.aload_n 0, 1) := by decide +kernel
theorem dX8_around_1 : decode cX8_around 1 = .ok (.iload_n 1, 1) := by decide +kernel
theorem dX8_around_2 : decode cX8_around 2 = .ok (.invokevirtual 139, 3) := by decide +kernel
theorem dX8_around_5 : decode cX8_around 5 = .ok (.ifCond .eq 15, 3) := by decide +kernel
theorem dX8_around_8 : decode cX8_around 8 = .ok (.iload_n 2, 1) := by decide +kernel
theorem dX8_around_9 : decode cX8_around 9 = .ok (.i2l, 1) := by decide +kernel
theorem dX8_around_10 : decode cX8_around 10 = .ok (.lconst 0, 1) := by decide +kernel
theorem dX8_around_11 : decode cX8_around 11 = .ok (.ldc2_w 144, 3) := by decide +kernel
theorem dX8_around_14 : decode cX8_around 14 = .ok (.invokestatic 71, 3) := by decide +kernel
theorem dX8_around_17 : decode cX8_around 17 = .ok (.ifCond .ne 5, 3) := by decide +kernel
theorem dX8_around_20 : decode cX8_around 20 = .ok (.iconst (-1), 1) := by decide +kernel
theorem dX8_around_21 : decode cX8_around 21 = .ok (.ireturn, 1) := by decide +kernel
theorem dX8_around_22 : decode cX8_around 22 = .ok (.aload_n 0, 1) := by decide +kernel
theorem dX8_around_23 : decode cX8_around 23 = .ok (.iload_n 1, 1) := by decide +kernel
theorem dX8_around_24 : decode cX8_around 24 = .ok (.aload_n 0, 1) := by decide +kernel
theorem dX8_around_25 : decode cX8_around 25 = .ok (.getfield 40, 3) := by decide +kernel
theorem dX8_around_28 : decode cX8_around 28 = .ok (.iload_n 1, 1) := by decide +kernel
theorem dX8_around_29 : decode cX8_around 29 = .ok (.iaload, 1) := by decide +kernel
theorem dX8_around_30 : decode cX8_around 30 = .ok (.invokevirtual 212, 3) := by decide +kernel
theorem dX8_around_33 : decode cX8_around 33 = .ok (.istore_n 3, 1) := by decide +kernel
theorem dX8_around_34 : decode cX8_around 34 = .ok (.iconst 0, 1) := by decide +kernel
theorem dX8_around_35 : decode cX8_around 35 = .ok (.istore 4, 2) := by decide +kernel
theorem dX8_around_37 : decode cX8_around 37 = .ok (.iconst 0, 1) := by decide +kernel
theorem dX8_around_38 : decode cX8_around 38 = .ok (.istore 5, 2) := by decide +kernel
theorem dX8_around_40 : decode cX8_around 40 = .ok (.iload 5, 2) := by decide +kernel
theorem dX8_around_42 : decode cX8_around 42 = .ok (.sipush 128, 3) := by decide +kernel
theorem dX8_around_45 : decode cX8_around 45 = .ok (.if_icmp .ge 73, 3) := by decide +kernel
theorem dX8_around_48 : decode cX8_around 48 = .ok (.aload_n 0, 1) := by decide +kernel
theorem dX8_around_49 : decode cX8_around 49 = .ok (.iload_n 1, 1) := by decide +kernel
theorem dX8_around_50 : decode cX8_around 50 = .ok (.iload 5, 2) := by decide +kernel
theorem dX8_around_52 : decode cX8_around 52 = .ok (.invokevirtual 215, 3) := by decide +kernel
theorem dX8_around_55 : decode cX8_around 55 = .ok (.bipush (-4), 2) := by decide +kernel
theorem dX8_around_57 : decode cX8_around 57 = .ok (.if_icmp .eq 55, 3) := by decide +kernel
theorem dX8_around_60 : decode cX8_around 60 = .ok (.aload_n 0, 1) := by decide +kernel
theorem dX8_around_61 : decode cX8_around 61 = .ok (.iload_n 1, 1) := by decide +kernel
theorem dX8_around_62 : decode cX8_around 62 = .ok (.iload 5, 2) := by decide +kernel
theorem dX8_around_64 : decode cX8_around 64 = .ok (.invokevirtual 222, 3) := by decide +kernel
theorem dX8_around_67 : decode cX8_around 67 = .ok (.istore 6, 2) := by decide +kernel
theorem dX8_around_69 : decode cX8_around 69 = .ok (.iload 4, 2) := by decide +kernel
theorem dX8_around_71 : decode cX8_around 71 = .ok (.iload_n 2, 1) := by decide +kernel
theorem dX8_around_72 : decode cX8_around 72 = .ok (.ifCond .ne 12, 3) := by decide +kernel
theorem dX8_around_75 : decode cX8_around 75 = .ok (.iload 6, 2) := by decide +kernel
theorem dX8_around_77 : decode cX8_around 77 = .ok (.iload_n 3, 1) := by decide +kernel
theorem dX8_around_78 : decode cX8_around 78 = .ok (.if_icmp .ne 30, 3) := by decide +kernel
theorem dX8_around_81 : decode cX8_around 81 = .ok (.goto 23, 3) := by decide +kernel
theorem dX8_around_84 : decode cX8_around 84 = .ok (.iload_n 2, 1) := by decide +kernel
theorem dX8_around_85 : decode cX8_around 85 = .ok (.iconst 1, 1) := by decide +kernel
theorem dX8_around_86 : decode cX8_around 86 = .ok (.if_icmp .ne 12, 3) := by decide +kernel
theorem dX8_around_89 : decode cX8_around 89 = .ok (.iload 6, 2) := by decide +kernel
theorem dX8_around_91 : decode cX8_around 91 = .ok (.iload_n 3, 1) := by decide +kernel
theorem dX8_around_92 : decode cX8_around 92 = .ok (.if_icmp .ge 16, 3) := by decide +kernel
theorem dX8_around_95 : decode cX8_around 95 = .ok (.goto 9, 3) := by decide +kernel
theorem dX8_around_98 : decode cX8_around 98 = .ok (.iload 6, 2) := by decide +kernel
theorem dX8_around_100 : decode cX8_around 100 = .ok (.iload_n 3, 1) := by decide +kernel
theorem dX8_around_101 : decode cX8_around 101 = .ok (.if_icmp .le 7, 3) := by decide +kernel
theorem dX8_around_104 : decode cX8_around 104 = .ok (.iconst 1, 1) := by decide +kernel
theorem dX8_around_105 : decode cX8_around 105 = .ok (.goto 4, 3) := by decide +kernel
theorem dX8_around_108 : decode cX8_around 108 = .ok (.iconst 0, 1) := by decide +kernel
theorem dX8_around_109 : decode cX8_around 109 = .ok (.iadd, 1) := by decide +kernel
theorem dX8_around_110 : decode cX8_around 110 = .ok (.istore 4, 2) := by decide +kernel
theorem dX8_around_112 : decode cX8_around 112 = .ok (.iinc 5 1, 3) := by decide +kernel
theorem dX8_around_115 : decode cX8_around 115 = .ok (.goto (-75), 3) := by decide +kernel
theorem dX8_around_118 : decode cX8_around 118 = .ok (.iload 4, 2) := by decide +kernel
theorem dX8_around_120 : decode cX8_around 120 = .ok (.ireturn, 1) := by decide +kernel
theorem dX8_valley_0 : decode cX8_valley 0 = .ok (.aload_n 0, 1) := by decide +kernel
theorem dX8_valley_1 : decode cX8_valley 1 = .ok (.iload_n 1, 1) := by decide +kernel
theorem dX8_valley_2 : decode cX8_valley 2 = .ok (.invokevirtual 139, 3) := by decide +kernel
theorem dX8_valley_5 : decode cX8_valley 5 = .ok (.ifCond .eq 21, 3) := by decide +kernel
theorem dX8_valley_8 : decode cX8_valley 8 = .ok (.aload_n 0, 1) := by decide +kernel
theorem dX8_valley_9 : decode cX8_valley 9 = .ok (.iload_n 2, 1) := by decide +kernel
theorem dX8_valley_10 : decode cX8_valley 10 = .ok (.invokevirtual 139, 3) := by decide +kernel
theorem dX8_valley_13 : decode cX8_valley 13 = .ok (.ifCond .eq 13, 3) := by decide +kernel
theorem dX8_valley_16 : decode cX8_valley 16 = .ok (.iload_n 3, 1) := by decide +kernel
theorem dX8_valley_17 : decode cX8_valley 17 = .ok (.i2l, 1) := by decide +kernel
theorem dX8_valley_18 : decode cX8_valley 18 = .ok (.lconst 0, 1) := by decide +kernel
theorem dX8_valley_19 : decode cX8_valley 19 = .ok (.lconst 1, 1) := by decide +kernel
theorem dX8_valley_20 : decode cX8_valley 20 = .ok (.invokestatic 71, 3) := by decide +kernel
theorem dX8_valley_23 : decode cX8_valley 23 = .ok (.ifCond .ne 5, 3) := by decide +kernel
theorem dX8_valley_26 : decode cX8_valley 26 = .ok (.iconst (-1), 1) := by decide +kernel
theorem dX8_valley_27 : decode cX8_valley 27 = .ok (.ireturn, 1) := by decide +kernel
theorem dX8_valley_28 : decode cX8_valley 28 = .ok (.aload_n 0, 1) := by decide +kernel
theorem dX8_valley_29 : decode cX8_valley 29 = .ok (.getfield 37, 3) := by decide +kernel
theorem dX8_valley_32 : decode cX8_valley 32 = .ok (.iload_n 1, 1) := by decide +kernel
theorem dX8_valley_33 : decode cX8_valley 33 = .ok (.iaload, 1) := by decide +kernel
theorem dX8_valley_34 : decode cX8_valley 34 = .ok (.aload_n 0, 1) := by decide +kernel
theorem dX8_valley_35 : decode cX8_valley 35 = .ok (.getfield 37, 3) := by decide +kernel
theorem dX8_valley_38 : decode cX8_valley 38 = .ok (.iload_n 2, 1) := by decide +kernel
theorem dX8_valley_39 : decode cX8_valley 39 = .ok (.iaload, 1) := by decide +kernel
theorem dX8_valley_40 : decode cX8_valley 40 = .ok (.if_icmp .eq 6, 3) := by decide +kernel
theorem dX8_valley_43 : decode cX8_valley 43 = .ok (.bipush (-2), 2) := by decide +kernel
theorem dX8_valley_45 : decode cX8_valley 45 = .ok (.ireturn, 1) := by decide +kernel
theorem dX8_valley_46 : decode cX8_valley 46 = .ok (.aload_n 0, 1) := by decide +kernel
theorem dX8_valley_47 : decode cX8_valley 47 = .ok (.iload_n 1, 1) := by decide +kernel
theorem dX8_valley_48 : decode cX8_valley 48 = .ok (.aload_n 0, 1) := by decide +kernel
theorem dX8_valley_49 : decode cX8_valley 49 = .ok (.getfield 40, 3) := by decide +kernel
theorem dX8_valley_52 : decode cX8_valley 52 = .ok (.iload_n 1, 1) := by decide +kernel
theorem dX8_valley_53 : decode cX8_valley 53 = .ok (.iaload, 1) := by decide +kernel
theorem dX8_valley_54 : decode cX8_valley 54 = .ok (.invokevirtual 212, 3) := by decide +kernel
theorem dX8_valley_57 : decode cX8_valley 57 = .ok (.istore 4, 2) := by decide +kernel
theorem dX8_valley_59 : decode cX8_valley 59 = .ok (.iconst 0, 1) := by decide +kernel
theorem dX8_valley_60 : decode cX8_valley 60 = .ok (.istore 5, 2) := by decide +kernel
theorem dX8_valley_62 : decode cX8_valley 62 = .ok (.iconst 0, 1) := by decide +kernel
theorem dX8_valley_63 : decode cX8_valley 63 = .ok (.istore 6, 2) := by decide +kernel
theorem dX8_valley_65 : decode cX8_valley 65 = .ok (.iload 6, 2) := by decide +kernel
theorem dX8_valley_67 : decode cX8_valley 67 = .ok (.bipush 64, 2) := by decide +kernel
theorem dX8_valley_69 : decode cX8_valley 69 = .ok (.if_icmp .ge 28, 3) := by decide +kernel
theorem dX8_valley_72 : decode cX8_valley 72 = .ok (.aload_n 0, 1) := by decide +kernel
theorem dX8_valley_73 : decode cX8_valley 73 = .ok (.getfield 43, 3) := by decide +kernel
theorem dX8_valley_76 : decode cX8_valley 76 = .ok (.iload 6, 2) := by decide +kernel
theorem dX8_valley_78 : decode cX8_valley 78 = .ok (.aload_n 0, 1) := by decide +kernel
theorem dX8_valley_79 : decode cX8_valley 79 = .ok (.getfield 34, 3) := by decide +kernel
theorem dX8_valley_82 : decode cX8_valley 82 = .ok (.bipush 64, 2) := by decide +kernel
theorem dX8_valley_84 : decode cX8_valley 84 = .ok (.iload_n 1, 1) := by decide +kernel
theorem dX8_valley_85 : decode cX8_valley 85 = .ok (.imul, 1) := by decide +kernel
theorem dX8_valley_86 : decode cX8_valley 86 = .ok (.iload 6, 2) := by decide +kernel
theorem dX8_valley_88 : decode cX8_valley 88 = .ok (.iadd, 1) := by decide +kernel
theorem dX8_valley_89 : decode cX8_valley 89 = .ok (.iaload, 1) := by decide +kernel
theorem dX8_valley_90 : decode cX8_valley 90 = .ok (.iastore, 1) := by decide +kernel
theorem dX8_valley_91 : decode cX8_valley 91 = .ok (.iinc 6 1, 3) := by decide +kernel
theorem dX8_valley_94 : decode cX8_valley 94 = .ok (.goto (-29), 3) := by decide +kernel
theorem dX8_valley_97 : decode cX8_valley 97 = .ok (.iconst 0, 1) := by decide +kernel
theorem dX8_valley_98 : decode cX8_valley 98 = .ok (.istore 6, 2) := by decide +kernel
theorem dX8_valley_100 : decode cX8_valley 100 = .ok (.iload 6, 2) := by decide +kernel
theorem dX8_valley_102 : decode cX8_valley 102 = .ok (.bipush 8, 2) := by decide +kernel
theorem dX8_valley_104 : decode cX8_valley 104 = .ok (.aload_n 0, 1) := by decide +kernel
theorem dX8_valley_105 : decode cX8_valley 105 = .ok (.getfield 37, 3) := by decide +kernel
theorem dX8_valley_108 : decode cX8_valley 108 = .ok (.iload_n 1, 1) := by decide +kernel
theorem dX8_valley_109 : decode cX8_valley 109 = .ok (.iaload, 1) := by decide +kernel
theorem dX8_valley_110 : decode cX8_valley 110 = .ok (.imul, 1) := by decide +kernel
theorem dX8_valley_111 : decode cX8_valley 111 = .ok (.if_icmp .ge 86, 3) := by decide +kernel
theorem dX8_valley_114 : decode cX8_valley 114 = .ok (.aload_n 0, 1) := by decide +kernel
theorem dX8_valley_115 : decode cX8_valley 115 = .ok (.getfield 34, 3) := by decide +kernel
theorem dX8_valley_118 : decode cX8_valley 118 = .ok (.bipush 64, 2) := by decide +kernel
theorem dX8_valley_120 : decode cX8_valley 120 = .ok (.iload_n 2, 1) := by decide +kernel
theorem dX8_valley_121 : decode cX8_valley 121 = .ok (.imul, 1) := by decide +kernel
theorem dX8_valley_122 : decode cX8_valley 122 = .ok (.iload 6, 2) := by decide +kernel
theorem dX8_valley_124 : decode cX8_valley 124 = .ok (.iadd, 1) := by decide +kernel
theorem dX8_valley_125 : decode cX8_valley 125 = .ok (.iaload, 1) := by decide +kernel
theorem dX8_valley_126 : decode cX8_valley 126 = .ok (.istore 7, 2) := by decide +kernel
theorem dX8_valley_128 : decode cX8_valley 128 = .ok (.aload_n 0, 1) := by decide +kernel
theorem dX8_valley_129 : decode cX8_valley 129 = .ok (.getfield 34, 3) := by decide +kernel
theorem dX8_valley_132 : decode cX8_valley 132 = .ok (.bipush 64, 2) := by decide +kernel
theorem dX8_valley_134 : decode cX8_valley 134 = .ok (.iload_n 1, 1) := by decide +kernel
theorem dX8_valley_135 : decode cX8_valley 135 = .ok (.imul, 1) := by decide +kernel
theorem dX8_valley_136 : decode cX8_valley 136 = .ok (.iload 6, 2) := by decide +kernel
theorem dX8_valley_138 : decode cX8_valley 138 = .ok (.iadd, 1) := by decide +kernel
theorem dX8_valley_139 : decode cX8_valley 139 = .ok (.iaload, 1) := by decide +kernel
theorem dX8_valley_140 : decode cX8_valley 140 = .ok (.iload 7, 2) := by decide +kernel
theorem dX8_valley_142 : decode cX8_valley 142 = .ok (.if_icmp .eq 49, 3) := by decide +kernel
theorem dX8_valley_145 : decode cX8_valley 145 = .ok (.aload_n 0, 1) := by decide +kernel
theorem dX8_valley_146 : decode cX8_valley 146 = .ok (.getfield 34, 3) := by decide +kernel
theorem dX8_valley_149 : decode cX8_valley 149 = .ok (.bipush 64, 2) := by decide +kernel
theorem dX8_valley_151 : decode cX8_valley 151 = .ok (.iload_n 1, 1) := by decide +kernel
theorem dX8_valley_152 : decode cX8_valley 152 = .ok (.imul, 1) := by decide +kernel
theorem dX8_valley_153 : decode cX8_valley 153 = .ok (.iload 6, 2) := by decide +kernel
theorem dX8_valley_155 : decode cX8_valley 155 = .ok (.iadd, 1) := by decide +kernel
theorem dX8_valley_156 : decode cX8_valley 156 = .ok (.iload 7, 2) := by decide +kernel
theorem dX8_valley_158 : decode cX8_valley 158 = .ok (.iastore, 1) := by decide +kernel
theorem dX8_valley_159 : decode cX8_valley 159 = .ok (.iinc 5 1, 3) := by decide +kernel
theorem dX8_valley_162 : decode cX8_valley 162 = .ok (.aload_n 0, 1) := by decide +kernel
theorem dX8_valley_163 : decode cX8_valley 163 = .ok (.iload_n 1, 1) := by decide +kernel
theorem dX8_valley_164 : decode cX8_valley 164 = .ok (.aload_n 0, 1) := by decide +kernel
theorem dX8_valley_165 : decode cX8_valley 165 = .ok (.getfield 40, 3) := by decide +kernel
theorem dX8_valley_168 : decode cX8_valley 168 = .ok (.iload_n 1, 1) := by decide +kernel
theorem dX8_valley_169 : decode cX8_valley 169 = .ok (.iaload, 1) := by decide +kernel
theorem dX8_valley_170 : decode cX8_valley 170 = .ok (.invokevirtual 212, 3) := by decide +kernel
theorem dX8_valley_173 : decode cX8_valley 173 = .ok (.istore 8, 2) := by decide +kernel
theorem dX8_valley_175 : decode cX8_valley 175 = .ok (.iload 8, 2) := by decide +kernel
theorem dX8_valley_177 : decode cX8_valley 177 = .ok (.iload 4, 2) := by decide +kernel
theorem dX8_valley_179 : decode cX8_valley 179 = .ok (.if_icmp .ge 8, 3) := by decide +kernel
theorem dX8_valley_182 : decode cX8_valley 182 = .ok (.iload 8, 2) := by decide +kernel
theorem dX8_valley_184 : decode cX8_valley 184 = .ok (.goto 5, 3) := by decide +kernel
theorem dX8_valley_187 : decode cX8_valley 187 = .ok (.iload 4, 2) := by decide +kernel
theorem dX8_valley_189 : decode cX8_valley 189 = .ok (.istore 4, 2) := by decide +kernel
theorem dX8_valley_191 : decode cX8_valley 191 = .ok (.iinc 6 1, 3) := by decide +kernel
theorem dX8_valley_194 : decode cX8_valley 194 = .ok (.goto (-94), 3) := by decide +kernel
theorem dX8_valley_197 : decode cX8_valley 197 = .ok (.iconst 0, 1) := by decide +kernel
theorem dX8_valley_198 : decode cX8_valley 198 = .ok (.istore 6, 2) := by decide +kernel
theorem dX8_valley_200 : decode cX8_valley 200 = .ok (.iload 6, 2) := by decide +kernel
theorem dX8_valley_202 : decode cX8_valley 202 = .ok (.bipush 64, 2) := by decide +kernel
theorem dX8_valley_204 : decode cX8_valley 204 = .ok (.if_icmp .ge 28, 3) := by decide +kernel
theorem dX8_valley_207 : decode cX8_valley 207 = .ok (.aload_n 0, 1) := by decide +kernel
theorem dX8_valley_208 : decode cX8_valley 208 = .ok (.getfield 34, 3) := by decide +kernel
theorem dX8_valley_211 : decode cX8_valley 211 = .ok (.bipush 64, 2) := by decide +kernel
theorem dX8_valley_213 : decode cX8_valley 213 = .ok (.iload_n 1, 1) := by decide +kernel
theorem dX8_valley_214 : decode cX8_valley 214 = .ok (.imul, 1) := by decide +kernel
theorem dX8_valley_215 : decode cX8_valley 215 = .ok (.iload 6, 2) := by decide +kernel
theorem dX8_valley_217 : decode cX8_valley 217 = .ok (.iadd, 1) := by decide +kernel
theorem dX8_valley_218 : decode cX8_valley 218 = .ok (.aload_n 0, 1) := by decide +kernel
theorem dX8_valley_219 : decode cX8_valley 219 = .ok (.getfield 43, 3) := by decide +kernel
theorem dX8_valley_222 : decode cX8_valley 222 = .ok (.iload 6, 2) := by decide +kernel
theorem dX8_valley_224 : decode cX8_valley 224 = .ok (.iaload, 1) := by decide +kernel
theorem dX8_valley_225 : decode cX8_valley 225 = .ok (.iastore, 1) := by decide +kernel
theorem dX8_valley_226 : decode cX8_valley 226 = .ok (.iinc 6 1, 3) := by decide +kernel
theorem dX8_valley_229 : decode cX8_valley 229 = .ok (.goto (-29), 3) := by decide +kernel
theorem dX8_valley_232 : decode cX8_valley 232 = .ok (.iload_n 3, 1) := by decide +kernel
theorem dX8_valley_233 : decode cX8_valley 233 = .ok (.ifCond .ne 8, 3) := by decide +kernel
theorem dX8_valley_236 : decode cX8_valley 236 = .ok (.iload 4, 2) := by decide +kernel
theorem dX8_valley_238 : decode cX8_valley 238 = .ok (.goto 5, 3) := by decide +kernel
theorem dX8_valley_241 : decode cX8_valley 241 = .ok (.iload 5, 2) := by decide +kernel
theorem dX8_valley_243 : decode cX8_valley 243 = .ok (.ireturn, 1) := by decide +kernel
theorem dX8_bestOf_0 : decode cX8_bestOf 0 = .ok (.bipush (-4), 2) := by decide +kernel
theorem dX8_bestOf_2 : decode cX8_bestOf 2 = .ok (.istore_n 1, 1) := by decide +kernel
theorem dX8_bestOf_3 : decode cX8_bestOf 3 = .ok (.iconst (-1), 1) := by decide +kernel
theorem dX8_bestOf_4 : decode cX8_bestOf 4 = .ok (.istore_n 2, 1) := by decide +kernel
theorem dX8_bestOf_5 : decode cX8_bestOf 5 = .ok (.iconst 0, 1) := by decide +kernel
theorem dX8_bestOf_6 : decode cX8_bestOf 6 = .ok (.istore_n 3, 1) := by decide +kernel
theorem dX8_bestOf_7 : decode cX8_bestOf 7 = .ok (.iload_n 3, 1) := by decide +kernel
theorem dX8_bestOf_8 : decode cX8_bestOf 8 = .ok (.bipush 6, 2) := by decide +kernel
theorem dX8_bestOf_10 : decode cX8_bestOf 10 = .ok (.if_icmp .ge 41, 3) := by decide +kernel
theorem dX8_bestOf_13 : decode cX8_bestOf 13 = .ok (.aload_n 0, 1) := by decide +kernel
theorem dX8_bestOf_14 : decode cX8_bestOf 14 = .ok (.iload_n 3, 1) := by decide +kernel
theorem dX8_bestOf_15 : decode cX8_bestOf 15 = .ok (.invokevirtual 230, 3) := by decide +kernel
theorem dX8_bestOf_18 : decode cX8_bestOf 18 = .ok (.istore 4, 2) := by decide +kernel
theorem dX8_bestOf_20 : decode cX8_bestOf 20 = .ok (.iload 4, 2) := by decide +kernel
theorem dX8_bestOf_22 : decode cX8_bestOf 22 = .ok (.iload_n 2, 1) := by decide +kernel
theorem dX8_bestOf_23 : decode cX8_bestOf 23 = .ok (.if_icmp .le 7, 3) := by decide +kernel
theorem dX8_bestOf_26 : decode cX8_bestOf 26 = .ok (.iload_n 3, 1) := by decide +kernel
theorem dX8_bestOf_27 : decode cX8_bestOf 27 = .ok (.goto 4, 3) := by decide +kernel
theorem dX8_bestOf_30 : decode cX8_bestOf 30 = .ok (.iload_n 1, 1) := by decide +kernel
theorem dX8_bestOf_31 : decode cX8_bestOf 31 = .ok (.istore_n 1, 1) := by decide +kernel
theorem dX8_bestOf_32 : decode cX8_bestOf 32 = .ok (.iload 4, 2) := by decide +kernel
theorem dX8_bestOf_34 : decode cX8_bestOf 34 = .ok (.iload_n 2, 1) := by decide +kernel
theorem dX8_bestOf_35 : decode cX8_bestOf 35 = .ok (.if_icmp .le 8, 3) := by decide +kernel
theorem dX8_bestOf_38 : decode cX8_bestOf 38 = .ok (.iload 4, 2) := by decide +kernel
theorem dX8_bestOf_40 : decode cX8_bestOf 40 = .ok (.goto 4, 3) := by decide +kernel
theorem dX8_bestOf_43 : decode cX8_bestOf 43 = .ok (.iload_n 2, 1) := by decide +kernel
theorem dX8_bestOf_44 : decode cX8_bestOf 44 = .ok (.istore_n 2, 1) := by decide +kernel
theorem dX8_bestOf_45 : decode cX8_bestOf 45 = .ok (.iinc 3 1, 3) := by decide +kernel
theorem dX8_bestOf_48 : decode cX8_bestOf 48 = .ok (.goto (-41), 3) := by decide +kernel
theorem dX8_bestOf_51 : decode cX8_bestOf 51 = .ok (.iload_n 1, 1) := by decide +kernel
theorem dX8_bestOf_52 : decode cX8_bestOf 52 = .ok (.ireturn, 1) := by decide +kernel
theorem dX8_best_0 : decode cX8_best 0 = .ok (.iload_n 1, 1) := by decide +kernel
theorem dX8_best_1 : decode cX8_best 1 = .ok (.i2l, 1) := by decide +kernel
theorem dX8_best_2 : decode cX8_best 2 = .ok (.lconst 0, 1) := by decide +kernel
theorem dX8_best_3 : decode cX8_best 3 = .ok (.lconst 1, 1) := by decide +kernel
theorem dX8_best_4 : decode cX8_best 4 = .ok (.invokestatic 71, 3) := by decide +kernel
theorem dX8_best_7 : decode cX8_best 7 = .ok (.ifCond .ne 5, 3) := by decide +kernel
theorem dX8_best_10 : decode cX8_best 10 = .ok (.iconst (-1), 1) := by decide +kernel
theorem dX8_best_11 : decode cX8_best 11 = .ok (.ireturn, 1) := by decide +kernel
theorem dX8_best_12 : decode cX8_best 12 = .ok (.aload_n 0, 1) := by decide +kernel
theorem dX8_best_13 : decode cX8_best 13 = .ok (.invokevirtual 233, 3) := by decide +kernel
theorem dX8_best_16 : decode cX8_best 16 = .ok (.istore_n 2, 1) := by decide +kernel
theorem dX8_best_17 : decode cX8_best 17 = .ok (.iload_n 1, 1) := by decide +kernel
theorem dX8_best_18 : decode cX8_best 18 = .ok (.ifCond .ne 7, 3) := by decide +kernel
theorem dX8_best_21 : decode cX8_best 21 = .ok (.iload_n 2, 1) := by decide +kernel
theorem dX8_best_22 : decode cX8_best 22 = .ok (.goto 18, 3) := by decide +kernel
theorem dX8_best_25 : decode cX8_best 25 = .ok (.iload_n 2, 1) := by decide +kernel
theorem dX8_best_26 : decode cX8_best 26 = .ok (.bipush (-4), 2) := by decide +kernel
theorem dX8_best_28 : decode cX8_best 28 = .ok (.if_icmp .ne 7, 3) := by decide +kernel
theorem dX8_best_31 : decode cX8_best 31 = .ok (.iconst (-1), 1) := by decide +kernel
theorem dX8_best_32 : decode cX8_best 32 = .ok (.goto 8, 3) := by decide +kernel
theorem dX8_best_35 : decode cX8_best 35 = .ok (.aload_n 0, 1) := by decide +kernel
theorem dX8_best_36 : decode cX8_best 36 = .ok (.iload_n 2, 1) := by decide +kernel
theorem dX8_best_37 : decode cX8_best 37 = .ok (.invokevirtual 230, 3) := by decide +kernel
theorem dX8_best_40 : decode cX8_best 40 = .ok (.ireturn, 1) := by decide +kernel
theorem dX8_suits_0 : decode cX8_suits 0 = .ok (.iload_n 1, 1) := by decide +kernel
theorem dX8_suits_1 : decode cX8_suits 1 = .ok (.invokestatic 155, 3) := by decide +kernel
theorem dX8_suits_4 : decode cX8_suits 4 = .ok (.ifCond .eq 15, 3) := by decide +kernel
theorem dX8_suits_7 : decode cX8_suits 7 = .ok (.iload_n 2, 1) := by decide +kernel
theorem dX8_suits_8 : decode cX8_suits 8 = .ok (.i2l, 1) := by decide +kernel
theorem dX8_suits_9 : decode cX8_suits 9 = .ok (.lconst 1, 1) := by decide +kernel
theorem dX8_suits_10 : decode cX8_suits 10 = .ok (.ldc2_w 236, 3) := by decide +kernel
theorem dX8_suits_13 : decode cX8_suits 13 = .ok (.invokestatic 71, 3) := by decide +kernel
theorem dX8_suits_16 : decode cX8_suits 16 = .ok (.ifCond .ne 5, 3) := by decide +kernel
theorem dX8_suits_19 : decode cX8_suits 19 = .ok (.iconst (-1), 1) := by decide +kernel
theorem dX8_suits_20 : decode cX8_suits 20 = .ok (.ireturn, 1) := by decide +kernel
theorem dX8_suits_21 : decode cX8_suits 21 = .ok (.aload_n 0, 1) := by decide +kernel
theorem dX8_suits_22 : decode cX8_suits 22 = .ok (.getfield 28, 3) := by decide +kernel
theorem dX8_suits_25 : decode cX8_suits 25 = .ok (.iload_n 1, 1) := by decide +kernel
theorem dX8_suits_26 : decode cX8_suits 26 = .ok (.iaload, 1) := by decide +kernel
theorem dX8_suits_27 : decode cX8_suits 27 = .ok (.istore_n 3, 1) := by decide +kernel
theorem dX8_suits_28 : decode cX8_suits 28 = .ok (.aload_n 0, 1) := by decide +kernel
theorem dX8_suits_29 : decode cX8_suits 29 = .ok (.getfield 28, 3) := by decide +kernel
theorem dX8_suits_32 : decode cX8_suits 32 = .ok (.iload_n 1, 1) := by decide +kernel
theorem dX8_suits_33 : decode cX8_suits 33 = .ok (.iload_n 2, 1) := by decide +kernel
theorem dX8_suits_34 : decode cX8_suits 34 = .ok (.iastore, 1) := by decide +kernel
theorem dX8_suits_35 : decode cX8_suits 35 = .ok (.aload_n 0, 1) := by decide +kernel
theorem dX8_suits_36 : decode cX8_suits 36 = .ok (.invokevirtual 233, 3) := by decide +kernel
theorem dX8_suits_39 : decode cX8_suits 39 = .ok (.istore 4, 2) := by decide +kernel
theorem dX8_suits_41 : decode cX8_suits 41 = .ok (.aload_n 0, 1) := by decide +kernel
theorem dX8_suits_42 : decode cX8_suits 42 = .ok (.getfield 28, 3) := by decide +kernel
theorem dX8_suits_45 : decode cX8_suits 45 = .ok (.iload_n 1, 1) := by decide +kernel
theorem dX8_suits_46 : decode cX8_suits 46 = .ok (.iload_n 3, 1) := by decide +kernel
theorem dX8_suits_47 : decode cX8_suits 47 = .ok (.iastore, 1) := by decide +kernel
theorem dX8_suits_48 : decode cX8_suits 48 = .ok (.iload 4, 2) := by decide +kernel
theorem dX8_suits_50 : decode cX8_suits 50 = .ok (.ireturn, 1) := by decide +kernel
theorem dX8_pays_0 : decode cX8_pays 0 = .ok (.iload_n 1, 1) := by decide +kernel
theorem dX8_pays_1 : decode cX8_pays 1 = .ok (.i2l, 1) := by decide +kernel
theorem dX8_pays_2 : decode cX8_pays 2 = .ok (.lconst 0, 1) := by decide +kernel
theorem dX8_pays_3 : decode cX8_pays 3 = .ok (.ldc2_w 238, 3) := by decide +kernel
theorem dX8_pays_6 : decode cX8_pays 6 = .ok (.invokestatic 71, 3) := by decide +kernel
theorem dX8_pays_9 : decode cX8_pays 9 = .ok (.ifCond .eq 40, 3) := by decide +kernel
theorem dX8_pays_12 : decode cX8_pays 12 = .ok (.iload_n 2, 1) := by decide +kernel
theorem dX8_pays_13 : decode cX8_pays 13 = .ok (.i2l, 1) := by decide +kernel
theorem dX8_pays_14 : decode cX8_pays 14 = .ok (.lconst 0, 1) := by decide +kernel
theorem dX8_pays_15 : decode cX8_pays 15 = .ok (.ldc2_w 238, 3) := by decide +kernel
theorem dX8_pays_18 : decode cX8_pays 18 = .ok (.invokestatic 71, 3) := by decide +kernel
theorem dX8_pays_21 : decode cX8_pays 21 = .ok (.ifCond .eq 28, 3) := by decide +kernel
theorem dX8_pays_24 : decode cX8_pays 24 = .ok (.iload 4, 2) := by decide +kernel
theorem dX8_pays_26 : decode cX8_pays 26 = .ok (.i2l, 1) := by decide +kernel
theorem dX8_pays_27 : decode cX8_pays 27 = .ok (.lconst 0, 1) := by decide +kernel
theorem dX8_pays_28 : decode cX8_pays 28 = .ok (.ldc2_w 238, 3) := by decide +kernel
theorem dX8_pays_31 : decode cX8_pays 31 = .ok (.invokestatic 71, 3) := by decide +kernel
theorem dX8_pays_34 : decode cX8_pays 34 = .ok (.ifCond .eq 15, 3) := by decide +kernel
theorem dX8_pays_37 : decode cX8_pays 37 = .ok (.iload_n 3, 1) := by decide +kernel
theorem dX8_pays_38 : decode cX8_pays 38 = .ok (.i2l, 1) := by decide +kernel
theorem dX8_pays_39 : decode cX8_pays 39 = .ok (.lconst 0, 1) := by decide +kernel
theorem dX8_pays_40 : decode cX8_pays 40 = .ok (.ldc2_w 240, 3) := by decide +kernel
theorem dX8_pays_43 : decode cX8_pays 43 = .ok (.invokestatic 71, 3) := by decide +kernel
theorem dX8_pays_46 : decode cX8_pays 46 = .ok (.ifCond .ne 5, 3) := by decide +kernel
theorem dX8_pays_49 : decode cX8_pays 49 = .ok (.iconst (-1), 1) := by decide +kernel
theorem dX8_pays_50 : decode cX8_pays 50 = .ok (.ireturn, 1) := by decide +kernel
theorem dX8_pays_51 : decode cX8_pays 51 = .ok (.iconst 0, 1) := by decide +kernel
theorem dX8_pays_52 : decode cX8_pays 52 = .ok (.istore 5, 2) := by decide +kernel
theorem dX8_pays_54 : decode cX8_pays 54 = .ok (.iconst 1, 1) := by decide +kernel
theorem dX8_pays_55 : decode cX8_pays 55 = .ok (.istore 6, 2) := by decide +kernel
theorem dX8_pays_57 : decode cX8_pays 57 = .ok (.iload 6, 2) := by decide +kernel
theorem dX8_pays_59 : decode cX8_pays 59 = .ok (.bipush 50, 2) := by decide +kernel
theorem dX8_pays_61 : decode cX8_pays 61 = .ok (.if_icmp .gt 50, 3) := by decide +kernel
theorem dX8_pays_64 : decode cX8_pays 64 = .ok (.iload_n 2, 1) := by decide +kernel
theorem dX8_pays_65 : decode cX8_pays 65 = .ok (.iload_n 3, 1) := by decide +kernel
theorem dX8_pays_66 : decode cX8_pays 66 = .ok (.iload 6, 2) := by decide +kernel
theorem dX8_pays_68 : decode cX8_pays 68 = .ok (.iconst 1, 1) := by decide +kernel
theorem dX8_pays_69 : decode cX8_pays 69 = .ok (.isub, 1) := by decide +kernel
theorem dX8_pays_70 : decode cX8_pays 70 = .ok (.imul, 1) := by decide +kernel
theorem dX8_pays_71 : decode cX8_pays 71 = .ok (.iadd, 1) := by decide +kernel
theorem dX8_pays_72 : decode cX8_pays 72 = .ok (.istore 7, 2) := by decide +kernel
theorem dX8_pays_74 : decode cX8_pays 74 = .ok (.iload 5, 2) := by decide +kernel
theorem dX8_pays_76 : decode cX8_pays 76 = .ok (.iload 7, 2) := by decide +kernel
theorem dX8_pays_78 : decode cX8_pays 78 = .ok (.iload 4, 2) := by decide +kernel
theorem dX8_pays_80 : decode cX8_pays 80 = .ok (.if_icmp .le 8, 3) := by decide +kernel
theorem dX8_pays_83 : decode cX8_pays 83 = .ok (.iload 4, 2) := by decide +kernel
theorem dX8_pays_85 : decode cX8_pays 85 = .ok (.goto 5, 3) := by decide +kernel
theorem dX8_pays_88 : decode cX8_pays 88 = .ok (.iload 7, 2) := by decide +kernel
theorem dX8_pays_90 : decode cX8_pays 90 = .ok (.iadd, 1) := by decide +kernel
theorem dX8_pays_91 : decode cX8_pays 91 = .ok (.istore 5, 2) := by decide +kernel
theorem dX8_pays_93 : decode cX8_pays 93 = .ok (.iload 5, 2) := by decide +kernel
theorem dX8_pays_95 : decode cX8_pays 95 = .ok (.iload_n 1, 1) := by decide +kernel
theorem dX8_pays_96 : decode cX8_pays 96 = .ok (.iload 6, 2) := by decide +kernel
theorem dX8_pays_98 : decode cX8_pays 98 = .ok (.imul, 1) := by decide +kernel
theorem dX8_pays_99 : decode cX8_pays 99 = .ok (.if_icmp .le 6, 3) := by decide +kernel
theorem dX8_pays_102 : decode cX8_pays 102 = .ok (.iload 6, 2) := by decide +kernel
theorem dX8_pays_104 : decode cX8_pays 104 = .ok (.ireturn, 1) := by decide +kernel
theorem dX8_pays_105 : decode cX8_pays 105 = .ok (.iinc 6 1, 3) := by decide +kernel
theorem dX8_pays_108 : decode cX8_pays 108 = .ok (.goto (-51), 3) := by decide +kernel
theorem dX8_pays_111 : decode cX8_pays 111 = .ok (.bipush (-4), 2) := by decide +kernel
theorem dX8_pays_113 : decode cX8_pays 113 = .ok (.ireturn, 1) := by decide +kernel
theorem dX8_jumper_0 : decode cX8_jumper 0 = .ok (.iload_n 1, 1) := by decide +kernel
theorem dX8_jumper_1 : decode cX8_jumper 1 = .ok (.invokestatic 135, 3) := by decide +kernel
theorem dX8_jumper_4 : decode cX8_jumper 4 = .ok (.ifCond .ne 5, 3) := by decide +kernel
theorem dX8_jumper_7 : decode cX8_jumper 7 = .ok (.iconst (-1), 1) := by decide +kernel
theorem dX8_jumper_8 : decode cX8_jumper 8 = .ok (.ireturn, 1) := by decide +kernel
theorem dX8_jumper_9 : decode cX8_jumper 9 = .ok (.aload_n 0, 1) := by decide +kernel
theorem dX8_jumper_10 : decode cX8_jumper 10 = .ok (.getfield 242, 3) := by decide +kernel
theorem dX8_jumper_13 : decode cX8_jumper 13 = .ok (.bipush 12, 2) := by decide +kernel
theorem dX8_jumper_15 : decode cX8_jumper 15 = .ok (.if_icmp .ne 6, 3) := by decide +kernel
theorem dX8_jumper_18 : decode cX8_jumper 18 = .ok (.bipush (-3), 2) := by decide +kernel
theorem dX8_jumper_20 : decode cX8_jumper 20 = .ok (.ireturn, 1) := by decide +kernel
theorem dX8_jumper_21 : decode cX8_jumper 21 = .ok (.aload_n 0, 1) := by decide +kernel
theorem dX8_jumper_22 : decode cX8_jumper 22 = .ok (.getfield 46, 3) := by decide +kernel
theorem dX8_jumper_25 : decode cX8_jumper 25 = .ok (.aload_n 0, 1) := by decide +kernel
theorem dX8_jumper_26 : decode cX8_jumper 26 = .ok (.getfield 242, 3) := by decide +kernel
theorem dX8_jumper_29 : decode cX8_jumper 29 = .ok (.iload_n 1, 1) := by decide +kernel
theorem dX8_jumper_30 : decode cX8_jumper 30 = .ok (.iastore, 1) := by decide +kernel
theorem dX8_jumper_31 : decode cX8_jumper 31 = .ok (.aload_n 0, 1) := by decide +kernel
theorem dX8_jumper_32 : decode cX8_jumper 32 = .ok (.dup, 1) := by decide +kernel
theorem dX8_jumper_33 : decode cX8_jumper 33 = .ok (.getfield 242, 3) := by decide +kernel
theorem dX8_jumper_36 : decode cX8_jumper 36 = .ok (.iconst 1, 1) := by decide +kernel
theorem dX8_jumper_37 : decode cX8_jumper 37 = .ok (.iadd, 1) := by decide +kernel
theorem dX8_jumper_38 : decode cX8_jumper 38 = .ok (.putfield 242, 3) := by decide +kernel
theorem dX8_jumper_41 : decode cX8_jumper 41 = .ok (.aload_n 0, 1) := by decide +kernel
theorem dX8_jumper_42 : decode cX8_jumper 42 = .ok (.getfield 242, 3) := by decide +kernel
theorem dX8_jumper_45 : decode cX8_jumper 45 = .ok (.ireturn, 1) := by decide +kernel
theorem dX8_isJumper_0 : decode cX8_isJumper 0 = .ok (.iload_n 1, 1) := by decide +kernel
theorem dX8_isJumper_1 : decode cX8_isJumper 1 = .ok (.i2l, 1) := by decide +kernel
theorem dX8_isJumper_2 : decode cX8_isJumper 2 = .ok (.lconst 0, 1) := by decide +kernel
theorem dX8_isJumper_3 : decode cX8_isJumper 3 = .ok (.aload_n 0, 1) := by decide +kernel
theorem dX8_isJumper_4 : decode cX8_isJumper 4 = .ok (.getfield 242, 3) := by decide +kernel
theorem dX8_isJumper_7 : decode cX8_isJumper 7 = .ok (.iconst 1, 1) := by decide +kernel
theorem dX8_isJumper_8 : decode cX8_isJumper 8 = .ok (.isub, 1) := by decide +kernel
theorem dX8_isJumper_9 : decode cX8_isJumper 9 = .ok (.i2l, 1) := by decide +kernel
theorem dX8_isJumper_10 : decode cX8_isJumper 10 = .ok (.invokestatic 71, 3) := by decide +kernel
theorem dX8_isJumper_13 : decode cX8_isJumper 13 = .ok (.ireturn, 1) := by decide +kernel
theorem dX8_takes_0 : decode cX8_takes 0 = .ok (.aload_n 0, 1) := by decide +kernel
theorem dX8_takes_1 : decode cX8_takes 1 = .ok (.iload_n 1, 1) := by decide +kernel
theorem dX8_takes_2 : decode cX8_takes 2 = .ok (.invokevirtual 245, 3) := by decide +kernel
theorem dX8_takes_5 : decode cX8_takes 5 = .ok (.ifCond .eq 10, 3) := by decide +kernel
theorem dX8_takes_8 : decode cX8_takes 8 = .ok (.iload_n 2, 1) := by decide +kernel
theorem dX8_takes_9 : decode cX8_takes 9 = .ok (.invokestatic 135, 3) := by decide +kernel
theorem dX8_takes_12 : decode cX8_takes 12 = .ok (.ifCond .ne 5, 3) := by decide +kernel
theorem dX8_takes_15 : decode cX8_takes 15 = .ok (.iconst (-1), 1) := by decide +kernel
theorem dX8_takes_16 : decode cX8_takes 16 = .ok (.ireturn, 1) := by decide +kernel
theorem dX8_takes_17 : decode cX8_takes 17 = .ok (.aload_n 0, 1) := by decide +kernel
theorem dX8_takes_18 : decode cX8_takes 18 = .ok (.getfield 46, 3) := by decide +kernel
theorem dX8_takes_21 : decode cX8_takes 21 = .ok (.iload_n 1, 1) := by decide +kernel
theorem dX8_takes_22 : decode cX8_takes 22 = .ok (.iaload, 1) := by decide +kernel
theorem dX8_takes_23 : decode cX8_takes 23 = .ok (.istore_n 3, 1) := by decide +kernel
theorem dX8_takes_24 : decode cX8_takes 24 = .ok (.aload_n 0, 1) := by decide +kernel
theorem dX8_takes_25 : decode cX8_takes 25 = .ok (.getfield 46, 3) := by decide +kernel
theorem dX8_takes_28 : decode cX8_takes 28 = .ok (.iload_n 1, 1) := by decide +kernel
theorem dX8_takes_29 : decode cX8_takes 29 = .ok (.iload_n 2, 1) := by decide +kernel
theorem dX8_takes_30 : decode cX8_takes 30 = .ok (.iastore, 1) := by decide +kernel
theorem dX8_takes_31 : decode cX8_takes 31 = .ok (.iload_n 3, 1) := by decide +kernel
theorem dX8_takes_32 : decode cX8_takes 32 = .ok (.ireturn, 1) := by decide +kernel
theorem dX8_layWorths_0 : decode cX8_layWorths 0 = .ok (.iconst 0, 1) := by decide +kernel
theorem dX8_layWorths_1 : decode cX8_layWorths 1 = .ok (.istore_n 1, 1) := by decide +kernel
theorem dX8_layWorths_2 : decode cX8_layWorths 2 = .ok (.iload_n 1, 1) := by decide +kernel
theorem dX8_layWorths_3 : decode cX8_layWorths 3 = .ok (.bipush 6, 2) := by decide +kernel
theorem dX8_layWorths_5 : decode cX8_layWorths 5 = .ok (.if_icmp .ge 20, 3) := by decide +kernel
theorem dX8_layWorths_8 : decode cX8_layWorths 8 = .ok (.aload_n 0, 1) := by decide +kernel
theorem dX8_layWorths_9 : decode cX8_layWorths 9 = .ok (.getfield 55, 3) := by decide +kernel
theorem dX8_layWorths_12 : decode cX8_layWorths 12 = .ok (.iload_n 1, 1) := by decide +kernel
theorem dX8_layWorths_13 : decode cX8_layWorths 13 = .ok (.aload_n 0, 1) := by decide +kernel
theorem dX8_layWorths_14 : decode cX8_layWorths 14 = .ok (.iload_n 1, 1) := by decide +kernel
theorem dX8_layWorths_15 : decode cX8_layWorths 15 = .ok (.invokevirtual 230, 3) := by decide +kernel
theorem dX8_layWorths_18 : decode cX8_layWorths 18 = .ok (.iastore, 1) := by decide +kernel
theorem dX8_layWorths_19 : decode cX8_layWorths 19 = .ok (.iinc 1 1, 3) := by decide +kernel
theorem dX8_layWorths_22 : decode cX8_layWorths 22 = .ok (.goto (-20), 3) := by decide +kernel
theorem dX8_layWorths_25 : decode cX8_layWorths 25 = .ok (.return_, 1) := by decide +kernel
theorem dX8_taken_0 : decode cX8_taken 0 = .ok (.aload_n 0, 1) := by decide +kernel
theorem dX8_taken_1 : decode cX8_taken 1 = .ok (.getfield 46, 3) := by decide +kernel
theorem dX8_taken_4 : decode cX8_taken 4 = .ok (.iload_n 1, 1) := by decide +kernel
theorem dX8_taken_5 : decode cX8_taken 5 = .ok (.iaload, 1) := by decide +kernel
theorem dX8_taken_6 : decode cX8_taken 6 = .ok (.istore_n 2, 1) := by decide +kernel
theorem dX8_taken_7 : decode cX8_taken 7 = .ok (.iload_n 2, 1) := by decide +kernel
theorem dX8_taken_8 : decode cX8_taken 8 = .ok (.istore_n 3, 1) := by decide +kernel
theorem dX8_taken_9 : decode cX8_taken 9 = .ok (.aload_n 0, 1) := by decide +kernel
theorem dX8_taken_10 : decode cX8_taken 10 = .ok (.getfield 55, 3) := by decide +kernel
theorem dX8_taken_13 : decode cX8_taken 13 = .ok (.iload_n 2, 1) := by decide +kernel
theorem dX8_taken_14 : decode cX8_taken 14 = .ok (.iaload, 1) := by decide +kernel
theorem dX8_taken_15 : decode cX8_taken 15 = .ok (.aload_n 0, 1) := by decide +kernel
theorem dX8_taken_16 : decode cX8_taken 16 = .ok (.getfield 28, 3) := by decide +kernel
theorem dX8_taken_19 : decode cX8_taken 19 = .ok (.bipush 16, 2) := by decide +kernel
theorem dX8_taken_21 : decode cX8_taken 21 = .ok (.iaload, 1) := by decide +kernel
theorem dX8_taken_22 : decode cX8_taken 22 = .ok (.iadd, 1) := by decide +kernel
theorem dX8_taken_23 : decode cX8_taken 23 = .ok (.istore 4, 2) := by decide +kernel
theorem dX8_taken_25 : decode cX8_taken 25 = .ok (.aload_n 0, 1) := by decide +kernel
theorem dX8_taken_26 : decode cX8_taken 26 = .ok (.getfield 28, 3) := by decide +kernel
theorem dX8_taken_29 : decode cX8_taken 29 = .ok (.bipush 17, 2) := by decide +kernel
theorem dX8_taken_31 : decode cX8_taken 31 = .ok (.iaload, 1) := by decide +kernel
theorem dX8_taken_32 : decode cX8_taken 32 = .ok (.ineg, 1) := by decide +kernel
theorem dX8_taken_33 : decode cX8_taken 33 = .ok (.istore 5, 2) := by decide +kernel
theorem dX8_taken_35 : decode cX8_taken 35 = .ok (.iload 5, 2) := by decide +kernel
theorem dX8_taken_37 : decode cX8_taken 37 = .ok (.aload_n 0, 1) := by decide +kernel
theorem dX8_taken_38 : decode cX8_taken 38 = .ok (.getfield 28, 3) := by decide +kernel
theorem dX8_taken_41 : decode cX8_taken 41 = .ok (.bipush 17, 2) := by decide +kernel
theorem dX8_taken_43 : decode cX8_taken 43 = .ok (.iaload, 1) := by decide +kernel
theorem dX8_taken_44 : decode cX8_taken 44 = .ok (.if_icmp .gt 82, 3) := by decide +kernel
theorem dX8_taken_47 : decode cX8_taken 47 = .ok (.aload_n 0, 1) := by decide +kernel
theorem dX8_taken_48 : decode cX8_taken 48 = .ok (.getfield 46, 3) := by decide +kernel
theorem dX8_taken_51 : decode cX8_taken 51 = .ok (.iload_n 1, 1) := by decide +kernel
theorem dX8_taken_52 : decode cX8_taken 52 = .ok (.iload 5, 2) := by decide +kernel
theorem dX8_taken_54 : decode cX8_taken 54 = .ok (.iadd, 1) := by decide +kernel
theorem dX8_taken_55 : decode cX8_taken 55 = .ok (.aload_n 0, 1) := by decide +kernel
theorem dX8_taken_56 : decode cX8_taken 56 = .ok (.getfield 242, 3) := by decide +kernel
theorem dX8_taken_59 : decode cX8_taken 59 = .ok (.irem, 1) := by decide +kernel
theorem dX8_taken_60 : decode cX8_taken 60 = .ok (.aload_n 0, 1) := by decide +kernel
theorem dX8_taken_61 : decode cX8_taken 61 = .ok (.getfield 242, 3) := by decide +kernel
theorem dX8_taken_64 : decode cX8_taken 64 = .ok (.iadd, 1) := by decide +kernel
theorem dX8_taken_65 : decode cX8_taken 65 = .ok (.aload_n 0, 1) := by decide +kernel
theorem dX8_taken_66 : decode cX8_taken 66 = .ok (.getfield 242, 3) := by decide +kernel
theorem dX8_taken_69 : decode cX8_taken 69 = .ok (.irem, 1) := by decide +kernel
theorem dX8_taken_70 : decode cX8_taken 70 = .ok (.iaload, 1) := by decide +kernel
theorem dX8_taken_71 : decode cX8_taken 71 = .ok (.istore 6, 2) := by decide +kernel
theorem dX8_taken_73 : decode cX8_taken 73 = .ok (.aload_n 0, 1) := by decide +kernel
theorem dX8_taken_74 : decode cX8_taken 74 = .ok (.getfield 55, 3) := by decide +kernel
theorem dX8_taken_77 : decode cX8_taken 77 = .ok (.iload 6, 2) := by decide +kernel
theorem dX8_taken_79 : decode cX8_taken 79 = .ok (.iaload, 1) := by decide +kernel
theorem dX8_taken_80 : decode cX8_taken 80 = .ok (.istore 7, 2) := by decide +kernel
theorem dX8_taken_82 : decode cX8_taken 82 = .ok (.iload 6, 2) := by decide +kernel
theorem dX8_taken_84 : decode cX8_taken 84 = .ok (.iload_n 2, 1) := by decide +kernel
theorem dX8_taken_85 : decode cX8_taken 85 = .ok (.if_icmp .eq 35, 3) := by decide +kernel
theorem dX8_taken_88 : decode cX8_taken 88 = .ok (.iload 7, 2) := by decide +kernel
theorem dX8_taken_90 : decode cX8_taken 90 = .ok (.iload 4, 2) := by decide +kernel
theorem dX8_taken_92 : decode cX8_taken 92 = .ok (.if_icmp .gt 21, 3) := by decide +kernel
theorem dX8_taken_95 : decode cX8_taken 95 = .ok (.iload 7, 2) := by decide +kernel
theorem dX8_taken_97 : decode cX8_taken 97 = .ok (.iload 4, 2) := by decide +kernel
theorem dX8_taken_99 : decode cX8_taken 99 = .ok (.if_icmp .ne 21, 3) := by decide +kernel
theorem dX8_taken_102 : decode cX8_taken 102 = .ok (.iload_n 3, 1) := by decide +kernel
theorem dX8_taken_103 : decode cX8_taken 103 = .ok (.iload_n 2, 1) := by decide +kernel
theorem dX8_taken_104 : decode cX8_taken 104 = .ok (.if_icmp .eq 16, 3) := by decide +kernel
theorem dX8_taken_107 : decode cX8_taken 107 = .ok (.iload 6, 2) := by decide +kernel
theorem dX8_taken_109 : decode cX8_taken 109 = .ok (.iload_n 3, 1) := by decide +kernel
theorem dX8_taken_110 : decode cX8_taken 110 = .ok (.if_icmp .ge 10, 3) := by decide +kernel
theorem dX8_taken_113 : decode cX8_taken 113 = .ok (.iload 6, 2) := by decide +kernel
theorem dX8_taken_115 : decode cX8_taken 115 = .ok (.istore_n 3, 1) := by decide +kernel
theorem dX8_taken_116 : decode cX8_taken 116 = .ok (.iload 7, 2) := by decide +kernel
theorem dX8_taken_118 : decode cX8_taken 118 = .ok (.istore 4, 2) := by decide +kernel
theorem dX8_taken_120 : decode cX8_taken 120 = .ok (.iinc 5 1, 3) := by decide +kernel
theorem dX8_taken_123 : decode cX8_taken 123 = .ok (.goto (-88), 3) := by decide +kernel
theorem dX8_taken_126 : decode cX8_taken 126 = .ok (.iload_n 3, 1) := by decide +kernel
theorem dX8_taken_127 : decode cX8_taken 127 = .ok (.ireturn, 1) := by decide +kernel
theorem dX8_oneYear_0 : decode cX8_oneYear 0 = .ok (.iconst 0, 1) := by decide +kernel
theorem dX8_oneYear_1 : decode cX8_oneYear 1 = .ok (.istore_n 1, 1) := by decide +kernel
theorem dX8_oneYear_2 : decode cX8_oneYear 2 = .ok (.iload_n 1, 1) := by decide +kernel
theorem dX8_oneYear_3 : decode cX8_oneYear 3 = .ok (.aload_n 0, 1) := by decide +kernel
theorem dX8_oneYear_4 : decode cX8_oneYear 4 = .ok (.getfield 242, 3) := by decide +kernel
theorem dX8_oneYear_7 : decode cX8_oneYear 7 = .ok (.if_icmp .ge 20, 3) := by decide +kernel
theorem dX8_oneYear_10 : decode cX8_oneYear 10 = .ok (.aload_n 0, 1) := by decide +kernel
theorem dX8_oneYear_11 : decode cX8_oneYear 11 = .ok (.getfield 49, 3) := by decide +kernel
theorem dX8_oneYear_14 : decode cX8_oneYear 14 = .ok (.iload_n 1, 1) := by decide +kernel
theorem dX8_oneYear_15 : decode cX8_oneYear 15 = .ok (.aload_n 0, 1) := by decide +kernel
theorem dX8_oneYear_16 : decode cX8_oneYear 16 = .ok (.iload_n 1, 1) := by decide +kernel
theorem dX8_oneYear_17 : decode cX8_oneYear 17 = .ok (.invokevirtual 248, 3) := by decide +kernel
theorem dX8_oneYear_20 : decode cX8_oneYear 20 = .ok (.iastore, 1) := by decide +kernel
theorem dX8_oneYear_21 : decode cX8_oneYear 21 = .ok (.iinc 1 1, 3) := by decide +kernel
theorem dX8_oneYear_24 : decode cX8_oneYear 24 = .ok (.goto (-22), 3) := by decide +kernel
theorem dX8_oneYear_27 : decode cX8_oneYear 27 = .ok (.iconst 0, 1) := by decide +kernel
theorem dX8_oneYear_28 : decode cX8_oneYear 28 = .ok (.istore_n 1, 1) := by decide +kernel
theorem dX8_oneYear_29 : decode cX8_oneYear 29 = .ok (.iload_n 1, 1) := by decide +kernel
theorem dX8_oneYear_30 : decode cX8_oneYear 30 = .ok (.aload_n 0, 1) := by decide +kernel
theorem dX8_oneYear_31 : decode cX8_oneYear 31 = .ok (.getfield 242, 3) := by decide +kernel
theorem dX8_oneYear_34 : decode cX8_oneYear 34 = .ok (.if_icmp .ge 21, 3) := by decide +kernel
theorem dX8_oneYear_37 : decode cX8_oneYear 37 = .ok (.aload_n 0, 1) := by decide +kernel
theorem dX8_oneYear_38 : decode cX8_oneYear 38 = .ok (.getfield 46, 3) := by decide +kernel
theorem dX8_oneYear_41 : decode cX8_oneYear 41 = .ok (.iload_n 1, 1) := by decide +kernel
theorem dX8_oneYear_42 : decode cX8_oneYear 42 = .ok (.aload_n 0, 1) := by decide +kernel
theorem dX8_oneYear_43 : decode cX8_oneYear 43 = .ok (.getfield 49, 3) := by decide +kernel
theorem dX8_oneYear_46 : decode cX8_oneYear 46 = .ok (.iload_n 1, 1) := by decide +kernel
theorem dX8_oneYear_47 : decode cX8_oneYear 47 = .ok (.iaload, 1) := by decide +kernel
theorem dX8_oneYear_48 : decode cX8_oneYear 48 = .ok (.iastore, 1) := by decide +kernel
theorem dX8_oneYear_49 : decode cX8_oneYear 49 = .ok (.iinc 1 1, 3) := by decide +kernel
theorem dX8_oneYear_52 : decode cX8_oneYear 52 = .ok (.goto (-23), 3) := by decide +kernel
theorem dX8_oneYear_55 : decode cX8_oneYear 55 = .ok (.return_, 1) := by decide +kernel
theorem dX8_keepJumpers_0 : decode cX8_keepJumpers 0 = .ok (.iconst 0, 1) := by decide +kernel
theorem dX8_keepJumpers_1 : decode cX8_keepJumpers 1 = .ok (.istore_n 1, 1) := by decide +kernel
theorem dX8_keepJumpers_2 : decode cX8_keepJumpers 2 = .ok (.iload_n 1, 1) := by decide +kernel
theorem dX8_keepJumpers_3 : decode cX8_keepJumpers 3 = .ok (.bipush 12, 2) := by decide +kernel
theorem dX8_keepJumpers_5 : decode cX8_keepJumpers 5 = .ok (.if_icmp .ge 21, 3) := by decide +kernel
theorem dX8_keepJumpers_8 : decode cX8_keepJumpers 8 = .ok (.aload_n 0, 1) := by decide +kernel
theorem dX8_keepJumpers_9 : decode cX8_keepJumpers 9 = .ok (.getfield 52, 3) := by decide +kernel
theorem dX8_keepJumpers_12 : decode cX8_keepJumpers 12 = .ok (.iload_n 1, 1) := by decide +kernel
theorem dX8_keepJumpers_13 : decode cX8_keepJumpers 13 = .ok (.aload_n 0, 1) := by decide +kernel
theorem dX8_keepJumpers_14 : decode cX8_keepJumpers 14 = .ok (.getfield 46, 3) := by decide +kernel
theorem dX8_keepJumpers_17 : decode cX8_keepJumpers 17 = .ok (.iload_n 1, 1) := by decide +kernel
theorem dX8_keepJumpers_18 : decode cX8_keepJumpers 18 = .ok (.iaload, 1) := by decide +kernel
theorem dX8_keepJumpers_19 : decode cX8_keepJumpers 19 = .ok (.iastore, 1) := by decide +kernel
theorem dX8_keepJumpers_20 : decode cX8_keepJumpers 20 = .ok (.iinc 1 1, 3) := by decide +kernel
theorem dX8_keepJumpers_23 : decode cX8_keepJumpers 23 = .ok (.goto (-21), 3) := by decide +kernel
theorem dX8_keepJumpers_26 : decode cX8_keepJumpers 26 = .ok (.return_, 1) := by decide +kernel
theorem dX8_jumpersBack_0 : decode cX8_jumpersBack 0 = .ok (.iconst 0, 1) := by decide +kernel
theorem dX8_jumpersBack_1 : decode cX8_jumpersBack 1 = .ok (.istore_n 1, 1) := by decide +kernel
theorem dX8_jumpersBack_2 : decode cX8_jumpersBack 2 = .ok (.iload_n 1, 1) := by decide +kernel
theorem dX8_jumpersBack_3 : decode cX8_jumpersBack 3 = .ok (.bipush 12, 2) := by decide +kernel
theorem dX8_jumpersBack_5 : decode cX8_jumpersBack 5 = .ok (.if_icmp .ge 21, 3) := by decide +kernel
theorem dX8_jumpersBack_8 : decode cX8_jumpersBack 8 = .ok (.aload_n 0, 1) := by decide +kernel
theorem dX8_jumpersBack_9 : decode cX8_jumpersBack 9 = .ok (.getfield 46, 3) := by decide +kernel
theorem dX8_jumpersBack_12 : decode cX8_jumpersBack 12 = .ok (.iload_n 1, 1) := by decide +kernel
theorem dX8_jumpersBack_13 : decode cX8_jumpersBack 13 = .ok (.aload_n 0, 1) := by decide +kernel
theorem dX8_jumpersBack_14 : decode cX8_jumpersBack 14 = .ok (.getfield 52, 3) := by decide +kernel
theorem dX8_jumpersBack_17 : decode cX8_jumpersBack 17 = .ok (.iload_n 1, 1) := by decide +kernel
theorem dX8_jumpersBack_18 : decode cX8_jumpersBack 18 = .ok (.iaload, 1) := by decide +kernel
theorem dX8_jumpersBack_19 : decode cX8_jumpersBack 19 = .ok (.iastore, 1) := by decide +kernel
theorem dX8_jumpersBack_20 : decode cX8_jumpersBack 20 = .ok (.iinc 1 1, 3) := by decide +kernel
theorem dX8_jumpersBack_23 : decode cX8_jumpersBack 23 = .ok (.goto (-21), 3) := by decide +kernel
theorem dX8_jumpersBack_26 : decode cX8_jumpersBack 26 = .ok (.return_, 1) := by decide +kernel
theorem dX8_years_0 : decode cX8_years 0 = .ok (.iload_n 1, 1) := by decide +kernel
theorem dX8_years_1 : decode cX8_years 1 = .ok (.i2l, 1) := by decide +kernel
theorem dX8_years_2 : decode cX8_years 2 = .ok (.lconst 1, 1) := by decide +kernel
theorem dX8_years_3 : decode cX8_years 3 = .ok (.ldc2_w 236, 3) := by decide +kernel
theorem dX8_years_6 : decode cX8_years 6 = .ok (.invokestatic 71, 3) := by decide +kernel
theorem dX8_years_9 : decode cX8_years 9 = .ok (.ifCond .ne 5, 3) := by decide +kernel
theorem dX8_years_12 : decode cX8_years 12 = .ok (.iconst (-1), 1) := by decide +kernel
theorem dX8_years_13 : decode cX8_years 13 = .ok (.ireturn, 1) := by decide +kernel
theorem dX8_years_14 : decode cX8_years 14 = .ok (.aload_n 0, 1) := by decide +kernel
theorem dX8_years_15 : decode cX8_years 15 = .ok (.invokevirtual 251, 3) := by decide +kernel
theorem dX8_years_18 : decode cX8_years 18 = .ok (.aload_n 0, 1) := by decide +kernel
theorem dX8_years_19 : decode cX8_years 19 = .ok (.invokevirtual 254, 3) := by decide +kernel
theorem dX8_years_22 : decode cX8_years 22 = .ok (.iconst 0, 1) := by decide +kernel
theorem dX8_years_23 : decode cX8_years 23 = .ok (.istore_n 2, 1) := by decide +kernel
theorem dX8_years_24 : decode cX8_years 24 = .ok (.iload_n 2, 1) := by decide +kernel
theorem dX8_years_25 : decode cX8_years 25 = .ok (.iload_n 1, 1) := by decide +kernel
theorem dX8_years_26 : decode cX8_years 26 = .ok (.if_icmp .ge 13, 3) := by decide +kernel
theorem dX8_years_29 : decode cX8_years 29 = .ok (.aload_n 0, 1) := by decide +kernel
theorem dX8_years_30 : decode cX8_years 30 = .ok (.invokevirtual 257, 3) := by decide +kernel
theorem dX8_years_33 : decode cX8_years 33 = .ok (.iinc 2 1, 3) := by decide +kernel
theorem dX8_years_36 : decode cX8_years 36 = .ok (.goto (-12), 3) := by decide +kernel
theorem dX8_years_39 : decode cX8_years 39 = .ok (.iconst 0, 1) := by decide +kernel
theorem dX8_years_40 : decode cX8_years 40 = .ok (.istore_n 2, 1) := by decide +kernel
theorem dX8_years_41 : decode cX8_years 41 = .ok (.iconst 0, 1) := by decide +kernel
theorem dX8_years_42 : decode cX8_years 42 = .ok (.istore_n 3, 1) := by decide +kernel
theorem dX8_years_43 : decode cX8_years 43 = .ok (.iload_n 3, 1) := by decide +kernel
theorem dX8_years_44 : decode cX8_years 44 = .ok (.aload_n 0, 1) := by decide +kernel
theorem dX8_years_45 : decode cX8_years 45 = .ok (.getfield 242, 3) := by decide +kernel
theorem dX8_years_48 : decode cX8_years 48 = .ok (.if_icmp .ge 34, 3) := by decide +kernel
theorem dX8_years_51 : decode cX8_years 51 = .ok (.iload_n 2, 1) := by decide +kernel
theorem dX8_years_52 : decode cX8_years 52 = .ok (.aload_n 0, 1) := by decide +kernel
theorem dX8_years_53 : decode cX8_years 53 = .ok (.getfield 46, 3) := by decide +kernel
theorem dX8_years_56 : decode cX8_years 56 = .ok (.iload_n 3, 1) := by decide +kernel
theorem dX8_years_57 : decode cX8_years 57 = .ok (.iaload, 1) := by decide +kernel
theorem dX8_years_58 : decode cX8_years 58 = .ok (.aload_n 0, 1) := by decide +kernel
theorem dX8_years_59 : decode cX8_years 59 = .ok (.getfield 52, 3) := by decide +kernel
theorem dX8_years_62 : decode cX8_years 62 = .ok (.iload_n 3, 1) := by decide +kernel
theorem dX8_years_63 : decode cX8_years 63 = .ok (.iaload, 1) := by decide +kernel
theorem dX8_years_64 : decode cX8_years 64 = .ok (.if_icmp .eq 9, 3) := by decide +kernel
theorem dX8_years_67 : decode cX8_years 67 = .ok (.iconst 1, 1) := by decide +kernel
theorem dX8_years_68 : decode cX8_years 68 = .ok (.iload_n 3, 1) := by decide +kernel
theorem dX8_years_69 : decode cX8_years 69 = .ok (.ishl, 1) := by decide +kernel
theorem dX8_years_70 : decode cX8_years 70 = .ok (.goto 4, 3) := by decide +kernel
theorem dX8_years_73 : decode cX8_years 73 = .ok (.iconst 0, 1) := by decide +kernel
theorem dX8_years_74 : decode cX8_years 74 = .ok (.ior, 1) := by decide +kernel
theorem dX8_years_75 : decode cX8_years 75 = .ok (.istore_n 2, 1) := by decide +kernel
theorem dX8_years_76 : decode cX8_years 76 = .ok (.iinc 3 1, 3) := by decide +kernel
theorem dX8_years_79 : decode cX8_years 79 = .ok (.goto (-36), 3) := by decide +kernel
theorem dX8_years_82 : decode cX8_years 82 = .ok (.iload_n 2, 1) := by decide +kernel
theorem dX8_years_83 : decode cX8_years 83 = .ok (.ireturn, 1) := by decide +kernel
theorem dX8_haveWay_0 : decode cX8_haveWay 0 = .ok (.iconst 0, 1) := by decide +kernel
theorem dX8_haveWay_1 : decode cX8_haveWay 1 = .ok (.istore_n 2, 1) := by decide +kernel
theorem dX8_haveWay_2 : decode cX8_haveWay 2 = .ok (.iconst 0, 1) := by decide +kernel
theorem dX8_haveWay_3 : decode cX8_haveWay 3 = .ok (.istore_n 3, 1) := by decide +kernel
theorem dX8_haveWay_4 : decode cX8_haveWay 4 = .ok (.iload_n 3, 1) := by decide +kernel
theorem dX8_haveWay_5 : decode cX8_haveWay 5 = .ok (.aload_n 0, 1) := by decide +kernel
theorem dX8_haveWay_6 : decode cX8_haveWay 6 = .ok (.getfield 242, 3) := by decide +kernel
theorem dX8_haveWay_9 : decode cX8_haveWay 9 = .ok (.if_icmp .ge 27, 3) := by decide +kernel
theorem dX8_haveWay_12 : decode cX8_haveWay 12 = .ok (.iload_n 2, 1) := by decide +kernel
theorem dX8_haveWay_13 : decode cX8_haveWay 13 = .ok (.aload_n 0, 1) := by decide +kernel
theorem dX8_haveWay_14 : decode cX8_haveWay 14 = .ok (.getfield 46, 3) := by decide +kernel
theorem dX8_haveWay_17 : decode cX8_haveWay 17 = .ok (.iload_n 3, 1) := by decide +kernel
theorem dX8_haveWay_18 : decode cX8_haveWay 18 = .ok (.iaload, 1) := by decide +kernel
theorem dX8_haveWay_19 : decode cX8_haveWay 19 = .ok (.iload_n 1, 1) := by decide +kernel
theorem dX8_haveWay_20 : decode cX8_haveWay 20 = .ok (.if_icmp .ne 7, 3) := by decide +kernel
theorem dX8_haveWay_23 : decode cX8_haveWay 23 = .ok (.iconst 1, 1) := by decide +kernel
theorem dX8_haveWay_24 : decode cX8_haveWay 24 = .ok (.goto 4, 3) := by decide +kernel
theorem dX8_haveWay_27 : decode cX8_haveWay 27 = .ok (.iconst 0, 1) := by decide +kernel
theorem dX8_haveWay_28 : decode cX8_haveWay 28 = .ok (.iadd, 1) := by decide +kernel
theorem dX8_haveWay_29 : decode cX8_haveWay 29 = .ok (.istore_n 2, 1) := by decide +kernel
theorem dX8_haveWay_30 : decode cX8_haveWay 30 = .ok (.iinc 3 1, 3) := by decide +kernel
theorem dX8_haveWay_33 : decode cX8_haveWay 33 = .ok (.goto (-29), 3) := by decide +kernel
theorem dX8_haveWay_36 : decode cX8_haveWay 36 = .ok (.iload_n 2, 1) := by decide +kernel
theorem dX8_haveWay_37 : decode cX8_haveWay 37 = .ok (.ireturn, 1) := by decide +kernel
theorem dX8_who_0 : decode cX8_who 0 = .ok (.iload_n 1, 1) := by decide +kernel
theorem dX8_who_1 : decode cX8_who 1 = .ok (.invokestatic 135, 3) := by decide +kernel
theorem dX8_who_4 : decode cX8_who 4 = .ok (.ifCond .eq 11, 3) := by decide +kernel
theorem dX8_who_7 : decode cX8_who 7 = .ok (.aload_n 0, 1) := by decide +kernel
theorem dX8_who_8 : decode cX8_who 8 = .ok (.iload_n 1, 1) := by decide +kernel
theorem dX8_who_9 : decode cX8_who 9 = .ok (.invokevirtual 260, 3) := by decide +kernel
theorem dX8_who_12 : decode cX8_who 12 = .ok (.goto 4, 3) := by decide +kernel
theorem dX8_who_15 : decode cX8_who 15 = .ok (.iconst (-1), 1) := by decide +kernel
theorem dX8_who_16 : decode cX8_who 16 = .ok (.ireturn, 1) := by decide +kernel
theorem dX8_all_0 : decode cX8_all 0 = .ok (.aload_n 0, 1) := by decide +kernel
theorem dX8_all_1 : decode cX8_all 1 = .ok (.getfield 242, 3) := by decide +kernel
theorem dX8_all_4 : decode cX8_all 4 = .ok (.ifCond .ne 6, 3) := by decide +kernel
theorem dX8_all_7 : decode cX8_all 7 = .ok (.bipush (-2), 2) := by decide +kernel
theorem dX8_all_9 : decode cX8_all 9 = .ok (.ireturn, 1) := by decide +kernel
theorem dX8_all_10 : decode cX8_all 10 = .ok (.aload_n 0, 1) := by decide +kernel
theorem dX8_all_11 : decode cX8_all 11 = .ok (.invokevirtual 251, 3) := by decide +kernel
theorem dX8_all_14 : decode cX8_all 14 = .ok (.aload_n 0, 1) := by decide +kernel
theorem dX8_all_15 : decode cX8_all 15 = .ok (.invokevirtual 254, 3) := by decide +kernel
theorem dX8_all_18 : decode cX8_all 18 = .ok (.iconst 0, 1) := by decide +kernel
theorem dX8_all_19 : decode cX8_all 19 = .ok (.istore_n 1, 1) := by decide +kernel
theorem dX8_all_20 : decode cX8_all 20 = .ok (.aload_n 0, 1) := by decide +kernel
theorem dX8_all_21 : decode cX8_all 21 = .ok (.aload_n 0, 1) := by decide +kernel
theorem dX8_all_22 : decode cX8_all 22 = .ok (.getfield 46, 3) := by decide +kernel
theorem dX8_all_25 : decode cX8_all 25 = .ok (.iconst 0, 1) := by decide +kernel
theorem dX8_all_26 : decode cX8_all 26 = .ok (.iaload, 1) := by decide +kernel
theorem dX8_all_27 : decode cX8_all 27 = .ok (.invokevirtual 260, 3) := by decide +kernel
theorem dX8_all_30 : decode cX8_all 30 = .ok (.aload_n 0, 1) := by decide +kernel
theorem dX8_all_31 : decode cX8_all 31 = .ok (.getfield 242, 3) := by decide +kernel
theorem dX8_all_34 : decode cX8_all 34 = .ok (.if_icmp .ge 19, 3) := by decide +kernel
theorem dX8_all_37 : decode cX8_all 37 = .ok (.iload_n 1, 1) := by decide +kernel
theorem dX8_all_38 : decode cX8_all 38 = .ok (.bipush 40, 2) := by decide +kernel
theorem dX8_all_40 : decode cX8_all 40 = .ok (.if_icmp .gt 13, 3) := by decide +kernel
theorem dX8_all_43 : decode cX8_all 43 = .ok (.aload_n 0, 1) := by decide +kernel
theorem dX8_all_44 : decode cX8_all 44 = .ok (.invokevirtual 257, 3) := by decide +kernel
theorem dX8_all_47 : decode cX8_all 47 = .ok (.iinc 1 1, 3) := by decide +kernel
theorem dX8_all_50 : decode cX8_all 50 = .ok (.goto (-30), 3) := by decide +kernel
theorem dX8_all_53 : decode cX8_all 53 = .ok (.aload_n 0, 1) := by decide +kernel
theorem dX8_all_54 : decode cX8_all 54 = .ok (.invokevirtual 263, 3) := by decide +kernel
theorem dX8_all_57 : decode cX8_all 57 = .ok (.iload_n 1, 1) := by decide +kernel
theorem dX8_all_58 : decode cX8_all 58 = .ok (.bipush 40, 2) := by decide +kernel
theorem dX8_all_60 : decode cX8_all 60 = .ok (.if_icmp .le 8, 3) := by decide +kernel
theorem dX8_all_63 : decode cX8_all 63 = .ok (.bipush (-4), 2) := by decide +kernel
theorem dX8_all_65 : decode cX8_all 65 = .ok (.goto 4, 3) := by decide +kernel
theorem dX8_all_68 : decode cX8_all 68 = .ok (.iload_n 1, 1) := by decide +kernel
theorem dX8_all_69 : decode cX8_all 69 = .ok (.ireturn, 1) := by decide +kernel
theorem dX8_odd_0 : decode cX8_odd 0 = .ok (.aload_n 0, 1) := by decide +kernel
theorem dX8_odd_1 : decode cX8_odd 1 = .ok (.iload_n 1, 1) := by decide +kernel
theorem dX8_odd_2 : decode cX8_odd 2 = .ok (.invokevirtual 245, 3) := by decide +kernel
theorem dX8_odd_5 : decode cX8_odd 5 = .ok (.ifCond .eq 22, 3) := by decide +kernel
theorem dX8_odd_8 : decode cX8_odd 8 = .ok (.iload_n 2, 1) := by decide +kernel
theorem dX8_odd_9 : decode cX8_odd 9 = .ok (.invokestatic 135, 3) := by decide +kernel
theorem dX8_odd_12 : decode cX8_odd 12 = .ok (.ifCond .eq 15, 3) := by decide +kernel
theorem dX8_odd_15 : decode cX8_odd 15 = .ok (.iload_n 3, 1) := by decide +kernel
theorem dX8_odd_16 : decode cX8_odd 16 = .ok (.i2l, 1) := by decide +kernel
theorem dX8_odd_17 : decode cX8_odd 17 = .ok (.lconst 0, 1) := by decide +kernel
theorem dX8_odd_18 : decode cX8_odd 18 = .ok (.ldc2_w 236, 3) := by decide +kernel
theorem dX8_odd_21 : decode cX8_odd 21 = .ok (.invokestatic 71, 3) := by decide +kernel
theorem dX8_odd_24 : decode cX8_odd 24 = .ok (.ifCond .ne 5, 3) := by decide +kernel
theorem dX8_odd_27 : decode cX8_odd 27 = .ok (.iconst (-1), 1) := by decide +kernel
theorem dX8_odd_28 : decode cX8_odd 28 = .ok (.ireturn, 1) := by decide +kernel
theorem dX8_odd_29 : decode cX8_odd 29 = .ok (.aload_n 0, 1) := by decide +kernel
theorem dX8_odd_30 : decode cX8_odd 30 = .ok (.invokevirtual 251, 3) := by decide +kernel
theorem dX8_odd_33 : decode cX8_odd 33 = .ok (.aload_n 0, 1) := by decide +kernel
theorem dX8_odd_34 : decode cX8_odd 34 = .ok (.invokevirtual 254, 3) := by decide +kernel
theorem dX8_odd_37 : decode cX8_odd 37 = .ok (.aload_n 0, 1) := by decide +kernel
theorem dX8_odd_38 : decode cX8_odd 38 = .ok (.getfield 46, 3) := by decide +kernel
theorem dX8_odd_41 : decode cX8_odd 41 = .ok (.iload_n 1, 1) := by decide +kernel
theorem dX8_odd_42 : decode cX8_odd 42 = .ok (.iload_n 2, 1) := by decide +kernel
theorem dX8_odd_43 : decode cX8_odd 43 = .ok (.iastore, 1) := by decide +kernel
theorem dX8_odd_44 : decode cX8_odd 44 = .ok (.iconst 0, 1) := by decide +kernel
theorem dX8_odd_45 : decode cX8_odd 45 = .ok (.istore 4, 2) := by decide +kernel
theorem dX8_odd_47 : decode cX8_odd 47 = .ok (.iload 4, 2) := by decide +kernel
theorem dX8_odd_49 : decode cX8_odd 49 = .ok (.iload_n 3, 1) := by decide +kernel
theorem dX8_odd_50 : decode cX8_odd 50 = .ok (.if_icmp .ge 13, 3) := by decide +kernel
theorem dX8_odd_53 : decode cX8_odd 53 = .ok (.aload_n 0, 1) := by decide +kernel
theorem dX8_odd_54 : decode cX8_odd 54 = .ok (.invokevirtual 257, 3) := by decide +kernel
theorem dX8_odd_57 : decode cX8_odd 57 = .ok (.iinc 4 1, 3) := by decide +kernel
theorem dX8_odd_60 : decode cX8_odd 60 = .ok (.goto (-13), 3) := by decide +kernel
theorem dX8_odd_63 : decode cX8_odd 63 = .ok (.aload_n 0, 1) := by decide +kernel
theorem dX8_odd_64 : decode cX8_odd 64 = .ok (.iload_n 2, 1) := by decide +kernel
theorem dX8_odd_65 : decode cX8_odd 65 = .ok (.invokevirtual 260, 3) := by decide +kernel
theorem dX8_odd_68 : decode cX8_odd 68 = .ok (.istore 4, 2) := by decide +kernel
theorem dX8_odd_70 : decode cX8_odd 70 = .ok (.aload_n 0, 1) := by decide +kernel
theorem dX8_odd_71 : decode cX8_odd 71 = .ok (.invokevirtual 263, 3) := by decide +kernel
theorem dX8_odd_74 : decode cX8_odd 74 = .ok (.iload 4, 2) := by decide +kernel
theorem dX8_odd_76 : decode cX8_odd 76 = .ok (.ireturn, 1) := by decide +kernel
theorem dX8_inLowest_0 : decode cX8_inLowest 0 = .ok (.iload_n 0, 1) := by decide +kernel
theorem dX8_inLowest_1 : decode cX8_inLowest 1 = .ok (.istore_n 3, 1) := by decide +kernel
theorem dX8_inLowest_2 : decode cX8_inLowest 2 = .ok (.iload_n 1, 1) := by decide +kernel
theorem dX8_inLowest_3 : decode cX8_inLowest 3 = .ok (.istore 4, 2) := by decide +kernel
theorem dX8_inLowest_5 : decode cX8_inLowest 5 = .ok (.iload 4, 2) := by decide +kernel
theorem dX8_inLowest_7 : decode cX8_inLowest 7 = .ok (.ifCond .eq 19, 3) := by decide +kernel
theorem dX8_inLowest_10 : decode cX8_inLowest 10 = .ok (.iload_n 3, 1) := by decide +kernel
theorem dX8_inLowest_11 : decode cX8_inLowest 11 = .ok (.iload 4, 2) := by decide +kernel
theorem dX8_inLowest_13 : decode cX8_inLowest 13 = .ok (.irem, 1) := by decide +kernel
theorem dX8_inLowest_14 : decode cX8_inLowest 14 = .ok (.istore 5, 2) := by decide +kernel
theorem dX8_inLowest_16 : decode cX8_inLowest 16 = .ok (.iload 4, 2) := by decide +kernel
theorem dX8_inLowest_18 : decode cX8_inLowest 18 = .ok (.istore_n 3, 1) := by decide +kernel
theorem dX8_inLowest_19 : decode cX8_inLowest 19 = .ok (.iload 5, 2) := by decide +kernel
theorem dX8_inLowest_21 : decode cX8_inLowest 21 = .ok (.istore 4, 2) := by decide +kernel
theorem dX8_inLowest_23 : decode cX8_inLowest 23 = .ok (.goto (-18), 3) := by decide +kernel
theorem dX8_inLowest_26 : decode cX8_inLowest 26 = .ok (.iload_n 2, 1) := by decide +kernel
theorem dX8_inLowest_27 : decode cX8_inLowest 27 = .ok (.ifCond .ne 7, 3) := by decide +kernel
theorem dX8_inLowest_30 : decode cX8_inLowest 30 = .ok (.iload_n 0, 1) := by decide +kernel
theorem dX8_inLowest_31 : decode cX8_inLowest 31 = .ok (.goto 4, 3) := by decide +kernel
theorem dX8_inLowest_34 : decode cX8_inLowest 34 = .ok (.iload_n 1, 1) := by decide +kernel
theorem dX8_inLowest_35 : decode cX8_inLowest 35 = .ok (.iload_n 3, 1) := by decide +kernel
theorem dX8_inLowest_36 : decode cX8_inLowest 36 = .ok (.idiv, 1) := by decide +kernel
theorem dX8_inLowest_37 : decode cX8_inLowest 37 = .ok (.ireturn, 1) := by decide +kernel
theorem dX8_failing_0 : decode cX8_failing 0 = .ok (.iconst 0, 1) := by decide +kernel
theorem dX8_failing_1 : decode cX8_failing 1 = .ok (.istore_n 3, 1) := by decide +kernel
theorem dX8_failing_2 : decode cX8_failing 2 = .ok (.iconst 0, 1) := by decide +kernel
theorem dX8_failing_3 : decode cX8_failing 3 = .ok (.istore 4, 2) := by decide +kernel
theorem dX8_failing_5 : decode cX8_failing 5 = .ok (.iload 4, 2) := by decide +kernel
theorem dX8_failing_7 : decode cX8_failing 7 = .ok (.iload_n 2, 1) := by decide +kernel
theorem dX8_failing_8 : decode cX8_failing 8 = .ok (.if_icmp .gt 25, 3) := by decide +kernel
theorem dX8_failing_11 : decode cX8_failing 11 = .ok (.iload_n 3, 1) := by decide +kernel
theorem dX8_failing_12 : decode cX8_failing 12 = .ok (.iload_n 0, 1) := by decide +kernel
theorem dX8_failing_13 : decode cX8_failing 13 = .ok (.iload 4, 2) := by decide +kernel
theorem dX8_failing_15 : decode cX8_failing 15 = .ok (.isub, 1) := by decide +kernel
theorem dX8_failing_16 : decode cX8_failing 16 = .ok (.iload_n 1, 1) := by decide +kernel
theorem dX8_failing_17 : decode cX8_failing 17 = .ok (.if_icmp .ge 7, 3) := by decide +kernel
theorem dX8_failing_20 : decode cX8_failing 20 = .ok (.iconst 1, 1) := by decide +kernel
theorem dX8_failing_21 : decode cX8_failing 21 = .ok (.goto 4, 3) := by decide +kernel
theorem dX8_failing_24 : decode cX8_failing 24 = .ok (.iconst 0, 1) := by decide +kernel
theorem dX8_failing_25 : decode cX8_failing 25 = .ok (.iadd, 1) := by decide +kernel
theorem dX8_failing_26 : decode cX8_failing 26 = .ok (.istore_n 3, 1) := by decide +kernel
theorem dX8_failing_27 : decode cX8_failing 27 = .ok (.iinc 4 1, 3) := by decide +kernel
theorem dX8_failing_30 : decode cX8_failing 30 = .ok (.goto (-25), 3) := by decide +kernel
theorem dX8_failing_33 : decode cX8_failing 33 = .ok (.iload_n 3, 1) := by decide +kernel
theorem dX8_failing_34 : decode cX8_failing 34 = .ok (.ireturn, 1) := by decide +kernel
theorem dX8_odds_0 : decode cX8_odds 0 = .ok (.aload_n 0, 1) := by decide +kernel
theorem dX8_odds_1 : decode cX8_odds 1 = .ok (.iload_n 1, 1) := by decide +kernel
theorem dX8_odds_2 : decode cX8_odds 2 = .ok (.invokevirtual 139, 3) := by decide +kernel
theorem dX8_odds_5 : decode cX8_odds 5 = .ok (.ifCond .eq 50, 3) := by decide +kernel
theorem dX8_odds_8 : decode cX8_odds 8 = .ok (.iload_n 2, 1) := by decide +kernel
theorem dX8_odds_9 : decode cX8_odds 9 = .ok (.i2l, 1) := by decide +kernel
theorem dX8_odds_10 : decode cX8_odds 10 = .ok (.lconst 0, 1) := by decide +kernel
theorem dX8_odds_11 : decode cX8_odds 11 = .ok (.ldc2_w 238, 3) := by decide +kernel
theorem dX8_odds_14 : decode cX8_odds 14 = .ok (.invokestatic 71, 3) := by decide +kernel
theorem dX8_odds_17 : decode cX8_odds 17 = .ok (.ifCond .eq 38, 3) := by decide +kernel
theorem dX8_odds_20 : decode cX8_odds 20 = .ok (.iload_n 3, 1) := by decide +kernel
theorem dX8_odds_21 : decode cX8_odds 21 = .ok (.i2l, 1) := by decide +kernel
theorem dX8_odds_22 : decode cX8_odds 22 = .ok (.lconst 0, 1) := by decide +kernel
theorem dX8_odds_23 : decode cX8_odds 23 = .ok (.ldc2_w 236, 3) := by decide +kernel
theorem dX8_odds_26 : decode cX8_odds 26 = .ok (.invokestatic 71, 3) := by decide +kernel
theorem dX8_odds_29 : decode cX8_odds 29 = .ok (.ifCond .eq 26, 3) := by decide +kernel
theorem dX8_odds_32 : decode cX8_odds 32 = .ok (.iload 4, 2) := by decide +kernel
theorem dX8_odds_34 : decode cX8_odds 34 = .ok (.iconst 1, 1) := by decide +kernel
theorem dX8_odds_35 : decode cX8_odds 35 = .ok (.if_icmp .eq 9, 3) := by decide +kernel
theorem dX8_odds_38 : decode cX8_odds 38 = .ok (.iload 4, 2) := by decide +kernel
theorem dX8_odds_40 : decode cX8_odds 40 = .ok (.iconst 3, 1) := by decide +kernel
theorem dX8_odds_41 : decode cX8_odds 41 = .ok (.if_icmp .ne 14, 3) := by decide +kernel
theorem dX8_odds_44 : decode cX8_odds 44 = .ok (.iload 5, 2) := by decide +kernel
theorem dX8_odds_46 : decode cX8_odds 46 = .ok (.i2l, 1) := by decide +kernel
theorem dX8_odds_47 : decode cX8_odds 47 = .ok (.lconst 0, 1) := by decide +kernel
theorem dX8_odds_48 : decode cX8_odds 48 = .ok (.lconst 1, 1) := by decide +kernel
theorem dX8_odds_49 : decode cX8_odds 49 = .ok (.invokestatic 71, 3) := by decide +kernel
theorem dX8_odds_52 : decode cX8_odds 52 = .ok (.ifCond .ne 5, 3) := by decide +kernel
theorem dX8_odds_55 : decode cX8_odds 55 = .ok (.iconst (-1), 1) := by decide +kernel
theorem dX8_odds_56 : decode cX8_odds 56 = .ok (.ireturn, 1) := by decide +kernel
theorem dX8_odds_57 : decode cX8_odds 57 = .ok (.aload_n 0, 1) := by decide +kernel
theorem dX8_odds_58 : decode cX8_odds 58 = .ok (.iload_n 1, 1) := by decide +kernel
theorem dX8_odds_59 : decode cX8_odds 59 = .ok (.invokevirtual 187, 3) := by decide +kernel
theorem dX8_odds_62 : decode cX8_odds 62 = .ok (.istore 6, 2) := by decide +kernel
theorem dX8_odds_64 : decode cX8_odds 64 = .ok (.iload 6, 2) := by decide +kernel
theorem dX8_odds_66 : decode cX8_odds 66 = .ok (.bipush (-4), 2) := by decide +kernel
theorem dX8_odds_68 : decode cX8_odds 68 = .ok (.if_icmp .ne 6, 3) := by decide +kernel
theorem dX8_odds_71 : decode cX8_odds 71 = .ok (.bipush (-2), 2) := by decide +kernel
theorem dX8_odds_73 : decode cX8_odds 73 = .ok (.ireturn, 1) := by decide +kernel
theorem dX8_odds_74 : decode cX8_odds 74 = .ok (.iload 6, 2) := by decide +kernel
theorem dX8_odds_76 : decode cX8_odds 76 = .ok (.iload_n 2, 1) := by decide +kernel
theorem dX8_odds_77 : decode cX8_odds 77 = .ok (.iload_n 3, 1) := by decide +kernel
theorem dX8_odds_78 : decode cX8_odds 78 = .ok (.invokestatic 266, 3) := by decide +kernel
theorem dX8_odds_81 : decode cX8_odds 81 = .ok (.istore 7, 2) := by decide +kernel
theorem dX8_odds_83 : decode cX8_odds 83 = .ok (.iload_n 3, 1) := by decide +kernel
theorem dX8_odds_84 : decode cX8_odds 84 = .ok (.iconst 1, 1) := by decide +kernel
theorem dX8_odds_85 : decode cX8_odds 85 = .ok (.iadd, 1) := by decide +kernel
theorem dX8_odds_86 : decode cX8_odds 86 = .ok (.istore 8, 2) := by decide +kernel
theorem dX8_odds_88 : decode cX8_odds 88 = .ok (.iload 4, 2) := by decide +kernel
theorem dX8_odds_90 : decode cX8_odds 90 = .ok (.iconst 1, 1) := by decide +kernel
theorem dX8_odds_91 : decode cX8_odds 91 = .ok (.if_icmp .ne 18, 3) := by decide +kernel
theorem dX8_odds_94 : decode cX8_odds 94 = .ok (.iload 8, 2) := by decide +kernel
theorem dX8_odds_96 : decode cX8_odds 96 = .ok (.iload 7, 2) := by decide +kernel
theorem dX8_odds_98 : decode cX8_odds 98 = .ok (.isub, 1) := by decide +kernel
theorem dX8_odds_99 : decode cX8_odds 99 = .ok (.iload 8, 2) := by decide +kernel
theorem dX8_odds_101 : decode cX8_odds 101 = .ok (.iload 5, 2) := by decide +kernel
theorem dX8_odds_103 : decode cX8_odds 103 = .ok (.invokestatic 270, 3) := by decide +kernel
theorem dX8_odds_106 : decode cX8_odds 106 = .ok (.goto 33, 3) := by decide +kernel
theorem dX8_odds_109 : decode cX8_odds 109 = .ok (.iload 8, 2) := by decide +kernel
theorem dX8_odds_111 : decode cX8_odds 111 = .ok (.iload 8, 2) := by decide +kernel
theorem dX8_odds_113 : decode cX8_odds 113 = .ok (.imul, 1) := by decide +kernel
theorem dX8_odds_114 : decode cX8_odds 114 = .ok (.iload 8, 2) := by decide +kernel
theorem dX8_odds_116 : decode cX8_odds 116 = .ok (.imul, 1) := by decide +kernel
theorem dX8_odds_117 : decode cX8_odds 117 = .ok (.iload 7, 2) := by decide +kernel
theorem dX8_odds_119 : decode cX8_odds 119 = .ok (.iload 7, 2) := by decide +kernel
theorem dX8_odds_121 : decode cX8_odds 121 = .ok (.imul, 1) := by decide +kernel
theorem dX8_odds_122 : decode cX8_odds 122 = .ok (.iload 7, 2) := by decide +kernel
theorem dX8_odds_124 : decode cX8_odds 124 = .ok (.imul, 1) := by decide +kernel
theorem dX8_odds_125 : decode cX8_odds 125 = .ok (.isub, 1) := by decide +kernel
theorem dX8_odds_126 : decode cX8_odds 126 = .ok (.iload 8, 2) := by decide +kernel
theorem dX8_odds_128 : decode cX8_odds 128 = .ok (.iload 8, 2) := by decide +kernel
theorem dX8_odds_130 : decode cX8_odds 130 = .ok (.imul, 1) := by decide +kernel
theorem dX8_odds_131 : decode cX8_odds 131 = .ok (.iload 8, 2) := by decide +kernel
theorem dX8_odds_133 : decode cX8_odds 133 = .ok (.imul, 1) := by decide +kernel
theorem dX8_odds_134 : decode cX8_odds 134 = .ok (.iload 5, 2) := by decide +kernel
theorem dX8_odds_136 : decode cX8_odds 136 = .ok (.invokestatic 270, 3) := by decide +kernel
theorem dX8_odds_139 : decode cX8_odds 139 = .ok (.ireturn, 1) := by decide +kernel
theorem dX8_asks_0 : decode cX8_asks 0 = .ok (.aload_n 0, 1) := by decide +kernel
theorem dX8_asks_1 : decode cX8_asks 1 = .ok (.iload_n 1, 1) := by decide +kernel
theorem dX8_asks_2 : decode cX8_asks 2 = .ok (.invokevirtual 139, 3) := by decide +kernel
theorem dX8_asks_5 : decode cX8_asks 5 = .ok (.ifCond .eq 46, 3) := by decide +kernel
theorem dX8_asks_8 : decode cX8_asks 8 = .ok (.iload_n 2, 1) := by decide +kernel
theorem dX8_asks_9 : decode cX8_asks 9 = .ok (.i2l, 1) := by decide +kernel
theorem dX8_asks_10 : decode cX8_asks 10 = .ok (.lconst 0, 1) := by decide +kernel
theorem dX8_asks_11 : decode cX8_asks 11 = .ok (.ldc2_w 236, 3) := by decide +kernel
theorem dX8_asks_14 : decode cX8_asks 14 = .ok (.invokestatic 71, 3) := by decide +kernel
theorem dX8_asks_17 : decode cX8_asks 17 = .ok (.ifCond .eq 34, 3) := by decide +kernel
theorem dX8_asks_20 : decode cX8_asks 20 = .ok (.iload_n 3, 1) := by decide +kernel
theorem dX8_asks_21 : decode cX8_asks 21 = .ok (.i2l, 1) := by decide +kernel
theorem dX8_asks_22 : decode cX8_asks 22 = .ok (.lconst 1, 1) := by decide +kernel
theorem dX8_asks_23 : decode cX8_asks 23 = .ok (.ldc2_w 240, 3) := by decide +kernel
theorem dX8_asks_26 : decode cX8_asks 26 = .ok (.invokestatic 71, 3) := by decide +kernel
theorem dX8_asks_29 : decode cX8_asks 29 = .ok (.ifCond .eq 22, 3) := by decide +kernel
theorem dX8_asks_32 : decode cX8_asks 32 = .ok (.iload 4, 2) := by decide +kernel
theorem dX8_asks_34 : decode cX8_asks 34 = .ok (.i2l, 1) := by decide +kernel
theorem dX8_asks_35 : decode cX8_asks 35 = .ok (.lconst 1, 1) := by decide +kernel
theorem dX8_asks_36 : decode cX8_asks 36 = .ok (.ldc2_w 240, 3) := by decide +kernel
theorem dX8_asks_39 : decode cX8_asks 39 = .ok (.invokestatic 71, 3) := by decide +kernel
theorem dX8_asks_42 : decode cX8_asks 42 = .ok (.ifCond .eq 9, 3) := by decide +kernel
theorem dX8_asks_45 : decode cX8_asks 45 = .ok (.iload_n 3, 1) := by decide +kernel
theorem dX8_asks_46 : decode cX8_asks 46 = .ok (.iload 4, 2) := by decide +kernel
theorem dX8_asks_48 : decode cX8_asks 48 = .ok (.if_icmp .lt 5, 3) := by decide +kernel
theorem dX8_asks_51 : decode cX8_asks 51 = .ok (.iconst (-1), 1) := by decide +kernel
theorem dX8_asks_52 : decode cX8_asks 52 = .ok (.ireturn, 1) := by decide +kernel
theorem dX8_asks_53 : decode cX8_asks 53 = .ok (.aload_n 0, 1) := by decide +kernel
theorem dX8_asks_54 : decode cX8_asks 54 = .ok (.iload_n 1, 1) := by decide +kernel
theorem dX8_asks_55 : decode cX8_asks 55 = .ok (.invokevirtual 187, 3) := by decide +kernel
theorem dX8_asks_58 : decode cX8_asks 58 = .ok (.istore 5, 2) := by decide +kernel
theorem dX8_asks_60 : decode cX8_asks 60 = .ok (.iload 5, 2) := by decide +kernel
theorem dX8_asks_62 : decode cX8_asks 62 = .ok (.bipush (-4), 2) := by decide +kernel
theorem dX8_asks_64 : decode cX8_asks 64 = .ok (.if_icmp .ne 6, 3) := by decide +kernel
theorem dX8_asks_67 : decode cX8_asks 67 = .ok (.bipush (-2), 2) := by decide +kernel
theorem dX8_asks_69 : decode cX8_asks 69 = .ok (.ireturn, 1) := by decide +kernel
theorem dX8_asks_70 : decode cX8_asks 70 = .ok (.iload_n 2, 1) := by decide +kernel
theorem dX8_asks_71 : decode cX8_asks 71 = .ok (.iconst 1, 1) := by decide +kernel
theorem dX8_asks_72 : decode cX8_asks 72 = .ok (.iadd, 1) := by decide +kernel
theorem dX8_asks_73 : decode cX8_asks 73 = .ok (.iload_n 2, 1) := by decide +kernel
theorem dX8_asks_74 : decode cX8_asks 74 = .ok (.iconst 1, 1) := by decide +kernel
theorem dX8_asks_75 : decode cX8_asks 75 = .ok (.iadd, 1) := by decide +kernel
theorem dX8_asks_76 : decode cX8_asks 76 = .ok (.imul, 1) := by decide +kernel
theorem dX8_asks_77 : decode cX8_asks 77 = .ok (.iload_n 2, 1) := by decide +kernel
theorem dX8_asks_78 : decode cX8_asks 78 = .ok (.iconst 1, 1) := by decide +kernel
theorem dX8_asks_79 : decode cX8_asks 79 = .ok (.iadd, 1) := by decide +kernel
theorem dX8_asks_80 : decode cX8_asks 80 = .ok (.imul, 1) := by decide +kernel
theorem dX8_asks_81 : decode cX8_asks 81 = .ok (.istore 6, 2) := by decide +kernel
theorem dX8_asks_83 : decode cX8_asks 83 = .ok (.sipush 999, 3) := by decide +kernel
theorem dX8_asks_86 : decode cX8_asks 86 = .ok (.istore 7, 2) := by decide +kernel
theorem dX8_asks_88 : decode cX8_asks 88 = .ok (.iload 7, 2) := by decide +kernel
theorem dX8_asks_90 : decode cX8_asks 90 = .ok (.ifCond .lt 43, 3) := by decide +kernel
theorem dX8_asks_93 : decode cX8_asks 93 = .ok (.iload 5, 2) := by decide +kernel
theorem dX8_asks_95 : decode cX8_asks 95 = .ok (.iload 7, 2) := by decide +kernel
theorem dX8_asks_97 : decode cX8_asks 97 = .ok (.iload_n 2, 1) := by decide +kernel
theorem dX8_asks_98 : decode cX8_asks 98 = .ok (.invokestatic 266, 3) := by decide +kernel
theorem dX8_asks_101 : decode cX8_asks 101 = .ok (.istore 8, 2) := by decide +kernel
theorem dX8_asks_103 : decode cX8_asks 103 = .ok (.iload 6, 2) := by decide +kernel
theorem dX8_asks_105 : decode cX8_asks 105 = .ok (.iload 8, 2) := by decide +kernel
theorem dX8_asks_107 : decode cX8_asks 107 = .ok (.iload 8, 2) := by decide +kernel
theorem dX8_asks_109 : decode cX8_asks 109 = .ok (.imul, 1) := by decide +kernel
theorem dX8_asks_110 : decode cX8_asks 110 = .ok (.iload 8, 2) := by decide +kernel
theorem dX8_asks_112 : decode cX8_asks 112 = .ok (.imul, 1) := by decide +kernel
theorem dX8_asks_113 : decode cX8_asks 113 = .ok (.isub, 1) := by decide +kernel
theorem dX8_asks_114 : decode cX8_asks 114 = .ok (.iload 4, 2) := by decide +kernel
theorem dX8_asks_116 : decode cX8_asks 116 = .ok (.imul, 1) := by decide +kernel
theorem dX8_asks_117 : decode cX8_asks 117 = .ok (.iload_n 3, 1) := by decide +kernel
theorem dX8_asks_118 : decode cX8_asks 118 = .ok (.iload 6, 2) := by decide +kernel
theorem dX8_asks_120 : decode cX8_asks 120 = .ok (.imul, 1) := by decide +kernel
theorem dX8_asks_121 : decode cX8_asks 121 = .ok (.if_icmp .lt 6, 3) := by decide +kernel
theorem dX8_asks_124 : decode cX8_asks 124 = .ok (.iload 7, 2) := by decide +kernel
theorem dX8_asks_126 : decode cX8_asks 126 = .ok (.ireturn, 1) := by decide +kernel
theorem dX8_asks_127 : decode cX8_asks 127 = .ok (.iinc 7 (-1), 3) := by decide +kernel
theorem dX8_asks_130 : decode cX8_asks 130 = .ok (.goto (-42), 3) := by decide +kernel
theorem dX8_asks_133 : decode cX8_asks 133 = .ok (.bipush (-4), 2) := by decide +kernel
theorem dX8_asks_135 : decode cX8_asks 135 = .ok (.ireturn, 1) := by decide +kernel
theorem dX8_sheet_0 : decode cX8_sheet 0 = .ok (.iload_n 1, 1) := by decide +kernel
theorem dX8_sheet_1 : decode cX8_sheet 1 = .ok (.i2l, 1) := by decide +kernel
theorem dX8_sheet_2 : decode cX8_sheet 2 = .ok (.lconst 0, 1) := by decide +kernel
theorem dX8_sheet_3 : decode cX8_sheet 3 = .ok (.ldc2_w 142, 3) := by decide +kernel
theorem dX8_sheet_6 : decode cX8_sheet 6 = .ok (.invokestatic 71, 3) := by decide +kernel
theorem dX8_sheet_9 : decode cX8_sheet 9 = .ok (.ifCond .eq 21, 3) := by decide +kernel
theorem dX8_sheet_12 : decode cX8_sheet 12 = .ok (.iload_n 2, 1) := by decide +kernel
theorem dX8_sheet_13 : decode cX8_sheet 13 = .ok (.i2l, 1) := by decide +kernel
theorem dX8_sheet_14 : decode cX8_sheet 14 = .ok (.lconst 0, 1) := by decide +kernel
theorem dX8_sheet_15 : decode cX8_sheet 15 = .ok (.ldc2_w 144, 3) := by decide +kernel
theorem dX8_sheet_18 : decode cX8_sheet 18 = .ok (.invokestatic 71, 3) := by decide +kernel
theorem dX8_sheet_21 : decode cX8_sheet 21 = .ok (.ifCond .eq 9, 3) := by decide +kernel
theorem dX8_sheet_24 : decode cX8_sheet 24 = .ok (.iload_n 3, 1) := by decide +kernel
theorem dX8_sheet_25 : decode cX8_sheet 25 = .ok (.bipush 64, 2) := by decide +kernel
theorem dX8_sheet_27 : decode cX8_sheet 27 = .ok (.if_icmp .le 5, 3) := by decide +kernel
theorem dX8_sheet_30 : decode cX8_sheet 30 = .ok (.iconst (-1), 1) := by decide +kernel
theorem dX8_sheet_31 : decode cX8_sheet 31 = .ok (.ireturn, 1) := by decide +kernel
theorem dX8_sheet_32 : decode cX8_sheet 32 = .ok (.iload_n 3, 1) := by decide +kernel
theorem dX8_sheet_33 : decode cX8_sheet 33 = .ok (.ifCond .ge 6, 3) := by decide +kernel
theorem dX8_sheet_36 : decode cX8_sheet 36 = .ok (.bipush (-14), 2) := by decide +kernel
theorem dX8_sheet_38 : decode cX8_sheet 38 = .ok (.ireturn, 1) := by decide +kernel
theorem dX8_sheet_39 : decode cX8_sheet 39 = .ok (.aload_n 0, 1) := by decide +kernel
theorem dX8_sheet_40 : decode cX8_sheet 40 = .ok (.getfield 58, 3) := by decide +kernel
theorem dX8_sheet_43 : decode cX8_sheet 43 = .ok (.iload_n 1, 1) := by decide +kernel
theorem dX8_sheet_44 : decode cX8_sheet 44 = .ok (.iload_n 2, 1) := by decide +kernel
theorem dX8_sheet_45 : decode cX8_sheet 45 = .ok (.iastore, 1) := by decide +kernel
theorem dX8_sheet_46 : decode cX8_sheet 46 = .ok (.aload_n 0, 1) := by decide +kernel
theorem dX8_sheet_47 : decode cX8_sheet 47 = .ok (.getfield 61, 3) := by decide +kernel
theorem dX8_sheet_50 : decode cX8_sheet 50 = .ok (.iload_n 1, 1) := by decide +kernel
theorem dX8_sheet_51 : decode cX8_sheet 51 = .ok (.iload_n 3, 1) := by decide +kernel
theorem dX8_sheet_52 : decode cX8_sheet 52 = .ok (.iastore, 1) := by decide +kernel
theorem dX8_sheet_53 : decode cX8_sheet 53 = .ok (.iconst 0, 1) := by decide +kernel
theorem dX8_sheet_54 : decode cX8_sheet 54 = .ok (.istore 4, 2) := by decide +kernel
theorem dX8_sheet_56 : decode cX8_sheet 56 = .ok (.iload 4, 2) := by decide +kernel
theorem dX8_sheet_58 : decode cX8_sheet 58 = .ok (.bipush 64, 2) := by decide +kernel
theorem dX8_sheet_60 : decode cX8_sheet 60 = .ok (.if_icmp .ge 22, 3) := by decide +kernel
theorem dX8_sheet_63 : decode cX8_sheet 63 = .ok (.aload_n 0, 1) := by decide +kernel
theorem dX8_sheet_64 : decode cX8_sheet 64 = .ok (.getfield 64, 3) := by decide +kernel
theorem dX8_sheet_67 : decode cX8_sheet 67 = .ok (.bipush 64, 2) := by decide +kernel
theorem dX8_sheet_69 : decode cX8_sheet 69 = .ok (.iload_n 1, 1) := by decide +kernel
theorem dX8_sheet_70 : decode cX8_sheet 70 = .ok (.imul, 1) := by decide +kernel
theorem dX8_sheet_71 : decode cX8_sheet 71 = .ok (.iload 4, 2) := by decide +kernel
theorem dX8_sheet_73 : decode cX8_sheet 73 = .ok (.iadd, 1) := by decide +kernel
theorem dX8_sheet_74 : decode cX8_sheet 74 = .ok (.iconst 0, 1) := by decide +kernel
theorem dX8_sheet_75 : decode cX8_sheet 75 = .ok (.iastore, 1) := by decide +kernel
theorem dX8_sheet_76 : decode cX8_sheet 76 = .ok (.iinc 4 1, 3) := by decide +kernel
theorem dX8_sheet_79 : decode cX8_sheet 79 = .ok (.goto (-23), 3) := by decide +kernel
theorem dX8_sheet_82 : decode cX8_sheet 82 = .ok (.iconst 1, 1) := by decide +kernel
theorem dX8_sheet_83 : decode cX8_sheet 83 = .ok (.ireturn, 1) := by decide +kernel
theorem dX8_lay_0 : decode cX8_lay 0 = .ok (.iload_n 1, 1) := by decide +kernel
theorem dX8_lay_1 : decode cX8_lay 1 = .ok (.i2l, 1) := by decide +kernel
theorem dX8_lay_2 : decode cX8_lay 2 = .ok (.lconst 0, 1) := by decide +kernel
theorem dX8_lay_3 : decode cX8_lay 3 = .ok (.ldc2_w 142, 3) := by decide +kernel
theorem dX8_lay_6 : decode cX8_lay 6 = .ok (.invokestatic 71, 3) := by decide +kernel
theorem dX8_lay_9 : decode cX8_lay 9 = .ok (.ifCond .ne 5, 3) := by decide +kernel
theorem dX8_lay_12 : decode cX8_lay 12 = .ok (.iconst (-1), 1) := by decide +kernel
theorem dX8_lay_13 : decode cX8_lay 13 = .ok (.ireturn, 1) := by decide +kernel
theorem dX8_lay_14 : decode cX8_lay 14 = .ok (.aload_n 0, 1) := by decide +kernel
theorem dX8_lay_15 : decode cX8_lay 15 = .ok (.getfield 58, 3) := by decide +kernel
theorem dX8_lay_18 : decode cX8_lay 18 = .ok (.iload_n 1, 1) := by decide +kernel
theorem dX8_lay_19 : decode cX8_lay 19 = .ok (.iaload, 1) := by decide +kernel
theorem dX8_lay_20 : decode cX8_lay 20 = .ok (.bipush (-4), 2) := by decide +kernel
theorem dX8_lay_22 : decode cX8_lay 22 = .ok (.if_icmp .ne 6, 3) := by decide +kernel
theorem dX8_lay_25 : decode cX8_lay 25 = .ok (.bipush (-11), 2) := by decide +kernel
theorem dX8_lay_27 : decode cX8_lay 27 = .ok (.ireturn, 1) := by decide +kernel
theorem dX8_lay_28 : decode cX8_lay 28 = .ok (.iload_n 2, 1) := by decide +kernel
theorem dX8_lay_29 : decode cX8_lay 29 = .ok (.i2l, 1) := by decide +kernel
theorem dX8_lay_30 : decode cX8_lay 30 = .ok (.lconst 0, 1) := by decide +kernel
theorem dX8_lay_31 : decode cX8_lay 31 = .ok (.aload_n 0, 1) := by decide +kernel
theorem dX8_lay_32 : decode cX8_lay 32 = .ok (.getfield 61, 3) := by decide +kernel
theorem dX8_lay_35 : decode cX8_lay 35 = .ok (.iload_n 1, 1) := by decide +kernel
theorem dX8_lay_36 : decode cX8_lay 36 = .ok (.iaload, 1) := by decide +kernel
theorem dX8_lay_37 : decode cX8_lay 37 = .ok (.iconst 1, 1) := by decide +kernel
theorem dX8_lay_38 : decode cX8_lay 38 = .ok (.isub, 1) := by decide +kernel
theorem dX8_lay_39 : decode cX8_lay 39 = .ok (.i2l, 1) := by decide +kernel
theorem dX8_lay_40 : decode cX8_lay 40 = .ok (.invokestatic 71, 3) := by decide +kernel
theorem dX8_lay_43 : decode cX8_lay 43 = .ok (.ifCond .ne 6, 3) := by decide +kernel
theorem dX8_lay_46 : decode cX8_lay 46 = .ok (.bipush (-12), 2) := by decide +kernel
theorem dX8_lay_48 : decode cX8_lay 48 = .ok (.ireturn, 1) := by decide +kernel
theorem dX8_lay_49 : decode cX8_lay 49 = .ok (.aload_n 0, 1) := by decide +kernel
theorem dX8_lay_50 : decode cX8_lay 50 = .ok (.getfield 64, 3) := by decide +kernel
theorem dX8_lay_53 : decode cX8_lay 53 = .ok (.bipush 64, 2) := by decide +kernel
theorem dX8_lay_55 : decode cX8_lay 55 = .ok (.iload_n 1, 1) := by decide +kernel
theorem dX8_lay_56 : decode cX8_lay 56 = .ok (.imul, 1) := by decide +kernel
theorem dX8_lay_57 : decode cX8_lay 57 = .ok (.iload_n 2, 1) := by decide +kernel
theorem dX8_lay_58 : decode cX8_lay 58 = .ok (.iadd, 1) := by decide +kernel
theorem dX8_lay_59 : decode cX8_lay 59 = .ok (.aload_n 0, 1) := by decide +kernel
theorem dX8_lay_60 : decode cX8_lay 60 = .ok (.getfield 58, 3) := by decide +kernel
theorem dX8_lay_63 : decode cX8_lay 63 = .ok (.iload_n 1, 1) := by decide +kernel
theorem dX8_lay_64 : decode cX8_lay 64 = .ok (.iaload, 1) := by decide +kernel
theorem dX8_lay_65 : decode cX8_lay 65 = .ok (.ifCond .ne 13, 3) := by decide +kernel
theorem dX8_lay_68 : decode cX8_lay 68 = .ok (.iload_n 3, 1) := by decide +kernel
theorem dX8_lay_69 : decode cX8_lay 69 = .ok (.bipush 24, 2) := by decide +kernel
theorem dX8_lay_71 : decode cX8_lay 71 = .ok (.ishl, 1) := by decide +kernel
theorem dX8_lay_72 : decode cX8_lay 72 = .ok (.bipush 24, 2) := by decide +kernel
theorem dX8_lay_74 : decode cX8_lay 74 = .ok (.ishr, 1) := by decide +kernel
theorem dX8_lay_75 : decode cX8_lay 75 = .ok (.goto 24, 3) := by decide +kernel
theorem dX8_lay_78 : decode cX8_lay 78 = .ok (.aload_n 0, 1) := by decide +kernel
theorem dX8_lay_79 : decode cX8_lay 79 = .ok (.getfield 58, 3) := by decide +kernel
theorem dX8_lay_82 : decode cX8_lay 82 = .ok (.iload_n 1, 1) := by decide +kernel
theorem dX8_lay_83 : decode cX8_lay 83 = .ok (.iaload, 1) := by decide +kernel
theorem dX8_lay_84 : decode cX8_lay 84 = .ok (.iconst 1, 1) := by decide +kernel
theorem dX8_lay_85 : decode cX8_lay 85 = .ok (.if_icmp .ne 13, 3) := by decide +kernel
theorem dX8_lay_88 : decode cX8_lay 88 = .ok (.iload_n 3, 1) := by decide +kernel
theorem dX8_lay_89 : decode cX8_lay 89 = .ok (.bipush 16, 2) := by decide +kernel
theorem dX8_lay_91 : decode cX8_lay 91 = .ok (.ishl, 1) := by decide +kernel
theorem dX8_lay_92 : decode cX8_lay 92 = .ok (.bipush 16, 2) := by decide +kernel
theorem dX8_lay_94 : decode cX8_lay 94 = .ok (.ishr, 1) := by decide +kernel
theorem dX8_lay_95 : decode cX8_lay 95 = .ok (.goto 4, 3) := by decide +kernel
theorem dX8_lay_98 : decode cX8_lay 98 = .ok (.iload_n 3, 1) := by decide +kernel
theorem dX8_lay_99 : decode cX8_lay 99 = .ok (.iastore, 1) := by decide +kernel
theorem dX8_lay_100 : decode cX8_lay 100 = .ok (.iconst 1, 1) := by decide +kernel
theorem dX8_lay_101 : decode cX8_lay 101 = .ok (.ireturn, 1) := by decide +kernel
theorem dX8_film_0 : decode cX8_film 0 = .ok (.iload_n 1, 1) := by decide +kernel
theorem dX8_film_1 : decode cX8_film 1 = .ok (.invokestatic 135, 3) := by decide +kernel
theorem dX8_film_4 : decode cX8_film 4 = .ok (.ifCond .eq 55, 3) := by decide +kernel
theorem dX8_film_7 : decode cX8_film 7 = .ok (.iload_n 2, 1) := by decide +kernel
theorem dX8_film_8 : decode cX8_film 8 = .ok (.i2l, 1) := by decide +kernel
theorem dX8_film_9 : decode cX8_film 9 = .ok (.lconst 0, 1) := by decide +kernel
theorem dX8_film_10 : decode cX8_film 10 = .ok (.ldc2_w 142, 3) := by decide +kernel
theorem dX8_film_13 : decode cX8_film 13 = .ok (.invokestatic 71, 3) := by decide +kernel
theorem dX8_film_16 : decode cX8_film 16 = .ok (.ifCond .eq 43, 3) := by decide +kernel
theorem dX8_film_19 : decode cX8_film 19 = .ok (.iload_n 3, 1) := by decide +kernel
theorem dX8_film_20 : decode cX8_film 20 = .ok (.i2l, 1) := by decide +kernel
theorem dX8_film_21 : decode cX8_film 21 = .ok (.lconst 0, 1) := by decide +kernel
theorem dX8_film_22 : decode cX8_film 22 = .ok (.ldc2_w 144, 3) := by decide +kernel
theorem dX8_film_25 : decode cX8_film 25 = .ok (.invokestatic 71, 3) := by decide +kernel
theorem dX8_film_28 : decode cX8_film 28 = .ok (.ifCond .eq 31, 3) := by decide +kernel
theorem dX8_film_31 : decode cX8_film 31 = .ok (.iload 5, 2) := by decide +kernel
theorem dX8_film_33 : decode cX8_film 33 = .ok (.i2l, 1) := by decide +kernel
theorem dX8_film_34 : decode cX8_film 34 = .ok (.ldc2_w 144, 3) := by decide +kernel
theorem dX8_film_37 : decode cX8_film 37 = .ok (.ldc2_w 146, 3) := by decide +kernel
theorem dX8_film_40 : decode cX8_film 40 = .ok (.invokestatic 71, 3) := by decide +kernel
theorem dX8_film_43 : decode cX8_film 43 = .ok (.ifCond .eq 16, 3) := by decide +kernel
theorem dX8_film_46 : decode cX8_film 46 = .ok (.iload 6, 2) := by decide +kernel
theorem dX8_film_48 : decode cX8_film 48 = .ok (.i2l, 1) := by decide +kernel
theorem dX8_film_49 : decode cX8_film 49 = .ok (.lconst 1, 1) := by decide +kernel
theorem dX8_film_50 : decode cX8_film 50 = .ok (.ldc2_w 144, 3) := by decide +kernel
theorem dX8_film_53 : decode cX8_film 53 = .ok (.invokestatic 71, 3) := by decide +kernel
theorem dX8_film_56 : decode cX8_film 56 = .ok (.ifCond .ne 5, 3) := by decide +kernel
theorem dX8_film_59 : decode cX8_film 59 = .ok (.iconst (-1), 1) := by decide +kernel
theorem dX8_film_60 : decode cX8_film 60 = .ok (.ireturn, 1) := by decide +kernel
theorem dX8_film_61 : decode cX8_film 61 = .ok (.iconst 0, 1) := by decide +kernel
theorem dX8_film_62 : decode cX8_film 62 = .ok (.istore 7, 2) := by decide +kernel
theorem dX8_film_64 : decode cX8_film 64 = .ok (.iconst 0, 1) := by decide +kernel
theorem dX8_film_65 : decode cX8_film 65 = .ok (.istore 8, 2) := by decide +kernel
theorem dX8_film_67 : decode cX8_film 67 = .ok (.iconst 1, 1) := by decide +kernel
theorem dX8_film_68 : decode cX8_film 68 = .ok (.istore 9, 2) := by decide +kernel
theorem dX8_film_70 : decode cX8_film 70 = .ok (.iconst 0, 1) := by decide +kernel
theorem dX8_film_71 : decode cX8_film 71 = .ok (.istore 10, 2) := by decide +kernel
theorem dX8_film_73 : decode cX8_film 73 = .ok (.iload 10, 2) := by decide +kernel
theorem dX8_film_75 : decode cX8_film 75 = .ok (.bipush 8, 2) := by decide +kernel
theorem dX8_film_77 : decode cX8_film 77 = .ok (.iload 5, 2) := by decide +kernel
theorem dX8_film_79 : decode cX8_film 79 = .ok (.imul, 1) := by decide +kernel
theorem dX8_film_80 : decode cX8_film 80 = .ok (.if_icmp .ge 145, 3) := by decide +kernel
theorem dX8_film_83 : decode cX8_film 83 = .ok (.iload 7, 2) := by decide +kernel
theorem dX8_film_85 : decode cX8_film 85 = .ok (.ifCond .ne 140, 3) := by decide +kernel
theorem dX8_film_88 : decode cX8_film 88 = .ok (.aload_n 0, 1) := by decide +kernel
theorem dX8_film_89 : decode cX8_film 89 = .ok (.getfield 58, 3) := by decide +kernel
theorem dX8_film_92 : decode cX8_film 92 = .ok (.iload_n 2, 1) := by decide +kernel
theorem dX8_film_93 : decode cX8_film 93 = .ok (.iaload, 1) := by decide +kernel
theorem dX8_film_94 : decode cX8_film 94 = .ok (.bipush (-4), 2) := by decide +kernel
theorem dX8_film_96 : decode cX8_film 96 = .ok (.if_icmp .ne 7, 3) := by decide +kernel
theorem dX8_film_99 : decode cX8_film 99 = .ok (.iconst 1, 1) := by decide +kernel
theorem dX8_film_100 : decode cX8_film 100 = .ok (.goto 45, 3) := by decide +kernel
theorem dX8_film_103 : decode cX8_film 103 = .ok (.aload_n 0, 1) := by decide +kernel
theorem dX8_film_104 : decode cX8_film 104 = .ok (.getfield 58, 3) := by decide +kernel
theorem dX8_film_107 : decode cX8_film 107 = .ok (.iload_n 2, 1) := by decide +kernel
theorem dX8_film_108 : decode cX8_film 108 = .ok (.iaload, 1) := by decide +kernel
theorem dX8_film_109 : decode cX8_film 109 = .ok (.iload_n 3, 1) := by decide +kernel
theorem dX8_film_110 : decode cX8_film 110 = .ok (.if_icmp .eq 7, 3) := by decide +kernel
theorem dX8_film_113 : decode cX8_film 113 = .ok (.iconst 3, 1) := by decide +kernel
theorem dX8_film_114 : decode cX8_film 114 = .ok (.goto 31, 3) := by decide +kernel
theorem dX8_film_117 : decode cX8_film 117 = .ok (.iload 4, 2) := by decide +kernel
theorem dX8_film_119 : decode cX8_film 119 = .ok (.i2l, 1) := by decide +kernel
theorem dX8_film_120 : decode cX8_film 120 = .ok (.iload 10, 2) := by decide +kernel
theorem dX8_film_122 : decode cX8_film 122 = .ok (.i2l, 1) := by decide +kernel
theorem dX8_film_123 : decode cX8_film 123 = .ok (.ladd, 1) := by decide +kernel
theorem dX8_film_124 : decode cX8_film 124 = .ok (.lconst 0, 1) := by decide +kernel
theorem dX8_film_125 : decode cX8_film 125 = .ok (.aload_n 0, 1) := by decide +kernel
theorem dX8_film_126 : decode cX8_film 126 = .ok (.getfield 61, 3) := by decide +kernel
theorem dX8_film_129 : decode cX8_film 129 = .ok (.iload_n 2, 1) := by decide +kernel
theorem dX8_film_130 : decode cX8_film 130 = .ok (.iaload, 1) := by decide +kernel
theorem dX8_film_131 : decode cX8_film 131 = .ok (.iconst 1, 1) := by decide +kernel
theorem dX8_film_132 : decode cX8_film 132 = .ok (.isub, 1) := by decide +kernel
theorem dX8_film_133 : decode cX8_film 133 = .ok (.i2l, 1) := by decide +kernel
theorem dX8_film_134 : decode cX8_film 134 = .ok (.invokestatic 71, 3) := by decide +kernel
theorem dX8_film_137 : decode cX8_film 137 = .ok (.ifCond .ne 7, 3) := by decide +kernel
theorem dX8_film_140 : decode cX8_film 140 = .ok (.iconst 2, 1) := by decide +kernel
theorem dX8_film_141 : decode cX8_film 141 = .ok (.goto 4, 3) := by decide +kernel
theorem dX8_film_144 : decode cX8_film 144 = .ok (.iconst 0, 1) := by decide +kernel
theorem dX8_film_145 : decode cX8_film 145 = .ok (.istore 7, 2) := by decide +kernel
theorem dX8_film_147 : decode cX8_film 147 = .ok (.iload 7, 2) := by decide +kernel
theorem dX8_film_149 : decode cX8_film 149 = .ok (.ifCond .ne 70, 3) := by decide +kernel
theorem dX8_film_152 : decode cX8_film 152 = .ok (.iload 9, 2) := by decide +kernel
theorem dX8_film_154 : decode cX8_film 154 = .ok (.ifCond .eq 35, 3) := by decide +kernel
theorem dX8_film_157 : decode cX8_film 157 = .ok (.aload_n 0, 1) := by decide +kernel
theorem dX8_film_158 : decode cX8_film 158 = .ok (.getfield 64, 3) := by decide +kernel
theorem dX8_film_161 : decode cX8_film 161 = .ok (.bipush 64, 2) := by decide +kernel
theorem dX8_film_163 : decode cX8_film 163 = .ok (.iload_n 2, 1) := by decide +kernel
theorem dX8_film_164 : decode cX8_film 164 = .ok (.imul, 1) := by decide +kernel
theorem dX8_film_165 : decode cX8_film 165 = .ok (.iload 4, 2) := by decide +kernel
theorem dX8_film_167 : decode cX8_film 167 = .ok (.iadd, 1) := by decide +kernel
theorem dX8_film_168 : decode cX8_film 168 = .ok (.iload 10, 2) := by decide +kernel
theorem dX8_film_170 : decode cX8_film 170 = .ok (.iadd, 1) := by decide +kernel
theorem dX8_film_171 : decode cX8_film 171 = .ok (.iaload, 1) := by decide +kernel
theorem dX8_film_172 : decode cX8_film 172 = .ok (.i2l, 1) := by decide +kernel
theorem dX8_film_173 : decode cX8_film 173 = .ok (.ldc2_w 158, 3) := by decide +kernel
theorem dX8_film_176 : decode cX8_film 176 = .ok (.ldc2_w 160, 3) := by decide +kernel
theorem dX8_film_179 : decode cX8_film 179 = .ok (.invokestatic 71, 3) := by decide +kernel
theorem dX8_film_182 : decode cX8_film 182 = .ok (.ifCond .eq 7, 3) := by decide +kernel
theorem dX8_film_185 : decode cX8_film 185 = .ok (.iconst 1, 1) := by decide +kernel
theorem dX8_film_186 : decode cX8_film 186 = .ok (.goto 4, 3) := by decide +kernel
theorem dX8_film_189 : decode cX8_film 189 = .ok (.iconst 0, 1) := by decide +kernel
theorem dX8_film_190 : decode cX8_film 190 = .ok (.istore 9, 2) := by decide +kernel
theorem dX8_film_192 : decode cX8_film 192 = .ok (.iload 10, 2) := by decide +kernel
theorem dX8_film_194 : decode cX8_film 194 = .ok (.bipush 8, 2) := by decide +kernel
theorem dX8_film_196 : decode cX8_film 196 = .ok (.irem, 1) := by decide +kernel
theorem dX8_film_197 : decode cX8_film 197 = .ok (.bipush 7, 2) := by decide +kernel
theorem dX8_film_199 : decode cX8_film 199 = .ok (.if_icmp .ne 20, 3) := by decide +kernel
theorem dX8_film_202 : decode cX8_film 202 = .ok (.iload 9, 2) := by decide +kernel
theorem dX8_film_204 : decode cX8_film 204 = .ok (.ifCond .ne 12, 3) := by decide +kernel
theorem dX8_film_207 : decode cX8_film 207 = .ok (.bipush (-20), 2) := by decide +kernel
theorem dX8_film_209 : decode cX8_film 209 = .ok (.iload 10, 2) := by decide +kernel
theorem dX8_film_211 : decode cX8_film 211 = .ok (.bipush 8, 2) := by decide +kernel
theorem dX8_film_213 : decode cX8_film 213 = .ok (.idiv, 1) := by decide +kernel
theorem dX8_film_214 : decode cX8_film 214 = .ok (.isub, 1) := by decide +kernel
theorem dX8_film_215 : decode cX8_film 215 = .ok (.ireturn, 1) := by decide +kernel
theorem dX8_film_216 : decode cX8_film 216 = .ok (.iinc 8 1, 3) := by decide +kernel
theorem dX8_film_219 : decode cX8_film 219 = .ok (.iinc 10 1, 3) := by decide +kernel
theorem dX8_film_222 : decode cX8_film 222 = .ok (.goto (-149), 3) := by decide +kernel
theorem dX8_film_225 : decode cX8_film 225 = .ok (.aload_n 0, 1) := by decide +kernel
theorem dX8_film_226 : decode cX8_film 226 = .ok (.iload 7, 2) := by decide +kernel
theorem dX8_film_228 : decode cX8_film 228 = .ok (.putfield 273, 3) := by decide +kernel
theorem dX8_film_231 : decode cX8_film 231 = .ok (.iload 8, 2) := by decide +kernel
theorem dX8_film_233 : decode cX8_film 233 = .ok (.iconst 2, 1) := by decide +kernel
theorem dX8_film_234 : decode cX8_film 234 = .ok (.if_icmp .ge 5, 3) := by decide +kernel
theorem dX8_film_237 : decode cX8_film 237 = .ok (.iconst 0, 1) := by decide +kernel
theorem dX8_film_238 : decode cX8_film 238 = .ok (.ireturn, 1) := by decide +kernel
theorem dX8_film_239 : decode cX8_film 239 = .ok (.aload_n 0, 1) := by decide +kernel
theorem dX8_film_240 : decode cX8_film 240 = .ok (.iload_n 1, 1) := by decide +kernel
theorem dX8_film_241 : decode cX8_film 241 = .ok (.invokevirtual 148, 3) := by decide +kernel
theorem dX8_film_244 : decode cX8_film 244 = .ok (.aload_n 0, 1) := by decide +kernel
theorem dX8_film_245 : decode cX8_film 245 = .ok (.getfield 37, 3) := by decide +kernel
theorem dX8_film_248 : decode cX8_film 248 = .ok (.iload_n 1, 1) := by decide +kernel
theorem dX8_film_249 : decode cX8_film 249 = .ok (.iload 8, 2) := by decide +kernel
theorem dX8_film_251 : decode cX8_film 251 = .ok (.iastore, 1) := by decide +kernel
theorem dX8_film_252 : decode cX8_film 252 = .ok (.aload_n 0, 1) := by decide +kernel
theorem dX8_film_253 : decode cX8_film 253 = .ok (.getfield 40, 3) := by decide +kernel
theorem dX8_film_256 : decode cX8_film 256 = .ok (.iload_n 1, 1) := by decide +kernel
theorem dX8_film_257 : decode cX8_film 257 = .ok (.iload 6, 2) := by decide +kernel
theorem dX8_film_259 : decode cX8_film 259 = .ok (.iastore, 1) := by decide +kernel
theorem dX8_film_260 : decode cX8_film 260 = .ok (.iconst 0, 1) := by decide +kernel
theorem dX8_film_261 : decode cX8_film 261 = .ok (.istore 10, 2) := by decide +kernel
theorem dX8_film_263 : decode cX8_film 263 = .ok (.iload 10, 2) := by decide +kernel
theorem dX8_film_265 : decode cX8_film 265 = .ok (.bipush 8, 2) := by decide +kernel
theorem dX8_film_267 : decode cX8_film 267 = .ok (.iload 8, 2) := by decide +kernel
theorem dX8_film_269 : decode cX8_film 269 = .ok (.imul, 1) := by decide +kernel
theorem dX8_film_270 : decode cX8_film 270 = .ok (.if_icmp .ge 36, 3) := by decide +kernel
theorem dX8_film_273 : decode cX8_film 273 = .ok (.aload_n 0, 1) := by decide +kernel
theorem dX8_film_274 : decode cX8_film 274 = .ok (.getfield 34, 3) := by decide +kernel
theorem dX8_film_277 : decode cX8_film 277 = .ok (.bipush 64, 2) := by decide +kernel
theorem dX8_film_279 : decode cX8_film 279 = .ok (.iload_n 1, 1) := by decide +kernel
theorem dX8_film_280 : decode cX8_film 280 = .ok (.imul, 1) := by decide +kernel
theorem dX8_film_281 : decode cX8_film 281 = .ok (.iload 10, 2) := by decide +kernel
theorem dX8_film_283 : decode cX8_film 283 = .ok (.iadd, 1) := by decide +kernel
theorem dX8_film_284 : decode cX8_film 284 = .ok (.aload_n 0, 1) := by decide +kernel
theorem dX8_film_285 : decode cX8_film 285 = .ok (.getfield 64, 3) := by decide +kernel
theorem dX8_film_288 : decode cX8_film 288 = .ok (.bipush 64, 2) := by decide +kernel
theorem dX8_film_290 : decode cX8_film 290 = .ok (.iload_n 2, 1) := by decide +kernel
theorem dX8_film_291 : decode cX8_film 291 = .ok (.imul, 1) := by decide +kernel
theorem dX8_film_292 : decode cX8_film 292 = .ok (.iload 4, 2) := by decide +kernel
theorem dX8_film_294 : decode cX8_film 294 = .ok (.iadd, 1) := by decide +kernel
theorem dX8_film_295 : decode cX8_film 295 = .ok (.iload 10, 2) := by decide +kernel
theorem dX8_film_297 : decode cX8_film 297 = .ok (.iadd, 1) := by decide +kernel
theorem dX8_film_298 : decode cX8_film 298 = .ok (.iaload, 1) := by decide +kernel
theorem dX8_film_299 : decode cX8_film 299 = .ok (.iastore, 1) := by decide +kernel
theorem dX8_film_300 : decode cX8_film 300 = .ok (.iinc 10 1, 3) := by decide +kernel
theorem dX8_film_303 : decode cX8_film 303 = .ok (.goto (-40), 3) := by decide +kernel
theorem dX8_film_306 : decode cX8_film 306 = .ok (.iload 8, 2) := by decide +kernel
theorem dX8_film_308 : decode cX8_film 308 = .ok (.ireturn, 1) := by decide +kernel
theorem dX8_torn_0 : decode cX8_torn 0 = .ok (.aload_n 0, 1) := by decide +kernel
theorem dX8_torn_1 : decode cX8_torn 1 = .ok (.getfield 273, 3) := by decide +kernel
theorem dX8_torn_4 : decode cX8_torn 4 = .ok (.ireturn, 1) := by decide +kernel
theorem dX8_count_0 : decode cX8_count 0 = .ok (.iconst 0, 1) := by decide +kernel
theorem dX8_count_1 : decode cX8_count 1 = .ok (.istore_n 2, 1) := by decide +kernel
theorem dX8_count_2 : decode cX8_count 2 = .ok (.iconst 0, 1) := by decide +kernel
theorem dX8_count_3 : decode cX8_count 3 = .ok (.istore_n 3, 1) := by decide +kernel
theorem dX8_count_4 : decode cX8_count 4 = .ok (.iconst 0, 1) := by decide +kernel
theorem dX8_count_5 : decode cX8_count 5 = .ok (.istore 4, 2) := by decide +kernel
theorem dX8_count_7 : decode cX8_count 7 = .ok (.iconst 0, 1) := by decide +kernel
theorem dX8_count_8 : decode cX8_count 8 = .ok (.istore 5, 2) := by decide +kernel
theorem dX8_count_10 : decode cX8_count 10 = .ok (.iload 5, 2) := by decide +kernel
theorem dX8_count_12 : decode cX8_count 12 = .ok (.bipush 6, 2) := by decide +kernel
theorem dX8_count_14 : decode cX8_count 14 = .ok (.if_icmp .ge 56, 3) := by decide +kernel
theorem dX8_count_17 : decode cX8_count 17 = .ok (.iload_n 2, 1) := by decide +kernel
theorem dX8_count_18 : decode cX8_count 18 = .ok (.aload_n 0, 1) := by decide +kernel
theorem dX8_count_19 : decode cX8_count 19 = .ok (.getfield 37, 3) := by decide +kernel
theorem dX8_count_22 : decode cX8_count 22 = .ok (.iload 5, 2) := by decide +kernel
theorem dX8_count_24 : decode cX8_count 24 = .ok (.iaload, 1) := by decide +kernel
theorem dX8_count_25 : decode cX8_count 25 = .ok (.ifCond .le 7, 3) := by decide +kernel
theorem dX8_count_28 : decode cX8_count 28 = .ok (.iconst 1, 1) := by decide +kernel
theorem dX8_count_29 : decode cX8_count 29 = .ok (.goto 4, 3) := by decide +kernel
theorem dX8_count_32 : decode cX8_count 32 = .ok (.iconst 0, 1) := by decide +kernel
theorem dX8_count_33 : decode cX8_count 33 = .ok (.iadd, 1) := by decide +kernel
theorem dX8_count_34 : decode cX8_count 34 = .ok (.istore_n 2, 1) := by decide +kernel
theorem dX8_count_35 : decode cX8_count 35 = .ok (.iload_n 3, 1) := by decide +kernel
theorem dX8_count_36 : decode cX8_count 36 = .ok (.aload_n 0, 1) := by decide +kernel
theorem dX8_count_37 : decode cX8_count 37 = .ok (.getfield 37, 3) := by decide +kernel
theorem dX8_count_40 : decode cX8_count 40 = .ok (.iload 5, 2) := by decide +kernel
theorem dX8_count_42 : decode cX8_count 42 = .ok (.iaload, 1) := by decide +kernel
theorem dX8_count_43 : decode cX8_count 43 = .ok (.iadd, 1) := by decide +kernel
theorem dX8_count_44 : decode cX8_count 44 = .ok (.istore_n 3, 1) := by decide +kernel
theorem dX8_count_45 : decode cX8_count 45 = .ok (.iload 4, 2) := by decide +kernel
theorem dX8_count_47 : decode cX8_count 47 = .ok (.aload_n 0, 1) := by decide +kernel
theorem dX8_count_48 : decode cX8_count 48 = .ok (.iload 5, 2) := by decide +kernel
theorem dX8_count_50 : decode cX8_count 50 = .ok (.invokevirtual 260, 3) := by decide +kernel
theorem dX8_count_53 : decode cX8_count 53 = .ok (.ifCond .le 7, 3) := by decide +kernel
theorem dX8_count_56 : decode cX8_count 56 = .ok (.iconst 1, 1) := by decide +kernel
theorem dX8_count_57 : decode cX8_count 57 = .ok (.goto 4, 3) := by decide +kernel
theorem dX8_count_60 : decode cX8_count 60 = .ok (.iconst 0, 1) := by decide +kernel
theorem dX8_count_61 : decode cX8_count 61 = .ok (.iadd, 1) := by decide +kernel
theorem dX8_count_62 : decode cX8_count 62 = .ok (.istore 4, 2) := by decide +kernel
theorem dX8_count_64 : decode cX8_count 64 = .ok (.iinc 5 1, 3) := by decide +kernel
theorem dX8_count_67 : decode cX8_count 67 = .ok (.goto (-57), 3) := by decide +kernel
theorem dX8_count_70 : decode cX8_count 70 = .ok (.iload_n 1, 1) := by decide +kernel
theorem dX8_count_71 : decode cX8_count 71 = .ok (.tableswitch 77 0 5 #[37, 39, 41, 46, 49, 54], 37) := by decide +kernel
theorem dX8_count_108 : decode cX8_count 108 = .ok (.iload_n 2, 1) := by decide +kernel
theorem dX8_count_109 : decode cX8_count 109 = .ok (.ireturn, 1) := by decide +kernel
theorem dX8_count_110 : decode cX8_count 110 = .ok (.iload_n 3, 1) := by decide +kernel
theorem dX8_count_111 : decode cX8_count 111 = .ok (.ireturn, 1) := by decide +kernel
theorem dX8_count_112 : decode cX8_count 112 = .ok (.aload_n 0, 1) := by decide +kernel
theorem dX8_count_113 : decode cX8_count 113 = .ok (.getfield 242, 3) := by decide +kernel
theorem dX8_count_116 : decode cX8_count 116 = .ok (.ireturn, 1) := by decide +kernel
theorem dX8_count_117 : decode cX8_count 117 = .ok (.iload 4, 2) := by decide +kernel
theorem dX8_count_119 : decode cX8_count 119 = .ok (.ireturn, 1) := by decide +kernel
theorem dX8_count_120 : decode cX8_count 120 = .ok (.aload_n 0, 1) := by decide +kernel
theorem dX8_count_121 : decode cX8_count 121 = .ok (.getfield 67, 3) := by decide +kernel
theorem dX8_count_124 : decode cX8_count 124 = .ok (.ireturn, 1) := by decide +kernel
theorem dX8_count_125 : decode cX8_count 125 = .ok (.aload_n 0, 1) := by decide +kernel
theorem dX8_count_126 : decode cX8_count 126 = .ok (.getfield 58, 3) := by decide +kernel
theorem dX8_count_129 : decode cX8_count 129 = .ok (.iconst 0, 1) := by decide +kernel
theorem dX8_count_130 : decode cX8_count 130 = .ok (.iaload, 1) := by decide +kernel
theorem dX8_count_131 : decode cX8_count 131 = .ok (.bipush (-4), 2) := by decide +kernel
theorem dX8_count_133 : decode cX8_count 133 = .ok (.if_icmp .ne 8, 3) := by decide +kernel
theorem dX8_count_136 : decode cX8_count 136 = .ok (.bipush (-4), 2) := by decide +kernel
theorem dX8_count_138 : decode cX8_count 138 = .ok (.goto 9, 3) := by decide +kernel
theorem dX8_count_141 : decode cX8_count 141 = .ok (.aload_n 0, 1) := by decide +kernel
theorem dX8_count_142 : decode cX8_count 142 = .ok (.getfield 61, 3) := by decide +kernel
theorem dX8_count_145 : decode cX8_count 145 = .ok (.iconst 0, 1) := by decide +kernel
theorem dX8_count_146 : decode cX8_count 146 = .ok (.iaload, 1) := by decide +kernel
theorem dX8_count_147 : decode cX8_count 147 = .ok (.ireturn, 1) := by decide +kernel
theorem dX8_count_148 : decode cX8_count 148 = .ok (.iconst (-1), 1) := by decide +kernel
theorem dX8_count_149 : decode cX8_count 149 = .ok (.ireturn, 1) := by decide +kernel
